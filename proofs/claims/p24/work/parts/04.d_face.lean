def f_X6_of (h : Nat → ObS) (x1 : Int32) (x2 : Int32) : Option (Nat ⊕ Int32) :=
  tb (f_X6_needStream h x1) fun r2 =>
  if x2 = 0 then
    (f_X3_flowOf (h 1) x1).bind fun r37 =>
    some (.inr (r37.toInt32))
  else
    if x2 = 1 then
      (f_X3_heatOf (h 1) x1).bind fun r47 =>
      some (.inr (r47.toInt32))
    else
      if x2 = 2 then
        (f_X3_warmthOf (h 1) x1).bind fun r57 =>
        some (.inr (r57.toInt32))
      else
        some (.inl 1)
set_option maxHeartbeats 4000000 in
set_option maxRecDepth 100000 in
theorem c_X6_of (Z : EnvT) (l : Launch) (hst : l.stackTraces = false) (b : Nat → Nat → Nat) (h : Nat → ObS) (x1 : Int32) (x2 : Int32) (R : Nat ⊕ Int32) (hf : f_X6_of h x1 x2 = some R) : TH Z l yX6_of wsX6_of { frames := 7, cells := 2, slots := 12, locals := 113 } [.ref (b 0 0), .int x1, .int x2] (wH Z b h) R (fun (r : Int32) => (some (.int r))) (fun (r : Int32) _ => wH Z b h) 2 12 := by
  refine th_of (cc := cX6_of) (maxL := 3) (ret := (some .int)) (by decide) rfl (Nat.le_of_ble_eq_true rfl) ?_
  intro p e s m below meth c A ls hx hb hr hml hts hown hlk hno hP hK hE hD hA hS hZ hl
  have hown : s.vm.findClass RX6 = some m.cls := hown
  have hl : lv_has ls 3 [(0, .ref (b 0 0)), (1, .int x1), (2, .int x2)] := hl
  have w0 := hts (.fieldLink RX6 12 "HeatTrain" "streams" "LHeatTrain$Streams;") (by decide +kernel)
  have w1 := hts (.classLink RX6 66 "java/lang/IllegalArgumentException") (by decide +kernel)
  have w2 := hts (.initialized "java/lang/IllegalArgumentException") (by decide +kernel)
  have u6 : ∀ w ∈ wsX60, w ∈ wsX6_of := by decide +kernel
  have he1 : ∀ w ∈ (vx_atS RX6 70 (exN 1) exS).filter goodWord, w.before _ s = true := fun w h => hts w ((show ∀ w ∈ (vx_atS RX6 70 (exN 1) exS).filter goodWord, w ∈ wsX6_of by decide +kernel) w h)
  rw [f_X6_of] at hf
  refine lv_aload_n (pc := 0) hx hb dX6_of_0 rfl (lv_at hl 0 rfl) ?_
  refine lv_iload_n (pc := 1) hx hb dX6_of_1 rfl (lv_at hl 1 rfl) ?_
  rcases tbd hf with ⟨k2, h_2, hf⟩ | ⟨r2, h_2, hf⟩
  · exact th_Vx (pc := 2) (C := RX6) (As := [.int x1]) (rest := []) ⟨hx, hb, hml, hown, hts⟩ (c_X6_needStream Z l hst b h x1 (.inl k2) h_2) (cwV 1 hts gX6_of_X6_needStream rfl rfl rfl hv_X6_needStream ⟨Nat.le_of_ble_eq_true rfl, Nat.le_of_ble_eq_true rfl⟩) hK hE hP hD hS hA hZ 6 rfl rfl rfl hl.1 rfl (lv_room (Nat.le_of_ble_eq_true rfl)) dX6_of_2 ⟨Nat.le_of_ble_eq_true rfl, Nat.le_of_ble_eq_true rfl⟩ hno hlk (Nat.le_of_ble_eq_true rfl) (Nat.le_of_ble_eq_true rfl) hf
  · refine th_Vn (pc := 2) (C := RX6) (As := [.int x1]) (rest := []) (st1 := []) ⟨hx, hb, hml, hown, hts⟩ (c_X6_needStream Z l hst b h x1 (.inr r2) h_2) (cwV 1 hts gX6_of_X6_needStream rfl rfl rfl hv_X6_needStream ⟨Nat.le_of_ble_eq_true rfl, Nat.le_of_ble_eq_true rfl⟩) hK hE hP hD hS hA hZ 6 rfl rfl rfl hl.1 rfl (lv_room (Nat.le_of_ble_eq_true rfl)) dX6_of_2 ⟨Nat.le_of_ble_eq_true rfl, Nat.le_of_ble_eq_true rfl⟩ rfl (fun _ H locs hP hD hS => ?_)
    refine lv_iload_n (pc := 5) hx hb dX6_of_5 rfl (lv_at hl 2 rfl) ?_
    by_cases c1 : x2 = 0
    · have hf := (if_pos c1).symm.trans hf
      refine lv_tableIn (pc := 6) (off := 26) (tgt := 32) hx hb dX6_of_6 (by rw [c1]; decide) (by rw [c1]; decide) (by rw [c1]; rfl) (by decide) ?_
      refine lv_aload_n (pc := 32) hx hb dX6_of_32 rfl (lv_at hl 0 rfl) ?_
      refine va_get (pc := 33) (D := Z.1) (ci := 6) (v := .ref (b 1 0)) (C := RX6) (T := TX6) (N := 9) hx hb hts u6 hown hK hP 0 rfl rfl 0 (by decide) w0 (fun _ h9 => h9) rfl dX6_of_33 ?_
      refine lv_iload_n (pc := 36) hx hb dX6_of_36 rfl (lv_at hl 1 rfl) ?_
      obtain ⟨r37, h_37, hf⟩ := bd hf
      refine ro_V (pc := 37) (C := RX3) (As := [.int x1]) (rest := []) (st1 := [.long r37]) ⟨hx, hb, hml, hown, hts⟩ (c_X3_flowOf Z l (b 1) (h 1) x1 r37 h_37) (cwV 1 hts gX6_of_X3_flowOf rfl rfl rfl hv_X3_flowOf ⟨Nat.le_of_ble_eq_true rfl, Nat.le_of_ble_eq_true rfl⟩) hK hE (hP.sub (ws' := wX3 Z (b 1) (h 1)) [1, 2, 3] rfl) 3 rfl rfl rfl hl.1 rfl (lv_room (Nat.le_of_ble_eq_true rfl)) dX6_of_37 ⟨Nat.le_of_ble_eq_true rfl, Nat.le_of_ble_eq_true rfl⟩ rfl ?_
      refine lv_l2i (pc := 40) (v := r37.toInt32) hx hb dX6_of_40 rfl ?_
      have hf := (Option.some.inj hf).symm
      refine W.widen (k := 2) (n := 12) (Nat.le_of_ble_eq_true rfl) (Nat.le_of_ble_eq_true rfl) ?_
      refine th_ret hf ?_
      exact rw_i (fun _ => 0) hx hb hr hlk rfl hP hD hS dX6_of_41
    · have hf := (if_neg c1).symm.trans hf
      by_cases c2 : x2 = 1
      · have hf := (if_pos c2).symm.trans hf
        refine lv_tableIn (pc := 6) (off := 36) (tgt := 42) hx hb dX6_of_6 (by rw [c2]; decide) (by rw [c2]; decide) (by rw [c2]; rfl) (by decide) ?_
        refine lv_aload_n (pc := 42) hx hb dX6_of_42 rfl (lv_at hl 0 rfl) ?_
        refine va_get (pc := 43) (D := Z.1) (ci := 6) (v := .ref (b 1 0)) (C := RX6) (T := TX6) (N := 9) hx hb hts u6 hown hK hP 0 rfl rfl 0 (by decide) w0 (fun _ h9 => h9) rfl dX6_of_43 ?_
        refine lv_iload_n (pc := 46) hx hb dX6_of_46 rfl (lv_at hl 1 rfl) ?_
        obtain ⟨r47, h_47, hf⟩ := bd hf
        refine ro_V (pc := 47) (C := RX3) (As := [.int x1]) (rest := []) (st1 := [.long r47]) ⟨hx, hb, hml, hown, hts⟩ (c_X3_heatOf Z l (b 1) (h 1) x1 r47 h_47) (cwV 1 hts gX6_of_X3_heatOf rfl rfl rfl hv_X3_heatOf ⟨Nat.le_of_ble_eq_true rfl, Nat.le_of_ble_eq_true rfl⟩) hK hE (hP.sub (ws' := wX3 Z (b 1) (h 1)) [1, 2, 3] rfl) 3 rfl rfl rfl hl.1 rfl (lv_room (Nat.le_of_ble_eq_true rfl)) dX6_of_47 ⟨Nat.le_of_ble_eq_true rfl, Nat.le_of_ble_eq_true rfl⟩ rfl ?_
        refine lv_l2i (pc := 50) (v := r47.toInt32) hx hb dX6_of_50 rfl ?_
        have hf := (Option.some.inj hf).symm
        refine W.widen (k := 2) (n := 12) (Nat.le_of_ble_eq_true rfl) (Nat.le_of_ble_eq_true rfl) ?_
        refine th_ret hf ?_
        exact rw_i (fun _ => 0) hx hb hr hlk rfl hP hD hS dX6_of_51
      · have hf := (if_neg c2).symm.trans hf
        by_cases c3 : x2 = 2
        · have hf := (if_pos c3).symm.trans hf
          refine lv_tableIn (pc := 6) (off := 46) (tgt := 52) hx hb dX6_of_6 (by rw [c3]; decide) (by rw [c3]; decide) (by rw [c3]; rfl) (by decide) ?_
          refine lv_aload_n (pc := 52) hx hb dX6_of_52 rfl (lv_at hl 0 rfl) ?_
          refine va_get (pc := 53) (D := Z.1) (ci := 6) (v := .ref (b 1 0)) (C := RX6) (T := TX6) (N := 9) hx hb hts u6 hown hK hP 0 rfl rfl 0 (by decide) w0 (fun _ h9 => h9) rfl dX6_of_53 ?_
          refine lv_iload_n (pc := 56) hx hb dX6_of_56 rfl (lv_at hl 1 rfl) ?_
          obtain ⟨r57, h_57, hf⟩ := bd hf
          refine ro_V (pc := 57) (C := RX3) (As := [.int x1]) (rest := []) (st1 := [.long r57]) ⟨hx, hb, hml, hown, hts⟩ (c_X3_warmthOf Z l (b 1) (h 1) x1 r57 h_57) (cwV 1 hts gX6_of_X3_warmthOf rfl rfl rfl hv_X3_warmthOf ⟨Nat.le_of_ble_eq_true rfl, Nat.le_of_ble_eq_true rfl⟩) hK hE (hP.sub (ws' := wX3 Z (b 1) (h 1)) [1, 2, 3] rfl) 3 rfl rfl rfl hl.1 rfl (lv_room (Nat.le_of_ble_eq_true rfl)) dX6_of_57 ⟨Nat.le_of_ble_eq_true rfl, Nat.le_of_ble_eq_true rfl⟩ rfl ?_
          refine lv_l2i (pc := 60) (v := r57.toInt32) hx hb dX6_of_60 rfl ?_
          have hf := (Option.some.inj hf).symm
          refine W.widen (k := 2) (n := 12) (Nat.le_of_ble_eq_true rfl) (Nat.le_of_ble_eq_true rfl) ?_
          refine th_ret hf ?_
          exact rw_i (fun _ => 0) hx hb hr hlk rfl hP hD hS dX6_of_61
        · have hf := (if_neg c3).symm.trans hf
          refine lv_tableOut (pc := 6) (tgt := 62) hx hb dX6_of_6 (by have := tne c1 (show (0 : Int32).toInt = 0 by decide); have := tne c2 (show (1 : Int32).toInt = 1 by decide); have := tne c3 (show (2 : Int32).toInt = 2 by decide); omega) (by decide) ?_
          exact th_throw (pc := 62) (i := 12) (text := "what is out of range") hx hb hst hown hno hlk thW_1 w1 w2 hE (by decide) rfl he1 hZ hS hP hD (hl.1.trans hml.symm) dX6_of_62 dX6_of_65 dX6_of_66 dX6_of_68 dX6_of_71 (Nat.le_of_ble_eq_true rfl) (Nat.le_of_ble_eq_true rfl) (Nat.le_of_ble_eq_true rfl) (Nat.le_of_ble_eq_true rfl) (Nat.le_of_ble_eq_true rfl) (Nat.le_of_ble_eq_true rfl) (Option.some.inj hf).symm
def f_X6_ofUnit (h : Nat → ObS) (x1 : Int32) (x2 : Int32) : Option (Nat ⊕ Int32) :=
  tb (f_X6_needUnit h x1) fun r2 =>
  if x2 = 0 then
    (f_X5_numberOf (h 3) x1).bind fun r37 =>
    some (.inr (r37))
  else
    if x2 = 1 then
      (f_X5_movedBy (h 3) x1).bind fun r46 =>
      some (.inr (r46.toInt32))
    else
      some (.inl 1)
set_option maxHeartbeats 4000000 in
set_option maxRecDepth 100000 in
theorem c_X6_ofUnit (Z : EnvT) (l : Launch) (hst : l.stackTraces = false) (b : Nat → Nat → Nat) (h : Nat → ObS) (x1 : Int32) (x2 : Int32) (R : Nat ⊕ Int32) (hf : f_X6_ofUnit h x1 x2 = some R) : TH Z l yX6_ofUnit wsX6_ofUnit { frames := 7, cells := 2, slots := 12, locals := 113 } [.ref (b 0 0), .int x1, .int x2] (wH Z b h) R (fun (r : Int32) => (some (.int r))) (fun (r : Int32) _ => wH Z b h) 2 12 := by
  refine th_of (cc := cX6_ofUnit) (maxL := 3) (ret := (some .int)) (by decide) rfl (Nat.le_of_ble_eq_true rfl) ?_
  intro p e s m below meth c A ls hx hb hr hml hts hown hlk hno hP hK hE hD hA hS hZ hl
  have hown : s.vm.findClass RX6 = some m.cls := hown
  have hl : lv_has ls 3 [(0, .ref (b 0 0)), (1, .int x1), (2, .int x2)] := hl
  have w0 := hts (.fieldLink RX6 22 "HeatTrain" "units" "LHeatTrain$Units;") (by decide +kernel)
  have w1 := hts (.classLink RX6 66 "java/lang/IllegalArgumentException") (by decide +kernel)
  have w2 := hts (.initialized "java/lang/IllegalArgumentException") (by decide +kernel)
  have u6 : ∀ w ∈ wsX60, w ∈ wsX6_ofUnit := by decide +kernel
  have he1 : ∀ w ∈ (vx_atS RX6 70 (exN 1) exS).filter goodWord, w.before _ s = true := fun w h => hts w ((show ∀ w ∈ (vx_atS RX6 70 (exN 1) exS).filter goodWord, w ∈ wsX6_ofUnit by decide +kernel) w h)
  rw [f_X6_ofUnit] at hf
  refine lv_aload_n (pc := 0) hx hb dX6_ofUnit_0 rfl (lv_at hl 0 rfl) ?_
  refine lv_iload_n (pc := 1) hx hb dX6_ofUnit_1 rfl (lv_at hl 1 rfl) ?_
  rcases tbd hf with ⟨k2, h_2, hf⟩ | ⟨r2, h_2, hf⟩
  · exact th_Vx (pc := 2) (C := RX6) (As := [.int x1]) (rest := []) ⟨hx, hb, hml, hown, hts⟩ (c_X6_needUnit Z l hst b h x1 (.inl k2) h_2) (cwV 1 hts gX6_ofUnit_X6_needUnit rfl rfl rfl hv_X6_needUnit ⟨Nat.le_of_ble_eq_true rfl, Nat.le_of_ble_eq_true rfl⟩) hK hE hP hD hS hA hZ 6 rfl rfl rfl hl.1 rfl (lv_room (Nat.le_of_ble_eq_true rfl)) dX6_ofUnit_2 ⟨Nat.le_of_ble_eq_true rfl, Nat.le_of_ble_eq_true rfl⟩ hno hlk (Nat.le_of_ble_eq_true rfl) (Nat.le_of_ble_eq_true rfl) hf
  · refine th_Vn (pc := 2) (C := RX6) (As := [.int x1]) (rest := []) (st1 := []) ⟨hx, hb, hml, hown, hts⟩ (c_X6_needUnit Z l hst b h x1 (.inr r2) h_2) (cwV 1 hts gX6_ofUnit_X6_needUnit rfl rfl rfl hv_X6_needUnit ⟨Nat.le_of_ble_eq_true rfl, Nat.le_of_ble_eq_true rfl⟩) hK hE hP hD hS hA hZ 6 rfl rfl rfl hl.1 rfl (lv_room (Nat.le_of_ble_eq_true rfl)) dX6_ofUnit_2 ⟨Nat.le_of_ble_eq_true rfl, Nat.le_of_ble_eq_true rfl⟩ rfl (fun _ H locs hP hD hS => ?_)
    refine lv_iload_n (pc := 5) hx hb dX6_ofUnit_5 rfl (lv_at hl 2 rfl) ?_
    by_cases c1 : x2 = 0
    · have hf := (if_pos c1).symm.trans hf
      refine lv_lookup (pc := 6) (off := 26) (tgt := 32) hx hb dX6_ofUnit_6 (by decide) (by rw [c1]; rfl) (by decide) ?_
      refine lv_aload_n (pc := 32) hx hb dX6_ofUnit_32 rfl (lv_at hl 0 rfl) ?_
      refine va_get (pc := 33) (D := Z.1) (ci := 6) (v := .ref (b 3 0)) (C := RX6) (T := TX6) (N := 9) hx hb hts u6 hown hK hP 0 rfl rfl 2 (by decide) w0 (fun _ h9 => h9) rfl dX6_ofUnit_33 ?_
      refine lv_iload_n (pc := 36) hx hb dX6_ofUnit_36 rfl (lv_at hl 1 rfl) ?_
      obtain ⟨r37, h_37, hf⟩ := bd hf
      refine ro_V (pc := 37) (C := RX5) (As := [.int x1]) (rest := []) (st1 := [.int r37]) ⟨hx, hb, hml, hown, hts⟩ (c_X5_numberOf Z l (b 3) (h 3) x1 r37 h_37) (cwV 1 hts gX6_ofUnit_X5_numberOf rfl rfl rfl hv_X5_numberOf ⟨Nat.le_of_ble_eq_true rfl, Nat.le_of_ble_eq_true rfl⟩) hK hE (hP.sub (ws' := wX5 Z (b 3) (h 3)) [7, 8, 9, 10, 11, 12, 13, 14, 15] rfl) 5 rfl rfl rfl hl.1 rfl (lv_room (Nat.le_of_ble_eq_true rfl)) dX6_ofUnit_37 ⟨Nat.le_of_ble_eq_true rfl, Nat.le_of_ble_eq_true rfl⟩ rfl ?_
      have hf := (Option.some.inj hf).symm
      refine W.widen (k := 2) (n := 12) (Nat.le_of_ble_eq_true rfl) (Nat.le_of_ble_eq_true rfl) ?_
      refine th_ret hf ?_
      exact rw_i (fun _ => 0) hx hb hr hlk rfl hP hD hS dX6_ofUnit_40
    · have hf := (if_neg c1).symm.trans hf
      by_cases c2 : x2 = 1
      · have hf := (if_pos c2).symm.trans hf
        refine lv_lookup (pc := 6) (off := 35) (tgt := 41) hx hb dX6_ofUnit_6 (by decide) (by rw [c2]; rfl) (by decide) ?_
        refine lv_aload_n (pc := 41) hx hb dX6_ofUnit_41 rfl (lv_at hl 0 rfl) ?_
        refine va_get (pc := 42) (D := Z.1) (ci := 6) (v := .ref (b 3 0)) (C := RX6) (T := TX6) (N := 9) hx hb hts u6 hown hK hP 0 rfl rfl 2 (by decide) w0 (fun _ h9 => h9) rfl dX6_ofUnit_42 ?_
        refine lv_iload_n (pc := 45) hx hb dX6_ofUnit_45 rfl (lv_at hl 1 rfl) ?_
        obtain ⟨r46, h_46, hf⟩ := bd hf
        refine ro_V (pc := 46) (C := RX5) (As := [.int x1]) (rest := []) (st1 := [.long r46]) ⟨hx, hb, hml, hown, hts⟩ (c_X5_movedBy Z l (b 3) (h 3) x1 r46 h_46) (cwV 1 hts gX6_ofUnit_X5_movedBy rfl rfl rfl hv_X5_movedBy ⟨Nat.le_of_ble_eq_true rfl, Nat.le_of_ble_eq_true rfl⟩) hK hE (hP.sub (ws' := wX5 Z (b 3) (h 3)) [7, 8, 9, 10, 11, 12, 13, 14, 15] rfl) 5 rfl rfl rfl hl.1 rfl (lv_room (Nat.le_of_ble_eq_true rfl)) dX6_ofUnit_46 ⟨Nat.le_of_ble_eq_true rfl, Nat.le_of_ble_eq_true rfl⟩ rfl ?_
        refine lv_l2i (pc := 49) (v := r46.toInt32) hx hb dX6_ofUnit_49 rfl ?_
        have hf := (Option.some.inj hf).symm
        refine W.widen (k := 2) (n := 12) (Nat.le_of_ble_eq_true rfl) (Nat.le_of_ble_eq_true rfl) ?_
        refine th_ret hf ?_
        exact rw_i (fun _ => 0) hx hb hr hlk rfl hP hD hS dX6_ofUnit_50
      · have hf := (if_neg c2).symm.trans hf
        refine lv_lookup (pc := 6) (tgt := 51) (off := 45) hx hb dX6_ofUnit_6 (by decide) (by rw [lv_osw c1 (by decide)]; rw [lv_osw c2 (by decide)]; rfl) (by decide) ?_
        exact th_throw (pc := 51) (i := 12) (text := "what is out of range") hx hb hst hown hno hlk thW_1 w1 w2 hE (by decide) rfl he1 hZ hS hP hD (hl.1.trans hml.symm) dX6_ofUnit_51 dX6_ofUnit_54 dX6_ofUnit_55 dX6_ofUnit_57 dX6_ofUnit_60 (Nat.le_of_ble_eq_true rfl) (Nat.le_of_ble_eq_true rfl) (Nat.le_of_ble_eq_true rfl) (Nat.le_of_ble_eq_true rfl) (Nat.le_of_ble_eq_true rfl) (Nat.le_of_ble_eq_true rfl) (Option.some.inj hf).symm
def f_X6_ofController (h : Nat → ObS) (x1 : Int32) (x2 : Int32) : Option (Nat ⊕ Int32) :=
  tb (f_X6_needController h x1) fun r2 =>
  if x2 = 0 then
    (f_X1_goalOf (h 4) x1).bind fun r41 =>
    some (.inr (r41.toInt32))
  else
    if x2 = 1 then
      (f_X1_sumOf (h 4) x1).bind fun r51 =>
      some (.inr (r51.toInt32))
    else
      if x2 = 2 then
        (f_X1_outputOf (h 4) x1).bind fun r61 =>
        some (.inr (r61.toInt32))
      else
        if x2 = 3 then
          (f_X1_errorOf (h 4) x1).bind fun r71 =>
          some (.inr (r71.toInt32))
        else
          some (.inl 1)
set_option maxHeartbeats 4000000 in
set_option maxRecDepth 100000 in
theorem c_X6_ofController (Z : EnvT) (l : Launch) (hst : l.stackTraces = false) (b : Nat → Nat → Nat) (h : Nat → ObS) (x1 : Int32) (x2 : Int32) (R : Nat ⊕ Int32) (hf : f_X6_ofController h x1 x2 = some R) : TH Z l yX6_ofController wsX6_ofController { frames := 7, cells := 2, slots := 12, locals := 113 } [.ref (b 0 0), .int x1, .int x2] (wH Z b h) R (fun (r : Int32) => (some (.int r))) (fun (r : Int32) _ => wH Z b h) 2 12 := by
  refine th_of (cc := cX6_ofController) (maxL := 3) (ret := (some .int)) (by decide) rfl (Nat.le_of_ble_eq_true rfl) ?_
  intro p e s m below meth c A ls hx hb hr hml hts hown hlk hno hP hK hE hD hA hS hZ hl
  have hown : s.vm.findClass RX6 = some m.cls := hown
  have hl : lv_has ls 3 [(0, .ref (b 0 0)), (1, .int x1), (2, .int x2)] := hl
  have w0 := hts (.fieldLink RX6 29 "HeatTrain" "controllers" "LHeatTrain$Controllers;") (by decide +kernel)
  have w1 := hts (.classLink RX6 66 "java/lang/IllegalArgumentException") (by decide +kernel)
  have w2 := hts (.initialized "java/lang/IllegalArgumentException") (by decide +kernel)
  have u6 : ∀ w ∈ wsX60, w ∈ wsX6_ofController := by decide +kernel
  have he1 : ∀ w ∈ (vx_atS RX6 70 (exN 1) exS).filter goodWord, w.before _ s = true := fun w h => hts w ((show ∀ w ∈ (vx_atS RX6 70 (exN 1) exS).filter goodWord, w ∈ wsX6_ofController by decide +kernel) w h)
  rw [f_X6_ofController] at hf
  refine lv_aload_n (pc := 0) hx hb dX6_ofController_0 rfl (lv_at hl 0 rfl) ?_
  refine lv_iload_n (pc := 1) hx hb dX6_ofController_1 rfl (lv_at hl 1 rfl) ?_
  rcases tbd hf with ⟨k2, h_2, hf⟩ | ⟨r2, h_2, hf⟩
  · exact th_Vx (pc := 2) (C := RX6) (As := [.int x1]) (rest := []) ⟨hx, hb, hml, hown, hts⟩ (c_X6_needController Z l hst b h x1 (.inl k2) h_2) (cwV 1 hts gX6_ofController_X6_needController rfl rfl rfl hv_X6_needController ⟨Nat.le_of_ble_eq_true rfl, Nat.le_of_ble_eq_true rfl⟩) hK hE hP hD hS hA hZ 6 rfl rfl rfl hl.1 rfl (lv_room (Nat.le_of_ble_eq_true rfl)) dX6_ofController_2 ⟨Nat.le_of_ble_eq_true rfl, Nat.le_of_ble_eq_true rfl⟩ hno hlk (Nat.le_of_ble_eq_true rfl) (Nat.le_of_ble_eq_true rfl) hf
  · refine th_Vn (pc := 2) (C := RX6) (As := [.int x1]) (rest := []) (st1 := []) ⟨hx, hb, hml, hown, hts⟩ (c_X6_needController Z l hst b h x1 (.inr r2) h_2) (cwV 1 hts gX6_ofController_X6_needController rfl rfl rfl hv_X6_needController ⟨Nat.le_of_ble_eq_true rfl, Nat.le_of_ble_eq_true rfl⟩) hK hE hP hD hS hA hZ 6 rfl rfl rfl hl.1 rfl (lv_room (Nat.le_of_ble_eq_true rfl)) dX6_ofController_2 ⟨Nat.le_of_ble_eq_true rfl, Nat.le_of_ble_eq_true rfl⟩ rfl (fun _ H locs hP hD hS => ?_)
    refine lv_iload_n (pc := 5) hx hb dX6_ofController_5 rfl (lv_at hl 2 rfl) ?_
    by_cases c1 : x2 = 0
    · have hf := (if_pos c1).symm.trans hf
      refine lv_tableIn (pc := 6) (off := 30) (tgt := 36) hx hb dX6_ofController_6 (by rw [c1]; decide) (by rw [c1]; decide) (by rw [c1]; rfl) (by decide) ?_
      refine lv_aload_n (pc := 36) hx hb dX6_ofController_36 rfl (lv_at hl 0 rfl) ?_
      refine va_get (pc := 37) (D := Z.1) (ci := 6) (v := .ref (b 4 0)) (C := RX6) (T := TX6) (N := 9) hx hb hts u6 hown hK hP 0 rfl rfl 3 (by decide) w0 (fun _ h9 => h9) rfl dX6_ofController_37 ?_
      refine lv_iload_n (pc := 40) hx hb dX6_ofController_40 rfl (lv_at hl 1 rfl) ?_
      obtain ⟨r41, h_41, hf⟩ := bd hf
      refine ro_V (pc := 41) (C := RX1) (As := [.int x1]) (rest := []) (st1 := [.long r41]) ⟨hx, hb, hml, hown, hts⟩ (c_X1_goalOf Z l (b 4) (h 4) x1 r41 h_41) (cwV 1 hts gX6_ofController_X1_goalOf rfl rfl rfl hv_X1_goalOf ⟨Nat.le_of_ble_eq_true rfl, Nat.le_of_ble_eq_true rfl⟩) hK hE (hP.sub (ws' := wX1 Z (b 4) (h 4)) [16, 17, 18, 19, 20, 21, 22, 23, 24, 25, 26, 27, 28, 29, 30] rfl) 1 rfl rfl rfl hl.1 rfl (lv_room (Nat.le_of_ble_eq_true rfl)) dX6_ofController_41 ⟨Nat.le_of_ble_eq_true rfl, Nat.le_of_ble_eq_true rfl⟩ rfl ?_
      refine lv_l2i (pc := 44) (v := r41.toInt32) hx hb dX6_ofController_44 rfl ?_
      have hf := (Option.some.inj hf).symm
      refine W.widen (k := 2) (n := 12) (Nat.le_of_ble_eq_true rfl) (Nat.le_of_ble_eq_true rfl) ?_
      refine th_ret hf ?_
      exact rw_i (fun _ => 0) hx hb hr hlk rfl hP hD hS dX6_ofController_45
    · have hf := (if_neg c1).symm.trans hf
      by_cases c2 : x2 = 1
      · have hf := (if_pos c2).symm.trans hf
        refine lv_tableIn (pc := 6) (off := 40) (tgt := 46) hx hb dX6_ofController_6 (by rw [c2]; decide) (by rw [c2]; decide) (by rw [c2]; rfl) (by decide) ?_
        refine lv_aload_n (pc := 46) hx hb dX6_ofController_46 rfl (lv_at hl 0 rfl) ?_
        refine va_get (pc := 47) (D := Z.1) (ci := 6) (v := .ref (b 4 0)) (C := RX6) (T := TX6) (N := 9) hx hb hts u6 hown hK hP 0 rfl rfl 3 (by decide) w0 (fun _ h9 => h9) rfl dX6_ofController_47 ?_
        refine lv_iload_n (pc := 50) hx hb dX6_ofController_50 rfl (lv_at hl 1 rfl) ?_
        obtain ⟨r51, h_51, hf⟩ := bd hf
        refine ro_V (pc := 51) (C := RX1) (As := [.int x1]) (rest := []) (st1 := [.long r51]) ⟨hx, hb, hml, hown, hts⟩ (c_X1_sumOf Z l (b 4) (h 4) x1 r51 h_51) (cwV 1 hts gX6_ofController_X1_sumOf rfl rfl rfl hv_X1_sumOf ⟨Nat.le_of_ble_eq_true rfl, Nat.le_of_ble_eq_true rfl⟩) hK hE (hP.sub (ws' := wX1 Z (b 4) (h 4)) [16, 17, 18, 19, 20, 21, 22, 23, 24, 25, 26, 27, 28, 29, 30] rfl) 1 rfl rfl rfl hl.1 rfl (lv_room (Nat.le_of_ble_eq_true rfl)) dX6_ofController_51 ⟨Nat.le_of_ble_eq_true rfl, Nat.le_of_ble_eq_true rfl⟩ rfl ?_
        refine lv_l2i (pc := 54) (v := r51.toInt32) hx hb dX6_ofController_54 rfl ?_
        have hf := (Option.some.inj hf).symm
        refine W.widen (k := 2) (n := 12) (Nat.le_of_ble_eq_true rfl) (Nat.le_of_ble_eq_true rfl) ?_
        refine th_ret hf ?_
        exact rw_i (fun _ => 0) hx hb hr hlk rfl hP hD hS dX6_ofController_55
      · have hf := (if_neg c2).symm.trans hf
        by_cases c3 : x2 = 2
        · have hf := (if_pos c3).symm.trans hf
          refine lv_tableIn (pc := 6) (off := 50) (tgt := 56) hx hb dX6_ofController_6 (by rw [c3]; decide) (by rw [c3]; decide) (by rw [c3]; rfl) (by decide) ?_
          refine lv_aload_n (pc := 56) hx hb dX6_ofController_56 rfl (lv_at hl 0 rfl) ?_
          refine va_get (pc := 57) (D := Z.1) (ci := 6) (v := .ref (b 4 0)) (C := RX6) (T := TX6) (N := 9) hx hb hts u6 hown hK hP 0 rfl rfl 3 (by decide) w0 (fun _ h9 => h9) rfl dX6_ofController_57 ?_
          refine lv_iload_n (pc := 60) hx hb dX6_ofController_60 rfl (lv_at hl 1 rfl) ?_
          obtain ⟨r61, h_61, hf⟩ := bd hf
          refine ro_V (pc := 61) (C := RX1) (As := [.int x1]) (rest := []) (st1 := [.long r61]) ⟨hx, hb, hml, hown, hts⟩ (c_X1_outputOf Z l (b 4) (h 4) x1 r61 h_61) (cwV 1 hts gX6_ofController_X1_outputOf rfl rfl rfl hv_X1_outputOf ⟨Nat.le_of_ble_eq_true rfl, Nat.le_of_ble_eq_true rfl⟩) hK hE (hP.sub (ws' := wX1 Z (b 4) (h 4)) [16, 17, 18, 19, 20, 21, 22, 23, 24, 25, 26, 27, 28, 29, 30] rfl) 1 rfl rfl rfl hl.1 rfl (lv_room (Nat.le_of_ble_eq_true rfl)) dX6_ofController_61 ⟨Nat.le_of_ble_eq_true rfl, Nat.le_of_ble_eq_true rfl⟩ rfl ?_
          refine lv_l2i (pc := 64) (v := r61.toInt32) hx hb dX6_ofController_64 rfl ?_
          have hf := (Option.some.inj hf).symm
          refine W.widen (k := 2) (n := 12) (Nat.le_of_ble_eq_true rfl) (Nat.le_of_ble_eq_true rfl) ?_
          refine th_ret hf ?_
          exact rw_i (fun _ => 0) hx hb hr hlk rfl hP hD hS dX6_ofController_65
        · have hf := (if_neg c3).symm.trans hf
          by_cases c4 : x2 = 3
          · have hf := (if_pos c4).symm.trans hf
            refine lv_tableIn (pc := 6) (off := 60) (tgt := 66) hx hb dX6_ofController_6 (by rw [c4]; decide) (by rw [c4]; decide) (by rw [c4]; rfl) (by decide) ?_
            refine lv_aload_n (pc := 66) hx hb dX6_ofController_66 rfl (lv_at hl 0 rfl) ?_
            refine va_get (pc := 67) (D := Z.1) (ci := 6) (v := .ref (b 4 0)) (C := RX6) (T := TX6) (N := 9) hx hb hts u6 hown hK hP 0 rfl rfl 3 (by decide) w0 (fun _ h9 => h9) rfl dX6_ofController_67 ?_
            refine lv_iload_n (pc := 70) hx hb dX6_ofController_70 rfl (lv_at hl 1 rfl) ?_
            obtain ⟨r71, h_71, hf⟩ := bd hf
            refine ro_V (pc := 71) (C := RX1) (As := [.int x1]) (rest := []) (st1 := [.long r71]) ⟨hx, hb, hml, hown, hts⟩ (c_X1_errorOf Z l (b 4) (h 4) x1 r71 h_71) (cwV 1 hts gX6_ofController_X1_errorOf rfl rfl rfl hv_X1_errorOf ⟨Nat.le_of_ble_eq_true rfl, Nat.le_of_ble_eq_true rfl⟩) hK hE (hP.sub (ws' := wX1 Z (b 4) (h 4)) [16, 17, 18, 19, 20, 21, 22, 23, 24, 25, 26, 27, 28, 29, 30] rfl) 1 rfl rfl rfl hl.1 rfl (lv_room (Nat.le_of_ble_eq_true rfl)) dX6_ofController_71 ⟨Nat.le_of_ble_eq_true rfl, Nat.le_of_ble_eq_true rfl⟩ rfl ?_
            refine lv_l2i (pc := 74) (v := r71.toInt32) hx hb dX6_ofController_74 rfl ?_
            have hf := (Option.some.inj hf).symm
            refine W.widen (k := 2) (n := 12) (Nat.le_of_ble_eq_true rfl) (Nat.le_of_ble_eq_true rfl) ?_
            refine th_ret hf ?_
            exact rw_i (fun _ => 0) hx hb hr hlk rfl hP hD hS dX6_ofController_75
          · have hf := (if_neg c4).symm.trans hf
            refine lv_tableOut (pc := 6) (tgt := 76) hx hb dX6_ofController_6 (by have := tne c1 (show (0 : Int32).toInt = 0 by decide); have := tne c2 (show (1 : Int32).toInt = 1 by decide); have := tne c3 (show (2 : Int32).toInt = 2 by decide); have := tne c4 (show (3 : Int32).toInt = 3 by decide); omega) (by decide) ?_
            exact th_throw (pc := 76) (i := 12) (text := "what is out of range") hx hb hst hown hno hlk thW_1 w1 w2 hE (by decide) rfl he1 hZ hS hP hD (hl.1.trans hml.symm) dX6_ofController_76 dX6_ofController_79 dX6_ofController_80 dX6_ofController_82 dX6_ofController_85 (Nat.le_of_ble_eq_true rfl) (Nat.le_of_ble_eq_true rfl) (Nat.le_of_ble_eq_true rfl) (Nat.le_of_ble_eq_true rfl) (Nat.le_of_ble_eq_true rfl) (Nat.le_of_ble_eq_true rfl) (Option.some.inj hf).symm
def f_X6_trend (h : Nat → ObS) (x1 : Int32) (x2 : Int32) : Option (Nat ⊕ Int32) :=
  tb (f_X6_needStream h x1) fun r2 =>
  if (f_X6_isOutside x2 1 ((h 0).1 7 0)) = (0 : Int32) then
    (f_X4_warmthAt (h 7) x1 x2).bind fun r33 =>
    some (.inr (r33))
  else
    some (.inl 3)
set_option maxHeartbeats 4000000 in
set_option maxRecDepth 100000 in
theorem c_X6_trend (Z : EnvT) (l : Launch) (hst : l.stackTraces = false) (b : Nat → Nat → Nat) (h : Nat → ObS) (x1 : Int32) (x2 : Int32) (R : Nat ⊕ Int32) (hf : f_X6_trend h x1 x2 = some R) : TH Z l yX6_trend wsX6_trend { frames := 7, cells := 2, slots := 12, locals := 113 } [.ref (b 0 0), .int x1, .int x2] (wH Z b h) R (fun (r : Int32) => (some (.int r))) (fun (r : Int32) _ => wH Z b h) 2 12 := by
  refine th_of (cc := cX6_trend) (maxL := 3) (ret := (some .int)) (by decide) rfl (Nat.le_of_ble_eq_true rfl) ?_
  intro p e s m below meth c A ls hx hb hr hml hts hown hlk hno hP hK hE hD hA hS hZ hl
  have hown : s.vm.findClass RX6 = some m.cls := hown
  have hl : lv_has ls 3 [(0, .ref (b 0 0)), (1, .int x1), (2, .int x2)] := hl
  have w0 := hts (.fieldLink RX6 54 "HeatTrain" "ticksGone" "I") (by decide +kernel)
  have w1 := hts (.fieldLink RX6 50 "HeatTrain" "trends" "LHeatTrain$Trends;") (by decide +kernel)
  have w2 := hts (.classLink RX6 221 "java/lang/IndexOutOfBoundsException") (by decide +kernel)
  have w3 := hts (.initialized "java/lang/IndexOutOfBoundsException") (by decide +kernel)
  have u6 : ∀ w ∈ wsX60, w ∈ wsX6_trend := by decide +kernel
  have he3 : ∀ w ∈ (vx_atS RX6 225 (exN 3) exS).filter goodWord, w.before _ s = true := fun w h => hts w ((show ∀ w ∈ (vx_atS RX6 225 (exN 3) exS).filter goodWord, w ∈ wsX6_trend by decide +kernel) w h)
  rw [f_X6_trend] at hf
  refine lv_aload_n (pc := 0) hx hb dX6_trend_0 rfl (lv_at hl 0 rfl) ?_
  refine lv_iload_n (pc := 1) hx hb dX6_trend_1 rfl (lv_at hl 1 rfl) ?_
  rcases tbd hf with ⟨k2, h_2, hf⟩ | ⟨r2, h_2, hf⟩
  · exact th_Vx (pc := 2) (C := RX6) (As := [.int x1]) (rest := []) ⟨hx, hb, hml, hown, hts⟩ (c_X6_needStream Z l hst b h x1 (.inl k2) h_2) (cwV 1 hts gX6_trend_X6_needStream rfl rfl rfl hv_X6_needStream ⟨Nat.le_of_ble_eq_true rfl, Nat.le_of_ble_eq_true rfl⟩) hK hE hP hD hS hA hZ 6 rfl rfl rfl hl.1 rfl (lv_room (Nat.le_of_ble_eq_true rfl)) dX6_trend_2 ⟨Nat.le_of_ble_eq_true rfl, Nat.le_of_ble_eq_true rfl⟩ hno hlk (Nat.le_of_ble_eq_true rfl) (Nat.le_of_ble_eq_true rfl) hf
  · refine th_Vn (pc := 2) (C := RX6) (As := [.int x1]) (rest := []) (st1 := []) ⟨hx, hb, hml, hown, hts⟩ (c_X6_needStream Z l hst b h x1 (.inr r2) h_2) (cwV 1 hts gX6_trend_X6_needStream rfl rfl rfl hv_X6_needStream ⟨Nat.le_of_ble_eq_true rfl, Nat.le_of_ble_eq_true rfl⟩) hK hE hP hD hS hA hZ 6 rfl rfl rfl hl.1 rfl (lv_room (Nat.le_of_ble_eq_true rfl)) dX6_trend_2 ⟨Nat.le_of_ble_eq_true rfl, Nat.le_of_ble_eq_true rfl⟩ rfl (fun _ H locs hP hD hS => ?_)
    refine lv_iload_n (pc := 5) hx hb dX6_trend_5 rfl (lv_at hl 2 rfl) ?_
    refine lv_iconst (pc := 6) (v := 1) hx hb dX6_trend_6 (by decide) ?_
    refine lv_aload_n (pc := 7) hx hb dX6_trend_7 rfl (lv_at hl 0 rfl) ?_
    refine va_get (pc := 8) (D := Z.1) (ci := 6) (v := .int ((h 0).1 7 0)) (C := RX6) (T := TX6) (N := 9) hx hb hts u6 hown hK hP 0 rfl rfl 7 (by decide) w0 (fun _ h9 => h9) rfl dX6_trend_8 ?_
    refine ro_S (pc := 11) (As := [.int x2, .int 1, .int ((h 0).1 7 0)]) (rest := []) (st1 := [.int (f_X6_isOutside x2 1 ((h 0).1 7 0))]) ⟨hx, hb, hml, hown, hts⟩ (c_X6_isOutside Z l x2 1 ((h 0).1 7 0) _ rfl) (va_cwS 3 hts gX6_trend_X6_isOutside rfl rfl rfl hs_X6_isOutside ⟨Nat.le_of_ble_eq_true rfl, Nat.le_of_ble_eq_true rfl⟩) hK hE (hP.sub (ws' := []) [] rfl) rfl hl.1 rfl (lv_room (Nat.le_of_ble_eq_true rfl)) dX6_trend_11 ⟨Nat.le_of_ble_eq_true rfl, Nat.le_of_ble_eq_true rfl⟩ rfl ?_
    refine lv_if_eq (pc := 14) (tgt := 27) hx hb dX6_trend_14 (by decide) (fun c1 => ?_) (fun c1 => ?_)
    · have hf := (if_pos c1).symm.trans hf
      refine lv_aload_n (pc := 27) hx hb dX6_trend_27 rfl (lv_at hl 0 rfl) ?_
      refine va_get (pc := 28) (D := Z.1) (ci := 6) (v := .ref (b 7 0)) (C := RX6) (T := TX6) (N := 9) hx hb hts u6 hown hK hP 0 rfl rfl 6 (by decide) w1 (fun _ h9 => h9) rfl dX6_trend_28 ?_
      refine lv_iload_n (pc := 31) hx hb dX6_trend_31 rfl (lv_at hl 1 rfl) ?_
      refine lv_iload_n (pc := 32) hx hb dX6_trend_32 rfl (lv_at hl 2 rfl) ?_
      obtain ⟨r33, h_33, hf⟩ := bd hf
      refine ro_V (pc := 33) (C := RX4) (As := [.int x1, .int x2]) (rest := []) (st1 := [.int r33]) ⟨hx, hb, hml, hown, hts⟩ (c_X4_warmthAt Z l (b 7) (h 7) x1 x2 r33 h_33) (cwV 2 hts gX6_trend_X4_warmthAt rfl rfl rfl hv_X4_warmthAt ⟨Nat.le_of_ble_eq_true rfl, Nat.le_of_ble_eq_true rfl⟩) hK hE (hP.sub (ws' := wX4 Z (b 7) (h 7)) [38, 39] rfl) 4 rfl rfl rfl hl.1 rfl (lv_room (Nat.le_of_ble_eq_true rfl)) dX6_trend_33 ⟨Nat.le_of_ble_eq_true rfl, Nat.le_of_ble_eq_true rfl⟩ rfl ?_
      have hf := (Option.some.inj hf).symm
      refine W.widen (k := 2) (n := 12) (Nat.le_of_ble_eq_true rfl) (Nat.le_of_ble_eq_true rfl) ?_
      refine th_ret hf ?_
      exact rw_i (fun _ => 0) hx hb hr hlk rfl hP hD hS dX6_trend_36
    · have hf := (if_neg c1).symm.trans hf
      exact th_throw (pc := 17) (i := 13) (text := "there is no such tick") hx hb hst hown hno hlk thW_3 w2 w3 hE (by decide) rfl he3 hZ hS hP hD (hl.1.trans hml.symm) dX6_trend_17 dX6_trend_20 dX6_trend_21 dX6_trend_23 dX6_trend_26 (Nat.le_of_ble_eq_true rfl) (Nat.le_of_ble_eq_true rfl) (Nat.le_of_ble_eq_true rfl) (Nat.le_of_ble_eq_true rfl) (Nat.le_of_ble_eq_true rfl) (Nat.le_of_ble_eq_true rfl) (Option.some.inj hf).symm
def f_X6_balance (h : Nat → ObS) : Option (Int32) :=
  (f_X5_heatHeldOver (h 3) (h 1)).bind fun r8 =>
  (f_X5_heatMade (h 3) (h 1)).bind fun r25 =>
  (f_X5_heatUntaken (h 3) (h 1)).bind fun r36 =>
  (f_X5_heatCooledAway (h 3)).bind fun r44 =>
  some ((((r25 - r36) - r44) - (r8 - ((h 0).2 8 0))).toInt32)
set_option maxHeartbeats 4000000 in
set_option maxRecDepth 100000 in
theorem c_X6_balance (Z : EnvT) (l : Launch) (b : Nat → Nat → Nat) (h : Nat → ObS) (R : Int32) (hf : f_X6_balance h = some R) : RO Z l yX6_balance wsX6_balance { frames := 3, cells := 0, slots := 0, locals := 65 } [.ref (b 0 0)] (wH Z b h) (some (.int R)) := by
  refine ro_of (cc := cX6_balance) (maxL := 3) (ret := (some .int)) (by decide) rfl (Nat.le_of_ble_eq_true rfl) ?_
  intro p e s m below meth c ls hx hb hr hml hts hown hlk hP hK hE hl
  have hown : s.vm.findClass RX6 = some m.cls := hown
  have hl : lv_has ls 3 [(0, .ref (b 0 0))] := hl
  have w0 := hts (.fieldLink RX6 22 "HeatTrain" "units" "LHeatTrain$Units;") (by decide +kernel)
  have w1 := hts (.fieldLink RX6 12 "HeatTrain" "streams" "LHeatTrain$Streams;") (by decide +kernel)
  have w2 := hts (.fieldLink RX6 58 "HeatTrain" "heldOverAhead" "J") (by decide +kernel)
  have u6 : ∀ w ∈ wsX60, w ∈ wsX6_balance := by decide +kernel
  rw [f_X6_balance] at hf
  refine lv_aload_n (pc := 0) hx hb dX6_balance_0 rfl (lv_at hl 0 rfl) ?_
  refine va_get (pc := 1) (D := Z.1) (ci := 6) (v := .ref (b 3 0)) (C := RX6) (T := TX6) (N := 9) hx hb hts u6 hown hK hP 0 rfl rfl 2 (by decide) w0 (fun _ h9 => h9) rfl dX6_balance_1 ?_
  refine lv_aload_n (pc := 4) hx hb dX6_balance_4 rfl (lv_at hl 0 rfl) ?_
  refine va_get (pc := 5) (D := Z.1) (ci := 6) (v := .ref (b 1 0)) (C := RX6) (T := TX6) (N := 9) hx hb hts u6 hown hK hP 0 rfl rfl 0 (by decide) w1 (fun _ h9 => h9) rfl dX6_balance_5 ?_
  obtain ⟨r8, h_8, hf⟩ := bd hf
  refine ro_V (pc := 8) (C := RX5) (As := [.ref (b 1 0)]) (rest := []) (st1 := [.long r8]) ⟨hx, hb, hml, hown, hts⟩ (c_X5_heatHeldOver Z l (b 3) (h 3) (b 1) (h 1) r8 h_8) (cwV 1 hts gX6_balance_X5_heatHeldOver rfl rfl rfl hv_X5_heatHeldOver ⟨Nat.le_of_ble_eq_true rfl, Nat.le_of_ble_eq_true rfl⟩) hK hE (hP.sub (ws' := wX5 Z (b 3) (h 3) ++ wX3 Z (b 1) (h 1)) [7, 8, 9, 10, 11, 12, 13, 14, 15, 1, 2, 3] rfl) 5 rfl rfl rfl hl.1 rfl (lv_room (Nat.le_of_ble_eq_true rfl)) dX6_balance_8 ⟨Nat.le_of_ble_eq_true rfl, Nat.le_of_ble_eq_true rfl⟩ rfl ?_
  refine lv_aload_n (pc := 11) hx hb dX6_balance_11 rfl (lv_at hl 0 rfl) ?_
  refine va_get (pc := 12) (D := Z.1) (ci := 6) (v := .long ((h 0).2 8 0)) (C := RX6) (T := TX6) (N := 9) hx hb hts u6 hown hK hP 0 rfl rfl 8 (by decide) w2 (fun _ h9 => h9) rfl dX6_balance_12 ?_
  refine lv_lsub (pc := 15) hx hb dX6_balance_15 ?_
  refine lv_lstore_n (pc := 16) (lv' := [(1, .long (r8 - ((h 0).2 8 0))), (0, .ref (b 0 0))]) hx hb dX6_balance_16 rfl hl (by decide) rfl (fun ls hl => ?_)
  refine lv_aload_n (pc := 17) hx hb dX6_balance_17 rfl (lv_at hl 1 rfl) ?_
  refine va_get (pc := 18) (D := Z.1) (ci := 6) (v := .ref (b 3 0)) (C := RX6) (T := TX6) (N := 9) hx hb hts u6 hown hK hP 0 rfl rfl 2 (by decide) w0 (fun _ h9 => h9) rfl dX6_balance_18 ?_
  refine lv_aload_n (pc := 21) hx hb dX6_balance_21 rfl (lv_at hl 1 rfl) ?_
  refine va_get (pc := 22) (D := Z.1) (ci := 6) (v := .ref (b 1 0)) (C := RX6) (T := TX6) (N := 9) hx hb hts u6 hown hK hP 0 rfl rfl 0 (by decide) w1 (fun _ h9 => h9) rfl dX6_balance_22 ?_
  obtain ⟨r25, h_25, hf⟩ := bd hf
  refine ro_V (pc := 25) (C := RX5) (As := [.ref (b 1 0)]) (rest := []) (st1 := [.long r25]) ⟨hx, hb, hml, hown, hts⟩ (c_X5_heatMade Z l (b 3) (h 3) (b 1) (h 1) r25 h_25) (cwV 1 hts gX6_balance_X5_heatMade rfl rfl rfl hv_X5_heatMade ⟨Nat.le_of_ble_eq_true rfl, Nat.le_of_ble_eq_true rfl⟩) hK hE (hP.sub (ws' := wX5 Z (b 3) (h 3) ++ wX3 Z (b 1) (h 1)) [7, 8, 9, 10, 11, 12, 13, 14, 15, 1, 2, 3] rfl) 5 rfl rfl rfl hl.1 rfl (lv_room (Nat.le_of_ble_eq_true rfl)) dX6_balance_25 ⟨Nat.le_of_ble_eq_true rfl, Nat.le_of_ble_eq_true rfl⟩ rfl ?_
  refine lv_aload_n (pc := 28) hx hb dX6_balance_28 rfl (lv_at hl 1 rfl) ?_
  refine va_get (pc := 29) (D := Z.1) (ci := 6) (v := .ref (b 3 0)) (C := RX6) (T := TX6) (N := 9) hx hb hts u6 hown hK hP 0 rfl rfl 2 (by decide) w0 (fun _ h9 => h9) rfl dX6_balance_29 ?_
  refine lv_aload_n (pc := 32) hx hb dX6_balance_32 rfl (lv_at hl 1 rfl) ?_
  refine va_get (pc := 33) (D := Z.1) (ci := 6) (v := .ref (b 1 0)) (C := RX6) (T := TX6) (N := 9) hx hb hts u6 hown hK hP 0 rfl rfl 0 (by decide) w1 (fun _ h9 => h9) rfl dX6_balance_33 ?_
  obtain ⟨r36, h_36, hf⟩ := bd hf
  refine ro_V (pc := 36) (C := RX5) (As := [.ref (b 1 0)]) (rest := [.long r25]) (st1 := [.long r36, .long r25]) ⟨hx, hb, hml, hown, hts⟩ (c_X5_heatUntaken Z l (b 3) (h 3) (b 1) (h 1) r36 h_36) (cwV 1 hts gX6_balance_X5_heatUntaken rfl rfl rfl hv_X5_heatUntaken ⟨Nat.le_of_ble_eq_true rfl, Nat.le_of_ble_eq_true rfl⟩) hK hE (hP.sub (ws' := wX5 Z (b 3) (h 3) ++ wX3 Z (b 1) (h 1)) [7, 8, 9, 10, 11, 12, 13, 14, 15, 1, 2, 3] rfl) 5 rfl rfl rfl hl.1 rfl (lv_room (Nat.le_of_ble_eq_true rfl)) dX6_balance_36 ⟨Nat.le_of_ble_eq_true rfl, Nat.le_of_ble_eq_true rfl⟩ rfl ?_
  refine lv_lsub (pc := 39) hx hb dX6_balance_39 ?_
  refine lv_aload_n (pc := 40) hx hb dX6_balance_40 rfl (lv_at hl 1 rfl) ?_
  refine va_get (pc := 41) (D := Z.1) (ci := 6) (v := .ref (b 3 0)) (C := RX6) (T := TX6) (N := 9) hx hb hts u6 hown hK hP 0 rfl rfl 2 (by decide) w0 (fun _ h9 => h9) rfl dX6_balance_41 ?_
  obtain ⟨r44, h_44, hf⟩ := bd hf
  refine ro_V (pc := 44) (C := RX5) (As := []) (rest := [.long (r25 - r36)]) (st1 := [.long r44, .long (r25 - r36)]) ⟨hx, hb, hml, hown, hts⟩ (c_X5_heatCooledAway Z l (b 3) (h 3) r44 h_44) (cwV 0 hts gX6_balance_X5_heatCooledAway rfl rfl rfl hv_X5_heatCooledAway ⟨Nat.le_of_ble_eq_true rfl, Nat.le_of_ble_eq_true rfl⟩) hK hE (hP.sub (ws' := wX5 Z (b 3) (h 3)) [7, 8, 9, 10, 11, 12, 13, 14, 15] rfl) 5 rfl rfl rfl hl.1 rfl (lv_room (Nat.le_of_ble_eq_true rfl)) dX6_balance_44 ⟨Nat.le_of_ble_eq_true rfl, Nat.le_of_ble_eq_true rfl⟩ rfl ?_
  refine lv_lsub (pc := 47) hx hb dX6_balance_47 ?_
  refine lv_lload_n (pc := 48) hx hb dX6_balance_48 rfl (lv_at hl 0 rfl) ?_
  refine lv_lsub (pc := 49) hx hb dX6_balance_49 ?_
  refine lv_l2i (pc := 50) (v := (((r25 - r36) - r44) - (r8 - ((h 0).2 8 0))).toInt32) hx hb dX6_balance_50 rfl ?_
  exact ro_i hx hb hr hlk (Option.some.inj hf) dX6_balance_51
def f_X6_alarms (h : Nat → ObS) : Int32 :=
  (f_X0_count (h 5))
set_option maxHeartbeats 4000000 in
set_option maxRecDepth 100000 in
theorem c_X6_alarms (Z : EnvT) (l : Launch) (b : Nat → Nat → Nat) (h : Nat → ObS) (R : Int32) (hf : f_X6_alarms h = R) : RO Z l yX6_alarms wsX6_alarms { frames := 1, cells := 0, slots := 0, locals := 20 } [.ref (b 0 0)] (wH Z b h) (some (.int R)) := by
  refine ro_of (cc := cX6_alarms) (maxL := 1) (ret := (some .int)) (by decide) rfl (Nat.le_of_ble_eq_true rfl) ?_
  intro p e s m below meth c ls hx hb hr hml hts hown hlk hP hK hE hl
  have hown : s.vm.findClass RX6 = some m.cls := hown
  have hl : lv_has ls 1 [(0, .ref (b 0 0))] := hl
  have w0 := hts (.fieldLink RX6 36 "HeatTrain" "raised" "LHeatTrain$Alarms;") (by decide +kernel)
  have u6 : ∀ w ∈ wsX60, w ∈ wsX6_alarms := by decide +kernel
  rw [f_X6_alarms] at hf
  refine lv_aload_n (pc := 0) hx hb dX6_alarms_0 rfl (lv_at hl 0 rfl) ?_
  refine va_get (pc := 1) (D := Z.1) (ci := 6) (v := .ref (b 5 0)) (C := RX6) (T := TX6) (N := 9) hx hb hts u6 hown hK hP 0 rfl rfl 4 (by decide) w0 (fun _ h9 => h9) rfl dX6_alarms_1 ?_
  refine ro_V (pc := 4) (C := RX0) (As := []) (rest := []) (st1 := [.int (f_X0_count (h 5))]) ⟨hx, hb, hml, hown, hts⟩ (c_X0_count Z l (b 5) (h 5) _ rfl) (cwV 0 hts gX6_alarms_X0_count rfl rfl rfl hv_X0_count ⟨Nat.le_of_ble_eq_true rfl, Nat.le_of_ble_eq_true rfl⟩) hK hE (hP.sub (ws' := wX0 Z (b 5) (h 5)) [31, 32, 33] rfl) 0 rfl rfl rfl hl.1 rfl (lv_room (Nat.le_of_ble_eq_true rfl)) dX6_alarms_4 ⟨Nat.le_of_ble_eq_true rfl, Nat.le_of_ble_eq_true rfl⟩ rfl ?_
  exact ro_i hx hb hr hlk hf dX6_alarms_7
def f_X6_now (h : Nat → ObS) : Int32 :=
  (h 0).1 7 0
set_option maxHeartbeats 4000000 in
set_option maxRecDepth 100000 in
theorem c_X6_now (Z : EnvT) (l : Launch) (b : Nat → Nat → Nat) (h : Nat → ObS) (R : Int32) (hf : f_X6_now h = R) : RO Z l yX6_now wsX6_now { frames := 0, cells := 0, slots := 0, locals := 0 } [.ref (b 0 0)] (wH Z b h) (some (.int R)) := by
  refine ro_of (cc := cX6_now) (maxL := 1) (ret := (some .int)) (by decide) rfl (Nat.le_of_ble_eq_true rfl) ?_
  intro p e s m below meth c ls hx hb hr hml hts hown hlk hP hK hE hl
  have hown : s.vm.findClass RX6 = some m.cls := hown
  have hl : lv_has ls 1 [(0, .ref (b 0 0))] := hl
  have w0 := hts (.fieldLink RX6 54 "HeatTrain" "ticksGone" "I") (by decide +kernel)
  have u6 : ∀ w ∈ wsX60, w ∈ wsX6_now := by decide +kernel
  rw [f_X6_now] at hf
  refine lv_aload_n (pc := 0) hx hb dX6_now_0 rfl (lv_at hl 0 rfl) ?_
  refine va_get (pc := 1) (D := Z.1) (ci := 6) (v := .int ((h 0).1 7 0)) (C := RX6) (T := TX6) (N := 9) hx hb hts u6 hown hK hP 0 rfl rfl 7 (by decide) w0 (fun _ h9 => h9) rfl dX6_now_1 ?_
  exact ro_i hx hb hr hlk hf dX6_now_4
