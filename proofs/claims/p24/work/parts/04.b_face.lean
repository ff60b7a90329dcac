def f_X6_source (h : Nat → ObS) (x1 : Int32) (x2 : Int32) : Option (Nat ⊕ (Int32 × (Nat → ObS))) :=
  if (f_X6_isOutside x1 0 999) = (0 : Int32) then
    if (f_X6_isOutside x2 0 300) = (0 : Int32) then
      tb (f_X6_needRoomForUnit h) fun r33 =>
      (f_X5_addSource (h 3) x1 x2).bind fun r42 =>
      some (.inr (r42.1, (hu h 3 r42.2)))
    else
      some (.inl 1)
  else
    some (.inl 1)
set_option maxHeartbeats 4000000 in
set_option maxRecDepth 100000 in
theorem c_X6_source (Z : EnvT) (l : Launch) (hst : l.stackTraces = false) (b : Nat → Nat → Nat) (h : Nat → ObS) (x1 : Int32) (x2 : Int32) (R : Nat ⊕ (Int32 × (Nat → ObS))) (hf : f_X6_source h x1 x2 = some R) : TH Z l yX6_source wsX6_source { frames := 8, cells := 1, slots := 6, locals := 132 } [.ref (b 0 0), .int x1, .int x2] (wH Z b h) R (fun (r : Int32 × (Nat → ObS)) => (some (.int r.1))) (fun (r : Int32 × (Nat → ObS)) _ => wH Z b r.2) 1 6 := by
  refine th_of (cc := cX6_source) (maxL := 3) (ret := (some .int)) (by decide) rfl (Nat.le_of_ble_eq_true rfl) ?_
  intro p e s m below meth c A ls hx hb hr hml hts hown hlk hno hP hK hE hD hA hS hZ hl
  have hown : s.vm.findClass RX6 = some m.cls := hown
  have hl : lv_has ls 3 [(0, .ref (b 0 0)), (1, .int x1), (2, .int x2)] := hl
  have w0 := hts (.classLink RX6 66 "java/lang/IllegalArgumentException") (by decide +kernel)
  have w1 := hts (.initialized "java/lang/IllegalArgumentException") (by decide +kernel)
  have w2 := hts (.fieldLink RX6 22 "HeatTrain" "units" "LHeatTrain$Units;") (by decide +kernel)
  have u6 : ∀ w ∈ wsX60, w ∈ wsX6_source := by decide +kernel
  have he1 : ∀ w ∈ (vx_atS RX6 70 (exN 1) exS).filter goodWord, w.before _ s = true := fun w h => hts w ((show ∀ w ∈ (vx_atS RX6 70 (exN 1) exS).filter goodWord, w ∈ wsX6_source by decide +kernel) w h)
  rw [f_X6_source] at hf
  refine lv_iload_n (pc := 0) hx hb dX6_source_0 rfl (lv_at hl 1 rfl) ?_
  refine lv_iconst (pc := 1) (v := 0) hx hb dX6_source_1 (by decide) ?_
  refine lv_sipush (pc := 2) (v := 999) hx hb dX6_source_2 (by decide) ?_
  refine ro_S (pc := 5) (As := [.int x1, .int 0, .int 999]) (rest := []) (st1 := [.int (f_X6_isOutside x1 0 999)]) ⟨hx, hb, hml, hown, hts⟩ (c_X6_isOutside Z l x1 0 999 _ rfl) (va_cwS 3 hts gX6_source_X6_isOutside rfl rfl rfl hs_X6_isOutside ⟨Nat.le_of_ble_eq_true rfl, Nat.le_of_ble_eq_true rfl⟩) hK hE (hP.sub (ws' := []) [] rfl) rfl hl.1 rfl (lv_room (Nat.le_of_ble_eq_true rfl)) dX6_source_5 ⟨Nat.le_of_ble_eq_true rfl, Nat.le_of_ble_eq_true rfl⟩ rfl ?_
  refine lv_if_ne (pc := 8) (tgt := 22) hx hb dX6_source_8 (by decide) (fun c1 => ?_) (fun c1 => ?_)
  · have hf := (if_neg c1).symm.trans hf
    exact th_throw (pc := 22) (i := 0) (text := "flow or warmth is out of range") hx hb hst hown hno hlk thW_1 w0 w1 hE (by decide) rfl he1 hZ hS hP hD (hl.1.trans hml.symm) dX6_source_22 dX6_source_25 dX6_source_26 dX6_source_28 dX6_source_31 (Nat.le_of_ble_eq_true rfl) (Nat.le_of_ble_eq_true rfl) (Nat.le_of_ble_eq_true rfl) (Nat.le_of_ble_eq_true rfl) (Nat.le_of_ble_eq_true rfl) (Nat.le_of_ble_eq_true rfl) (Option.some.inj hf).symm
  · have hf := (if_pos c1).symm.trans hf
    refine lv_iload_n (pc := 11) hx hb dX6_source_11 rfl (lv_at hl 2 rfl) ?_
    refine lv_iconst (pc := 12) (v := 0) hx hb dX6_source_12 (by decide) ?_
    refine lv_sipush (pc := 13) (v := 300) hx hb dX6_source_13 (by decide) ?_
    refine ro_S (pc := 16) (As := [.int x2, .int 0, .int 300]) (rest := []) (st1 := [.int (f_X6_isOutside x2 0 300)]) ⟨hx, hb, hml, hown, hts⟩ (c_X6_isOutside Z l x2 0 300 _ rfl) (va_cwS 3 hts gX6_source_X6_isOutside rfl rfl rfl hs_X6_isOutside ⟨Nat.le_of_ble_eq_true rfl, Nat.le_of_ble_eq_true rfl⟩) hK hE (hP.sub (ws' := []) [] rfl) rfl hl.1 rfl (lv_room (Nat.le_of_ble_eq_true rfl)) dX6_source_16 ⟨Nat.le_of_ble_eq_true rfl, Nat.le_of_ble_eq_true rfl⟩ rfl ?_
    refine lv_if_eq (pc := 19) (tgt := 32) hx hb dX6_source_19 (by decide) (fun c2 => ?_) (fun c2 => ?_)
    · have hf := (if_pos c2).symm.trans hf
      refine lv_aload_n (pc := 32) hx hb dX6_source_32 rfl (lv_at hl 0 rfl) ?_
      rcases tbd hf with ⟨k33, h_33, hf⟩ | ⟨r33, h_33, hf⟩
      · exact th_Vx (pc := 33) (C := RX6) (As := []) (rest := []) ⟨hx, hb, hml, hown, hts⟩ (c_X6_needRoomForUnit Z l hst b h (.inl k33) h_33) (cwV 0 hts gX6_source_X6_needRoomForUnit rfl rfl rfl hv_X6_needRoomForUnit ⟨Nat.le_of_ble_eq_true rfl, Nat.le_of_ble_eq_true rfl⟩) hK hE hP hD hS hA hZ 6 rfl rfl rfl hl.1 rfl (lv_room (Nat.le_of_ble_eq_true rfl)) dX6_source_33 ⟨Nat.le_of_ble_eq_true rfl, Nat.le_of_ble_eq_true rfl⟩ hno hlk (Nat.le_of_ble_eq_true rfl) (Nat.le_of_ble_eq_true rfl) hf
      · refine th_Vn (pc := 33) (C := RX6) (As := []) (rest := []) (st1 := []) ⟨hx, hb, hml, hown, hts⟩ (c_X6_needRoomForUnit Z l hst b h (.inr r33) h_33) (cwV 0 hts gX6_source_X6_needRoomForUnit rfl rfl rfl hv_X6_needRoomForUnit ⟨Nat.le_of_ble_eq_true rfl, Nat.le_of_ble_eq_true rfl⟩) hK hE hP hD hS hA hZ 6 rfl rfl rfl hl.1 rfl (lv_room (Nat.le_of_ble_eq_true rfl)) dX6_source_33 ⟨Nat.le_of_ble_eq_true rfl, Nat.le_of_ble_eq_true rfl⟩ rfl (fun _ H locs hP hD hS => ?_)
        refine lv_aload_n (pc := 36) hx hb dX6_source_36 rfl (lv_at hl 0 rfl) ?_
        refine va_get (pc := 37) (D := Z.1) (ci := 6) (v := .ref (b 3 0)) (C := RX6) (T := TX6) (N := 9) hx hb hts u6 hown hK hP 0 rfl rfl 2 (by decide) w2 (fun _ h9 => h9) rfl dX6_source_37 ?_
        refine lv_iload_n (pc := 40) hx hb dX6_source_40 rfl (lv_at hl 1 rfl) ?_
        refine lv_iload_n (pc := 41) hx hb dX6_source_41 rfl (lv_at hl 2 rfl) ?_
        obtain ⟨r42, h_42, hf⟩ := bd hf
        refine rw_V (pc := 42) (C := RX5) (As := [.int x1, .int x2]) (rest := []) (st1 := [.int r42.1]) (wn := fun _ => wH Z b (hu h 3 r42.2)) ⟨hx, hb, hml, hown, hts⟩ (c_X5_addSource Z l (b 3) (h 3) x1 x2 r42 h_42) (cwV 2 hts gX6_source_X5_addSource rfl rfl rfl hv_X5_addSource ⟨Nat.le_of_ble_eq_true rfl, Nat.le_of_ble_eq_true rfl⟩) hK hE hP hD hS hA [7, 8, 9, 10, 11, 12, 13, 14, 15] [0, 1, 2, 3, 4, 5, 6, 16, 17, 18, 19, 20, 21, 22, 23, 24, 25, 26, 27, 28, 29, 30, 31, 32, 33, 34, 35, 36, 37, 38, 39] [0, 1, 2, 3, 4, 5, 6, 31, 32, 33, 34, 35, 36, 37, 38, 39, 7, 8, 9, 10, 11, 12, 13, 14, 15, 16, 17, 18, 19, 20, 21, 22, 23, 24, 25, 26, 27, 28, 29, 30] rfl rfl rfl (fun _ => rfl) 5 rfl rfl rfl hl.1 rfl (lv_room (Nat.le_of_ble_eq_true rfl)) dX6_source_42 ⟨Nat.le_of_ble_eq_true rfl, Nat.le_of_ble_eq_true rfl⟩ rfl (fun _ H locs hP hD hS => ?_)
        have hf := (Option.some.inj hf).symm
        refine th_ret hf ?_
        exact rw_i (fun _ => 0) hx hb hr hlk rfl hP hD hS dX6_source_45
    · have hf := (if_neg c2).symm.trans hf
      exact th_throw (pc := 22) (i := 0) (text := "flow or warmth is out of range") hx hb hst hown hno hlk thW_1 w0 w1 hE (by decide) rfl he1 hZ hS hP hD (hl.1.trans hml.symm) dX6_source_22 dX6_source_25 dX6_source_26 dX6_source_28 dX6_source_31 (Nat.le_of_ble_eq_true rfl) (Nat.le_of_ble_eq_true rfl) (Nat.le_of_ble_eq_true rfl) (Nat.le_of_ble_eq_true rfl) (Nat.le_of_ble_eq_true rfl) (Nat.le_of_ble_eq_true rfl) (Option.some.inj hf).symm
def f_X6_unit_b105 (h : Nat → ObS) (x1 : Int32) (x2 : Int32) (x3 : Int32) (x4 : Int32) (k34_0 : Int32)  : Option (Nat ⊕ (Int32 × (Nat → ObS))) :=
  tb (f_X6_needRoomForUnit h) fun r106 =>
  if k34_0 = (0 : Int32) then
    (f_X5_addTaker (h 3) x1 x2 (-1) x4).bind fun r127 =>
    some (.inr (r127.1, (hu h 3 r127.2)))
  else
    (f_X5_addTaker (h 3) x1 x2 x3 x4).bind fun r127 =>
    some (.inr (r127.1, (hu h 3 r127.2)))
def f_X6_unit_b75 (h : Nat → ObS) (x1 : Int32) (x2 : Int32) (x3 : Int32) (x4 : Int32) (k34_0 : Int32)  : Option (Nat ⊕ (Int32 × (Nat → ObS))) :=
  tb (f_X6_needFreeStream h x2) fun r77 =>
  if k34_0 = (0 : Int32) then
    f_X6_unit_b105 h x1 x2 x3 x4 k34_0
  else
    tb (f_X6_needFreeStream h x3) fun r87 =>
    if x2 = x3 then
      some (.inl 2)
    else
      f_X6_unit_b105 h x1 x2 x3 x4 k34_0
def f_X6_unit_b51 (h : Nat → ObS) (x1 : Int32) (x2 : Int32) (x3 : Int32) (x4 : Int32) (k34_0 : Int32)  : Option (Nat ⊕ (Int32 × (Nat → ObS))) :=
  if x1 = 2 then
    f_X6_unit_b75 h x1 x2 x3 x4 k34_0
  else
    if (f_X6_isNumberOf x1 x4) = (0 : Int32) then
      some (.inl 2)
    else
      f_X6_unit_b75 h x1 x2 x3 x4 k34_0
def f_X6_unit_b34 (h : Nat → ObS) (x1 : Int32) (x2 : Int32) (x3 : Int32) (x4 : Int32) (k34_0 : Int32) : Option (Nat ⊕ (Int32 × (Nat → ObS))) :=
  tb (f_X6_needStreamForNewUnit h x2) fun r38 =>
  if k34_0 = (0 : Int32) then
    f_X6_unit_b51 h x1 x2 x3 x4 k34_0
  else
    tb (f_X6_needStreamForNewUnit h x3) fun r48 =>
    f_X6_unit_b51 h x1 x2 x3 x4 k34_0
def f_X6_unit_b29 (h : Nat → ObS) (x1 : Int32) (x2 : Int32) (x3 : Int32) (x4 : Int32)  : Option (Nat ⊕ (Int32 × (Nat → ObS))) :=
  f_X6_unit_b34 h x1 x2 x3 x4 1
def f_X6_unit (h : Nat → ObS) (x1 : Int32) (x2 : Int32) (x3 : Int32) (x4 : Int32) : Option (Nat ⊕ (Int32 × (Nat → ObS))) :=
  if (f_X6_isOutside x1 1 4) = (0 : Int32) then
    if x1 = 2 then
      f_X6_unit_b29 h x1 x2 x3 x4
    else
      if x1 = 3 then
        f_X6_unit_b29 h x1 x2 x3 x4
      else
        f_X6_unit_b34 h x1 x2 x3 x4 0
  else
    some (.inl 1)
set_option maxHeartbeats 4000000 in
set_option maxRecDepth 100000 in
theorem c_X6_unit (Z : EnvT) (l : Launch) (hst : l.stackTraces = false) (b : Nat → Nat → Nat) (h : Nat → ObS) (x1 : Int32) (x2 : Int32) (x3 : Int32) (x4 : Int32) (R : Nat ⊕ (Int32 × (Nat → ObS))) (hf : f_X6_unit h x1 x2 x3 x4 = some R) : TH Z l yX6_unit wsX6_unit { frames := 8, cells := 5, slots := 30, locals := 132 } [.ref (b 0 0), .int x1, .int x2, .int x3, .int x4] (wH Z b h) R (fun (r : Int32 × (Nat → ObS)) => (some (.int r.1))) (fun (r : Int32 × (Nat → ObS)) _ => wH Z b r.2) 5 30 := by
  refine th_of (cc := cX6_unit) (maxL := 6) (ret := (some .int)) (by decide) rfl (Nat.le_of_ble_eq_true rfl) ?_
  intro p e s m below meth c A ls hx hb hr hml hts hown hlk hno hP hK hE hD hA hS hZ hl
  have hown : s.vm.findClass RX6 = some m.cls := hown
  have hl : lv_has ls 6 [(0, .ref (b 0 0)), (1, .int x1), (2, .int x2), (3, .int x3), (4, .int x4)] := hl
  have w0 := hts (.classLink RX6 66 "java/lang/IllegalArgumentException") (by decide +kernel)
  have w1 := hts (.initialized "java/lang/IllegalArgumentException") (by decide +kernel)
  have w2 := hts (.classLink RX6 90 "java/lang/IllegalStateException") (by decide +kernel)
  have w3 := hts (.initialized "java/lang/IllegalStateException") (by decide +kernel)
  have w4 := hts (.fieldLink RX6 22 "HeatTrain" "units" "LHeatTrain$Units;") (by decide +kernel)
  have u6 : ∀ w ∈ wsX60, w ∈ wsX6_unit := by decide +kernel
  have he1 : ∀ w ∈ (vx_atS RX6 70 (exN 1) exS).filter goodWord, w.before _ s = true := fun w h => hts w ((show ∀ w ∈ (vx_atS RX6 70 (exN 1) exS).filter goodWord, w ∈ wsX6_unit by decide +kernel) w h)
  have he2 : ∀ w ∈ (vx_atS RX6 94 (exN 2) exS).filter goodWord, w.before _ s = true := fun w h => hts w ((show ∀ w ∈ (vx_atS RX6 94 (exN 2) exS).filter goodWord, w ∈ wsX6_unit by decide +kernel) w h)
  have B105 : ∀ (k34_0 : Int32), ∀ (ls : Array Slot), lv_has ls 6 [(0, .ref (b 0 0)), (1, .int x1), (2, .int x2), (3, .int x3), (4, .int x4), (5, .int k34_0)] → ∀ (H : Heap) (locs : List Loc), va_P Z.1 vwCl (wH Z b h) H → va_D A (wH Z b h) → va_S A s.heap H locs → f_X6_unit_b105 h x1 x2 x3 x4 k34_0 = some R → W p l e { frames := 8, cells := 5, slots := 30, locals := 132 } s m ([.ref (b 0 0), .int x1, .int x2, .int x3, .int x4] : List Value).toArray below meth c H locs 4 24 (vx_MQ below (thQ Z R (fun (r : Int32 × (Nat → ObS)) => (some (.int r.1))) (fun (r : Int32 × (Nat → ObS)) _ => wH Z b r.2) A) (thC Z R (wH Z b h) A) ([.ref (b 0 0), .int x1, .int x2, .int x3, .int x4] : List Value).toArray s 5 30 A) (F0 m 105 ls []) := by
    intro k34_0 ls hl H locs hP hD hS hf
    rw [f_X6_unit_b105] at hf
    refine lv_aload_n (pc := 105) hx hb dX6_unit_105 rfl (lv_at hl 0 rfl) ?_
    rcases tbd hf with ⟨k106, h_106, hf⟩ | ⟨r106, h_106, hf⟩
    · exact th_Vx (pc := 106) (C := RX6) (As := []) (rest := []) ⟨hx, hb, hml, hown, hts⟩ (c_X6_needRoomForUnit Z l hst b h (.inl k106) h_106) (cwV 0 hts gX6_unit_X6_needRoomForUnit rfl rfl rfl hv_X6_needRoomForUnit ⟨Nat.le_of_ble_eq_true rfl, Nat.le_of_ble_eq_true rfl⟩) hK hE hP hD hS hA hZ 6 rfl rfl rfl hl.1 rfl (lv_room (Nat.le_of_ble_eq_true rfl)) dX6_unit_106 ⟨Nat.le_of_ble_eq_true rfl, Nat.le_of_ble_eq_true rfl⟩ hno hlk (Nat.le_of_ble_eq_true rfl) (Nat.le_of_ble_eq_true rfl) hf
    · refine th_Vn (pc := 106) (C := RX6) (As := []) (rest := []) (st1 := []) ⟨hx, hb, hml, hown, hts⟩ (c_X6_needRoomForUnit Z l hst b h (.inr r106) h_106) (cwV 0 hts gX6_unit_X6_needRoomForUnit rfl rfl rfl hv_X6_needRoomForUnit ⟨Nat.le_of_ble_eq_true rfl, Nat.le_of_ble_eq_true rfl⟩) hK hE hP hD hS hA hZ 6 rfl rfl rfl hl.1 rfl (lv_room (Nat.le_of_ble_eq_true rfl)) dX6_unit_106 ⟨Nat.le_of_ble_eq_true rfl, Nat.le_of_ble_eq_true rfl⟩ rfl (fun _ H locs hP hD hS => ?_)
      refine lv_aload_n (pc := 109) hx hb dX6_unit_109 rfl (lv_at hl 0 rfl) ?_
      refine va_get (pc := 110) (D := Z.1) (ci := 6) (v := .ref (b 3 0)) (C := RX6) (T := TX6) (N := 9) hx hb hts u6 hown hK hP 0 rfl rfl 2 (by decide) w4 (fun _ h9 => h9) rfl dX6_unit_110 ?_
      refine lv_iload_n (pc := 113) hx hb dX6_unit_113 rfl (lv_at hl 1 rfl) ?_
      refine lv_iload_n (pc := 114) hx hb dX6_unit_114 rfl (lv_at hl 2 rfl) ?_
      refine lv_iload (pc := 115) hx hb dX6_unit_115 (lv_at hl 5 rfl) ?_
      refine lv_if_eq (pc := 117) (tgt := 124) hx hb dX6_unit_117 (by decide) (fun c1 => ?_) (fun c1 => ?_)
      · have hf := (if_pos c1).symm.trans hf
        refine lv_iconst (pc := 124) (v := (-1)) hx hb dX6_unit_124 (by decide) ?_
        refine lv_iload (pc := 125) hx hb dX6_unit_125 (lv_at hl 4 rfl) ?_
        obtain ⟨r127, h_127, hf⟩ := bd hf
        refine rw_V (pc := 127) (C := RX5) (As := [.int x1, .int x2, .int (-1), .int x4]) (rest := []) (st1 := [.int r127.1]) (wn := fun _ => wH Z b (hu h 3 r127.2)) ⟨hx, hb, hml, hown, hts⟩ (c_X5_addTaker Z l (b 3) (h 3) x1 x2 (-1) x4 r127 h_127) (cwV 4 hts gX6_unit_X5_addTaker rfl rfl rfl hv_X5_addTaker ⟨Nat.le_of_ble_eq_true rfl, Nat.le_of_ble_eq_true rfl⟩) hK hE hP hD hS hA [7, 8, 9, 10, 11, 12, 13, 14, 15] [0, 1, 2, 3, 4, 5, 6, 16, 17, 18, 19, 20, 21, 22, 23, 24, 25, 26, 27, 28, 29, 30, 31, 32, 33, 34, 35, 36, 37, 38, 39] [0, 1, 2, 3, 4, 5, 6, 31, 32, 33, 34, 35, 36, 37, 38, 39, 7, 8, 9, 10, 11, 12, 13, 14, 15, 16, 17, 18, 19, 20, 21, 22, 23, 24, 25, 26, 27, 28, 29, 30] rfl rfl rfl (fun _ => rfl) 5 rfl rfl rfl hl.1 rfl (lv_room (Nat.le_of_ble_eq_true rfl)) dX6_unit_127 ⟨Nat.le_of_ble_eq_true rfl, Nat.le_of_ble_eq_true rfl⟩ rfl (fun _ H locs hP hD hS => ?_)
        have hf := (Option.some.inj hf).symm
        refine th_ret hf ?_
        exact rw_i (fun _ => 0) hx hb hr hlk rfl hP hD hS dX6_unit_130
      · have hf := (if_neg c1).symm.trans hf
        refine lv_iload_n (pc := 120) hx hb dX6_unit_120 rfl (lv_at hl 3 rfl) ?_
        refine lv_goto (pc := 121) (tgt := 125) hx hb dX6_unit_121 (by decide) ?_
        refine lv_iload (pc := 125) hx hb dX6_unit_125 (lv_at hl 4 rfl) ?_
        obtain ⟨r127, h_127, hf⟩ := bd hf
        refine rw_V (pc := 127) (C := RX5) (As := [.int x1, .int x2, .int x3, .int x4]) (rest := []) (st1 := [.int r127.1]) (wn := fun _ => wH Z b (hu h 3 r127.2)) ⟨hx, hb, hml, hown, hts⟩ (c_X5_addTaker Z l (b 3) (h 3) x1 x2 x3 x4 r127 h_127) (cwV 4 hts gX6_unit_X5_addTaker rfl rfl rfl hv_X5_addTaker ⟨Nat.le_of_ble_eq_true rfl, Nat.le_of_ble_eq_true rfl⟩) hK hE hP hD hS hA [7, 8, 9, 10, 11, 12, 13, 14, 15] [0, 1, 2, 3, 4, 5, 6, 16, 17, 18, 19, 20, 21, 22, 23, 24, 25, 26, 27, 28, 29, 30, 31, 32, 33, 34, 35, 36, 37, 38, 39] [0, 1, 2, 3, 4, 5, 6, 31, 32, 33, 34, 35, 36, 37, 38, 39, 7, 8, 9, 10, 11, 12, 13, 14, 15, 16, 17, 18, 19, 20, 21, 22, 23, 24, 25, 26, 27, 28, 29, 30] rfl rfl rfl (fun _ => rfl) 5 rfl rfl rfl hl.1 rfl (lv_room (Nat.le_of_ble_eq_true rfl)) dX6_unit_127 ⟨Nat.le_of_ble_eq_true rfl, Nat.le_of_ble_eq_true rfl⟩ rfl (fun _ H locs hP hD hS => ?_)
        have hf := (Option.some.inj hf).symm
        refine th_ret hf ?_
        exact rw_i (fun _ => 0) hx hb hr hlk rfl hP hD hS dX6_unit_130
  have B75 : ∀ (k34_0 : Int32), ∀ (ls : Array Slot), lv_has ls 6 [(0, .ref (b 0 0)), (1, .int x1), (2, .int x2), (3, .int x3), (4, .int x4), (5, .int k34_0)] → ∀ (H : Heap) (locs : List Loc), va_P Z.1 vwCl (wH Z b h) H → va_D A (wH Z b h) → va_S A s.heap H locs → f_X6_unit_b75 h x1 x2 x3 x4 k34_0 = some R → W p l e { frames := 8, cells := 5, slots := 30, locals := 132 } s m ([.ref (b 0 0), .int x1, .int x2, .int x3, .int x4] : List Value).toArray below meth c H locs 2 12 (vx_MQ below (thQ Z R (fun (r : Int32 × (Nat → ObS)) => (some (.int r.1))) (fun (r : Int32 × (Nat → ObS)) _ => wH Z b r.2) A) (thC Z R (wH Z b h) A) ([.ref (b 0 0), .int x1, .int x2, .int x3, .int x4] : List Value).toArray s 5 30 A) (F0 m 75 ls []) := by
    intro k34_0 ls hl H locs hP hD hS hf
    rw [f_X6_unit_b75] at hf
    refine lv_aload_n (pc := 75) hx hb dX6_unit_75 rfl (lv_at hl 0 rfl) ?_
    refine lv_iload_n (pc := 76) hx hb dX6_unit_76 rfl (lv_at hl 2 rfl) ?_
    rcases tbd hf with ⟨k77, h_77, hf⟩ | ⟨r77, h_77, hf⟩
    · exact th_Vx (pc := 77) (C := RX6) (As := [.int x2]) (rest := []) ⟨hx, hb, hml, hown, hts⟩ (c_X6_needFreeStream Z l hst b h x2 (.inl k77) h_77) (cwV 1 hts gX6_unit_X6_needFreeStream rfl rfl rfl hv_X6_needFreeStream ⟨Nat.le_of_ble_eq_true rfl, Nat.le_of_ble_eq_true rfl⟩) hK hE hP hD hS hA hZ 6 rfl rfl rfl hl.1 rfl (lv_room (Nat.le_of_ble_eq_true rfl)) dX6_unit_77 ⟨Nat.le_of_ble_eq_true rfl, Nat.le_of_ble_eq_true rfl⟩ hno hlk (Nat.le_of_ble_eq_true rfl) (Nat.le_of_ble_eq_true rfl) hf
    · refine th_Vn (pc := 77) (C := RX6) (As := [.int x2]) (rest := []) (st1 := []) ⟨hx, hb, hml, hown, hts⟩ (c_X6_needFreeStream Z l hst b h x2 (.inr r77) h_77) (cwV 1 hts gX6_unit_X6_needFreeStream rfl rfl rfl hv_X6_needFreeStream ⟨Nat.le_of_ble_eq_true rfl, Nat.le_of_ble_eq_true rfl⟩) hK hE hP hD hS hA hZ 6 rfl rfl rfl hl.1 rfl (lv_room (Nat.le_of_ble_eq_true rfl)) dX6_unit_77 ⟨Nat.le_of_ble_eq_true rfl, Nat.le_of_ble_eq_true rfl⟩ rfl (fun _ H locs hP hD hS => ?_)
      refine lv_iload (pc := 80) hx hb dX6_unit_80 (lv_at hl 5 rfl) ?_
      refine lv_if_eq (pc := 82) (tgt := 105) hx hb dX6_unit_82 (by decide) (fun c1 => ?_) (fun c1 => ?_)
      · have hf := (if_pos c1).symm.trans hf
        refine W.widen (k := 4) (n := 24) (Nat.le_of_ble_eq_true rfl) (Nat.le_of_ble_eq_true rfl) ?_
        exact B105 k34_0 _ (lv_sub hl [0, 1, 2, 3, 4, 5] rfl) _ _ hP hD hS hf
      · have hf := (if_neg c1).symm.trans hf
        refine lv_aload_n (pc := 85) hx hb dX6_unit_85 rfl (lv_at hl 0 rfl) ?_
        refine lv_iload_n (pc := 86) hx hb dX6_unit_86 rfl (lv_at hl 3 rfl) ?_
        rcases tbd hf with ⟨k87, h_87, hf⟩ | ⟨r87, h_87, hf⟩
        · exact th_Vx (pc := 87) (C := RX6) (As := [.int x3]) (rest := []) ⟨hx, hb, hml, hown, hts⟩ (c_X6_needFreeStream Z l hst b h x3 (.inl k87) h_87) (cwV 1 hts gX6_unit_X6_needFreeStream rfl rfl rfl hv_X6_needFreeStream ⟨Nat.le_of_ble_eq_true rfl, Nat.le_of_ble_eq_true rfl⟩) hK hE hP hD hS hA hZ 6 rfl rfl rfl hl.1 rfl (lv_room (Nat.le_of_ble_eq_true rfl)) dX6_unit_87 ⟨Nat.le_of_ble_eq_true rfl, Nat.le_of_ble_eq_true rfl⟩ hno hlk (Nat.le_of_ble_eq_true rfl) (Nat.le_of_ble_eq_true rfl) hf
        · refine th_Vn (pc := 87) (C := RX6) (As := [.int x3]) (rest := []) (st1 := []) ⟨hx, hb, hml, hown, hts⟩ (c_X6_needFreeStream Z l hst b h x3 (.inr r87) h_87) (cwV 1 hts gX6_unit_X6_needFreeStream rfl rfl rfl hv_X6_needFreeStream ⟨Nat.le_of_ble_eq_true rfl, Nat.le_of_ble_eq_true rfl⟩) hK hE hP hD hS hA hZ 6 rfl rfl rfl hl.1 rfl (lv_room (Nat.le_of_ble_eq_true rfl)) dX6_unit_87 ⟨Nat.le_of_ble_eq_true rfl, Nat.le_of_ble_eq_true rfl⟩ rfl (fun _ H locs hP hD hS => ?_)
          refine lv_iload_n (pc := 90) hx hb dX6_unit_90 rfl (lv_at hl 2 rfl) ?_
          refine lv_iload_n (pc := 91) hx hb dX6_unit_91 rfl (lv_at hl 3 rfl) ?_
          refine lv_icmp_ne (pc := 92) (tgt := 105) hx hb dX6_unit_92 (by decide) (fun c2 => ?_) (fun c2 => ?_)
          · have hf := (if_neg c2).symm.trans hf
            exact B105 k34_0 _ (lv_sub hl [0, 1, 2, 3, 4, 5] rfl) _ _ hP hD hS hf
          · have hf := (if_pos c2).symm.trans hf
            exact th_throw (pc := 95) (i := 3) (text := "the stream would be taken twice") hx hb hst hown hno hlk thW_2 w2 w3 hE (by decide) rfl he2 hZ hS hP hD (hl.1.trans hml.symm) dX6_unit_95 dX6_unit_98 dX6_unit_99 dX6_unit_101 dX6_unit_104 (Nat.le_of_ble_eq_true rfl) (Nat.le_of_ble_eq_true rfl) (Nat.le_of_ble_eq_true rfl) (Nat.le_of_ble_eq_true rfl) (Nat.le_of_ble_eq_true rfl) (Nat.le_of_ble_eq_true rfl) (Option.some.inj hf).symm
  have B51 : ∀ (k34_0 : Int32), ∀ (ls : Array Slot), lv_has ls 6 [(0, .ref (b 0 0)), (1, .int x1), (2, .int x2), (3, .int x3), (4, .int x4), (5, .int k34_0)] → ∀ (H : Heap) (locs : List Loc), va_P Z.1 vwCl (wH Z b h) H → va_D A (wH Z b h) → va_S A s.heap H locs → f_X6_unit_b51 h x1 x2 x3 x4 k34_0 = some R → W p l e { frames := 8, cells := 5, slots := 30, locals := 132 } s m ([.ref (b 0 0), .int x1, .int x2, .int x3, .int x4] : List Value).toArray below meth c H locs 2 12 (vx_MQ below (thQ Z R (fun (r : Int32 × (Nat → ObS)) => (some (.int r.1))) (fun (r : Int32 × (Nat → ObS)) _ => wH Z b r.2) A) (thC Z R (wH Z b h) A) ([.ref (b 0 0), .int x1, .int x2, .int x3, .int x4] : List Value).toArray s 5 30 A) (F0 m 51 ls []) := by
    intro k34_0 ls hl H locs hP hD hS hf
    rw [f_X6_unit_b51] at hf
    refine lv_iload_n (pc := 51) hx hb dX6_unit_51 rfl (lv_at hl 1 rfl) ?_
    refine lv_iconst (pc := 52) (v := 2) hx hb dX6_unit_52 (by decide) ?_
    refine lv_icmp_eq (pc := 53) (tgt := 75) hx hb dX6_unit_53 (by decide) (fun c1 => ?_) (fun c1 => ?_)
    · have hf := (if_pos c1).symm.trans hf
      exact B75 k34_0 _ (lv_sub hl [0, 1, 2, 3, 4, 5] rfl) _ _ hP hD hS hf
    · have hf := (if_neg c1).symm.trans hf
      refine lv_iload_n (pc := 56) hx hb dX6_unit_56 rfl (lv_at hl 1 rfl) ?_
      refine lv_iload (pc := 57) hx hb dX6_unit_57 (lv_at hl 4 rfl) ?_
      refine ro_S (pc := 59) (As := [.int x1, .int x4]) (rest := []) (st1 := [.int (f_X6_isNumberOf x1 x4)]) ⟨hx, hb, hml, hown, hts⟩ (c_X6_isNumberOf Z l x1 x4 _ rfl) (va_cwS 2 hts gX6_unit_X6_isNumberOf rfl rfl rfl hs_X6_isNumberOf ⟨Nat.le_of_ble_eq_true rfl, Nat.le_of_ble_eq_true rfl⟩) hK hE (hP.sub (ws' := []) [] rfl) rfl hl.1 rfl (lv_room (Nat.le_of_ble_eq_true rfl)) dX6_unit_59 ⟨Nat.le_of_ble_eq_true rfl, Nat.le_of_ble_eq_true rfl⟩ rfl ?_
      refine lv_if_ne (pc := 62) (tgt := 75) hx hb dX6_unit_62 (by decide) (fun c2 => ?_) (fun c2 => ?_)
      · have hf := (if_neg c2).symm.trans hf
        exact B75 k34_0 _ (lv_sub hl [0, 1, 2, 3, 4, 5] rfl) _ _ hP hD hS hf
      · have hf := (if_pos c2).symm.trans hf
        exact th_throw (pc := 65) (i := 2) (text := "number is not in the range of its kind") hx hb hst hown hno hlk thW_2 w2 w3 hE (by decide) rfl he2 hZ hS hP hD (hl.1.trans hml.symm) dX6_unit_65 dX6_unit_68 dX6_unit_69 dX6_unit_71 dX6_unit_74 (Nat.le_of_ble_eq_true rfl) (Nat.le_of_ble_eq_true rfl) (Nat.le_of_ble_eq_true rfl) (Nat.le_of_ble_eq_true rfl) (Nat.le_of_ble_eq_true rfl) (Nat.le_of_ble_eq_true rfl) (Option.some.inj hf).symm
  have B34 : ∀ (k34_0 : Int32) (ls : Array Slot), lv_has ls 6 [(0, .ref (b 0 0)), (1, .int x1), (2, .int x2), (3, .int x3), (4, .int x4)] → ∀ (H : Heap) (locs : List Loc), va_P Z.1 vwCl (wH Z b h) H → va_D A (wH Z b h) → va_S A s.heap H locs → f_X6_unit_b34 h x1 x2 x3 x4 k34_0 = some R → W p l e { frames := 8, cells := 5, slots := 30, locals := 132 } s m ([.ref (b 0 0), .int x1, .int x2, .int x3, .int x4] : List Value).toArray below meth c H locs 0 0 (vx_MQ below (thQ Z R (fun (r : Int32 × (Nat → ObS)) => (some (.int r.1))) (fun (r : Int32 × (Nat → ObS)) _ => wH Z b r.2) A) (thC Z R (wH Z b h) A) ([.ref (b 0 0), .int x1, .int x2, .int x3, .int x4] : List Value).toArray s 5 30 A) (F0 m 34 ls [.int k34_0]) := by
    intro k34_0 ls hl H locs hP hD hS hf
    rw [f_X6_unit_b34] at hf
    refine lv_istore (pc := 34) (lv' := [(5, .int k34_0), (0, .ref (b 0 0)), (1, .int x1), (2, .int x2), (3, .int x3), (4, .int x4)]) hx hb dX6_unit_34 hl (by decide) rfl (fun ls hl => ?_)
    refine lv_aload_n (pc := 36) hx hb dX6_unit_36 rfl (lv_at hl 1 rfl) ?_
    refine lv_iload_n (pc := 37) hx hb dX6_unit_37 rfl (lv_at hl 3 rfl) ?_
    rcases tbd hf with ⟨k38, h_38, hf⟩ | ⟨r38, h_38, hf⟩
    · exact th_Vx (pc := 38) (C := RX6) (As := [.int x2]) (rest := []) ⟨hx, hb, hml, hown, hts⟩ (c_X6_needStreamForNewUnit Z l hst b h x2 (.inl k38) h_38) (cwV 1 hts gX6_unit_X6_needStreamForNewUnit rfl rfl rfl hv_X6_needStreamForNewUnit ⟨Nat.le_of_ble_eq_true rfl, Nat.le_of_ble_eq_true rfl⟩) hK hE hP hD hS hA hZ 6 rfl rfl rfl hl.1 rfl (lv_room (Nat.le_of_ble_eq_true rfl)) dX6_unit_38 ⟨Nat.le_of_ble_eq_true rfl, Nat.le_of_ble_eq_true rfl⟩ hno hlk (Nat.le_of_ble_eq_true rfl) (Nat.le_of_ble_eq_true rfl) hf
    · refine th_Vn (pc := 38) (C := RX6) (As := [.int x2]) (rest := []) (st1 := []) ⟨hx, hb, hml, hown, hts⟩ (c_X6_needStreamForNewUnit Z l hst b h x2 (.inr r38) h_38) (cwV 1 hts gX6_unit_X6_needStreamForNewUnit rfl rfl rfl hv_X6_needStreamForNewUnit ⟨Nat.le_of_ble_eq_true rfl, Nat.le_of_ble_eq_true rfl⟩) hK hE hP hD hS hA hZ 6 rfl rfl rfl hl.1 rfl (lv_room (Nat.le_of_ble_eq_true rfl)) dX6_unit_38 ⟨Nat.le_of_ble_eq_true rfl, Nat.le_of_ble_eq_true rfl⟩ rfl (fun _ H locs hP hD hS => ?_)
      refine lv_iload (pc := 41) hx hb dX6_unit_41 (lv_at hl 0 rfl) ?_
      refine lv_if_eq (pc := 43) (tgt := 51) hx hb dX6_unit_43 (by decide) (fun c1 => ?_) (fun c1 => ?_)
      · have hf := (if_pos c1).symm.trans hf
        refine W.widen (k := 2) (n := 12) (Nat.le_of_ble_eq_true rfl) (Nat.le_of_ble_eq_true rfl) ?_
        exact B51 k34_0 _ (lv_sub hl [1, 2, 3, 4, 5, 0] rfl) _ _ hP hD hS hf
      · have hf := (if_neg c1).symm.trans hf
        refine lv_aload_n (pc := 46) hx hb dX6_unit_46 rfl (lv_at hl 1 rfl) ?_
        refine lv_iload_n (pc := 47) hx hb dX6_unit_47 rfl (lv_at hl 4 rfl) ?_
        rcases tbd hf with ⟨k48, h_48, hf⟩ | ⟨r48, h_48, hf⟩
        · exact th_Vx (pc := 48) (C := RX6) (As := [.int x3]) (rest := []) ⟨hx, hb, hml, hown, hts⟩ (c_X6_needStreamForNewUnit Z l hst b h x3 (.inl k48) h_48) (cwV 1 hts gX6_unit_X6_needStreamForNewUnit rfl rfl rfl hv_X6_needStreamForNewUnit ⟨Nat.le_of_ble_eq_true rfl, Nat.le_of_ble_eq_true rfl⟩) hK hE hP hD hS hA hZ 6 rfl rfl rfl hl.1 rfl (lv_room (Nat.le_of_ble_eq_true rfl)) dX6_unit_48 ⟨Nat.le_of_ble_eq_true rfl, Nat.le_of_ble_eq_true rfl⟩ hno hlk (Nat.le_of_ble_eq_true rfl) (Nat.le_of_ble_eq_true rfl) hf
        · refine th_Vn (pc := 48) (C := RX6) (As := [.int x3]) (rest := []) (st1 := []) ⟨hx, hb, hml, hown, hts⟩ (c_X6_needStreamForNewUnit Z l hst b h x3 (.inr r48) h_48) (cwV 1 hts gX6_unit_X6_needStreamForNewUnit rfl rfl rfl hv_X6_needStreamForNewUnit ⟨Nat.le_of_ble_eq_true rfl, Nat.le_of_ble_eq_true rfl⟩) hK hE hP hD hS hA hZ 6 rfl rfl rfl hl.1 rfl (lv_room (Nat.le_of_ble_eq_true rfl)) dX6_unit_48 ⟨Nat.le_of_ble_eq_true rfl, Nat.le_of_ble_eq_true rfl⟩ rfl (fun _ H locs hP hD hS => ?_)
          exact B51 k34_0 _ (lv_sub hl [1, 2, 3, 4, 5, 0] rfl) _ _ hP hD hS hf
  have B29 : ∀ (ls : Array Slot), lv_has ls 6 [(0, .ref (b 0 0)), (1, .int x1), (2, .int x2), (3, .int x3), (4, .int x4)] → ∀ (H : Heap) (locs : List Loc), va_P Z.1 vwCl (wH Z b h) H → va_D A (wH Z b h) → va_S A s.heap H locs → f_X6_unit_b29 h x1 x2 x3 x4 = some R → W p l e { frames := 8, cells := 5, slots := 30, locals := 132 } s m ([.ref (b 0 0), .int x1, .int x2, .int x3, .int x4] : List Value).toArray below meth c H locs 0 0 (vx_MQ below (thQ Z R (fun (r : Int32 × (Nat → ObS)) => (some (.int r.1))) (fun (r : Int32 × (Nat → ObS)) _ => wH Z b r.2) A) (thC Z R (wH Z b h) A) ([.ref (b 0 0), .int x1, .int x2, .int x3, .int x4] : List Value).toArray s 5 30 A) (F0 m 29 ls []) := by
    intro ls hl H locs hP hD hS hf
    rw [f_X6_unit_b29] at hf
    refine lv_iconst (pc := 29) (v := 1) hx hb dX6_unit_29 (by decide) ?_
    refine lv_goto (pc := 30) (tgt := 34) hx hb dX6_unit_30 (by decide) ?_
    exact B34 1 _ (lv_sub hl [0, 1, 2, 3, 4] rfl) _ _ hP hD hS hf
  rw [f_X6_unit] at hf
  refine lv_iload_n (pc := 0) hx hb dX6_unit_0 rfl (lv_at hl 1 rfl) ?_
  refine lv_iconst (pc := 1) (v := 1) hx hb dX6_unit_1 (by decide) ?_
  refine lv_iconst (pc := 2) (v := 4) hx hb dX6_unit_2 (by decide) ?_
  refine ro_S (pc := 3) (As := [.int x1, .int 1, .int 4]) (rest := []) (st1 := [.int (f_X6_isOutside x1 1 4)]) ⟨hx, hb, hml, hown, hts⟩ (c_X6_isOutside Z l x1 1 4 _ rfl) (va_cwS 3 hts gX6_unit_X6_isOutside rfl rfl rfl hs_X6_isOutside ⟨Nat.le_of_ble_eq_true rfl, Nat.le_of_ble_eq_true rfl⟩) hK hE (hP.sub (ws' := []) [] rfl) rfl hl.1 rfl (lv_room (Nat.le_of_ble_eq_true rfl)) dX6_unit_3 ⟨Nat.le_of_ble_eq_true rfl, Nat.le_of_ble_eq_true rfl⟩ rfl ?_
  refine lv_if_eq (pc := 6) (tgt := 19) hx hb dX6_unit_6 (by decide) (fun c1 => ?_) (fun c1 => ?_)
  · have hf := (if_pos c1).symm.trans hf
    refine lv_iload_n (pc := 19) hx hb dX6_unit_19 rfl (lv_at hl 1 rfl) ?_
    refine lv_iconst (pc := 20) (v := 2) hx hb dX6_unit_20 (by decide) ?_
    refine lv_icmp_eq (pc := 21) (tgt := 29) hx hb dX6_unit_21 (by decide) (fun c2 => ?_) (fun c2 => ?_)
    · have hf := (if_pos c2).symm.trans hf
      exact B29 _ (lv_sub hl [0, 1, 2, 3, 4] rfl) _ _ hP hD hS hf
    · have hf := (if_neg c2).symm.trans hf
      refine lv_iload_n (pc := 24) hx hb dX6_unit_24 rfl (lv_at hl 1 rfl) ?_
      refine lv_iconst (pc := 25) (v := 3) hx hb dX6_unit_25 (by decide) ?_
      refine lv_icmp_ne (pc := 26) (tgt := 33) hx hb dX6_unit_26 (by decide) (fun c3 => ?_) (fun c3 => ?_)
      · have hf := (if_neg c3).symm.trans hf
        refine lv_iconst (pc := 33) (v := 0) hx hb dX6_unit_33 (by decide) ?_
        exact B34 0 _ (lv_sub hl [0, 1, 2, 3, 4] rfl) _ _ hP hD hS hf
      · have hf := (if_pos c3).symm.trans hf
        exact B29 _ (lv_sub hl [0, 1, 2, 3, 4] rfl) _ _ hP hD hS hf
  · have hf := (if_neg c1).symm.trans hf
    exact th_throw (pc := 9) (i := 1) (text := "kind is out of range") hx hb hst hown hno hlk thW_1 w0 w1 hE (by decide) rfl he1 hZ hS hP hD (hl.1.trans hml.symm) dX6_unit_9 dX6_unit_12 dX6_unit_13 dX6_unit_15 dX6_unit_18 (Nat.le_of_ble_eq_true rfl) (Nat.le_of_ble_eq_true rfl) (Nat.le_of_ble_eq_true rfl) (Nat.le_of_ble_eq_true rfl) (Nat.le_of_ble_eq_true rfl) (Nat.le_of_ble_eq_true rfl) (Option.some.inj hf).symm
def f_X6_back (h : Nat → ObS) (x1 : Int32) (x2 : Int32) : Option (Nat ⊕ (Int32 × (Nat → ObS))) :=
  tb (f_X6_needUnit h x1) fun r2 =>
  tb (f_X6_needStream h x2) fun r7 =>
  (f_X5_kindOf (h 3) x1).bind fun r15 =>
  if r15 = (0 : Int32) then
    some (.inl 2)
  else
    tb (f_X6_needFreeStream h x2) fun r33 =>
    tb (f_X6_needNoTickGone h) fun r37 =>
    (f_X5_takeInstead (h 3) x1 x2).bind fun r46 =>
    some (.inr (r46.1, (hu h 3 r46.2)))
set_option maxHeartbeats 4000000 in
set_option maxRecDepth 100000 in
theorem c_X6_back (Z : EnvT) (l : Launch) (hst : l.stackTraces = false) (b : Nat → Nat → Nat) (h : Nat → ObS) (x1 : Int32) (x2 : Int32) (R : Nat ⊕ (Int32 × (Nat → ObS))) (hf : f_X6_back h x1 x2 = some R) : TH Z l yX6_back wsX6_back { frames := 7, cells := 4, slots := 24, locals := 113 } [.ref (b 0 0), .int x1, .int x2] (wH Z b h) R (fun (r : Int32 × (Nat → ObS)) => (some (.int r.1))) (fun (r : Int32 × (Nat → ObS)) _ => wH Z b r.2) 4 24 := by
  refine th_of (cc := cX6_back) (maxL := 3) (ret := (some .int)) (by decide) rfl (Nat.le_of_ble_eq_true rfl) ?_
  intro p e s m below meth c A ls hx hb hr hml hts hown hlk hno hP hK hE hD hA hS hZ hl
  have hown : s.vm.findClass RX6 = some m.cls := hown
  have hl : lv_has ls 3 [(0, .ref (b 0 0)), (1, .int x1), (2, .int x2)] := hl
  have w0 := hts (.fieldLink RX6 22 "HeatTrain" "units" "LHeatTrain$Units;") (by decide +kernel)
  have w1 := hts (.classLink RX6 90 "java/lang/IllegalStateException") (by decide +kernel)
  have w2 := hts (.initialized "java/lang/IllegalStateException") (by decide +kernel)
  have u6 : ∀ w ∈ wsX60, w ∈ wsX6_back := by decide +kernel
  have he2 : ∀ w ∈ (vx_atS RX6 94 (exN 2) exS).filter goodWord, w.before _ s = true := fun w h => hts w ((show ∀ w ∈ (vx_atS RX6 94 (exN 2) exS).filter goodWord, w ∈ wsX6_back by decide +kernel) w h)
  rw [f_X6_back] at hf
  refine lv_aload_n (pc := 0) hx hb dX6_back_0 rfl (lv_at hl 0 rfl) ?_
  refine lv_iload_n (pc := 1) hx hb dX6_back_1 rfl (lv_at hl 1 rfl) ?_
  rcases tbd hf with ⟨k2, h_2, hf⟩ | ⟨r2, h_2, hf⟩
  · exact th_Vx (pc := 2) (C := RX6) (As := [.int x1]) (rest := []) ⟨hx, hb, hml, hown, hts⟩ (c_X6_needUnit Z l hst b h x1 (.inl k2) h_2) (cwV 1 hts gX6_back_X6_needUnit rfl rfl rfl hv_X6_needUnit ⟨Nat.le_of_ble_eq_true rfl, Nat.le_of_ble_eq_true rfl⟩) hK hE hP hD hS hA hZ 6 rfl rfl rfl hl.1 rfl (lv_room (Nat.le_of_ble_eq_true rfl)) dX6_back_2 ⟨Nat.le_of_ble_eq_true rfl, Nat.le_of_ble_eq_true rfl⟩ hno hlk (Nat.le_of_ble_eq_true rfl) (Nat.le_of_ble_eq_true rfl) hf
  · refine th_Vn (pc := 2) (C := RX6) (As := [.int x1]) (rest := []) (st1 := []) ⟨hx, hb, hml, hown, hts⟩ (c_X6_needUnit Z l hst b h x1 (.inr r2) h_2) (cwV 1 hts gX6_back_X6_needUnit rfl rfl rfl hv_X6_needUnit ⟨Nat.le_of_ble_eq_true rfl, Nat.le_of_ble_eq_true rfl⟩) hK hE hP hD hS hA hZ 6 rfl rfl rfl hl.1 rfl (lv_room (Nat.le_of_ble_eq_true rfl)) dX6_back_2 ⟨Nat.le_of_ble_eq_true rfl, Nat.le_of_ble_eq_true rfl⟩ rfl (fun _ H locs hP hD hS => ?_)
    refine lv_aload_n (pc := 5) hx hb dX6_back_5 rfl (lv_at hl 0 rfl) ?_
    refine lv_iload_n (pc := 6) hx hb dX6_back_6 rfl (lv_at hl 2 rfl) ?_
    rcases tbd hf with ⟨k7, h_7, hf⟩ | ⟨r7, h_7, hf⟩
    · exact th_Vx (pc := 7) (C := RX6) (As := [.int x2]) (rest := []) ⟨hx, hb, hml, hown, hts⟩ (c_X6_needStream Z l hst b h x2 (.inl k7) h_7) (cwV 1 hts gX6_back_X6_needStream rfl rfl rfl hv_X6_needStream ⟨Nat.le_of_ble_eq_true rfl, Nat.le_of_ble_eq_true rfl⟩) hK hE hP hD hS hA hZ 6 rfl rfl rfl hl.1 rfl (lv_room (Nat.le_of_ble_eq_true rfl)) dX6_back_7 ⟨Nat.le_of_ble_eq_true rfl, Nat.le_of_ble_eq_true rfl⟩ hno hlk (Nat.le_of_ble_eq_true rfl) (Nat.le_of_ble_eq_true rfl) hf
    · refine th_Vn (pc := 7) (C := RX6) (As := [.int x2]) (rest := []) (st1 := []) ⟨hx, hb, hml, hown, hts⟩ (c_X6_needStream Z l hst b h x2 (.inr r7) h_7) (cwV 1 hts gX6_back_X6_needStream rfl rfl rfl hv_X6_needStream ⟨Nat.le_of_ble_eq_true rfl, Nat.le_of_ble_eq_true rfl⟩) hK hE hP hD hS hA hZ 6 rfl rfl rfl hl.1 rfl (lv_room (Nat.le_of_ble_eq_true rfl)) dX6_back_7 ⟨Nat.le_of_ble_eq_true rfl, Nat.le_of_ble_eq_true rfl⟩ rfl (fun _ H locs hP hD hS => ?_)
      refine lv_aload_n (pc := 10) hx hb dX6_back_10 rfl (lv_at hl 0 rfl) ?_
      refine va_get (pc := 11) (D := Z.1) (ci := 6) (v := .ref (b 3 0)) (C := RX6) (T := TX6) (N := 9) hx hb hts u6 hown hK hP 0 rfl rfl 2 (by decide) w0 (fun _ h9 => h9) rfl dX6_back_11 ?_
      refine lv_iload_n (pc := 14) hx hb dX6_back_14 rfl (lv_at hl 1 rfl) ?_
      obtain ⟨r15, h_15, hf⟩ := bd hf
      refine ro_V (pc := 15) (C := RX5) (As := [.int x1]) (rest := []) (st1 := [.int r15]) ⟨hx, hb, hml, hown, hts⟩ (c_X5_kindOf Z l (b 3) (h 3) x1 r15 h_15) (cwV 1 hts gX6_back_X5_kindOf rfl rfl rfl hv_X5_kindOf ⟨Nat.le_of_ble_eq_true rfl, Nat.le_of_ble_eq_true rfl⟩) hK hE (hP.sub (ws' := wX5 Z (b 3) (h 3)) [7, 8, 9, 10, 11, 12, 13, 14, 15] rfl) 5 rfl rfl rfl hl.1 rfl (lv_room (Nat.le_of_ble_eq_true rfl)) dX6_back_15 ⟨Nat.le_of_ble_eq_true rfl, Nat.le_of_ble_eq_true rfl⟩ rfl ?_
      refine lv_if_ne (pc := 18) (tgt := 31) hx hb dX6_back_18 (by decide) (fun c1 => ?_) (fun c1 => ?_)
      · have hf := (if_neg c1).symm.trans hf
        refine lv_aload_n (pc := 31) hx hb dX6_back_31 rfl (lv_at hl 0 rfl) ?_
        refine lv_iload_n (pc := 32) hx hb dX6_back_32 rfl (lv_at hl 2 rfl) ?_
        rcases tbd hf with ⟨k33, h_33, hf⟩ | ⟨r33, h_33, hf⟩
        · exact th_Vx (pc := 33) (C := RX6) (As := [.int x2]) (rest := []) ⟨hx, hb, hml, hown, hts⟩ (c_X6_needFreeStream Z l hst b h x2 (.inl k33) h_33) (cwV 1 hts gX6_back_X6_needFreeStream rfl rfl rfl hv_X6_needFreeStream ⟨Nat.le_of_ble_eq_true rfl, Nat.le_of_ble_eq_true rfl⟩) hK hE hP hD hS hA hZ 6 rfl rfl rfl hl.1 rfl (lv_room (Nat.le_of_ble_eq_true rfl)) dX6_back_33 ⟨Nat.le_of_ble_eq_true rfl, Nat.le_of_ble_eq_true rfl⟩ hno hlk (Nat.le_of_ble_eq_true rfl) (Nat.le_of_ble_eq_true rfl) hf
        · refine th_Vn (pc := 33) (C := RX6) (As := [.int x2]) (rest := []) (st1 := []) ⟨hx, hb, hml, hown, hts⟩ (c_X6_needFreeStream Z l hst b h x2 (.inr r33) h_33) (cwV 1 hts gX6_back_X6_needFreeStream rfl rfl rfl hv_X6_needFreeStream ⟨Nat.le_of_ble_eq_true rfl, Nat.le_of_ble_eq_true rfl⟩) hK hE hP hD hS hA hZ 6 rfl rfl rfl hl.1 rfl (lv_room (Nat.le_of_ble_eq_true rfl)) dX6_back_33 ⟨Nat.le_of_ble_eq_true rfl, Nat.le_of_ble_eq_true rfl⟩ rfl (fun _ H locs hP hD hS => ?_)
          refine lv_aload_n (pc := 36) hx hb dX6_back_36 rfl (lv_at hl 0 rfl) ?_
          rcases tbd hf with ⟨k37, h_37, hf⟩ | ⟨r37, h_37, hf⟩
          · exact th_Vx (pc := 37) (C := RX6) (As := []) (rest := []) ⟨hx, hb, hml, hown, hts⟩ (c_X6_needNoTickGone Z l hst b h (.inl k37) h_37) (cwV 0 hts gX6_back_X6_needNoTickGone rfl rfl rfl hv_X6_needNoTickGone ⟨Nat.le_of_ble_eq_true rfl, Nat.le_of_ble_eq_true rfl⟩) hK hE hP hD hS hA hZ 6 rfl rfl rfl hl.1 rfl (lv_room (Nat.le_of_ble_eq_true rfl)) dX6_back_37 ⟨Nat.le_of_ble_eq_true rfl, Nat.le_of_ble_eq_true rfl⟩ hno hlk (Nat.le_of_ble_eq_true rfl) (Nat.le_of_ble_eq_true rfl) hf
          · refine th_Vn (pc := 37) (C := RX6) (As := []) (rest := []) (st1 := []) ⟨hx, hb, hml, hown, hts⟩ (c_X6_needNoTickGone Z l hst b h (.inr r37) h_37) (cwV 0 hts gX6_back_X6_needNoTickGone rfl rfl rfl hv_X6_needNoTickGone ⟨Nat.le_of_ble_eq_true rfl, Nat.le_of_ble_eq_true rfl⟩) hK hE hP hD hS hA hZ 6 rfl rfl rfl hl.1 rfl (lv_room (Nat.le_of_ble_eq_true rfl)) dX6_back_37 ⟨Nat.le_of_ble_eq_true rfl, Nat.le_of_ble_eq_true rfl⟩ rfl (fun _ H locs hP hD hS => ?_)
            refine lv_aload_n (pc := 40) hx hb dX6_back_40 rfl (lv_at hl 0 rfl) ?_
            refine va_get (pc := 41) (D := Z.1) (ci := 6) (v := .ref (b 3 0)) (C := RX6) (T := TX6) (N := 9) hx hb hts u6 hown hK hP 0 rfl rfl 2 (by decide) w0 (fun _ h9 => h9) rfl dX6_back_41 ?_
            refine lv_iload_n (pc := 44) hx hb dX6_back_44 rfl (lv_at hl 1 rfl) ?_
            refine lv_iload_n (pc := 45) hx hb dX6_back_45 rfl (lv_at hl 2 rfl) ?_
            obtain ⟨r46, h_46, hf⟩ := bd hf
            refine rw_V (pc := 46) (C := RX5) (As := [.int x1, .int x2]) (rest := []) (st1 := [.int r46.1]) (wn := fun _ => wH Z b (hu h 3 r46.2)) ⟨hx, hb, hml, hown, hts⟩ (c_X5_takeInstead Z l (b 3) (h 3) x1 x2 r46 h_46) (cwV 2 hts gX6_back_X5_takeInstead rfl rfl rfl hv_X5_takeInstead ⟨Nat.le_of_ble_eq_true rfl, Nat.le_of_ble_eq_true rfl⟩) hK hE hP hD hS hA [7, 8, 9, 10, 11, 12, 13, 14, 15] [0, 1, 2, 3, 4, 5, 6, 16, 17, 18, 19, 20, 21, 22, 23, 24, 25, 26, 27, 28, 29, 30, 31, 32, 33, 34, 35, 36, 37, 38, 39] [0, 1, 2, 3, 4, 5, 6, 31, 32, 33, 34, 35, 36, 37, 38, 39, 7, 8, 9, 10, 11, 12, 13, 14, 15, 16, 17, 18, 19, 20, 21, 22, 23, 24, 25, 26, 27, 28, 29, 30] rfl rfl rfl (fun _ => rfl) 5 rfl rfl rfl hl.1 rfl (lv_room (Nat.le_of_ble_eq_true rfl)) dX6_back_46 ⟨Nat.le_of_ble_eq_true rfl, Nat.le_of_ble_eq_true rfl⟩ rfl (fun _ H locs hP hD hS => ?_)
            have hf := (Option.some.inj hf).symm
            refine th_ret hf ?_
            exact rw_i (fun _ => 0) hx hb hr hlk rfl hP hD hS dX6_back_49
      · have hf := (if_pos c1).symm.trans hf
        exact th_throw (pc := 21) (i := 4) (text := "a source takes no stream") hx hb hst hown hno hlk thW_2 w1 w2 hE (by decide) rfl he2 hZ hS hP hD (hl.1.trans hml.symm) dX6_back_21 dX6_back_24 dX6_back_25 dX6_back_27 dX6_back_30 (Nat.le_of_ble_eq_true rfl) (Nat.le_of_ble_eq_true rfl) (Nat.le_of_ble_eq_true rfl) (Nat.le_of_ble_eq_true rfl) (Nat.le_of_ble_eq_true rfl) (Nat.le_of_ble_eq_true rfl) (Option.some.inj hf).symm
def f_X6_set (h : Nat → ObS) (x1 : Int32) (x2 : Int32) : Option (Nat ⊕ (Int32 × (Nat → ObS))) :=
  tb (f_X6_needUnit h x1) fun r2 =>
  tb (f_X6_needNumberOf h x1 x2) fun r8 =>
  (f_X5_numberOf (h 3) x1).bind fun r16 =>
  (f_X5_putNumber (h 3) x1 x2).bind fun r26 =>
  some (.inr (r16, (hu h 3 r26)))
set_option maxHeartbeats 4000000 in
set_option maxRecDepth 100000 in
theorem c_X6_set (Z : EnvT) (l : Launch) (hst : l.stackTraces = false) (b : Nat → Nat → Nat) (h : Nat → ObS) (x1 : Int32) (x2 : Int32) (R : Nat ⊕ (Int32 × (Nat → ObS))) (hf : f_X6_set h x1 x2 = some R) : TH Z l yX6_set wsX6_set { frames := 7, cells := 2, slots := 12, locals := 114 } [.ref (b 0 0), .int x1, .int x2] (wH Z b h) R (fun (r : Int32 × (Nat → ObS)) => (some (.int r.1))) (fun (r : Int32 × (Nat → ObS)) _ => wH Z b r.2) 2 12 := by
  refine th_of (cc := cX6_set) (maxL := 4) (ret := (some .int)) (by decide) rfl (Nat.le_of_ble_eq_true rfl) ?_
  intro p e s m below meth c A ls hx hb hr hml hts hown hlk hno hP hK hE hD hA hS hZ hl
  have hown : s.vm.findClass RX6 = some m.cls := hown
  have hl : lv_has ls 4 [(0, .ref (b 0 0)), (1, .int x1), (2, .int x2)] := hl
  have w0 := hts (.fieldLink RX6 22 "HeatTrain" "units" "LHeatTrain$Units;") (by decide +kernel)
  have u6 : ∀ w ∈ wsX60, w ∈ wsX6_set := by decide +kernel
  rw [f_X6_set] at hf
  refine lv_aload_n (pc := 0) hx hb dX6_set_0 rfl (lv_at hl 0 rfl) ?_
  refine lv_iload_n (pc := 1) hx hb dX6_set_1 rfl (lv_at hl 1 rfl) ?_
  rcases tbd hf with ⟨k2, h_2, hf⟩ | ⟨r2, h_2, hf⟩
  · exact th_Vx (pc := 2) (C := RX6) (As := [.int x1]) (rest := []) ⟨hx, hb, hml, hown, hts⟩ (c_X6_needUnit Z l hst b h x1 (.inl k2) h_2) (cwV 1 hts gX6_set_X6_needUnit rfl rfl rfl hv_X6_needUnit ⟨Nat.le_of_ble_eq_true rfl, Nat.le_of_ble_eq_true rfl⟩) hK hE hP hD hS hA hZ 6 rfl rfl rfl hl.1 rfl (lv_room (Nat.le_of_ble_eq_true rfl)) dX6_set_2 ⟨Nat.le_of_ble_eq_true rfl, Nat.le_of_ble_eq_true rfl⟩ hno hlk (Nat.le_of_ble_eq_true rfl) (Nat.le_of_ble_eq_true rfl) hf
  · refine th_Vn (pc := 2) (C := RX6) (As := [.int x1]) (rest := []) (st1 := []) ⟨hx, hb, hml, hown, hts⟩ (c_X6_needUnit Z l hst b h x1 (.inr r2) h_2) (cwV 1 hts gX6_set_X6_needUnit rfl rfl rfl hv_X6_needUnit ⟨Nat.le_of_ble_eq_true rfl, Nat.le_of_ble_eq_true rfl⟩) hK hE hP hD hS hA hZ 6 rfl rfl rfl hl.1 rfl (lv_room (Nat.le_of_ble_eq_true rfl)) dX6_set_2 ⟨Nat.le_of_ble_eq_true rfl, Nat.le_of_ble_eq_true rfl⟩ rfl (fun _ H locs hP hD hS => ?_)
    refine lv_aload_n (pc := 5) hx hb dX6_set_5 rfl (lv_at hl 0 rfl) ?_
    refine lv_iload_n (pc := 6) hx hb dX6_set_6 rfl (lv_at hl 1 rfl) ?_
    refine lv_iload_n (pc := 7) hx hb dX6_set_7 rfl (lv_at hl 2 rfl) ?_
    rcases tbd hf with ⟨k8, h_8, hf⟩ | ⟨r8, h_8, hf⟩
    · exact th_Vx (pc := 8) (C := RX6) (As := [.int x1, .int x2]) (rest := []) ⟨hx, hb, hml, hown, hts⟩ (c_X6_needNumberOf Z l hst b h x1 x2 (.inl k8) h_8) (cwV 2 hts gX6_set_X6_needNumberOf rfl rfl rfl hv_X6_needNumberOf ⟨Nat.le_of_ble_eq_true rfl, Nat.le_of_ble_eq_true rfl⟩) hK hE hP hD hS hA hZ 6 rfl rfl rfl hl.1 rfl (lv_room (Nat.le_of_ble_eq_true rfl)) dX6_set_8 ⟨Nat.le_of_ble_eq_true rfl, Nat.le_of_ble_eq_true rfl⟩ hno hlk (Nat.le_of_ble_eq_true rfl) (Nat.le_of_ble_eq_true rfl) hf
    · refine th_Vn (pc := 8) (C := RX6) (As := [.int x1, .int x2]) (rest := []) (st1 := []) ⟨hx, hb, hml, hown, hts⟩ (c_X6_needNumberOf Z l hst b h x1 x2 (.inr r8) h_8) (cwV 2 hts gX6_set_X6_needNumberOf rfl rfl rfl hv_X6_needNumberOf ⟨Nat.le_of_ble_eq_true rfl, Nat.le_of_ble_eq_true rfl⟩) hK hE hP hD hS hA hZ 6 rfl rfl rfl hl.1 rfl (lv_room (Nat.le_of_ble_eq_true rfl)) dX6_set_8 ⟨Nat.le_of_ble_eq_true rfl, Nat.le_of_ble_eq_true rfl⟩ rfl (fun _ H locs hP hD hS => ?_)
      refine lv_aload_n (pc := 11) hx hb dX6_set_11 rfl (lv_at hl 0 rfl) ?_
      refine va_get (pc := 12) (D := Z.1) (ci := 6) (v := .ref (b 3 0)) (C := RX6) (T := TX6) (N := 9) hx hb hts u6 hown hK hP 0 rfl rfl 2 (by decide) w0 (fun _ h9 => h9) rfl dX6_set_12 ?_
      refine lv_iload_n (pc := 15) hx hb dX6_set_15 rfl (lv_at hl 1 rfl) ?_
      obtain ⟨r16, h_16, hf⟩ := bd hf
      refine ro_V (pc := 16) (C := RX5) (As := [.int x1]) (rest := []) (st1 := [.int r16]) ⟨hx, hb, hml, hown, hts⟩ (c_X5_numberOf Z l (b 3) (h 3) x1 r16 h_16) (cwV 1 hts gX6_set_X5_numberOf rfl rfl rfl hv_X5_numberOf ⟨Nat.le_of_ble_eq_true rfl, Nat.le_of_ble_eq_true rfl⟩) hK hE (hP.sub (ws' := wX5 Z (b 3) (h 3)) [7, 8, 9, 10, 11, 12, 13, 14, 15] rfl) 5 rfl rfl rfl hl.1 rfl (lv_room (Nat.le_of_ble_eq_true rfl)) dX6_set_16 ⟨Nat.le_of_ble_eq_true rfl, Nat.le_of_ble_eq_true rfl⟩ rfl ?_
      refine lv_istore_n (pc := 19) (lv' := [(3, .int r16), (0, .ref (b 0 0)), (1, .int x1), (2, .int x2)]) hx hb dX6_set_19 rfl hl (by decide) rfl (fun ls hl => ?_)
      refine lv_aload_n (pc := 20) hx hb dX6_set_20 rfl (lv_at hl 1 rfl) ?_
      refine va_get (pc := 21) (D := Z.1) (ci := 6) (v := .ref (b 3 0)) (C := RX6) (T := TX6) (N := 9) hx hb hts u6 hown hK hP 0 rfl rfl 2 (by decide) w0 (fun _ h9 => h9) rfl dX6_set_21 ?_
      refine lv_iload_n (pc := 24) hx hb dX6_set_24 rfl (lv_at hl 2 rfl) ?_
      refine lv_iload_n (pc := 25) hx hb dX6_set_25 rfl (lv_at hl 3 rfl) ?_
      obtain ⟨r26, h_26, hf⟩ := bd hf
      refine rw_V (pc := 26) (C := RX5) (As := [.int x1, .int x2]) (rest := []) (st1 := []) (wn := fun _ => wH Z b (hu h 3 r26)) ⟨hx, hb, hml, hown, hts⟩ (c_X5_putNumber Z l (b 3) (h 3) x1 x2 r26 h_26) (cwV 2 hts gX6_set_X5_putNumber rfl rfl rfl hv_X5_putNumber ⟨Nat.le_of_ble_eq_true rfl, Nat.le_of_ble_eq_true rfl⟩) hK hE hP hD hS hA [7, 8, 9, 10, 11, 12, 13, 14, 15] [0, 1, 2, 3, 4, 5, 6, 16, 17, 18, 19, 20, 21, 22, 23, 24, 25, 26, 27, 28, 29, 30, 31, 32, 33, 34, 35, 36, 37, 38, 39] [0, 1, 2, 3, 4, 5, 6, 31, 32, 33, 34, 35, 36, 37, 38, 39, 7, 8, 9, 10, 11, 12, 13, 14, 15, 16, 17, 18, 19, 20, 21, 22, 23, 24, 25, 26, 27, 28, 29, 30] rfl rfl rfl (fun _ => rfl) 5 rfl rfl rfl hl.1 rfl (lv_room (Nat.le_of_ble_eq_true rfl)) dX6_set_26 ⟨Nat.le_of_ble_eq_true rfl, Nat.le_of_ble_eq_true rfl⟩ rfl (fun _ H locs hP hD hS => ?_)
      refine lv_iload_n (pc := 29) hx hb dX6_set_29 rfl (lv_at hl 0 rfl) ?_
      have hf := (Option.some.inj hf).symm
      refine th_ret hf ?_
      exact rw_i (fun _ => 0) hx hb hr hlk rfl hP hD hS dX6_set_30
def f_X6_disturb (h : Nat → ObS) (x1 : Int32) (x2 : Int32) (x3 : Int32) : Option (Nat ⊕ (Int32 × (Nat → ObS))) :=
  tb (f_X6_needUnit h x2) fun r2 =>
  if (f_X6_isOutside x1 (((h 0).1 7 0) + 1) 300) = (0 : Int32) then
    tb (f_X6_needNumberOf h x2 x3) fun r34 =>
    if (f_X2_toCome (h 6)) < 40 then
      (f_X2_add (h 6) x1 x2 x3).bind fun r66 =>
      some (.inr ((f_X2_toCome r66), (hu h 6 r66)))
    else
      some (.inl 2)
  else
    some (.inl 1)
set_option maxHeartbeats 4000000 in
set_option maxRecDepth 100000 in
theorem c_X6_disturb (Z : EnvT) (l : Launch) (hst : l.stackTraces = false) (b : Nat → Nat → Nat) (h : Nat → ObS) (x1 : Int32) (x2 : Int32) (x3 : Int32) (R : Nat ⊕ (Int32 × (Nat → ObS))) (hf : f_X6_disturb h x1 x2 x3 = some R) : TH Z l yX6_disturb wsX6_disturb { frames := 7, cells := 3, slots := 18, locals := 114 } [.ref (b 0 0), .int x1, .int x2, .int x3] (wH Z b h) R (fun (r : Int32 × (Nat → ObS)) => (some (.int r.1))) (fun (r : Int32 × (Nat → ObS)) _ => wH Z b r.2) 3 18 := by
  refine th_of (cc := cX6_disturb) (maxL := 4) (ret := (some .int)) (by decide) rfl (Nat.le_of_ble_eq_true rfl) ?_
  intro p e s m below meth c A ls hx hb hr hml hts hown hlk hno hP hK hE hD hA hS hZ hl
  have hown : s.vm.findClass RX6 = some m.cls := hown
  have hl : lv_has ls 4 [(0, .ref (b 0 0)), (1, .int x1), (2, .int x2), (3, .int x3)] := hl
  have w0 := hts (.fieldLink RX6 54 "HeatTrain" "ticksGone" "I") (by decide +kernel)
  have w1 := hts (.fieldLink RX6 43 "HeatTrain" "script" "LHeatTrain$Script;") (by decide +kernel)
  have w2 := hts (.classLink RX6 90 "java/lang/IllegalStateException") (by decide +kernel)
  have w3 := hts (.initialized "java/lang/IllegalStateException") (by decide +kernel)
  have w4 := hts (.classLink RX6 66 "java/lang/IllegalArgumentException") (by decide +kernel)
  have w5 := hts (.initialized "java/lang/IllegalArgumentException") (by decide +kernel)
  have u6 : ∀ w ∈ wsX60, w ∈ wsX6_disturb := by decide +kernel
  have he1 : ∀ w ∈ (vx_atS RX6 70 (exN 1) exS).filter goodWord, w.before _ s = true := fun w h => hts w ((show ∀ w ∈ (vx_atS RX6 70 (exN 1) exS).filter goodWord, w ∈ wsX6_disturb by decide +kernel) w h)
  have he2 : ∀ w ∈ (vx_atS RX6 94 (exN 2) exS).filter goodWord, w.before _ s = true := fun w h => hts w ((show ∀ w ∈ (vx_atS RX6 94 (exN 2) exS).filter goodWord, w ∈ wsX6_disturb by decide +kernel) w h)
  rw [f_X6_disturb] at hf
  refine lv_aload_n (pc := 0) hx hb dX6_disturb_0 rfl (lv_at hl 0 rfl) ?_
  refine lv_iload_n (pc := 1) hx hb dX6_disturb_1 rfl (lv_at hl 2 rfl) ?_
  rcases tbd hf with ⟨k2, h_2, hf⟩ | ⟨r2, h_2, hf⟩
  · exact th_Vx (pc := 2) (C := RX6) (As := [.int x2]) (rest := []) ⟨hx, hb, hml, hown, hts⟩ (c_X6_needUnit Z l hst b h x2 (.inl k2) h_2) (cwV 1 hts gX6_disturb_X6_needUnit rfl rfl rfl hv_X6_needUnit ⟨Nat.le_of_ble_eq_true rfl, Nat.le_of_ble_eq_true rfl⟩) hK hE hP hD hS hA hZ 6 rfl rfl rfl hl.1 rfl (lv_room (Nat.le_of_ble_eq_true rfl)) dX6_disturb_2 ⟨Nat.le_of_ble_eq_true rfl, Nat.le_of_ble_eq_true rfl⟩ hno hlk (Nat.le_of_ble_eq_true rfl) (Nat.le_of_ble_eq_true rfl) hf
  · refine th_Vn (pc := 2) (C := RX6) (As := [.int x2]) (rest := []) (st1 := []) ⟨hx, hb, hml, hown, hts⟩ (c_X6_needUnit Z l hst b h x2 (.inr r2) h_2) (cwV 1 hts gX6_disturb_X6_needUnit rfl rfl rfl hv_X6_needUnit ⟨Nat.le_of_ble_eq_true rfl, Nat.le_of_ble_eq_true rfl⟩) hK hE hP hD hS hA hZ 6 rfl rfl rfl hl.1 rfl (lv_room (Nat.le_of_ble_eq_true rfl)) dX6_disturb_2 ⟨Nat.le_of_ble_eq_true rfl, Nat.le_of_ble_eq_true rfl⟩ rfl (fun _ H locs hP hD hS => ?_)
    refine lv_iload_n (pc := 5) hx hb dX6_disturb_5 rfl (lv_at hl 1 rfl) ?_
    refine lv_aload_n (pc := 6) hx hb dX6_disturb_6 rfl (lv_at hl 0 rfl) ?_
    refine va_get (pc := 7) (D := Z.1) (ci := 6) (v := .int ((h 0).1 7 0)) (C := RX6) (T := TX6) (N := 9) hx hb hts u6 hown hK hP 0 rfl rfl 7 (by decide) w0 (fun _ h9 => h9) rfl dX6_disturb_7 ?_
    refine lv_iconst (pc := 10) (v := 1) hx hb dX6_disturb_10 (by decide) ?_
    refine lv_iadd (pc := 11) hx hb dX6_disturb_11 ?_
    refine lv_sipush (pc := 12) (v := 300) hx hb dX6_disturb_12 (by decide) ?_
    refine ro_S (pc := 15) (As := [.int x1, .int (((h 0).1 7 0) + 1), .int 300]) (rest := []) (st1 := [.int (f_X6_isOutside x1 (((h 0).1 7 0) + 1) 300)]) ⟨hx, hb, hml, hown, hts⟩ (c_X6_isOutside Z l x1 (((h 0).1 7 0) + 1) 300 _ rfl) (va_cwS 3 hts gX6_disturb_X6_isOutside rfl rfl rfl hs_X6_isOutside ⟨Nat.le_of_ble_eq_true rfl, Nat.le_of_ble_eq_true rfl⟩) hK hE (hP.sub (ws' := []) [] rfl) rfl hl.1 rfl (lv_room (Nat.le_of_ble_eq_true rfl)) dX6_disturb_15 ⟨Nat.le_of_ble_eq_true rfl, Nat.le_of_ble_eq_true rfl⟩ rfl ?_
    refine lv_if_eq (pc := 18) (tgt := 31) hx hb dX6_disturb_18 (by decide) (fun c1 => ?_) (fun c1 => ?_)
    · have hf := (if_pos c1).symm.trans hf
      refine lv_aload_n (pc := 31) hx hb dX6_disturb_31 rfl (lv_at hl 0 rfl) ?_
      refine lv_iload_n (pc := 32) hx hb dX6_disturb_32 rfl (lv_at hl 2 rfl) ?_
      refine lv_iload_n (pc := 33) hx hb dX6_disturb_33 rfl (lv_at hl 3 rfl) ?_
      rcases tbd hf with ⟨k34, h_34, hf⟩ | ⟨r34, h_34, hf⟩
      · exact th_Vx (pc := 34) (C := RX6) (As := [.int x2, .int x3]) (rest := []) ⟨hx, hb, hml, hown, hts⟩ (c_X6_needNumberOf Z l hst b h x2 x3 (.inl k34) h_34) (cwV 2 hts gX6_disturb_X6_needNumberOf rfl rfl rfl hv_X6_needNumberOf ⟨Nat.le_of_ble_eq_true rfl, Nat.le_of_ble_eq_true rfl⟩) hK hE hP hD hS hA hZ 6 rfl rfl rfl hl.1 rfl (lv_room (Nat.le_of_ble_eq_true rfl)) dX6_disturb_34 ⟨Nat.le_of_ble_eq_true rfl, Nat.le_of_ble_eq_true rfl⟩ hno hlk (Nat.le_of_ble_eq_true rfl) (Nat.le_of_ble_eq_true rfl) hf
      · refine th_Vn (pc := 34) (C := RX6) (As := [.int x2, .int x3]) (rest := []) (st1 := []) ⟨hx, hb, hml, hown, hts⟩ (c_X6_needNumberOf Z l hst b h x2 x3 (.inr r34) h_34) (cwV 2 hts gX6_disturb_X6_needNumberOf rfl rfl rfl hv_X6_needNumberOf ⟨Nat.le_of_ble_eq_true rfl, Nat.le_of_ble_eq_true rfl⟩) hK hE hP hD hS hA hZ 6 rfl rfl rfl hl.1 rfl (lv_room (Nat.le_of_ble_eq_true rfl)) dX6_disturb_34 ⟨Nat.le_of_ble_eq_true rfl, Nat.le_of_ble_eq_true rfl⟩ rfl (fun _ H locs hP hD hS => ?_)
        refine lv_aload_n (pc := 37) hx hb dX6_disturb_37 rfl (lv_at hl 0 rfl) ?_
        refine va_get (pc := 38) (D := Z.1) (ci := 6) (v := .ref (b 6 0)) (C := RX6) (T := TX6) (N := 9) hx hb hts u6 hown hK hP 0 rfl rfl 5 (by decide) w1 (fun _ h9 => h9) rfl dX6_disturb_38 ?_
        refine ro_V (pc := 41) (C := RX2) (As := []) (rest := []) (st1 := [.int (f_X2_toCome (h 6))]) ⟨hx, hb, hml, hown, hts⟩ (c_X2_toCome Z l (b 6) (h 6) _ rfl) (cwV 0 hts gX6_disturb_X2_toCome rfl rfl rfl hv_X2_toCome ⟨Nat.le_of_ble_eq_true rfl, Nat.le_of_ble_eq_true rfl⟩) hK hE (hP.sub (ws' := wX2 Z (b 6) (h 6)) [34, 35, 36, 37] rfl) 2 rfl rfl rfl hl.1 rfl (lv_room (Nat.le_of_ble_eq_true rfl)) dX6_disturb_41 ⟨Nat.le_of_ble_eq_true rfl, Nat.le_of_ble_eq_true rfl⟩ rfl ?_
        refine lv_bipush (pc := 44) (v := 40) hx hb dX6_disturb_44 (by decide) ?_
        refine lv_icmp_lt (pc := 46) (tgt := 59) hx hb dX6_disturb_46 (by decide) (fun c2 => ?_) (fun c2 => ?_)
        · have hf := (if_pos c2).symm.trans hf
          refine lv_aload_n (pc := 59) hx hb dX6_disturb_59 rfl (lv_at hl 0 rfl) ?_
          refine va_get (pc := 60) (D := Z.1) (ci := 6) (v := .ref (b 6 0)) (C := RX6) (T := TX6) (N := 9) hx hb hts u6 hown hK hP 0 rfl rfl 5 (by decide) w1 (fun _ h9 => h9) rfl dX6_disturb_60 ?_
          refine lv_iload_n (pc := 63) hx hb dX6_disturb_63 rfl (lv_at hl 1 rfl) ?_
          refine lv_iload_n (pc := 64) hx hb dX6_disturb_64 rfl (lv_at hl 2 rfl) ?_
          refine lv_iload_n (pc := 65) hx hb dX6_disturb_65 rfl (lv_at hl 3 rfl) ?_
          obtain ⟨r66, h_66, hf⟩ := bd hf
          refine rw_V (pc := 66) (C := RX2) (As := [.int x1, .int x2, .int x3]) (rest := []) (st1 := []) (wn := fun _ => wH Z b (hu h 6 r66)) ⟨hx, hb, hml, hown, hts⟩ (c_X2_add Z l (b 6) (h 6) x1 x2 x3 r66 h_66) (cwV 3 hts gX6_disturb_X2_add rfl rfl rfl hv_X2_add ⟨Nat.le_of_ble_eq_true rfl, Nat.le_of_ble_eq_true rfl⟩) hK hE hP hD hS hA [34, 35, 36, 37] [0, 1, 2, 3, 4, 5, 6, 7, 8, 9, 10, 11, 12, 13, 14, 15, 16, 17, 18, 19, 20, 21, 22, 23, 24, 25, 26, 27, 28, 29, 30, 31, 32, 33, 38, 39] [0, 1, 2, 3, 4, 5, 6, 7, 8, 9, 10, 11, 12, 13, 14, 15, 16, 17, 18, 19, 20, 21, 22, 23, 24, 25, 26, 27, 28, 29, 30, 31, 32, 33, 36, 37, 38, 39, 34, 35] rfl rfl rfl (fun _ => rfl) 2 rfl rfl rfl hl.1 rfl (lv_room (Nat.le_of_ble_eq_true rfl)) dX6_disturb_66 ⟨Nat.le_of_ble_eq_true rfl, Nat.le_of_ble_eq_true rfl⟩ rfl (fun _ H locs hP hD hS => ?_)
          refine lv_aload_n (pc := 69) hx hb dX6_disturb_69 rfl (lv_at hl 0 rfl) ?_
          refine va_get (pc := 70) (D := Z.1) (ci := 6) (v := .ref (b 6 0)) (C := RX6) (T := TX6) (N := 9) hx hb hts u6 hown hK hP 0 rfl rfl 5 (by decide) w1 (fun _ h9 => h9) rfl dX6_disturb_70 ?_
          refine ro_V (pc := 73) (C := RX2) (As := []) (rest := []) (st1 := [.int (f_X2_toCome r66)]) ⟨hx, hb, hml, hown, hts⟩ (c_X2_toCome Z l (b 6) r66 _ rfl) (cwV 0 hts gX6_disturb_X2_toCome rfl rfl rfl hv_X2_toCome ⟨Nat.le_of_ble_eq_true rfl, Nat.le_of_ble_eq_true rfl⟩) hK hE (hP.sub (ws' := wX2 Z (b 6) r66) [34, 35, 36, 37] rfl) 2 rfl rfl rfl hl.1 rfl (lv_room (Nat.le_of_ble_eq_true rfl)) dX6_disturb_73 ⟨Nat.le_of_ble_eq_true rfl, Nat.le_of_ble_eq_true rfl⟩ rfl ?_
          have hf := (Option.some.inj hf).symm
          refine W.widen (k := 3) (n := 18) (Nat.le_of_ble_eq_true rfl) (Nat.le_of_ble_eq_true rfl) ?_
          refine th_ret hf ?_
          exact rw_i (fun _ => 0) hx hb hr hlk rfl hP hD hS dX6_disturb_76
        · have hf := (if_neg c2).symm.trans hf
          exact th_throw (pc := 49) (i := 6) (text := "40 disturbances are to come") hx hb hst hown hno hlk thW_2 w2 w3 hE (by decide) rfl he2 hZ hS hP hD (hl.1.trans hml.symm) dX6_disturb_49 dX6_disturb_52 dX6_disturb_53 dX6_disturb_55 dX6_disturb_58 (Nat.le_of_ble_eq_true rfl) (Nat.le_of_ble_eq_true rfl) (Nat.le_of_ble_eq_true rfl) (Nat.le_of_ble_eq_true rfl) (Nat.le_of_ble_eq_true rfl) (Nat.le_of_ble_eq_true rfl) (Option.some.inj hf).symm
    · have hf := (if_neg c1).symm.trans hf
      exact th_throw (pc := 21) (i := 5) (text := "tick is not a later one, to 300") hx hb hst hown hno hlk thW_1 w4 w5 hE (by decide) rfl he1 hZ hS hP hD (hl.1.trans hml.symm) dX6_disturb_21 dX6_disturb_24 dX6_disturb_25 dX6_disturb_27 dX6_disturb_30 (Nat.le_of_ble_eq_true rfl) (Nat.le_of_ble_eq_true rfl) (Nat.le_of_ble_eq_true rfl) (Nat.le_of_ble_eq_true rfl) (Nat.le_of_ble_eq_true rfl) (Nat.le_of_ble_eq_true rfl) (Option.some.inj hf).symm
