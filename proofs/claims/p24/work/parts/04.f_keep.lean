def f_X4_keep_b19 (o1 : ObS) (x1 : Int32) : Nat → ObS → Int32 → Option (ObS)
  | 0, _, _ => none
  | n + 1, o19_0, v19_3 =>
  if 24 ≤ v19_3 then
    some (o19_0)
  else
    if (f_X4_isKept o19_0 (f_X4_placeOf v19_3 x1)) = (0 : Int32) then
      f_X4_keep_b19 o1 x1 n o19_0 (v19_3 + 1)
    else
      (f_X3_warmthOf o1 v19_3).bind fun r49 =>
      if inb (f_X4_placeOf v19_3 x1) ((o19_0.1 1 0).toNatClampNeg) then
      (some (oi o19_0 0 ((f_X4_placeOf v19_3 x1)).toNatClampNeg r49.toInt32)).bind fun s53 =>
      f_X4_keep_b19 o1 x1 n s53 (v19_3 + 1)
      else none
def f_X4_keep (o0 : ObS) (o1 : ObS) (x1 : Int32) : Option (ObS) :=
  if (Int32.ofNat ((o0.1 1 0).toNatClampNeg)) = (0 : Int32) then
    f_X4_keep_b19 o1 x1 64 (tn_new o0) 0
  else
    f_X4_keep_b19 o1 x1 64 o0 0
set_option maxHeartbeats 4000000 in
set_option maxRecDepth 100000 in
theorem c_X4_keep_new (Z : EnvT) (l : Launch) (a0 : Nat → Nat) (o0 : ObS) (a1 : Nat → Nat) (o1 : ObS) (x1 : Int32) (R : ObS) (hf : f_X4_keep o0 o1 x1 = some R) (hc : tnz o0) : RW Z l yX4_keep wsX4_keep { frames := 2, cells := 1, slots := 7200, locals := 41 } [.ref (a0 0), .ref (a1 0), .int x1] (wX4 Z a0 o0 ++ wX3 Z a1 o1) none (fun q => wX4 Z (ad1 a0 q) R ++ wX3 Z a1 o1) 1 7200 := by
  refine rw_of (cc := cX4_keep) (maxL := 5) (ret := none) (by decide) rfl (Nat.le_of_ble_eq_true rfl) ?_
  intro p e s m below meth c A ls hx hb hr hml hts hown hlk hin hP hK hE hD hA hS hl
  have hown : s.vm.findClass RX4 = some m.cls := hown
  have hl : lv_has ls 5 [(0, .ref (a0 0)), (1, .ref (a1 0)), (2, .int x1)] := hl
  have w0 := hts (.fieldLink RX4 9 "HeatTrain$Trends" "warmth" "[I") (by decide +kernel)
  have w1 := hts (.arrayClass .int) (by decide +kernel)
  have u4 : ∀ w ∈ wsX40, w ∈ wsX4_keep := by decide +kernel
  have B19 : ∀ (n : Nat), ∀ (o19_0 : ObS) (v19_3 : Int32) (q19 : Nat → Nat) (ls : Array Slot), lv_has ls 5 [(0, .ref (a0 0)), (1, .ref (a1 0)), (2, .int x1), (3, .int v19_3)] → ∀ (H : Heap) (locs : List Loc), va_P Z.1 vwCl (wX4 Z (ad1 a0 q19) o19_0 ++ wX3 Z a1 o1) H → va_D A (wX4 Z (ad1 a0 q19) o19_0 ++ wX3 Z a1 o1) → va_S A s.heap H locs → f_X4_keep_b19 o1 x1 n o19_0 v19_3 = some R → W p l e { frames := 2, cells := 1, slots := 7200, locals := 41 } s m ([.ref (a0 0), .ref (a1 0), .int x1] : List Value).toArray below meth c H locs 1 7200 (MQ below (rwQ Z none (fun q => wX4 Z (ad1 a0 q) R ++ wX3 Z a1 o1) A) ([.ref (a0 0), .ref (a1 0), .int x1] : List Value).toArray s 1 7200 A) (F0 m 19 ls []) := by
    intro n
    induction n with
    | zero => intro o19_0 v19_3 q19 ls hl H locs hP hD hS hf; rw [f_X4_keep_b19] at hf; exact nomatch hf
    | succ n ih =>
      intro o19_0 v19_3 q19 ls hl H locs hP hD hS hf
      rw [f_X4_keep_b19] at hf
      refine lv_iload_n (pc := 19) hx hb dX4_keep_19 rfl (lv_at hl 3 rfl) ?_
      refine lv_bipush (pc := 20) (v := 24) hx hb dX4_keep_20 (by decide) ?_
      refine lv_icmp_ge (pc := 22) (tgt := 60) hx hb dX4_keep_22 (by decide) (fun c1 => ?_) (fun c1 => ?_)
      · have hf := (if_pos c1).symm.trans hf
        have hf := (Option.some.inj hf)
        subst hf
        exact rw_v q19 hx hb hr hlk hP hD hS dX4_keep_60
      · have hf := (if_neg c1).symm.trans hf
        refine lv_iload_n (pc := 25) hx hb dX4_keep_25 rfl (lv_at hl 3 rfl) ?_
        refine lv_iload_n (pc := 26) hx hb dX4_keep_26 rfl (lv_at hl 2 rfl) ?_
        refine ro_S (pc := 27) (As := [.int v19_3, .int x1]) (rest := []) (st1 := [.int (f_X4_placeOf v19_3 x1)]) ⟨hx, hb, hml, hown, hts⟩ (c_X4_placeOf Z l v19_3 x1 _ rfl) (va_cwS 2 hts gX4_keep_X4_placeOf rfl rfl rfl hs_X4_placeOf ⟨Nat.le_of_ble_eq_true rfl, Nat.le_of_ble_eq_true rfl⟩) hK hE (hP.sub (ws' := []) [] rfl) rfl hl.1 rfl (lv_room (Nat.le_of_ble_eq_true rfl)) dX4_keep_27 ⟨Nat.le_of_ble_eq_true rfl, Nat.le_of_ble_eq_true rfl⟩ rfl ?_
        refine lv_istore (pc := 30) (lv' := [(4, .int (f_X4_placeOf v19_3 x1)), (0, .ref (a0 0)), (1, .ref (a1 0)), (2, .int x1), (3, .int v19_3)]) hx hb dX4_keep_30 hl (by decide) rfl (fun ls hl => ?_)
        refine lv_aload_n (pc := 32) hx hb dX4_keep_32 rfl (lv_at hl 1 rfl) ?_
        refine lv_iload (pc := 33) hx hb dX4_keep_33 (lv_at hl 0 rfl) ?_
        refine ro_V (pc := 35) (C := RX4) (As := [.int (f_X4_placeOf v19_3 x1)]) (rest := []) (st1 := [.int (f_X4_isKept o19_0 (f_X4_placeOf v19_3 x1))]) ⟨hx, hb, hml, hown, hts⟩ (c_X4_isKept Z l (ad1 a0 q19) o19_0 (f_X4_placeOf v19_3 x1) _ rfl) (cwV 1 hts gX4_keep_X4_isKept rfl rfl rfl hv_X4_isKept ⟨Nat.le_of_ble_eq_true rfl, Nat.le_of_ble_eq_true rfl⟩) hK hE (hP.sub (ws' := wX4 Z (ad1 a0 q19) o19_0) [0, 1] rfl) 4 rfl rfl rfl hl.1 rfl (lv_room (Nat.le_of_ble_eq_true rfl)) dX4_keep_35 ⟨Nat.le_of_ble_eq_true rfl, Nat.le_of_ble_eq_true rfl⟩ rfl ?_
        refine lv_if_eq (pc := 38) (tgt := 54) hx hb dX4_keep_38 (by decide) (fun c2 => ?_) (fun c2 => ?_)
        · have hf := (if_pos c2).symm.trans hf
          refine lv_iinc (pc := 54) (v := v19_3 + 1) (lv' := [(3, .int (v19_3 + 1)), (4, .int (f_X4_placeOf v19_3 x1)), (0, .ref (a0 0)), (1, .ref (a1 0)), (2, .int x1)]) hx hb dX4_keep_54 hl (k := 4) rfl rfl (by decide) rfl (fun ls hl => ?_)
          refine lv_goto (pc := 57) (tgt := 19) hx hb dX4_keep_57 (by decide) ?_
          exact ih o19_0 (v19_3 + 1) q19 _ (lv_sub hl [2, 3, 4, 0] rfl) _ _ hP hD hS hf
        · have hf := (if_neg c2).symm.trans hf
          refine lv_aload_n (pc := 41) hx hb dX4_keep_41 rfl (lv_at hl 1 rfl) ?_
          refine va_get (pc := 42) (D := Z.1) (ci := 4) (v := .ref (ad1 a0 q19 1)) (C := RX4) (T := TX4) (N := 1) hx hb hts u4 hown hK hP 0 rfl rfl 0 (by decide) w0 (fun _ h9 => h9) rfl dX4_keep_42 ?_
          refine lv_iload (pc := 45) hx hb dX4_keep_45 (lv_at hl 0 rfl) ?_
          refine lv_aload_n (pc := 47) hx hb dX4_keep_47 rfl (lv_at hl 2 rfl) ?_
          refine lv_iload_n (pc := 48) hx hb dX4_keep_48 rfl (lv_at hl 4 rfl) ?_
          obtain ⟨r49, h_49, hf⟩ := bd hf
          refine ro_V (pc := 49) (C := RX3) (As := [.int v19_3]) (rest := [.int (f_X4_placeOf v19_3 x1), .ref (ad1 a0 q19 1)]) (st1 := [.long r49, .int (f_X4_placeOf v19_3 x1), .ref (ad1 a0 q19 1)]) ⟨hx, hb, hml, hown, hts⟩ (c_X3_warmthOf Z l a1 o1 v19_3 r49 h_49) (cwV 1 hts gX4_keep_X3_warmthOf rfl rfl rfl hv_X3_warmthOf ⟨Nat.le_of_ble_eq_true rfl, Nat.le_of_ble_eq_true rfl⟩) hK hE (hP.sub (ws' := wX3 Z a1 o1) [2, 3, 4] rfl) 3 rfl rfl rfl hl.1 rfl (lv_room (Nat.le_of_ble_eq_true rfl)) dX4_keep_49 ⟨Nat.le_of_ble_eq_true rfl, Nat.le_of_ble_eq_true rfl⟩ rfl ?_
          refine lv_l2i (pc := 52) (v := r49.toInt32) hx hb dX4_keep_52 rfl ?_
          obtain ⟨g53, hf⟩ := gd hf
          refine va_iast (pc := 53) (D := Z.1) (n := ((o19_0.1 1 0).toNatClampNeg)) (f := o19_0.1 0) hx hb hK hP hD hS 1 0 rfl rfl (inb_in g53) dX4_keep_53 (fun H locs hP hD hS => ?_)
          obtain ⟨s53, h_53, hf⟩ := bd hf
          have hP : va_P Z.1 vwCl (wX4 Z (ad1 a0 q19) s53 ++ wX3 Z a1 o1) H := st_P (f := fun z => wX4 Z (ad1 a0 q19) z ++ wX3 Z a1 o1) h_53 hP
          have hD : va_D A (wX4 Z (ad1 a0 q19) s53 ++ wX3 Z a1 o1) := st_D (f := fun z => wX4 Z (ad1 a0 q19) z ++ wX3 Z a1 o1) h_53 hD
          refine lv_iinc (pc := 54) (v := v19_3 + 1) (lv' := [(3, .int (v19_3 + 1)), (4, .int (f_X4_placeOf v19_3 x1)), (0, .ref (a0 0)), (1, .ref (a1 0)), (2, .int x1)]) hx hb dX4_keep_54 hl (k := 4) rfl rfl (by decide) rfl (fun ls hl => ?_)
          refine lv_goto (pc := 57) (tgt := 19) hx hb dX4_keep_57 (by decide) ?_
          exact ih s53 (v19_3 + 1) q19 _ (lv_sub hl [2, 3, 4, 0] rfl) _ _ hP hD hS hf
  rw [f_X4_keep] at hf
  refine lv_aload_n (pc := 0) hx hb dX4_keep_0 rfl (lv_at hl 0 rfl) ?_
  refine va_get (pc := 1) (D := Z.1) (ci := 4) (v := .ref (a0 1)) (C := RX4) (T := TX4) (N := 1) hx hb hts u4 hown hK hP 0 rfl rfl 0 (by decide) w0 (fun _ h9 => h9) rfl dX4_keep_1 ?_
  refine va_alen (pc := 4) (D := Z.1) (v := Int32.ofNat ((o0.1 1 0).toNatClampNeg)) hx hb hK hP 1 0 rfl rfl rfl dX4_keep_4 ?_
  refine lv_if_ne (pc := 5) (tgt := 17) hx hb dX4_keep_5 (by decide) (fun c1 => ?_) (fun c1 => ?_)
  · exact absurd hc c1
  · have hf := (if_pos c1).symm.trans hf
    refine lv_aload_n (pc := 8) hx hb dX4_keep_8 rfl (lv_at hl 0 rfl) ?_
    refine lv_sipush (pc := 9) (v := 7200) hx hb dX4_keep_9 (by decide) ?_
    refine nwI (pc := 12) (N := 7200) hx hb w1 hK hP hD hS hA (by decide) (by decide) (Nat.le_of_ble_eq_true rfl) (Nat.le_of_ble_eq_true rfl) (Nat.le_of_ble_eq_true rfl) dX4_keep_12 (fun q12 H hP hD hS => ?_)
    refine va_put (pc := 14) (D := Z.1) (ci := 4) (v := .ref q12) (ty := .array .int) (C := RX4) (T := TX4) (N := 1) hx hb hts u4 tyX4 tyX4_ok nmX4 hown hK hP hD hS 0 rfl rfl 0 (by decide) w0 (fun _ h9 => h9) rfl (by decide +kernel) rfl rfl (Nat.le_of_ble_eq_true rfl) dX4_keep_14 (fun H locs hP hD hS => ?_)
    have hP : va_P Z.1 vwCl (wX4 Z (ad1 a0 (fun _ => q12)) (tn_new o0) ++ wX3 Z a1 o1) H := hP.sub [0, 5, 2, 3, 4] rfl
    have hD : va_D A (wX4 Z (ad1 a0 (fun _ => q12)) (tn_new o0) ++ wX3 Z a1 o1) := hD.sub [0, 5, 2, 3, 4] (by decide) rfl
    refine lv_iconst (pc := 17) (v := 0) hx hb dX4_keep_17 (by decide) ?_
    refine lv_istore_n (pc := 18) (lv' := [(3, .int 0), (0, .ref (a0 0)), (1, .ref (a1 0)), (2, .int x1)]) hx hb dX4_keep_18 rfl hl (by decide) rfl (fun ls hl => ?_)
    exact B19 64 (tn_new o0) 0 (fun _ => q12) _ (lv_sub hl [1, 2, 3, 0] rfl) _ _ hP hD hS hf
set_option maxHeartbeats 4000000 in
set_option maxRecDepth 100000 in
theorem c_X4_keep_old (Z : EnvT) (l : Launch) (a0 : Nat → Nat) (o0 : ObS) (a1 : Nat → Nat) (o1 : ObS) (x1 : Int32) (R : ObS) (hf : f_X4_keep o0 o1 x1 = some R) (hc : ¬ tnz o0) : RW Z l yX4_keep wsX4_keep { frames := 2, cells := 0, slots := 0, locals := 41 } [.ref (a0 0), .ref (a1 0), .int x1] (wX4 Z a0 o0 ++ wX3 Z a1 o1) none (fun q => wX4 Z (ad1 a0 q) R ++ wX3 Z a1 o1) 0 0 := by
  refine rw_of (cc := cX4_keep) (maxL := 5) (ret := none) (by decide) rfl (Nat.le_of_ble_eq_true rfl) ?_
  intro p e s m below meth c A ls hx hb hr hml hts hown hlk hin hP hK hE hD hA hS hl
  have hown : s.vm.findClass RX4 = some m.cls := hown
  have hl : lv_has ls 5 [(0, .ref (a0 0)), (1, .ref (a1 0)), (2, .int x1)] := hl
  have w0 := hts (.fieldLink RX4 9 "HeatTrain$Trends" "warmth" "[I") (by decide +kernel)
  have w1 := hts (.arrayClass .int) (by decide +kernel)
  have u4 : ∀ w ∈ wsX40, w ∈ wsX4_keep := by decide +kernel
  have B19 : ∀ (n : Nat), ∀ (o19_0 : ObS) (v19_3 : Int32) (q19 : Nat → Nat) (ls : Array Slot), lv_has ls 5 [(0, .ref (a0 0)), (1, .ref (a1 0)), (2, .int x1), (3, .int v19_3)] → ∀ (H : Heap) (locs : List Loc), va_P Z.1 vwCl (wX4 Z (ad1 a0 q19) o19_0 ++ wX3 Z a1 o1) H → va_D A (wX4 Z (ad1 a0 q19) o19_0 ++ wX3 Z a1 o1) → va_S A s.heap H locs → f_X4_keep_b19 o1 x1 n o19_0 v19_3 = some R → W p l e { frames := 2, cells := 0, slots := 0, locals := 41 } s m ([.ref (a0 0), .ref (a1 0), .int x1] : List Value).toArray below meth c H locs 0 0 (MQ below (rwQ Z none (fun q => wX4 Z (ad1 a0 q) R ++ wX3 Z a1 o1) A) ([.ref (a0 0), .ref (a1 0), .int x1] : List Value).toArray s 0 0 A) (F0 m 19 ls []) := by
    intro n
    induction n with
    | zero => intro o19_0 v19_3 q19 ls hl H locs hP hD hS hf; rw [f_X4_keep_b19] at hf; exact nomatch hf
    | succ n ih =>
      intro o19_0 v19_3 q19 ls hl H locs hP hD hS hf
      rw [f_X4_keep_b19] at hf
      refine lv_iload_n (pc := 19) hx hb dX4_keep_19 rfl (lv_at hl 3 rfl) ?_
      refine lv_bipush (pc := 20) (v := 24) hx hb dX4_keep_20 (by decide) ?_
      refine lv_icmp_ge (pc := 22) (tgt := 60) hx hb dX4_keep_22 (by decide) (fun c1 => ?_) (fun c1 => ?_)
      · have hf := (if_pos c1).symm.trans hf
        have hf := (Option.some.inj hf)
        subst hf
        exact rw_v q19 hx hb hr hlk hP hD hS dX4_keep_60
      · have hf := (if_neg c1).symm.trans hf
        refine lv_iload_n (pc := 25) hx hb dX4_keep_25 rfl (lv_at hl 3 rfl) ?_
        refine lv_iload_n (pc := 26) hx hb dX4_keep_26 rfl (lv_at hl 2 rfl) ?_
        refine ro_S (pc := 27) (As := [.int v19_3, .int x1]) (rest := []) (st1 := [.int (f_X4_placeOf v19_3 x1)]) ⟨hx, hb, hml, hown, hts⟩ (c_X4_placeOf Z l v19_3 x1 _ rfl) (va_cwS 2 hts gX4_keep_X4_placeOf rfl rfl rfl hs_X4_placeOf ⟨Nat.le_of_ble_eq_true rfl, Nat.le_of_ble_eq_true rfl⟩) hK hE (hP.sub (ws' := []) [] rfl) rfl hl.1 rfl (lv_room (Nat.le_of_ble_eq_true rfl)) dX4_keep_27 ⟨Nat.le_of_ble_eq_true rfl, Nat.le_of_ble_eq_true rfl⟩ rfl ?_
        refine lv_istore (pc := 30) (lv' := [(4, .int (f_X4_placeOf v19_3 x1)), (0, .ref (a0 0)), (1, .ref (a1 0)), (2, .int x1), (3, .int v19_3)]) hx hb dX4_keep_30 hl (by decide) rfl (fun ls hl => ?_)
        refine lv_aload_n (pc := 32) hx hb dX4_keep_32 rfl (lv_at hl 1 rfl) ?_
        refine lv_iload (pc := 33) hx hb dX4_keep_33 (lv_at hl 0 rfl) ?_
        refine ro_V (pc := 35) (C := RX4) (As := [.int (f_X4_placeOf v19_3 x1)]) (rest := []) (st1 := [.int (f_X4_isKept o19_0 (f_X4_placeOf v19_3 x1))]) ⟨hx, hb, hml, hown, hts⟩ (c_X4_isKept Z l (ad1 a0 q19) o19_0 (f_X4_placeOf v19_3 x1) _ rfl) (cwV 1 hts gX4_keep_X4_isKept rfl rfl rfl hv_X4_isKept ⟨Nat.le_of_ble_eq_true rfl, Nat.le_of_ble_eq_true rfl⟩) hK hE (hP.sub (ws' := wX4 Z (ad1 a0 q19) o19_0) [0, 1] rfl) 4 rfl rfl rfl hl.1 rfl (lv_room (Nat.le_of_ble_eq_true rfl)) dX4_keep_35 ⟨Nat.le_of_ble_eq_true rfl, Nat.le_of_ble_eq_true rfl⟩ rfl ?_
        refine lv_if_eq (pc := 38) (tgt := 54) hx hb dX4_keep_38 (by decide) (fun c2 => ?_) (fun c2 => ?_)
        · have hf := (if_pos c2).symm.trans hf
          refine lv_iinc (pc := 54) (v := v19_3 + 1) (lv' := [(3, .int (v19_3 + 1)), (4, .int (f_X4_placeOf v19_3 x1)), (0, .ref (a0 0)), (1, .ref (a1 0)), (2, .int x1)]) hx hb dX4_keep_54 hl (k := 4) rfl rfl (by decide) rfl (fun ls hl => ?_)
          refine lv_goto (pc := 57) (tgt := 19) hx hb dX4_keep_57 (by decide) ?_
          exact ih o19_0 (v19_3 + 1) q19 _ (lv_sub hl [2, 3, 4, 0] rfl) _ _ hP hD hS hf
        · have hf := (if_neg c2).symm.trans hf
          refine lv_aload_n (pc := 41) hx hb dX4_keep_41 rfl (lv_at hl 1 rfl) ?_
          refine va_get (pc := 42) (D := Z.1) (ci := 4) (v := .ref (ad1 a0 q19 1)) (C := RX4) (T := TX4) (N := 1) hx hb hts u4 hown hK hP 0 rfl rfl 0 (by decide) w0 (fun _ h9 => h9) rfl dX4_keep_42 ?_
          refine lv_iload (pc := 45) hx hb dX4_keep_45 (lv_at hl 0 rfl) ?_
          refine lv_aload_n (pc := 47) hx hb dX4_keep_47 rfl (lv_at hl 2 rfl) ?_
          refine lv_iload_n (pc := 48) hx hb dX4_keep_48 rfl (lv_at hl 4 rfl) ?_
          obtain ⟨r49, h_49, hf⟩ := bd hf
          refine ro_V (pc := 49) (C := RX3) (As := [.int v19_3]) (rest := [.int (f_X4_placeOf v19_3 x1), .ref (ad1 a0 q19 1)]) (st1 := [.long r49, .int (f_X4_placeOf v19_3 x1), .ref (ad1 a0 q19 1)]) ⟨hx, hb, hml, hown, hts⟩ (c_X3_warmthOf Z l a1 o1 v19_3 r49 h_49) (cwV 1 hts gX4_keep_X3_warmthOf rfl rfl rfl hv_X3_warmthOf ⟨Nat.le_of_ble_eq_true rfl, Nat.le_of_ble_eq_true rfl⟩) hK hE (hP.sub (ws' := wX3 Z a1 o1) [2, 3, 4] rfl) 3 rfl rfl rfl hl.1 rfl (lv_room (Nat.le_of_ble_eq_true rfl)) dX4_keep_49 ⟨Nat.le_of_ble_eq_true rfl, Nat.le_of_ble_eq_true rfl⟩ rfl ?_
          refine lv_l2i (pc := 52) (v := r49.toInt32) hx hb dX4_keep_52 rfl ?_
          obtain ⟨g53, hf⟩ := gd hf
          refine va_iast (pc := 53) (D := Z.1) (n := ((o19_0.1 1 0).toNatClampNeg)) (f := o19_0.1 0) hx hb hK hP hD hS 1 0 rfl rfl (inb_in g53) dX4_keep_53 (fun H locs hP hD hS => ?_)
          obtain ⟨s53, h_53, hf⟩ := bd hf
          have hP : va_P Z.1 vwCl (wX4 Z (ad1 a0 q19) s53 ++ wX3 Z a1 o1) H := st_P (f := fun z => wX4 Z (ad1 a0 q19) z ++ wX3 Z a1 o1) h_53 hP
          have hD : va_D A (wX4 Z (ad1 a0 q19) s53 ++ wX3 Z a1 o1) := st_D (f := fun z => wX4 Z (ad1 a0 q19) z ++ wX3 Z a1 o1) h_53 hD
          refine lv_iinc (pc := 54) (v := v19_3 + 1) (lv' := [(3, .int (v19_3 + 1)), (4, .int (f_X4_placeOf v19_3 x1)), (0, .ref (a0 0)), (1, .ref (a1 0)), (2, .int x1)]) hx hb dX4_keep_54 hl (k := 4) rfl rfl (by decide) rfl (fun ls hl => ?_)
          refine lv_goto (pc := 57) (tgt := 19) hx hb dX4_keep_57 (by decide) ?_
          exact ih s53 (v19_3 + 1) q19 _ (lv_sub hl [2, 3, 4, 0] rfl) _ _ hP hD hS hf
  rw [f_X4_keep] at hf
  refine lv_aload_n (pc := 0) hx hb dX4_keep_0 rfl (lv_at hl 0 rfl) ?_
  refine va_get (pc := 1) (D := Z.1) (ci := 4) (v := .ref (a0 1)) (C := RX4) (T := TX4) (N := 1) hx hb hts u4 hown hK hP 0 rfl rfl 0 (by decide) w0 (fun _ h9 => h9) rfl dX4_keep_1 ?_
  refine va_alen (pc := 4) (D := Z.1) (v := Int32.ofNat ((o0.1 1 0).toNatClampNeg)) hx hb hK hP 1 0 rfl rfl rfl dX4_keep_4 ?_
  refine lv_if_ne (pc := 5) (tgt := 17) hx hb dX4_keep_5 (by decide) (fun c1 => ?_) (fun c1 => ?_)
  · have hf := (if_neg c1).symm.trans hf
    refine lv_iconst (pc := 17) (v := 0) hx hb dX4_keep_17 (by decide) ?_
    refine lv_istore_n (pc := 18) (lv' := [(3, .int 0), (0, .ref (a0 0)), (1, .ref (a1 0)), (2, .int x1)]) hx hb dX4_keep_18 rfl hl (by decide) rfl (fun ls hl => ?_)
    exact B19 64 o0 0 (fun _ => a0 1) _ (lv_sub hl [1, 2, 3, 0] rfl) _ _ hP hD hS hf
  · exact absurd c1 hc
