def f_X1_count (o0 : ObS) : Int32 :=
  o0.1 0 0
set_option maxHeartbeats 4000000 in
set_option maxRecDepth 100000 in
theorem c_X1_count (Z : EnvT) (l : Launch) (a0 : Nat → Nat) (o0 : ObS) (R : Int32) (hf : f_X1_count o0 = R) : RO Z l yX1_count wsX1_count { frames := 0, cells := 0, slots := 0, locals := 0 } [.ref (a0 0)] (wX1 Z a0 o0) (some (.int R)) := by
  refine ro_of (cc := cX1_count) (maxL := 1) (ret := (some .int)) (by decide) rfl (Nat.le_of_ble_eq_true rfl) ?_
  intro p e s m below meth c ls hx hb hr hml hts hown hlk hP hK hE hl
  have hown : s.vm.findClass RX1 = some m.cls := hown
  have hl : lv_has ls 1 [(0, .ref (a0 0))] := hl
  have w0 := hts (.fieldLink RX1 9 "HeatTrain$Controllers" "made" "I") (by decide +kernel)
  have u1 : ∀ w ∈ wsX10, w ∈ wsX1_count := by decide +kernel
  rw [f_X1_count] at hf
  refine lv_aload_n (pc := 0) hx hb dX1_count_0 rfl (lv_at hl 0 rfl) ?_
  refine va_get (pc := 1) (D := Z.1) (ci := 1) (v := .int (o0.1 0 0)) (C := RX1) (T := TX1) (N := 15) hx hb hts u1 hown hK hP 0 rfl rfl 0 (by decide) w0 (fun _ h9 => h9) rfl dX1_count_1 ?_
  exact ro_i hx hb hr hlk hf dX1_count_4
def f_X1_isMade (o0 : ObS) (x1 : Int32) : Int32 :=
  if x1 < (0 : Int32) then
    (0 : Int32)
  else
    if (o0.1 0 0) ≤ x1 then
      (0 : Int32)
    else
      if 6 ≤ x1 then
        (0 : Int32)
      else
        (1 : Int32)
set_option maxHeartbeats 4000000 in
set_option maxRecDepth 100000 in
theorem c_X1_isMade (Z : EnvT) (l : Launch) (a0 : Nat → Nat) (o0 : ObS) (x1 : Int32) (R : Int32) (hf : f_X1_isMade o0 x1 = R) : RO Z l yX1_isMade wsX1_isMade { frames := 0, cells := 0, slots := 0, locals := 0 } [.ref (a0 0), .int x1] (wX1 Z a0 o0) (some (.int R)) := by
  refine ro_of (cc := cX1_isMade) (maxL := 2) (ret := (some .boolean)) (by decide) rfl (Nat.le_of_ble_eq_true rfl) ?_
  intro p e s m below meth c ls hx hb hr hml hts hown hlk hP hK hE hl
  have hown : s.vm.findClass RX1 = some m.cls := hown
  have hl : lv_has ls 2 [(0, .ref (a0 0)), (1, .int x1)] := hl
  have w0 := hts (.fieldLink RX1 9 "HeatTrain$Controllers" "made" "I") (by decide +kernel)
  have u1 : ∀ w ∈ wsX10, w ∈ wsX1_isMade := by decide +kernel
  rw [f_X1_isMade] at hf
  refine lv_iload_n (pc := 0) hx hb dX1_isMade_0 rfl (lv_at hl 1 rfl) ?_
  refine lv_if_lt (pc := 1) (tgt := 22) hx hb dX1_isMade_1 (by decide) (fun c1 => ?_) (fun c1 => ?_)
  · have hf := (if_pos c1).symm.trans hf
    refine lv_iconst (pc := 22) (v := 0) hx hb dX1_isMade_22 (by decide) ?_
    exact ro_z hx hb hr hlk hf rfl dX1_isMade_23
  · have hf := (if_neg c1).symm.trans hf
    refine lv_iload_n (pc := 4) hx hb dX1_isMade_4 rfl (lv_at hl 1 rfl) ?_
    refine lv_aload_n (pc := 5) hx hb dX1_isMade_5 rfl (lv_at hl 0 rfl) ?_
    refine va_get (pc := 6) (D := Z.1) (ci := 1) (v := .int (o0.1 0 0)) (C := RX1) (T := TX1) (N := 15) hx hb hts u1 hown hK hP 0 rfl rfl 0 (by decide) w0 (fun _ h9 => h9) rfl dX1_isMade_6 ?_
    refine lv_icmp_ge (pc := 9) (tgt := 22) hx hb dX1_isMade_9 (by decide) (fun c2 => ?_) (fun c2 => ?_)
    · have hf := (if_pos c2).symm.trans hf
      refine lv_iconst (pc := 22) (v := 0) hx hb dX1_isMade_22 (by decide) ?_
      exact ro_z hx hb hr hlk hf rfl dX1_isMade_23
    · have hf := (if_neg c2).symm.trans hf
      refine lv_iload_n (pc := 12) hx hb dX1_isMade_12 rfl (lv_at hl 1 rfl) ?_
      refine lv_bipush (pc := 13) (v := 6) hx hb dX1_isMade_13 (by decide) ?_
      refine lv_icmp_ge (pc := 15) (tgt := 22) hx hb dX1_isMade_15 (by decide) (fun c3 => ?_) (fun c3 => ?_)
      · have hf := (if_pos c3).symm.trans hf
        refine lv_iconst (pc := 22) (v := 0) hx hb dX1_isMade_22 (by decide) ?_
        exact ro_z hx hb hr hlk hf rfl dX1_isMade_23
      · have hf := (if_neg c3).symm.trans hf
        refine lv_iconst (pc := 18) (v := 1) hx hb dX1_isMade_18 (by decide) ?_
        refine lv_goto (pc := 19) (tgt := 23) hx hb dX1_isMade_19 (by decide) ?_
        exact ro_z hx hb hr hlk hf rfl dX1_isMade_23
def f_X1_add (o0 : ObS) (x1 : Int32) (x2 : Int32) (x3 : Int32) : Option (Int32 × ObS) :=
  if (o0.1 0 0) < 6 then
    (some (oi o0 0 0 ((o0.1 0 0) + 1))).bind fun s24 =>
    if inb (o0.1 0 0) 6 then
    (some (oi s24 2 (o0.1 0 0).toNatClampNeg x1)).bind fun s34 =>
    if inb (o0.1 0 0) 6 then
    (some (oi s34 3 (o0.1 0 0).toNatClampNeg x2)).bind fun s42 =>
    if inb (o0.1 0 0) 6 then
    (some (oi s42 5 (o0.1 0 0).toNatClampNeg x3)).bind fun s50 =>
    if inb (o0.1 0 0) 6 then
    (some (oi s50 6 (o0.1 0 0).toNatClampNeg (-1))).bind fun s58 =>
    some (o0.1 0 0, s58)
    else none
    else none
    else none
    else none
  else
    some ((-1 : Int32), o0)
set_option maxHeartbeats 4000000 in
set_option maxRecDepth 100000 in
theorem c_X1_add (Z : EnvT) (l : Launch) (a0 : Nat → Nat) (o0 : ObS) (x1 : Int32) (x2 : Int32) (x3 : Int32) (R : Int32 × ObS) (hf : f_X1_add o0 x1 x2 x3 = some R) : RW Z l yX1_add wsX1_add { frames := 0, cells := 0, slots := 0, locals := 0 } [.ref (a0 0), .int x1, .int x2, .int x3] (wX1 Z a0 o0) (some (.int R.1)) (fun _ => wX1 Z a0 R.2) 0 0 := by
  refine rw_of (cc := cX1_add) (maxL := 5) (ret := (some .int)) (by decide) rfl (Nat.le_of_ble_eq_true rfl) ?_
  intro p e s m below meth c A ls hx hb hr hml hts hown hlk hin hP hK hE hD hA hS hl
  have hown : s.vm.findClass RX1 = some m.cls := hown
  have hl : lv_has ls 5 [(0, .ref (a0 0)), (1, .int x1), (2, .int x2), (3, .int x3)] := hl
  have w0 := hts (.fieldLink RX1 9 "HeatTrain$Controllers" "made" "I") (by decide +kernel)
  have w1 := hts (.fieldLink RX1 19 "HeatTrain$Controllers" "stream" "[I") (by decide +kernel)
  have w2 := hts (.fieldLink RX1 23 "HeatTrain$Controllers" "factor" "[I") (by decide +kernel)
  have w3 := hts (.fieldLink RX1 29 "HeatTrain$Controllers" "driven" "[I") (by decide +kernel)
  have w4 := hts (.fieldLink RX1 32 "HeatTrain$Controllers" "feedStream" "[I") (by decide +kernel)
  have u1 : ∀ w ∈ wsX10, w ∈ wsX1_add := by decide +kernel
  rw [f_X1_add] at hf
  refine lv_aload_n (pc := 0) hx hb dX1_add_0 rfl (lv_at hl 0 rfl) ?_
  refine va_get (pc := 1) (D := Z.1) (ci := 1) (v := .int (o0.1 0 0)) (C := RX1) (T := TX1) (N := 15) hx hb hts u1 hown hK hP 0 rfl rfl 0 (by decide) w0 (fun _ h9 => h9) rfl dX1_add_1 ?_
  refine lv_bipush (pc := 4) (v := 6) hx hb dX1_add_4 (by decide) ?_
  refine lv_icmp_lt (pc := 6) (tgt := 11) hx hb dX1_add_6 (by decide) (fun c1 => ?_) (fun c1 => ?_)
  · have hf := (if_pos c1).symm.trans hf
    refine lv_aload_n (pc := 11) hx hb dX1_add_11 rfl (lv_at hl 0 rfl) ?_
    refine va_get (pc := 12) (D := Z.1) (ci := 1) (v := .int (o0.1 0 0)) (C := RX1) (T := TX1) (N := 15) hx hb hts u1 hown hK hP 0 rfl rfl 0 (by decide) w0 (fun _ h9 => h9) rfl dX1_add_12 ?_
    refine lv_istore (pc := 15) (lv' := [(4, .int (o0.1 0 0)), (0, .ref (a0 0)), (1, .int x1), (2, .int x2), (3, .int x3)]) hx hb dX1_add_15 hl (by decide) rfl (fun ls hl => ?_)
    refine lv_aload_n (pc := 17) hx hb dX1_add_17 rfl (lv_at hl 1 rfl) ?_
    refine lv_dup (pc := 18) hx hb dX1_add_18 rfl ?_
    refine va_get (pc := 19) (D := Z.1) (ci := 1) (v := .int (o0.1 0 0)) (C := RX1) (T := TX1) (N := 15) hx hb hts u1 hown hK hP 0 rfl rfl 0 (by decide) w0 (fun _ h9 => h9) rfl dX1_add_19 ?_
    refine lv_iconst (pc := 22) (v := 1) hx hb dX1_add_22 (by decide) ?_
    refine lv_iadd (pc := 23) hx hb dX1_add_23 ?_
    refine va_put (pc := 24) (D := Z.1) (ci := 1) (v := .int ((o0.1 0 0) + 1)) (ty := .int) (C := RX1) (T := TX1) (N := 15) hx hb hts u1 tyX1 tyX1_ok nmX1 hown hK hP hD hS 0 rfl rfl 0 (by decide) w0 (fun _ h9 => h9) rfl (by decide +kernel) rfl rfl (Nat.le_of_ble_eq_true rfl) dX1_add_24 (fun H locs hP hD hS => ?_)
    obtain ⟨s24, h_24, hf⟩ := bd hf
    have hP : va_P Z.1 vwCl (wX1 Z a0 s24) H := st_P (f := fun z => wX1 Z a0 z) h_24 hP
    have hD : va_D A (wX1 Z a0 s24) := st_D (f := fun z => wX1 Z a0 z) h_24 hD
    refine lv_aload_n (pc := 27) hx hb dX1_add_27 rfl (lv_at hl 1 rfl) ?_
    refine va_get (pc := 28) (D := Z.1) (ci := 1) (v := .ref (a0 3)) (C := RX1) (T := TX1) (N := 15) hx hb hts u1 hown hK hP 0 rfl rfl 2 (by decide) w1 (fun _ h9 => h9) rfl dX1_add_28 ?_
    refine lv_iload (pc := 31) hx hb dX1_add_31 (lv_at hl 0 rfl) ?_
    refine lv_iload_n (pc := 33) hx hb dX1_add_33 rfl (lv_at hl 2 rfl) ?_
    obtain ⟨g34, hf⟩ := gd hf
    refine va_iast (pc := 34) (D := Z.1) (n := 6) (f := s24.1 2) hx hb hK hP hD hS 2 0 rfl rfl (inb_in g34) dX1_add_34 (fun H locs hP hD hS => ?_)
    obtain ⟨s34, h_34, hf⟩ := bd hf
    have hP : va_P Z.1 vwCl (wX1 Z a0 s34) H := st_P (f := fun z => wX1 Z a0 z) h_34 hP
    have hD : va_D A (wX1 Z a0 s34) := st_D (f := fun z => wX1 Z a0 z) h_34 hD
    refine lv_aload_n (pc := 35) hx hb dX1_add_35 rfl (lv_at hl 1 rfl) ?_
    refine va_get (pc := 36) (D := Z.1) (ci := 1) (v := .ref (a0 4)) (C := RX1) (T := TX1) (N := 15) hx hb hts u1 hown hK hP 0 rfl rfl 3 (by decide) w2 (fun _ h9 => h9) rfl dX1_add_36 ?_
    refine lv_iload (pc := 39) hx hb dX1_add_39 (lv_at hl 0 rfl) ?_
    refine lv_iload_n (pc := 41) hx hb dX1_add_41 rfl (lv_at hl 3 rfl) ?_
    obtain ⟨g42, hf⟩ := gd hf
    refine va_iast (pc := 42) (D := Z.1) (n := 6) (f := s34.1 3) hx hb hK hP hD hS 3 0 rfl rfl (inb_in g42) dX1_add_42 (fun H locs hP hD hS => ?_)
    obtain ⟨s42, h_42, hf⟩ := bd hf
    have hP : va_P Z.1 vwCl (wX1 Z a0 s42) H := st_P (f := fun z => wX1 Z a0 z) h_42 hP
    have hD : va_D A (wX1 Z a0 s42) := st_D (f := fun z => wX1 Z a0 z) h_42 hD
    refine lv_aload_n (pc := 43) hx hb dX1_add_43 rfl (lv_at hl 1 rfl) ?_
    refine va_get (pc := 44) (D := Z.1) (ci := 1) (v := .ref (a0 6)) (C := RX1) (T := TX1) (N := 15) hx hb hts u1 hown hK hP 0 rfl rfl 5 (by decide) w3 (fun _ h9 => h9) rfl dX1_add_44 ?_
    refine lv_iload (pc := 47) hx hb dX1_add_47 (lv_at hl 0 rfl) ?_
    refine lv_iload_n (pc := 49) hx hb dX1_add_49 rfl (lv_at hl 4 rfl) ?_
    obtain ⟨g50, hf⟩ := gd hf
    refine va_iast (pc := 50) (D := Z.1) (n := 6) (f := s42.1 5) hx hb hK hP hD hS 5 0 rfl rfl (inb_in g50) dX1_add_50 (fun H locs hP hD hS => ?_)
    obtain ⟨s50, h_50, hf⟩ := bd hf
    have hP : va_P Z.1 vwCl (wX1 Z a0 s50) H := st_P (f := fun z => wX1 Z a0 z) h_50 hP
    have hD : va_D A (wX1 Z a0 s50) := st_D (f := fun z => wX1 Z a0 z) h_50 hD
    refine lv_aload_n (pc := 51) hx hb dX1_add_51 rfl (lv_at hl 1 rfl) ?_
    refine va_get (pc := 52) (D := Z.1) (ci := 1) (v := .ref (a0 7)) (C := RX1) (T := TX1) (N := 15) hx hb hts u1 hown hK hP 0 rfl rfl 6 (by decide) w4 (fun _ h9 => h9) rfl dX1_add_52 ?_
    refine lv_iload (pc := 55) hx hb dX1_add_55 (lv_at hl 0 rfl) ?_
    refine lv_iconst (pc := 57) (v := (-1)) hx hb dX1_add_57 (by decide) ?_
    obtain ⟨g58, hf⟩ := gd hf
    refine va_iast (pc := 58) (D := Z.1) (n := 6) (f := s50.1 6) hx hb hK hP hD hS 6 0 rfl rfl (inb_in g58) dX1_add_58 (fun H locs hP hD hS => ?_)
    obtain ⟨s58, h_58, hf⟩ := bd hf
    have hP : va_P Z.1 vwCl (wX1 Z a0 s58) H := st_P (f := fun z => wX1 Z a0 z) h_58 hP
    have hD : va_D A (wX1 Z a0 s58) := st_D (f := fun z => wX1 Z a0 z) h_58 hD
    refine lv_iload (pc := 59) hx hb dX1_add_59 (lv_at hl 0 rfl) ?_
    have hf := (Option.some.inj hf)
    subst hf
    exact rw_i (fun _ => 0) hx hb hr hlk rfl hP hD hS dX1_add_61
  · have hf := (if_neg c1).symm.trans hf
    refine lv_iconst (pc := 9) (v := (-1)) hx hb dX1_add_9 (by decide) ?_
    have hf := (Option.some.inj hf)
    subst hf
    exact rw_i (fun _ => 0) hx hb hr hlk rfl hP hD hS dX1_add_10
def f_X1_addMeasuring (o0 : ObS) (x1 : Int32) (x2 : Int32) (x3 : Int32) (x4 : Int32) (x5 : Int32) : Option (Int32 × ObS) :=
  (f_X1_add o0 x1 x3 x5).bind fun r5 =>
  if (f_X1_isMade r5.2 r5.1) = (0 : Int32) then
    some (r5.1, r5.2)
  else
    if inb r5.1 6 then
    (some (oi r5.2 1 (r5.1).toNatClampNeg (vp_nar .boolean 1))).bind fun s26 =>
    if inb r5.1 6 then
    (some (oj s26 10 (r5.1).toNatClampNeg x2.toInt64)).bind fun s35 =>
    if inb r5.1 6 then
    (some (oi s35 4 (r5.1).toNatClampNeg x4)).bind fun s44 =>
    if inb r5.1 6 then
    (some (oi s44 8 (r5.1).toNatClampNeg 500)).bind fun s54 =>
    some (r5.1, s54)
    else none
    else none
    else none
    else none
set_option maxHeartbeats 4000000 in
set_option maxRecDepth 100000 in
theorem c_X1_addMeasuring (Z : EnvT) (l : Launch) (a0 : Nat → Nat) (o0 : ObS) (x1 : Int32) (x2 : Int32) (x3 : Int32) (x4 : Int32) (x5 : Int32) (R : Int32 × ObS) (hf : f_X1_addMeasuring o0 x1 x2 x3 x4 x5 = some R) : RW Z l yX1_addMeasuring wsX1_addMeasuring { frames := 1, cells := 0, slots := 0, locals := 24 } [.ref (a0 0), .int x1, .int x2, .int x3, .int x4, .int x5] (wX1 Z a0 o0) (some (.int R.1)) (fun _ => wX1 Z a0 R.2) 0 0 := by
  refine rw_of (cc := cX1_addMeasuring) (maxL := 7) (ret := (some .int)) (by decide) rfl (Nat.le_of_ble_eq_true rfl) ?_
  intro p e s m below meth c A ls hx hb hr hml hts hown hlk hin hP hK hE hD hA hS hl
  have hown : s.vm.findClass RX1 = some m.cls := hown
  have hl : lv_has ls 7 [(0, .ref (a0 0)), (1, .int x1), (2, .int x2), (3, .int x3), (4, .int x4), (5, .int x5)] := hl
  have w0 := hts (.fieldLink RX1 15 "HeatTrain$Controllers" "measuring" "[Z") (by decide +kernel)
  have w1 := hts (.fieldLink RX1 44 "HeatTrain$Controllers" "goal" "[J") (by decide +kernel)
  have w2 := hts (.fieldLink RX1 26 "HeatTrain$Controllers" "base" "[I") (by decide +kernel)
  have w3 := hts (.fieldLink RX1 38 "HeatTrain$Controllers" "limit" "[I") (by decide +kernel)
  have u1 : ∀ w ∈ wsX10, w ∈ wsX1_addMeasuring := by decide +kernel
  rw [f_X1_addMeasuring] at hf
  refine lv_aload_n (pc := 0) hx hb dX1_addMeasuring_0 rfl (lv_at hl 0 rfl) ?_
  refine lv_iload_n (pc := 1) hx hb dX1_addMeasuring_1 rfl (lv_at hl 1 rfl) ?_
  refine lv_iload_n (pc := 2) hx hb dX1_addMeasuring_2 rfl (lv_at hl 3 rfl) ?_
  refine lv_iload (pc := 3) hx hb dX1_addMeasuring_3 (lv_at hl 5 rfl) ?_
  obtain ⟨r5, h_5, hf⟩ := bd hf
  refine rw_V (pc := 5) (C := RX1) (As := [.int x1, .int x3, .int x5]) (rest := []) (st1 := [.int r5.1]) (wn := fun _ => wX1 Z a0 r5.2) ⟨hx, hb, hml, hown, hts⟩ (c_X1_add Z l a0 o0 x1 x3 x5 r5 h_5) (cwV 3 hts gX1_addMeasuring_X1_add rfl rfl rfl hv_X1_add ⟨Nat.le_of_ble_eq_true rfl, Nat.le_of_ble_eq_true rfl⟩) hK hE hP hD hS hA [0, 1, 2, 3, 4, 5, 6, 7, 8, 9, 10, 11, 12, 13, 14] [] [0, 1, 2, 3, 4, 5, 6, 7, 8, 9, 10, 11, 12, 13, 14] rfl rfl rfl (fun _ => rfl) 1 rfl rfl rfl hl.1 rfl (lv_room (Nat.le_of_ble_eq_true rfl)) dX1_addMeasuring_5 ⟨Nat.le_of_ble_eq_true rfl, Nat.le_of_ble_eq_true rfl⟩ rfl (fun _ H locs hP hD hS => ?_)
  refine lv_istore (pc := 8) (lv' := [(6, .int r5.1), (0, .ref (a0 0)), (1, .int x1), (2, .int x2), (3, .int x3), (4, .int x4), (5, .int x5)]) hx hb dX1_addMeasuring_8 hl (by decide) rfl (fun ls hl => ?_)
  refine lv_aload_n (pc := 10) hx hb dX1_addMeasuring_10 rfl (lv_at hl 1 rfl) ?_
  refine lv_iload (pc := 11) hx hb dX1_addMeasuring_11 (lv_at hl 0 rfl) ?_
  refine ro_V (pc := 13) (C := RX1) (As := [.int r5.1]) (rest := []) (st1 := [.int (f_X1_isMade r5.2 r5.1)]) ⟨hx, hb, hml, hown, hts⟩ (c_X1_isMade Z l a0 r5.2 r5.1 _ rfl) (cwV 1 hts gX1_addMeasuring_X1_isMade rfl rfl rfl hv_X1_isMade ⟨Nat.le_of_ble_eq_true rfl, Nat.le_of_ble_eq_true rfl⟩) hK hE hP 1 rfl rfl rfl hl.1 rfl (lv_room (Nat.le_of_ble_eq_true rfl)) dX1_addMeasuring_13 ⟨Nat.le_of_ble_eq_true rfl, Nat.le_of_ble_eq_true rfl⟩ rfl ?_
  refine lv_if_eq (pc := 16) (tgt := 55) hx hb dX1_addMeasuring_16 (by decide) (fun c1 => ?_) (fun c1 => ?_)
  · have hf := (if_pos c1).symm.trans hf
    refine lv_iload (pc := 55) hx hb dX1_addMeasuring_55 (lv_at hl 0 rfl) ?_
    have hf := (Option.some.inj hf)
    subst hf
    exact rw_i (fun _ => 0) hx hb hr hlk rfl hP hD hS dX1_addMeasuring_57
  · have hf := (if_neg c1).symm.trans hf
    refine lv_aload_n (pc := 19) hx hb dX1_addMeasuring_19 rfl (lv_at hl 1 rfl) ?_
    refine va_get (pc := 20) (D := Z.1) (ci := 1) (v := .ref (a0 2)) (C := RX1) (T := TX1) (N := 15) hx hb hts u1 hown hK hP 0 rfl rfl 1 (by decide) w0 (fun _ h9 => h9) rfl dX1_addMeasuring_20 ?_
    refine lv_iload (pc := 23) hx hb dX1_addMeasuring_23 (lv_at hl 0 rfl) ?_
    refine lv_iconst (pc := 25) (v := 1) hx hb dX1_addMeasuring_25 (by decide) ?_
    obtain ⟨g26, hf⟩ := gd hf
    refine va_zast (pc := 26) (D := Z.1) (n := 6) (f := r5.2.1 1) hx hb hK hP hD hS 1 2 rfl rfl (inb_in g26) dX1_addMeasuring_26 (fun H locs hP hD hS => ?_)
    obtain ⟨s26, h_26, hf⟩ := bd hf
    have hP : va_P Z.1 vwCl (wX1 Z a0 s26) H := st_P (f := fun z => wX1 Z a0 z) h_26 hP
    have hD : va_D A (wX1 Z a0 s26) := st_D (f := fun z => wX1 Z a0 z) h_26 hD
    refine lv_aload_n (pc := 27) hx hb dX1_addMeasuring_27 rfl (lv_at hl 1 rfl) ?_
    refine va_get (pc := 28) (D := Z.1) (ci := 1) (v := .ref (a0 11)) (C := RX1) (T := TX1) (N := 15) hx hb hts u1 hown hK hP 0 rfl rfl 10 (by decide) w1 (fun _ h9 => h9) rfl dX1_addMeasuring_28 ?_
    refine lv_iload (pc := 31) hx hb dX1_addMeasuring_31 (lv_at hl 0 rfl) ?_
    refine lv_iload_n (pc := 33) hx hb dX1_addMeasuring_33 rfl (lv_at hl 3 rfl) ?_
    refine lv_i2l (pc := 34) (v := x2.toInt64) hx hb dX1_addMeasuring_34 rfl ?_
    obtain ⟨g35, hf⟩ := gd hf
    refine va_last (pc := 35) (D := Z.1) (n := 6) (f := s26.2 10) hx hb hK hP hD hS 10 1 rfl rfl (inb_in g35) dX1_addMeasuring_35 (fun H locs hP hD hS => ?_)
    obtain ⟨s35, h_35, hf⟩ := bd hf
    have hP : va_P Z.1 vwCl (wX1 Z a0 s35) H := st_P (f := fun z => wX1 Z a0 z) h_35 hP
    have hD : va_D A (wX1 Z a0 s35) := st_D (f := fun z => wX1 Z a0 z) h_35 hD
    refine lv_aload_n (pc := 36) hx hb dX1_addMeasuring_36 rfl (lv_at hl 1 rfl) ?_
    refine va_get (pc := 37) (D := Z.1) (ci := 1) (v := .ref (a0 5)) (C := RX1) (T := TX1) (N := 15) hx hb hts u1 hown hK hP 0 rfl rfl 4 (by decide) w2 (fun _ h9 => h9) rfl dX1_addMeasuring_37 ?_
    refine lv_iload (pc := 40) hx hb dX1_addMeasuring_40 (lv_at hl 0 rfl) ?_
    refine lv_iload (pc := 42) hx hb dX1_addMeasuring_42 (lv_at hl 5 rfl) ?_
    obtain ⟨g44, hf⟩ := gd hf
    refine va_iast (pc := 44) (D := Z.1) (n := 6) (f := s35.1 4) hx hb hK hP hD hS 4 0 rfl rfl (inb_in g44) dX1_addMeasuring_44 (fun H locs hP hD hS => ?_)
    obtain ⟨s44, h_44, hf⟩ := bd hf
    have hP : va_P Z.1 vwCl (wX1 Z a0 s44) H := st_P (f := fun z => wX1 Z a0 z) h_44 hP
    have hD : va_D A (wX1 Z a0 s44) := st_D (f := fun z => wX1 Z a0 z) h_44 hD
    refine lv_aload_n (pc := 45) hx hb dX1_addMeasuring_45 rfl (lv_at hl 1 rfl) ?_
    refine va_get (pc := 46) (D := Z.1) (ci := 1) (v := .ref (a0 9)) (C := RX1) (T := TX1) (N := 15) hx hb hts u1 hown hK hP 0 rfl rfl 8 (by decide) w3 (fun _ h9 => h9) rfl dX1_addMeasuring_46 ?_
    refine lv_iload (pc := 49) hx hb dX1_addMeasuring_49 (lv_at hl 0 rfl) ?_
    refine lv_sipush (pc := 51) (v := 500) hx hb dX1_addMeasuring_51 (by decide) ?_
    obtain ⟨g54, hf⟩ := gd hf
    refine va_iast (pc := 54) (D := Z.1) (n := 6) (f := s44.1 8) hx hb hK hP hD hS 8 0 rfl rfl (inb_in g54) dX1_addMeasuring_54 (fun H locs hP hD hS => ?_)
    obtain ⟨s54, h_54, hf⟩ := bd hf
    have hP : va_P Z.1 vwCl (wX1 Z a0 s54) H := st_P (f := fun z => wX1 Z a0 z) h_54 hP
    have hD : va_D A (wX1 Z a0 s54) := st_D (f := fun z => wX1 Z a0 z) h_54 hD
    refine lv_iload (pc := 55) hx hb dX1_addMeasuring_55 (lv_at hl 0 rfl) ?_
    have hf := (Option.some.inj hf)
    subst hf
    exact rw_i (fun _ => 0) hx hb hr hlk rfl hP hD hS dX1_addMeasuring_57
def f_X1_addRatio (o0 : ObS) (x1 : Int32) (x2 : Int32) (x3 : Int32) : Option (Int32 × ObS) :=
  (f_X1_add o0 x1 x2 x3).bind fun r4 =>
  some (r4.1, r4.2)
set_option maxHeartbeats 4000000 in
set_option maxRecDepth 100000 in
theorem c_X1_addRatio (Z : EnvT) (l : Launch) (a0 : Nat → Nat) (o0 : ObS) (x1 : Int32) (x2 : Int32) (x3 : Int32) (R : Int32 × ObS) (hf : f_X1_addRatio o0 x1 x2 x3 = some R) : RW Z l yX1_addRatio wsX1_addRatio { frames := 1, cells := 0, slots := 0, locals := 24 } [.ref (a0 0), .int x1, .int x2, .int x3] (wX1 Z a0 o0) (some (.int R.1)) (fun _ => wX1 Z a0 R.2) 0 0 := by
  refine rw_of (cc := cX1_addRatio) (maxL := 4) (ret := (some .int)) (by decide) rfl (Nat.le_of_ble_eq_true rfl) ?_
  intro p e s m below meth c A ls hx hb hr hml hts hown hlk hin hP hK hE hD hA hS hl
  have hown : s.vm.findClass RX1 = some m.cls := hown
  have hl : lv_has ls 4 [(0, .ref (a0 0)), (1, .int x1), (2, .int x2), (3, .int x3)] := hl
  rw [f_X1_addRatio] at hf
  refine lv_aload_n (pc := 0) hx hb dX1_addRatio_0 rfl (lv_at hl 0 rfl) ?_
  refine lv_iload_n (pc := 1) hx hb dX1_addRatio_1 rfl (lv_at hl 1 rfl) ?_
  refine lv_iload_n (pc := 2) hx hb dX1_addRatio_2 rfl (lv_at hl 2 rfl) ?_
  refine lv_iload_n (pc := 3) hx hb dX1_addRatio_3 rfl (lv_at hl 3 rfl) ?_
  obtain ⟨r4, h_4, hf⟩ := bd hf
  refine rw_V (pc := 4) (C := RX1) (As := [.int x1, .int x2, .int x3]) (rest := []) (st1 := [.int r4.1]) (wn := fun _ => wX1 Z a0 r4.2) ⟨hx, hb, hml, hown, hts⟩ (c_X1_add Z l a0 o0 x1 x2 x3 r4 h_4) (cwV 3 hts gX1_addRatio_X1_add rfl rfl rfl hv_X1_add ⟨Nat.le_of_ble_eq_true rfl, Nat.le_of_ble_eq_true rfl⟩) hK hE hP hD hS hA [0, 1, 2, 3, 4, 5, 6, 7, 8, 9, 10, 11, 12, 13, 14] [] [0, 1, 2, 3, 4, 5, 6, 7, 8, 9, 10, 11, 12, 13, 14] rfl rfl rfl (fun _ => rfl) 1 rfl rfl rfl hl.1 rfl (lv_room (Nat.le_of_ble_eq_true rfl)) dX1_addRatio_4 ⟨Nat.le_of_ble_eq_true rfl, Nat.le_of_ble_eq_true rfl⟩ rfl (fun _ H locs hP hD hS => ?_)
  have hf := (Option.some.inj hf)
  subst hf
  exact rw_i (fun _ => 0) hx hb hr hlk rfl hP hD hS dX1_addRatio_7
def f_X1_isMeasuring (o0 : ObS) (x1 : Int32) : Option (Int32) :=
  if (f_X1_isMade o0 x1) = (0 : Int32) then
    some ((0 : Int32))
  else
    if inb x1 6 then
    if (o0.1 1 (x1).toNatClampNeg) = (0 : Int32) then
      some ((0 : Int32))
    else
      some ((1 : Int32))
    else none
set_option maxHeartbeats 4000000 in
set_option maxRecDepth 100000 in
theorem c_X1_isMeasuring (Z : EnvT) (l : Launch) (a0 : Nat → Nat) (o0 : ObS) (x1 : Int32) (R : Int32) (hf : f_X1_isMeasuring o0 x1 = some R) : RO Z l yX1_isMeasuring wsX1_isMeasuring { frames := 1, cells := 0, slots := 0, locals := 21 } [.ref (a0 0), .int x1] (wX1 Z a0 o0) (some (.int R)) := by
  refine ro_of (cc := cX1_isMeasuring) (maxL := 2) (ret := (some .boolean)) (by decide) rfl (Nat.le_of_ble_eq_true rfl) ?_
  intro p e s m below meth c ls hx hb hr hml hts hown hlk hP hK hE hl
  have hown : s.vm.findClass RX1 = some m.cls := hown
  have hl : lv_has ls 2 [(0, .ref (a0 0)), (1, .int x1)] := hl
  have w0 := hts (.fieldLink RX1 15 "HeatTrain$Controllers" "measuring" "[Z") (by decide +kernel)
  have u1 : ∀ w ∈ wsX10, w ∈ wsX1_isMeasuring := by decide +kernel
  rw [f_X1_isMeasuring] at hf
  refine lv_aload_n (pc := 0) hx hb dX1_isMeasuring_0 rfl (lv_at hl 0 rfl) ?_
  refine lv_iload_n (pc := 1) hx hb dX1_isMeasuring_1 rfl (lv_at hl 1 rfl) ?_
  refine ro_V (pc := 2) (C := RX1) (As := [.int x1]) (rest := []) (st1 := [.int (f_X1_isMade o0 x1)]) ⟨hx, hb, hml, hown, hts⟩ (c_X1_isMade Z l a0 o0 x1 _ rfl) (cwV 1 hts gX1_isMeasuring_X1_isMade rfl rfl rfl hv_X1_isMade ⟨Nat.le_of_ble_eq_true rfl, Nat.le_of_ble_eq_true rfl⟩) hK hE hP 1 rfl rfl rfl hl.1 rfl (lv_room (Nat.le_of_ble_eq_true rfl)) dX1_isMeasuring_2 ⟨Nat.le_of_ble_eq_true rfl, Nat.le_of_ble_eq_true rfl⟩ rfl ?_
  refine lv_if_eq (pc := 5) (tgt := 21) hx hb dX1_isMeasuring_5 (by decide) (fun c1 => ?_) (fun c1 => ?_)
  · have hf := (if_pos c1).symm.trans hf
    refine lv_iconst (pc := 21) (v := 0) hx hb dX1_isMeasuring_21 (by decide) ?_
    exact ro_z hx hb hr hlk (Option.some.inj hf) rfl dX1_isMeasuring_22
  · have hf := (if_neg c1).symm.trans hf
    refine lv_aload_n (pc := 8) hx hb dX1_isMeasuring_8 rfl (lv_at hl 0 rfl) ?_
    refine va_get (pc := 9) (D := Z.1) (ci := 1) (v := .ref (a0 2)) (C := RX1) (T := TX1) (N := 15) hx hb hts u1 hown hK hP 0 rfl rfl 1 (by decide) w0 (fun _ h9 => h9) rfl dX1_isMeasuring_9 ?_
    refine lv_iload_n (pc := 12) hx hb dX1_isMeasuring_12 rfl (lv_at hl 1 rfl) ?_
    obtain ⟨g13, hf⟩ := gd hf
    refine va_zald (pc := 13) (D := Z.1) (n := 6) (f := o0.1 1) hx hb hK hP 1 2 rfl rfl (inb_in g13) dX1_isMeasuring_13 ?_
    refine lv_if_eq (pc := 14) (tgt := 21) hx hb dX1_isMeasuring_14 (by decide) (fun c2 => ?_) (fun c2 => ?_)
    · have hf := (if_pos c2).symm.trans hf
      refine lv_iconst (pc := 21) (v := 0) hx hb dX1_isMeasuring_21 (by decide) ?_
      exact ro_z hx hb hr hlk (Option.some.inj hf) rfl dX1_isMeasuring_22
    · have hf := (if_neg c2).symm.trans hf
      refine lv_iconst (pc := 17) (v := 1) hx hb dX1_isMeasuring_17 (by decide) ?_
      refine lv_goto (pc := 18) (tgt := 22) hx hb dX1_isMeasuring_18 (by decide) ?_
      exact ro_z hx hb hr hlk (Option.some.inj hf) rfl dX1_isMeasuring_22
def f_X1_putFeed (o0 : ObS) (x1 : Int32) (x2 : Int32) (x3 : Int32) : Option (ObS) :=
  if (f_X1_isMade o0 x1) = (0 : Int32) then
    some (o0)
  else
    if inb x1 6 then
    (some (oi o0 6 (x1).toNatClampNeg x2)).bind fun s14 =>
    if inb x1 6 then
    (some (oi s14 7 (x1).toNatClampNeg x3)).bind fun s21 =>
    some (s21)
    else none
    else none
set_option maxHeartbeats 4000000 in
set_option maxRecDepth 100000 in
theorem c_X1_putFeed (Z : EnvT) (l : Launch) (a0 : Nat → Nat) (o0 : ObS) (x1 : Int32) (x2 : Int32) (x3 : Int32) (R : ObS) (hf : f_X1_putFeed o0 x1 x2 x3 = some R) : RW Z l yX1_putFeed wsX1_putFeed { frames := 1, cells := 0, slots := 0, locals := 21 } [.ref (a0 0), .int x1, .int x2, .int x3] (wX1 Z a0 o0) none (fun _ => wX1 Z a0 R) 0 0 := by
  refine rw_of (cc := cX1_putFeed) (maxL := 4) (ret := none) (by decide) rfl (Nat.le_of_ble_eq_true rfl) ?_
  intro p e s m below meth c A ls hx hb hr hml hts hown hlk hin hP hK hE hD hA hS hl
  have hown : s.vm.findClass RX1 = some m.cls := hown
  have hl : lv_has ls 4 [(0, .ref (a0 0)), (1, .int x1), (2, .int x2), (3, .int x3)] := hl
  have w0 := hts (.fieldLink RX1 32 "HeatTrain$Controllers" "feedStream" "[I") (by decide +kernel)
  have w1 := hts (.fieldLink RX1 35 "HeatTrain$Controllers" "feedHundredths" "[I") (by decide +kernel)
  have u1 : ∀ w ∈ wsX10, w ∈ wsX1_putFeed := by decide +kernel
  rw [f_X1_putFeed] at hf
  refine lv_aload_n (pc := 0) hx hb dX1_putFeed_0 rfl (lv_at hl 0 rfl) ?_
  refine lv_iload_n (pc := 1) hx hb dX1_putFeed_1 rfl (lv_at hl 1 rfl) ?_
  refine ro_V (pc := 2) (C := RX1) (As := [.int x1]) (rest := []) (st1 := [.int (f_X1_isMade o0 x1)]) ⟨hx, hb, hml, hown, hts⟩ (c_X1_isMade Z l a0 o0 x1 _ rfl) (cwV 1 hts gX1_putFeed_X1_isMade rfl rfl rfl hv_X1_isMade ⟨Nat.le_of_ble_eq_true rfl, Nat.le_of_ble_eq_true rfl⟩) hK hE hP 1 rfl rfl rfl hl.1 rfl (lv_room (Nat.le_of_ble_eq_true rfl)) dX1_putFeed_2 ⟨Nat.le_of_ble_eq_true rfl, Nat.le_of_ble_eq_true rfl⟩ rfl ?_
  refine lv_if_eq (pc := 5) (tgt := 22) hx hb dX1_putFeed_5 (by decide) (fun c1 => ?_) (fun c1 => ?_)
  · have hf := (if_pos c1).symm.trans hf
    have hf := (Option.some.inj hf)
    subst hf
    exact rw_v (fun _ => 0) hx hb hr hlk hP hD hS dX1_putFeed_22
  · have hf := (if_neg c1).symm.trans hf
    refine lv_aload_n (pc := 8) hx hb dX1_putFeed_8 rfl (lv_at hl 0 rfl) ?_
    refine va_get (pc := 9) (D := Z.1) (ci := 1) (v := .ref (a0 7)) (C := RX1) (T := TX1) (N := 15) hx hb hts u1 hown hK hP 0 rfl rfl 6 (by decide) w0 (fun _ h9 => h9) rfl dX1_putFeed_9 ?_
    refine lv_iload_n (pc := 12) hx hb dX1_putFeed_12 rfl (lv_at hl 1 rfl) ?_
    refine lv_iload_n (pc := 13) hx hb dX1_putFeed_13 rfl (lv_at hl 2 rfl) ?_
    obtain ⟨g14, hf⟩ := gd hf
    refine va_iast (pc := 14) (D := Z.1) (n := 6) (f := o0.1 6) hx hb hK hP hD hS 6 0 rfl rfl (inb_in g14) dX1_putFeed_14 (fun H locs hP hD hS => ?_)
    obtain ⟨s14, h_14, hf⟩ := bd hf
    have hP : va_P Z.1 vwCl (wX1 Z a0 s14) H := st_P (f := fun z => wX1 Z a0 z) h_14 hP
    have hD : va_D A (wX1 Z a0 s14) := st_D (f := fun z => wX1 Z a0 z) h_14 hD
    refine lv_aload_n (pc := 15) hx hb dX1_putFeed_15 rfl (lv_at hl 0 rfl) ?_
    refine va_get (pc := 16) (D := Z.1) (ci := 1) (v := .ref (a0 8)) (C := RX1) (T := TX1) (N := 15) hx hb hts u1 hown hK hP 0 rfl rfl 7 (by decide) w1 (fun _ h9 => h9) rfl dX1_putFeed_16 ?_
    refine lv_iload_n (pc := 19) hx hb dX1_putFeed_19 rfl (lv_at hl 1 rfl) ?_
    refine lv_iload_n (pc := 20) hx hb dX1_putFeed_20 rfl (lv_at hl 3 rfl) ?_
    obtain ⟨g21, hf⟩ := gd hf
    refine va_iast (pc := 21) (D := Z.1) (n := 6) (f := s14.1 7) hx hb hK hP hD hS 7 0 rfl rfl (inb_in g21) dX1_putFeed_21 (fun H locs hP hD hS => ?_)
    obtain ⟨s21, h_21, hf⟩ := bd hf
    have hP : va_P Z.1 vwCl (wX1 Z a0 s21) H := st_P (f := fun z => wX1 Z a0 z) h_21 hP
    have hD : va_D A (wX1 Z a0 s21) := st_D (f := fun z => wX1 Z a0 z) h_21 hD
    have hf := (Option.some.inj hf)
    subst hf
    exact rw_v (fun _ => 0) hx hb hr hlk hP hD hS dX1_putFeed_22
def f_X1_goalOf (o0 : ObS) (x1 : Int32) : Option (Int64) :=
  if (f_X1_isMade o0 x1) = (0 : Int32) then
    some ((0 : Int64))
  else
    if inb x1 6 then
    some (o0.2 10 (x1).toNatClampNeg)
    else none
set_option maxHeartbeats 4000000 in
set_option maxRecDepth 100000 in
theorem c_X1_goalOf (Z : EnvT) (l : Launch) (a0 : Nat → Nat) (o0 : ObS) (x1 : Int32) (R : Int64) (hf : f_X1_goalOf o0 x1 = some R) : RO Z l yX1_goalOf wsX1_goalOf { frames := 1, cells := 0, slots := 0, locals := 21 } [.ref (a0 0), .int x1] (wX1 Z a0 o0) (some (.long R)) := by
  refine ro_of (cc := cX1_goalOf) (maxL := 2) (ret := (some .long)) (by decide) rfl (Nat.le_of_ble_eq_true rfl) ?_
  intro p e s m below meth c ls hx hb hr hml hts hown hlk hP hK hE hl
  have hown : s.vm.findClass RX1 = some m.cls := hown
  have hl : lv_has ls 2 [(0, .ref (a0 0)), (1, .int x1)] := hl
  have w0 := hts (.fieldLink RX1 44 "HeatTrain$Controllers" "goal" "[J") (by decide +kernel)
  have u1 : ∀ w ∈ wsX10, w ∈ wsX1_goalOf := by decide +kernel
  rw [f_X1_goalOf] at hf
  refine lv_aload_n (pc := 0) hx hb dX1_goalOf_0 rfl (lv_at hl 0 rfl) ?_
  refine lv_iload_n (pc := 1) hx hb dX1_goalOf_1 rfl (lv_at hl 1 rfl) ?_
  refine ro_V (pc := 2) (C := RX1) (As := [.int x1]) (rest := []) (st1 := [.int (f_X1_isMade o0 x1)]) ⟨hx, hb, hml, hown, hts⟩ (c_X1_isMade Z l a0 o0 x1 _ rfl) (cwV 1 hts gX1_goalOf_X1_isMade rfl rfl rfl hv_X1_isMade ⟨Nat.le_of_ble_eq_true rfl, Nat.le_of_ble_eq_true rfl⟩) hK hE hP 1 rfl rfl rfl hl.1 rfl (lv_room (Nat.le_of_ble_eq_true rfl)) dX1_goalOf_2 ⟨Nat.le_of_ble_eq_true rfl, Nat.le_of_ble_eq_true rfl⟩ rfl ?_
  refine lv_if_eq (pc := 5) (tgt := 17) hx hb dX1_goalOf_5 (by decide) (fun c1 => ?_) (fun c1 => ?_)
  · have hf := (if_pos c1).symm.trans hf
    refine lv_lconst (pc := 17) (v := 0) hx hb dX1_goalOf_17 (by decide) ?_
    exact ro_l hx hb hr hlk (Option.some.inj hf) dX1_goalOf_18
  · have hf := (if_neg c1).symm.trans hf
    refine lv_aload_n (pc := 8) hx hb dX1_goalOf_8 rfl (lv_at hl 0 rfl) ?_
    refine va_get (pc := 9) (D := Z.1) (ci := 1) (v := .ref (a0 11)) (C := RX1) (T := TX1) (N := 15) hx hb hts u1 hown hK hP 0 rfl rfl 10 (by decide) w0 (fun _ h9 => h9) rfl dX1_goalOf_9 ?_
    refine lv_iload_n (pc := 12) hx hb dX1_goalOf_12 rfl (lv_at hl 1 rfl) ?_
    obtain ⟨g13, hf⟩ := gd hf
    refine va_lald (pc := 13) (D := Z.1) (n := 6) (f := o0.2 10) hx hb hK hP 10 1 rfl rfl (inb_in g13) dX1_goalOf_13 ?_
    refine lv_goto (pc := 14) (tgt := 18) hx hb dX1_goalOf_14 (by decide) ?_
    exact ro_l hx hb hr hlk (Option.some.inj hf) dX1_goalOf_18
def f_X1_aimAt (o0 : ObS) (x1 : Int32) (x2 : Int32) (x3 : Int32) : Option (Int32 × ObS) :=
  (f_X1_goalOf o0 x1).bind fun r2 =>
  if (f_X1_isMade o0 x1) = (0 : Int32) then
    some (r2.toInt32, o0)
  else
    if inb x1 6 then
    (some (oj o0 10 (x1).toNatClampNeg x2.toInt64)).bind fun s23 =>
    if inb x1 6 then
    (some (oi s23 8 (x1).toNatClampNeg x3)).bind fun s30 =>
    some (r2.toInt32, s30)
    else none
    else none
set_option maxHeartbeats 4000000 in
set_option maxRecDepth 100000 in
theorem c_X1_aimAt (Z : EnvT) (l : Launch) (a0 : Nat → Nat) (o0 : ObS) (x1 : Int32) (x2 : Int32) (x3 : Int32) (R : Int32 × ObS) (hf : f_X1_aimAt o0 x1 x2 x3 = some R) : RW Z l yX1_aimAt wsX1_aimAt { frames := 2, cells := 0, slots := 0, locals := 42 } [.ref (a0 0), .int x1, .int x2, .int x3] (wX1 Z a0 o0) (some (.int R.1)) (fun _ => wX1 Z a0 R.2) 0 0 := by
  refine rw_of (cc := cX1_aimAt) (maxL := 5) (ret := (some .int)) (by decide) rfl (Nat.le_of_ble_eq_true rfl) ?_
  intro p e s m below meth c A ls hx hb hr hml hts hown hlk hin hP hK hE hD hA hS hl
  have hown : s.vm.findClass RX1 = some m.cls := hown
  have hl : lv_has ls 5 [(0, .ref (a0 0)), (1, .int x1), (2, .int x2), (3, .int x3)] := hl
  have w0 := hts (.fieldLink RX1 44 "HeatTrain$Controllers" "goal" "[J") (by decide +kernel)
  have w1 := hts (.fieldLink RX1 38 "HeatTrain$Controllers" "limit" "[I") (by decide +kernel)
  have u1 : ∀ w ∈ wsX10, w ∈ wsX1_aimAt := by decide +kernel
  rw [f_X1_aimAt] at hf
  refine lv_aload_n (pc := 0) hx hb dX1_aimAt_0 rfl (lv_at hl 0 rfl) ?_
  refine lv_iload_n (pc := 1) hx hb dX1_aimAt_1 rfl (lv_at hl 1 rfl) ?_
  obtain ⟨r2, h_2, hf⟩ := bd hf
  refine ro_V (pc := 2) (C := RX1) (As := [.int x1]) (rest := []) (st1 := [.long r2]) ⟨hx, hb, hml, hown, hts⟩ (c_X1_goalOf Z l a0 o0 x1 r2 h_2) (cwV 1 hts gX1_aimAt_X1_goalOf rfl rfl rfl hv_X1_goalOf ⟨Nat.le_of_ble_eq_true rfl, Nat.le_of_ble_eq_true rfl⟩) hK hE hP 1 rfl rfl rfl hl.1 rfl (lv_room (Nat.le_of_ble_eq_true rfl)) dX1_aimAt_2 ⟨Nat.le_of_ble_eq_true rfl, Nat.le_of_ble_eq_true rfl⟩ rfl ?_
  refine lv_l2i (pc := 5) (v := r2.toInt32) hx hb dX1_aimAt_5 rfl ?_
  refine lv_istore (pc := 6) (lv' := [(4, .int r2.toInt32), (0, .ref (a0 0)), (1, .int x1), (2, .int x2), (3, .int x3)]) hx hb dX1_aimAt_6 hl (by decide) rfl (fun ls hl => ?_)
  refine lv_aload_n (pc := 8) hx hb dX1_aimAt_8 rfl (lv_at hl 1 rfl) ?_
  refine lv_iload_n (pc := 9) hx hb dX1_aimAt_9 rfl (lv_at hl 2 rfl) ?_
  refine ro_V (pc := 10) (C := RX1) (As := [.int x1]) (rest := []) (st1 := [.int (f_X1_isMade o0 x1)]) ⟨hx, hb, hml, hown, hts⟩ (c_X1_isMade Z l a0 o0 x1 _ rfl) (cwV 1 hts gX1_aimAt_X1_isMade rfl rfl rfl hv_X1_isMade ⟨Nat.le_of_ble_eq_true rfl, Nat.le_of_ble_eq_true rfl⟩) hK hE hP 1 rfl rfl rfl hl.1 rfl (lv_room (Nat.le_of_ble_eq_true rfl)) dX1_aimAt_10 ⟨Nat.le_of_ble_eq_true rfl, Nat.le_of_ble_eq_true rfl⟩ rfl ?_
  refine lv_if_eq (pc := 13) (tgt := 31) hx hb dX1_aimAt_13 (by decide) (fun c1 => ?_) (fun c1 => ?_)
  · have hf := (if_pos c1).symm.trans hf
    refine lv_iload (pc := 31) hx hb dX1_aimAt_31 (lv_at hl 0 rfl) ?_
    have hf := (Option.some.inj hf)
    subst hf
    exact rw_i (fun _ => 0) hx hb hr hlk rfl hP hD hS dX1_aimAt_33
  · have hf := (if_neg c1).symm.trans hf
    refine lv_aload_n (pc := 16) hx hb dX1_aimAt_16 rfl (lv_at hl 1 rfl) ?_
    refine va_get (pc := 17) (D := Z.1) (ci := 1) (v := .ref (a0 11)) (C := RX1) (T := TX1) (N := 15) hx hb hts u1 hown hK hP 0 rfl rfl 10 (by decide) w0 (fun _ h9 => h9) rfl dX1_aimAt_17 ?_
    refine lv_iload_n (pc := 20) hx hb dX1_aimAt_20 rfl (lv_at hl 2 rfl) ?_
    refine lv_iload_n (pc := 21) hx hb dX1_aimAt_21 rfl (lv_at hl 3 rfl) ?_
    refine lv_i2l (pc := 22) (v := x2.toInt64) hx hb dX1_aimAt_22 rfl ?_
    obtain ⟨g23, hf⟩ := gd hf
    refine va_last (pc := 23) (D := Z.1) (n := 6) (f := o0.2 10) hx hb hK hP hD hS 10 1 rfl rfl (inb_in g23) dX1_aimAt_23 (fun H locs hP hD hS => ?_)
    obtain ⟨s23, h_23, hf⟩ := bd hf
    have hP : va_P Z.1 vwCl (wX1 Z a0 s23) H := st_P (f := fun z => wX1 Z a0 z) h_23 hP
    have hD : va_D A (wX1 Z a0 s23) := st_D (f := fun z => wX1 Z a0 z) h_23 hD
    refine lv_aload_n (pc := 24) hx hb dX1_aimAt_24 rfl (lv_at hl 1 rfl) ?_
    refine va_get (pc := 25) (D := Z.1) (ci := 1) (v := .ref (a0 9)) (C := RX1) (T := TX1) (N := 15) hx hb hts u1 hown hK hP 0 rfl rfl 8 (by decide) w1 (fun _ h9 => h9) rfl dX1_aimAt_25 ?_
    refine lv_iload_n (pc := 28) hx hb dX1_aimAt_28 rfl (lv_at hl 2 rfl) ?_
    refine lv_iload_n (pc := 29) hx hb dX1_aimAt_29 rfl (lv_at hl 4 rfl) ?_
    obtain ⟨g30, hf⟩ := gd hf
    refine va_iast (pc := 30) (D := Z.1) (n := 6) (f := s23.1 8) hx hb hK hP hD hS 8 0 rfl rfl (inb_in g30) dX1_aimAt_30 (fun H locs hP hD hS => ?_)
    obtain ⟨s30, h_30, hf⟩ := bd hf
    have hP : va_P Z.1 vwCl (wX1 Z a0 s30) H := st_P (f := fun z => wX1 Z a0 z) h_30 hP
    have hD : va_D A (wX1 Z a0 s30) := st_D (f := fun z => wX1 Z a0 z) h_30 hD
    refine lv_iload (pc := 31) hx hb dX1_aimAt_31 (lv_at hl 0 rfl) ?_
    have hf := (Option.some.inj hf)
    subst hf
    exact rw_i (fun _ => 0) hx hb hr hlk rfl hP hD hS dX1_aimAt_33
def f_X1_sumOf (o0 : ObS) (x1 : Int32) : Option (Int64) :=
  if (f_X1_isMade o0 x1) = (0 : Int32) then
    some ((0 : Int64))
  else
    if inb x1 6 then
    some (o0.2 11 (x1).toNatClampNeg)
    else none
set_option maxHeartbeats 4000000 in
set_option maxRecDepth 100000 in
theorem c_X1_sumOf (Z : EnvT) (l : Launch) (a0 : Nat → Nat) (o0 : ObS) (x1 : Int32) (R : Int64) (hf : f_X1_sumOf o0 x1 = some R) : RO Z l yX1_sumOf wsX1_sumOf { frames := 1, cells := 0, slots := 0, locals := 21 } [.ref (a0 0), .int x1] (wX1 Z a0 o0) (some (.long R)) := by
  refine ro_of (cc := cX1_sumOf) (maxL := 2) (ret := (some .long)) (by decide) rfl (Nat.le_of_ble_eq_true rfl) ?_
  intro p e s m below meth c ls hx hb hr hml hts hown hlk hP hK hE hl
  have hown : s.vm.findClass RX1 = some m.cls := hown
  have hl : lv_has ls 2 [(0, .ref (a0 0)), (1, .int x1)] := hl
  have w0 := hts (.fieldLink RX1 48 "HeatTrain$Controllers" "sum" "[J") (by decide +kernel)
  have u1 : ∀ w ∈ wsX10, w ∈ wsX1_sumOf := by decide +kernel
  rw [f_X1_sumOf] at hf
  refine lv_aload_n (pc := 0) hx hb dX1_sumOf_0 rfl (lv_at hl 0 rfl) ?_
  refine lv_iload_n (pc := 1) hx hb dX1_sumOf_1 rfl (lv_at hl 1 rfl) ?_
  refine ro_V (pc := 2) (C := RX1) (As := [.int x1]) (rest := []) (st1 := [.int (f_X1_isMade o0 x1)]) ⟨hx, hb, hml, hown, hts⟩ (c_X1_isMade Z l a0 o0 x1 _ rfl) (cwV 1 hts gX1_sumOf_X1_isMade rfl rfl rfl hv_X1_isMade ⟨Nat.le_of_ble_eq_true rfl, Nat.le_of_ble_eq_true rfl⟩) hK hE hP 1 rfl rfl rfl hl.1 rfl (lv_room (Nat.le_of_ble_eq_true rfl)) dX1_sumOf_2 ⟨Nat.le_of_ble_eq_true rfl, Nat.le_of_ble_eq_true rfl⟩ rfl ?_
  refine lv_if_eq (pc := 5) (tgt := 17) hx hb dX1_sumOf_5 (by decide) (fun c1 => ?_) (fun c1 => ?_)
  · have hf := (if_pos c1).symm.trans hf
    refine lv_lconst (pc := 17) (v := 0) hx hb dX1_sumOf_17 (by decide) ?_
    exact ro_l hx hb hr hlk (Option.some.inj hf) dX1_sumOf_18
  · have hf := (if_neg c1).symm.trans hf
    refine lv_aload_n (pc := 8) hx hb dX1_sumOf_8 rfl (lv_at hl 0 rfl) ?_
    refine va_get (pc := 9) (D := Z.1) (ci := 1) (v := .ref (a0 12)) (C := RX1) (T := TX1) (N := 15) hx hb hts u1 hown hK hP 0 rfl rfl 11 (by decide) w0 (fun _ h9 => h9) rfl dX1_sumOf_9 ?_
    refine lv_iload_n (pc := 12) hx hb dX1_sumOf_12 rfl (lv_at hl 1 rfl) ?_
    obtain ⟨g13, hf⟩ := gd hf
    refine va_lald (pc := 13) (D := Z.1) (n := 6) (f := o0.2 11) hx hb hK hP 11 1 rfl rfl (inb_in g13) dX1_sumOf_13 ?_
    refine lv_goto (pc := 14) (tgt := 18) hx hb dX1_sumOf_14 (by decide) ?_
    exact ro_l hx hb hr hlk (Option.some.inj hf) dX1_sumOf_18
def f_X1_outputOf (o0 : ObS) (x1 : Int32) : Option (Int64) :=
  if (f_X1_isMade o0 x1) = (0 : Int32) then
    some ((0 : Int64))
  else
    if inb x1 6 then
    some (o0.2 13 (x1).toNatClampNeg)
    else none
set_option maxHeartbeats 4000000 in
set_option maxRecDepth 100000 in
theorem c_X1_outputOf (Z : EnvT) (l : Launch) (a0 : Nat → Nat) (o0 : ObS) (x1 : Int32) (R : Int64) (hf : f_X1_outputOf o0 x1 = some R) : RO Z l yX1_outputOf wsX1_outputOf { frames := 1, cells := 0, slots := 0, locals := 21 } [.ref (a0 0), .int x1] (wX1 Z a0 o0) (some (.long R)) := by
  refine ro_of (cc := cX1_outputOf) (maxL := 2) (ret := (some .long)) (by decide) rfl (Nat.le_of_ble_eq_true rfl) ?_
  intro p e s m below meth c ls hx hb hr hml hts hown hlk hP hK hE hl
  have hown : s.vm.findClass RX1 = some m.cls := hown
  have hl : lv_has ls 2 [(0, .ref (a0 0)), (1, .int x1)] := hl
  have w0 := hts (.fieldLink RX1 54 "HeatTrain$Controllers" "output" "[J") (by decide +kernel)
  have u1 : ∀ w ∈ wsX10, w ∈ wsX1_outputOf := by decide +kernel
  rw [f_X1_outputOf] at hf
  refine lv_aload_n (pc := 0) hx hb dX1_outputOf_0 rfl (lv_at hl 0 rfl) ?_
  refine lv_iload_n (pc := 1) hx hb dX1_outputOf_1 rfl (lv_at hl 1 rfl) ?_
  refine ro_V (pc := 2) (C := RX1) (As := [.int x1]) (rest := []) (st1 := [.int (f_X1_isMade o0 x1)]) ⟨hx, hb, hml, hown, hts⟩ (c_X1_isMade Z l a0 o0 x1 _ rfl) (cwV 1 hts gX1_outputOf_X1_isMade rfl rfl rfl hv_X1_isMade ⟨Nat.le_of_ble_eq_true rfl, Nat.le_of_ble_eq_true rfl⟩) hK hE hP 1 rfl rfl rfl hl.1 rfl (lv_room (Nat.le_of_ble_eq_true rfl)) dX1_outputOf_2 ⟨Nat.le_of_ble_eq_true rfl, Nat.le_of_ble_eq_true rfl⟩ rfl ?_
  refine lv_if_eq (pc := 5) (tgt := 17) hx hb dX1_outputOf_5 (by decide) (fun c1 => ?_) (fun c1 => ?_)
  · have hf := (if_pos c1).symm.trans hf
    refine lv_lconst (pc := 17) (v := 0) hx hb dX1_outputOf_17 (by decide) ?_
    exact ro_l hx hb hr hlk (Option.some.inj hf) dX1_outputOf_18
  · have hf := (if_neg c1).symm.trans hf
    refine lv_aload_n (pc := 8) hx hb dX1_outputOf_8 rfl (lv_at hl 0 rfl) ?_
    refine va_get (pc := 9) (D := Z.1) (ci := 1) (v := .ref (a0 14)) (C := RX1) (T := TX1) (N := 15) hx hb hts u1 hown hK hP 0 rfl rfl 13 (by decide) w0 (fun _ h9 => h9) rfl dX1_outputOf_9 ?_
    refine lv_iload_n (pc := 12) hx hb dX1_outputOf_12 rfl (lv_at hl 1 rfl) ?_
    obtain ⟨g13, hf⟩ := gd hf
    refine va_lald (pc := 13) (D := Z.1) (n := 6) (f := o0.2 13) hx hb hK hP 13 1 rfl rfl (inb_in g13) dX1_outputOf_13 ?_
    refine lv_goto (pc := 14) (tgt := 18) hx hb dX1_outputOf_14 (by decide) ?_
    exact ro_l hx hb hr hlk (Option.some.inj hf) dX1_outputOf_18
def f_X1_errorOf (o0 : ObS) (x1 : Int32) : Option (Int64) :=
  if (f_X1_isMade o0 x1) = (0 : Int32) then
    some ((0 : Int64))
  else
    if inb x1 6 then
    some (o0.2 14 (x1).toNatClampNeg)
    else none
set_option maxHeartbeats 4000000 in
set_option maxRecDepth 100000 in
theorem c_X1_errorOf (Z : EnvT) (l : Launch) (a0 : Nat → Nat) (o0 : ObS) (x1 : Int32) (R : Int64) (hf : f_X1_errorOf o0 x1 = some R) : RO Z l yX1_errorOf wsX1_errorOf { frames := 1, cells := 0, slots := 0, locals := 21 } [.ref (a0 0), .int x1] (wX1 Z a0 o0) (some (.long R)) := by
  refine ro_of (cc := cX1_errorOf) (maxL := 2) (ret := (some .long)) (by decide) rfl (Nat.le_of_ble_eq_true rfl) ?_
  intro p e s m below meth c ls hx hb hr hml hts hown hlk hP hK hE hl
  have hown : s.vm.findClass RX1 = some m.cls := hown
  have hl : lv_has ls 2 [(0, .ref (a0 0)), (1, .int x1)] := hl
  have w0 := hts (.fieldLink RX1 57 "HeatTrain$Controllers" "error" "[J") (by decide +kernel)
  have u1 : ∀ w ∈ wsX10, w ∈ wsX1_errorOf := by decide +kernel
  rw [f_X1_errorOf] at hf
  refine lv_aload_n (pc := 0) hx hb dX1_errorOf_0 rfl (lv_at hl 0 rfl) ?_
  refine lv_iload_n (pc := 1) hx hb dX1_errorOf_1 rfl (lv_at hl 1 rfl) ?_
  refine ro_V (pc := 2) (C := RX1) (As := [.int x1]) (rest := []) (st1 := [.int (f_X1_isMade o0 x1)]) ⟨hx, hb, hml, hown, hts⟩ (c_X1_isMade Z l a0 o0 x1 _ rfl) (cwV 1 hts gX1_errorOf_X1_isMade rfl rfl rfl hv_X1_isMade ⟨Nat.le_of_ble_eq_true rfl, Nat.le_of_ble_eq_true rfl⟩) hK hE hP 1 rfl rfl rfl hl.1 rfl (lv_room (Nat.le_of_ble_eq_true rfl)) dX1_errorOf_2 ⟨Nat.le_of_ble_eq_true rfl, Nat.le_of_ble_eq_true rfl⟩ rfl ?_
  refine lv_if_eq (pc := 5) (tgt := 17) hx hb dX1_errorOf_5 (by decide) (fun c1 => ?_) (fun c1 => ?_)
  · have hf := (if_pos c1).symm.trans hf
    refine lv_lconst (pc := 17) (v := 0) hx hb dX1_errorOf_17 (by decide) ?_
    exact ro_l hx hb hr hlk (Option.some.inj hf) dX1_errorOf_18
  · have hf := (if_neg c1).symm.trans hf
    refine lv_aload_n (pc := 8) hx hb dX1_errorOf_8 rfl (lv_at hl 0 rfl) ?_
    refine va_get (pc := 9) (D := Z.1) (ci := 1) (v := .ref (a0 15)) (C := RX1) (T := TX1) (N := 15) hx hb hts u1 hown hK hP 0 rfl rfl 14 (by decide) w0 (fun _ h9 => h9) rfl dX1_errorOf_9 ?_
    refine lv_iload_n (pc := 12) hx hb dX1_errorOf_12 rfl (lv_at hl 1 rfl) ?_
    obtain ⟨g13, hf⟩ := gd hf
    refine va_lald (pc := 13) (D := Z.1) (n := 6) (f := o0.2 14) hx hb hK hP 14 1 rfl rfl (inb_in g13) dX1_errorOf_13 ?_
    refine lv_goto (pc := 14) (tgt := 18) hx hb dX1_errorOf_14 (by decide) ?_
    exact ro_l hx hb hr hlk (Option.some.inj hf) dX1_errorOf_18
def f_X1_heldSum (x1 : Int64) : Int64 :=
  (f_X6_held x1 (-10000000) 10000000)
set_option maxHeartbeats 4000000 in
set_option maxRecDepth 100000 in
theorem c_X1_heldSum (Z : EnvT) (l : Launch) (x1 : Int64) (R : Int64) (hf : f_X1_heldSum x1 = R) : RO Z l yX1_heldSum wsX1_heldSum { frames := 1, cells := 0, slots := 0, locals := 25 } [.long x1] ([]) (some (.long R)) := by
  refine ro_of (cc := cX1_heldSum) (maxL := 2) (ret := (some .long)) (by decide) rfl (Nat.le_of_ble_eq_true rfl) ?_
  intro p e s m below meth c ls hx hb hr hml hts hown hlk hP hK hE hl
  have hown : s.vm.findClass RX1 = some m.cls := hown
  have hl : lv_has ls 2 [(0, .long x1)] := hl
  have w0 := hts (.constantLong RX1 126 (-10000000)) (by decide +kernel)
  have w1 := hts (.constantLong RX1 128 (10000000)) (by decide +kernel)
  have w2 := hts (.static yX6_held) (by decide +kernel)
  have w3 := hts (.initialized RX6) (by decide +kernel)
  rw [f_X1_heldSum] at hf
  refine lv_lload_n (pc := 0) hx hb dX1_heldSum_0 rfl (lv_at hl 0 rfl) ?_
  refine lv_ldc2 (pc := 1) (v := (-10000000)) hx hb hown w0 dX1_heldSum_1 ?_
  refine lv_ldc2 (pc := 4) (v := 10000000) hx hb hown w1 dX1_heldSum_4 ?_
  refine ro_SN (pc := 7) (As := [.long x1, .long (-10000000), .long 10000000]) (rest := []) (st1 := [.long (f_X6_held x1 (-10000000) 10000000)]) ⟨hx, hb, hml, hown, hts⟩ (c_X6_held Z l x1 (-10000000) 10000000 _ rfl) (va_cnB 3 hts gX1_heldSum_X6_held_n118 rfl rfl rfl hE.1 w3 hs_X6_held ⟨Nat.le_of_ble_eq_true rfl, Nat.le_of_ble_eq_true rfl⟩) w2 hK hE hP rfl hl.1 rfl (lv_room (Nat.le_of_ble_eq_true rfl)) dX1_heldSum_7 ⟨Nat.le_of_ble_eq_true rfl, Nat.le_of_ble_eq_true rfl⟩ rfl ?_
  exact ro_l hx hb hr hlk hf dX1_heldSum_10
def f_X1_measure (o0 : ObS) (o1 : ObS) (x1 : Int32) : Option (ObS) :=
  if inb x1 6 then
  if inb x1 6 then
  (f_X3_warmthOf o1 (o0.1 2 (x1).toNatClampNeg)).bind fun r18 =>
  if inb x1 6 then
  (some (oj o0 14 (x1).toNatClampNeg ((o0.2 10 (x1).toNatClampNeg) - r18))).bind fun s22 =>
  if inb x1 6 then
  if inb x1 6 then
  if inb x1 6 then
  if inb x1 6 then
  (some (oj s22 11 (x1).toNatClampNeg (f_X1_heldSum ((s22.2 11 (x1).toNatClampNeg) + (((s22.1 3 (x1).toNatClampNeg).toInt64) * (s22.2 14 (x1).toNatClampNeg)))))).bind fun s52 =>
  if inb x1 6 then
  if inb x1 6 then
  (f_X3_warmthOf o1 (s52.1 6 (x1).toNatClampNeg)).bind fun r72 =>
  if inb x1 6 then
  (some (oj s52 12 (x1).toNatClampNeg ((((s52.1 7 (x1).toNatClampNeg).toInt64) * (r72 - 200)) / 100))).bind fun s84 =>
  if inb x1 6 then
  if inb x1 6 then
  if inb x1 6 then
  if inb x1 6 then
  (some (oj s84 13 (x1).toNatClampNeg ((((s84.1 4 (x1).toNatClampNeg).toInt64) + ((s84.2 11 (x1).toNatClampNeg) / 1000)) + (s84.2 12 (x1).toNatClampNeg)))).bind fun s115 =>
  some (s115)
  else none
  else none
  else none
  else none
  else none
  else none
  else none
  else none
  else none
  else none
  else none
  else none
  else none
  else none
set_option maxHeartbeats 4000000 in
set_option maxRecDepth 100000 in
theorem c_X1_measure (Z : EnvT) (l : Launch) (a0 : Nat → Nat) (o0 : ObS) (a1 : Nat → Nat) (o1 : ObS) (x1 : Int32) (R : ObS) (hf : f_X1_measure o0 o1 x1 = some R) : RW Z l yX1_measure wsX1_measure { frames := 2, cells := 0, slots := 0, locals := 46 } [.ref (a0 0), .int x1, .ref (a1 0)] (wX1 Z a0 o0 ++ wX3 Z a1 o1) none (fun _ => wX1 Z a0 R ++ wX3 Z a1 o1) 0 0 := by
  refine rw_of (cc := cX1_measure) (maxL := 3) (ret := none) (by decide) rfl (Nat.le_of_ble_eq_true rfl) ?_
  intro p e s m below meth c A ls hx hb hr hml hts hown hlk hin hP hK hE hD hA hS hl
  have hown : s.vm.findClass RX1 = some m.cls := hown
  have hl : lv_has ls 3 [(0, .ref (a0 0)), (1, .int x1), (2, .ref (a1 0))] := hl
  have w0 := hts (.fieldLink RX1 57 "HeatTrain$Controllers" "error" "[J") (by decide +kernel)
  have w1 := hts (.fieldLink RX1 44 "HeatTrain$Controllers" "goal" "[J") (by decide +kernel)
  have w2 := hts (.fieldLink RX1 19 "HeatTrain$Controllers" "stream" "[I") (by decide +kernel)
  have w3 := hts (.fieldLink RX1 48 "HeatTrain$Controllers" "sum" "[J") (by decide +kernel)
  have w4 := hts (.fieldLink RX1 23 "HeatTrain$Controllers" "factor" "[I") (by decide +kernel)
  have w5 := hts (.fieldLink RX1 51 "HeatTrain$Controllers" "fed" "[J") (by decide +kernel)
  have w6 := hts (.fieldLink RX1 35 "HeatTrain$Controllers" "feedHundredths" "[I") (by decide +kernel)
  have w7 := hts (.fieldLink RX1 32 "HeatTrain$Controllers" "feedStream" "[I") (by decide +kernel)
  have w8 := hts (.constantLong RX1 98 (200)) (by decide +kernel)
  have w9 := hts (.constantLong RX1 89 (100)) (by decide +kernel)
  have w10 := hts (.fieldLink RX1 54 "HeatTrain$Controllers" "output" "[J") (by decide +kernel)
  have w11 := hts (.fieldLink RX1 26 "HeatTrain$Controllers" "base" "[I") (by decide +kernel)
  have w12 := hts (.constantLong RX1 100 (1000)) (by decide +kernel)
  have u1 : ∀ w ∈ wsX10, w ∈ wsX1_measure := by decide +kernel
  rw [f_X1_measure] at hf
  refine lv_aload_n (pc := 0) hx hb dX1_measure_0 rfl (lv_at hl 0 rfl) ?_
  refine va_get (pc := 1) (D := Z.1) (ci := 1) (v := .ref (a0 15)) (C := RX1) (T := TX1) (N := 15) hx hb hts u1 hown hK hP 0 rfl rfl 14 (by decide) w0 (fun _ h9 => h9) rfl dX1_measure_1 ?_
  refine lv_iload_n (pc := 4) hx hb dX1_measure_4 rfl (lv_at hl 1 rfl) ?_
  refine lv_aload_n (pc := 5) hx hb dX1_measure_5 rfl (lv_at hl 0 rfl) ?_
  refine va_get (pc := 6) (D := Z.1) (ci := 1) (v := .ref (a0 11)) (C := RX1) (T := TX1) (N := 15) hx hb hts u1 hown hK hP 0 rfl rfl 10 (by decide) w1 (fun _ h9 => h9) rfl dX1_measure_6 ?_
  refine lv_iload_n (pc := 9) hx hb dX1_measure_9 rfl (lv_at hl 1 rfl) ?_
  obtain ⟨g10, hf⟩ := gd hf
  refine va_lald (pc := 10) (D := Z.1) (n := 6) (f := o0.2 10) hx hb hK hP 10 1 rfl rfl (inb_in g10) dX1_measure_10 ?_
  refine lv_aload_n (pc := 11) hx hb dX1_measure_11 rfl (lv_at hl 2 rfl) ?_
  refine lv_aload_n (pc := 12) hx hb dX1_measure_12 rfl (lv_at hl 0 rfl) ?_
  refine va_get (pc := 13) (D := Z.1) (ci := 1) (v := .ref (a0 3)) (C := RX1) (T := TX1) (N := 15) hx hb hts u1 hown hK hP 0 rfl rfl 2 (by decide) w2 (fun _ h9 => h9) rfl dX1_measure_13 ?_
  refine lv_iload_n (pc := 16) hx hb dX1_measure_16 rfl (lv_at hl 1 rfl) ?_
  obtain ⟨g17, hf⟩ := gd hf
  refine va_iald (pc := 17) (D := Z.1) (n := 6) (f := o0.1 2) hx hb hK hP 2 0 rfl rfl (inb_in g17) dX1_measure_17 ?_
  obtain ⟨r18, h_18, hf⟩ := bd hf
  refine ro_V (pc := 18) (C := RX3) (As := [.int (o0.1 2 (x1).toNatClampNeg)]) (rest := [.long (o0.2 10 (x1).toNatClampNeg), .int x1, .ref (a0 15)]) (st1 := [.long r18, .long (o0.2 10 (x1).toNatClampNeg), .int x1, .ref (a0 15)]) ⟨hx, hb, hml, hown, hts⟩ (c_X3_warmthOf Z l a1 o1 (o0.1 2 (x1).toNatClampNeg) r18 h_18) (cwV 1 hts gX1_measure_X3_warmthOf rfl rfl rfl hv_X3_warmthOf ⟨Nat.le_of_ble_eq_true rfl, Nat.le_of_ble_eq_true rfl⟩) hK hE (hP.sub (ws' := wX3 Z a1 o1) [15, 16, 17] rfl) 3 rfl rfl rfl hl.1 rfl (lv_room (Nat.le_of_ble_eq_true rfl)) dX1_measure_18 ⟨Nat.le_of_ble_eq_true rfl, Nat.le_of_ble_eq_true rfl⟩ rfl ?_
  refine lv_lsub (pc := 21) hx hb dX1_measure_21 ?_
  obtain ⟨g22, hf⟩ := gd hf
  refine va_last (pc := 22) (D := Z.1) (n := 6) (f := o0.2 14) hx hb hK hP hD hS 14 1 rfl rfl (inb_in g22) dX1_measure_22 (fun H locs hP hD hS => ?_)
  obtain ⟨s22, h_22, hf⟩ := bd hf
  have hP : va_P Z.1 vwCl (wX1 Z a0 s22 ++ wX3 Z a1 o1) H := st_P (f := fun z => wX1 Z a0 z ++ wX3 Z a1 o1) h_22 hP
  have hD : va_D A (wX1 Z a0 s22 ++ wX3 Z a1 o1) := st_D (f := fun z => wX1 Z a0 z ++ wX3 Z a1 o1) h_22 hD
  refine lv_aload_n (pc := 23) hx hb dX1_measure_23 rfl (lv_at hl 0 rfl) ?_
  refine va_get (pc := 24) (D := Z.1) (ci := 1) (v := .ref (a0 12)) (C := RX1) (T := TX1) (N := 15) hx hb hts u1 hown hK hP 0 rfl rfl 11 (by decide) w3 (fun _ h9 => h9) rfl dX1_measure_24 ?_
  refine lv_iload_n (pc := 27) hx hb dX1_measure_27 rfl (lv_at hl 1 rfl) ?_
  refine lv_aload_n (pc := 28) hx hb dX1_measure_28 rfl (lv_at hl 0 rfl) ?_
  refine va_get (pc := 29) (D := Z.1) (ci := 1) (v := .ref (a0 12)) (C := RX1) (T := TX1) (N := 15) hx hb hts u1 hown hK hP 0 rfl rfl 11 (by decide) w3 (fun _ h9 => h9) rfl dX1_measure_29 ?_
  refine lv_iload_n (pc := 32) hx hb dX1_measure_32 rfl (lv_at hl 1 rfl) ?_
  obtain ⟨g33, hf⟩ := gd hf
  refine va_lald (pc := 33) (D := Z.1) (n := 6) (f := s22.2 11) hx hb hK hP 11 1 rfl rfl (inb_in g33) dX1_measure_33 ?_
  refine lv_aload_n (pc := 34) hx hb dX1_measure_34 rfl (lv_at hl 0 rfl) ?_
  refine va_get (pc := 35) (D := Z.1) (ci := 1) (v := .ref (a0 4)) (C := RX1) (T := TX1) (N := 15) hx hb hts u1 hown hK hP 0 rfl rfl 3 (by decide) w4 (fun _ h9 => h9) rfl dX1_measure_35 ?_
  refine lv_iload_n (pc := 38) hx hb dX1_measure_38 rfl (lv_at hl 1 rfl) ?_
  obtain ⟨g39, hf⟩ := gd hf
  refine va_iald (pc := 39) (D := Z.1) (n := 6) (f := s22.1 3) hx hb hK hP 3 0 rfl rfl (inb_in g39) dX1_measure_39 ?_
  refine lv_i2l (pc := 40) (v := (s22.1 3 (x1).toNatClampNeg).toInt64) hx hb dX1_measure_40 rfl ?_
  refine lv_aload_n (pc := 41) hx hb dX1_measure_41 rfl (lv_at hl 0 rfl) ?_
  refine va_get (pc := 42) (D := Z.1) (ci := 1) (v := .ref (a0 15)) (C := RX1) (T := TX1) (N := 15) hx hb hts u1 hown hK hP 0 rfl rfl 14 (by decide) w0 (fun _ h9 => h9) rfl dX1_measure_42 ?_
  refine lv_iload_n (pc := 45) hx hb dX1_measure_45 rfl (lv_at hl 1 rfl) ?_
  obtain ⟨g46, hf⟩ := gd hf
  refine va_lald (pc := 46) (D := Z.1) (n := 6) (f := s22.2 14) hx hb hK hP 14 1 rfl rfl (inb_in g46) dX1_measure_46 ?_
  refine lv_lmul (pc := 47) hx hb dX1_measure_47 ?_
  refine lv_ladd (pc := 48) hx hb dX1_measure_48 ?_
  refine ro_S (pc := 49) (As := [.long ((s22.2 11 (x1).toNatClampNeg) + (((s22.1 3 (x1).toNatClampNeg).toInt64) * (s22.2 14 (x1).toNatClampNeg)))]) (rest := [.int x1, .ref (a0 12)]) (st1 := [.long (f_X1_heldSum ((s22.2 11 (x1).toNatClampNeg) + (((s22.1 3 (x1).toNatClampNeg).toInt64) * (s22.2 14 (x1).toNatClampNeg)))), .int x1, .ref (a0 12)]) ⟨hx, hb, hml, hown, hts⟩ (c_X1_heldSum Z l ((s22.2 11 (x1).toNatClampNeg) + (((s22.1 3 (x1).toNatClampNeg).toInt64) * (s22.2 14 (x1).toNatClampNeg))) _ rfl) (va_cwS 1 hts gX1_measure_X1_heldSum rfl rfl rfl hs_X1_heldSum ⟨Nat.le_of_ble_eq_true rfl, Nat.le_of_ble_eq_true rfl⟩) hK hE (hP.sub (ws' := []) [] rfl) rfl hl.1 rfl (lv_room (Nat.le_of_ble_eq_true rfl)) dX1_measure_49 ⟨Nat.le_of_ble_eq_true rfl, Nat.le_of_ble_eq_true rfl⟩ rfl ?_
  obtain ⟨g52, hf⟩ := gd hf
  refine va_last (pc := 52) (D := Z.1) (n := 6) (f := s22.2 11) hx hb hK hP hD hS 11 1 rfl rfl (inb_in g52) dX1_measure_52 (fun H locs hP hD hS => ?_)
  obtain ⟨s52, h_52, hf⟩ := bd hf
  have hP : va_P Z.1 vwCl (wX1 Z a0 s52 ++ wX3 Z a1 o1) H := st_P (f := fun z => wX1 Z a0 z ++ wX3 Z a1 o1) h_52 hP
  have hD : va_D A (wX1 Z a0 s52 ++ wX3 Z a1 o1) := st_D (f := fun z => wX1 Z a0 z ++ wX3 Z a1 o1) h_52 hD
  refine lv_aload_n (pc := 53) hx hb dX1_measure_53 rfl (lv_at hl 0 rfl) ?_
  refine va_get (pc := 54) (D := Z.1) (ci := 1) (v := .ref (a0 13)) (C := RX1) (T := TX1) (N := 15) hx hb hts u1 hown hK hP 0 rfl rfl 12 (by decide) w5 (fun _ h9 => h9) rfl dX1_measure_54 ?_
  refine lv_iload_n (pc := 57) hx hb dX1_measure_57 rfl (lv_at hl 1 rfl) ?_
  refine lv_aload_n (pc := 58) hx hb dX1_measure_58 rfl (lv_at hl 0 rfl) ?_
  refine va_get (pc := 59) (D := Z.1) (ci := 1) (v := .ref (a0 8)) (C := RX1) (T := TX1) (N := 15) hx hb hts u1 hown hK hP 0 rfl rfl 7 (by decide) w6 (fun _ h9 => h9) rfl dX1_measure_59 ?_
  refine lv_iload_n (pc := 62) hx hb dX1_measure_62 rfl (lv_at hl 1 rfl) ?_
  obtain ⟨g63, hf⟩ := gd hf
  refine va_iald (pc := 63) (D := Z.1) (n := 6) (f := s52.1 7) hx hb hK hP 7 0 rfl rfl (inb_in g63) dX1_measure_63 ?_
  refine lv_i2l (pc := 64) (v := (s52.1 7 (x1).toNatClampNeg).toInt64) hx hb dX1_measure_64 rfl ?_
  refine lv_aload_n (pc := 65) hx hb dX1_measure_65 rfl (lv_at hl 2 rfl) ?_
  refine lv_aload_n (pc := 66) hx hb dX1_measure_66 rfl (lv_at hl 0 rfl) ?_
  refine va_get (pc := 67) (D := Z.1) (ci := 1) (v := .ref (a0 7)) (C := RX1) (T := TX1) (N := 15) hx hb hts u1 hown hK hP 0 rfl rfl 6 (by decide) w7 (fun _ h9 => h9) rfl dX1_measure_67 ?_
  refine lv_iload_n (pc := 70) hx hb dX1_measure_70 rfl (lv_at hl 1 rfl) ?_
  obtain ⟨g71, hf⟩ := gd hf
  refine va_iald (pc := 71) (D := Z.1) (n := 6) (f := s52.1 6) hx hb hK hP 6 0 rfl rfl (inb_in g71) dX1_measure_71 ?_
  obtain ⟨r72, h_72, hf⟩ := bd hf
  refine ro_V (pc := 72) (C := RX3) (As := [.int (s52.1 6 (x1).toNatClampNeg)]) (rest := [.long ((s52.1 7 (x1).toNatClampNeg).toInt64), .int x1, .ref (a0 13)]) (st1 := [.long r72, .long ((s52.1 7 (x1).toNatClampNeg).toInt64), .int x1, .ref (a0 13)]) ⟨hx, hb, hml, hown, hts⟩ (c_X3_warmthOf Z l a1 o1 (s52.1 6 (x1).toNatClampNeg) r72 h_72) (cwV 1 hts gX1_measure_X3_warmthOf rfl rfl rfl hv_X3_warmthOf ⟨Nat.le_of_ble_eq_true rfl, Nat.le_of_ble_eq_true rfl⟩) hK hE (hP.sub (ws' := wX3 Z a1 o1) [15, 16, 17] rfl) 3 rfl rfl rfl hl.1 rfl (lv_room (Nat.le_of_ble_eq_true rfl)) dX1_measure_72 ⟨Nat.le_of_ble_eq_true rfl, Nat.le_of_ble_eq_true rfl⟩ rfl ?_
  refine lv_ldc2 (pc := 75) (v := 200) hx hb hown w8 dX1_measure_75 ?_
  refine lv_lsub (pc := 78) hx hb dX1_measure_78 ?_
  refine lv_lmul (pc := 79) hx hb dX1_measure_79 ?_
  refine lv_ldc2 (pc := 80) (v := 100) hx hb hown w9 dX1_measure_80 ?_
  refine lv_ldiv (pc := 83) hx hb dX1_measure_83 (by decide) ?_
  obtain ⟨g84, hf⟩ := gd hf
  refine va_last (pc := 84) (D := Z.1) (n := 6) (f := s52.2 12) hx hb hK hP hD hS 12 1 rfl rfl (inb_in g84) dX1_measure_84 (fun H locs hP hD hS => ?_)
  obtain ⟨s84, h_84, hf⟩ := bd hf
  have hP : va_P Z.1 vwCl (wX1 Z a0 s84 ++ wX3 Z a1 o1) H := st_P (f := fun z => wX1 Z a0 z ++ wX3 Z a1 o1) h_84 hP
  have hD : va_D A (wX1 Z a0 s84 ++ wX3 Z a1 o1) := st_D (f := fun z => wX1 Z a0 z ++ wX3 Z a1 o1) h_84 hD
  refine lv_aload_n (pc := 85) hx hb dX1_measure_85 rfl (lv_at hl 0 rfl) ?_
  refine va_get (pc := 86) (D := Z.1) (ci := 1) (v := .ref (a0 14)) (C := RX1) (T := TX1) (N := 15) hx hb hts u1 hown hK hP 0 rfl rfl 13 (by decide) w10 (fun _ h9 => h9) rfl dX1_measure_86 ?_
  refine lv_iload_n (pc := 89) hx hb dX1_measure_89 rfl (lv_at hl 1 rfl) ?_
  refine lv_aload_n (pc := 90) hx hb dX1_measure_90 rfl (lv_at hl 0 rfl) ?_
  refine va_get (pc := 91) (D := Z.1) (ci := 1) (v := .ref (a0 5)) (C := RX1) (T := TX1) (N := 15) hx hb hts u1 hown hK hP 0 rfl rfl 4 (by decide) w11 (fun _ h9 => h9) rfl dX1_measure_91 ?_
  refine lv_iload_n (pc := 94) hx hb dX1_measure_94 rfl (lv_at hl 1 rfl) ?_
  obtain ⟨g95, hf⟩ := gd hf
  refine va_iald (pc := 95) (D := Z.1) (n := 6) (f := s84.1 4) hx hb hK hP 4 0 rfl rfl (inb_in g95) dX1_measure_95 ?_
  refine lv_i2l (pc := 96) (v := (s84.1 4 (x1).toNatClampNeg).toInt64) hx hb dX1_measure_96 rfl ?_
  refine lv_aload_n (pc := 97) hx hb dX1_measure_97 rfl (lv_at hl 0 rfl) ?_
  refine va_get (pc := 98) (D := Z.1) (ci := 1) (v := .ref (a0 12)) (C := RX1) (T := TX1) (N := 15) hx hb hts u1 hown hK hP 0 rfl rfl 11 (by decide) w3 (fun _ h9 => h9) rfl dX1_measure_98 ?_
  refine lv_iload_n (pc := 101) hx hb dX1_measure_101 rfl (lv_at hl 1 rfl) ?_
  obtain ⟨g102, hf⟩ := gd hf
  refine va_lald (pc := 102) (D := Z.1) (n := 6) (f := s84.2 11) hx hb hK hP 11 1 rfl rfl (inb_in g102) dX1_measure_102 ?_
  refine lv_ldc2 (pc := 103) (v := 1000) hx hb hown w12 dX1_measure_103 ?_
  refine lv_ldiv (pc := 106) hx hb dX1_measure_106 (by decide) ?_
  refine lv_ladd (pc := 107) hx hb dX1_measure_107 ?_
  refine lv_aload_n (pc := 108) hx hb dX1_measure_108 rfl (lv_at hl 0 rfl) ?_
  refine va_get (pc := 109) (D := Z.1) (ci := 1) (v := .ref (a0 13)) (C := RX1) (T := TX1) (N := 15) hx hb hts u1 hown hK hP 0 rfl rfl 12 (by decide) w5 (fun _ h9 => h9) rfl dX1_measure_109 ?_
  refine lv_iload_n (pc := 112) hx hb dX1_measure_112 rfl (lv_at hl 1 rfl) ?_
  obtain ⟨g113, hf⟩ := gd hf
  refine va_lald (pc := 113) (D := Z.1) (n := 6) (f := s84.2 12) hx hb hK hP 12 1 rfl rfl (inb_in g113) dX1_measure_113 ?_
  refine lv_ladd (pc := 114) hx hb dX1_measure_114 ?_
  obtain ⟨g115, hf⟩ := gd hf
  refine va_last (pc := 115) (D := Z.1) (n := 6) (f := s84.2 13) hx hb hK hP hD hS 13 1 rfl rfl (inb_in g115) dX1_measure_115 (fun H locs hP hD hS => ?_)
  obtain ⟨s115, h_115, hf⟩ := bd hf
  have hP : va_P Z.1 vwCl (wX1 Z a0 s115 ++ wX3 Z a1 o1) H := st_P (f := fun z => wX1 Z a0 z ++ wX3 Z a1 o1) h_115 hP
  have hD : va_D A (wX1 Z a0 s115 ++ wX3 Z a1 o1) := st_D (f := fun z => wX1 Z a0 z ++ wX3 Z a1 o1) h_115 hD
  have hf := (Option.some.inj hf)
  subst hf
  exact rw_v (fun _ => 0) hx hb hr hlk hP hD hS dX1_measure_116
def f_X1_watch_b42 (o0 : ObS) (o1 : ObS) (x1 : Int32) (k42_0 : Int32) : Option (ObS × ObS) :=
  if inb x1 6 then
  (some (oi o0 9 (x1).toNatClampNeg (vp_nar .boolean k42_0))).bind fun s42 =>
  if inb x1 6 then
  if (s42.1 9 (x1).toNatClampNeg) = (0 : Int32) then
    some (s42, o1)
  else
    if (o0.1 9 (x1).toNatClampNeg) = (0 : Int32) then
      (f_X0_put o1 x1 ((if 0 < (o0.2 14 (x1).toNatClampNeg) then o0.2 14 (x1).toNatClampNeg else -(o0.2 14 (x1).toNatClampNeg)) - ((o0.1 8 (x1).toNatClampNeg).toInt64))).bind fun r60 =>
      some (s42, r60)
    else
      some (s42, o1)
  else none
  else none
def f_X1_watch (o0 : ObS) (o1 : ObS) (x1 : Int32) : Option (ObS × ObS) :=
  if inb x1 6 then
  if inb x1 6 then
  if inb x1 6 then
  if (lg_cmp ((if 0 < (o0.2 14 (x1).toNatClampNeg) then o0.2 14 (x1).toNatClampNeg else -(o0.2 14 (x1).toNatClampNeg)) - ((o0.1 8 (x1).toNatClampNeg).toInt64)) 0) ≤ (0 : Int32) then
    f_X1_watch_b42 o0 o1 x1 0
  else
    f_X1_watch_b42 o0 o1 x1 1
  else none
  else none
  else none
set_option maxHeartbeats 4000000 in
set_option maxRecDepth 100000 in
theorem c_X1_watch (Z : EnvT) (l : Launch) (a0 : Nat → Nat) (o0 : ObS) (a1 : Nat → Nat) (o1 : ObS) (x1 : Int32) (R : ObS × ObS) (hf : f_X1_watch o0 o1 x1 = some R) : RW Z l yX1_watch wsX1_watch { frames := 1, cells := 0, slots := 0, locals := 24 } [.ref (a0 0), .int x1, .ref (a1 0)] (wX1 Z a0 o0 ++ wX0 Z a1 o1) none (fun _ => wX1 Z a0 R.1 ++ wX0 Z a1 R.2) 0 0 := by
  refine rw_of (cc := cX1_watch) (maxL := 6) (ret := none) (by decide) rfl (Nat.le_of_ble_eq_true rfl) ?_
  intro p e s m below meth c A ls hx hb hr hml hts hown hlk hin hP hK hE hD hA hS hl
  have hown : s.vm.findClass RX1 = some m.cls := hown
  have hl : lv_has ls 6 [(0, .ref (a0 0)), (1, .int x1), (2, .ref (a1 0))] := hl
  have w0 := hts (.fieldLink RX1 57 "HeatTrain$Controllers" "error" "[J") (by decide +kernel)
  have w1 := hts (.methodLink RX1 102 Lib.MathLoose.abs_long.x) (by decide +kernel)
  have w2 := hts (.static Lib.MathLoose.abs_long.x) (by decide +kernel)
  have w3 := hts (.initialized "java/lang/Math") (by decide +kernel)
  have w4 := hts (.code Lib.MathLoose.abs_long.x Lib.MathLoose.abs_long.code 2 (some .long)) (by decide +kernel)
  have w5 := hts (.fieldLink RX1 38 "HeatTrain$Controllers" "limit" "[I") (by decide +kernel)
  have w6 := hts (.fieldLink RX1 41 "HeatTrain$Controllers" "over" "[Z") (by decide +kernel)
  have u1 : ∀ w ∈ wsX10, w ∈ wsX1_watch := by decide +kernel
  have B42 : ∀ (k42_0 : Int32) (ls : Array Slot), lv_has ls 6 [(0, .ref (a0 0)), (1, .int x1), (2, .ref (a1 0)), (3, .long ((if 0 < (o0.2 14 (x1).toNatClampNeg) then o0.2 14 (x1).toNatClampNeg else -(o0.2 14 (x1).toNatClampNeg)) - ((o0.1 8 (x1).toNatClampNeg).toInt64))), (5, .int (o0.1 9 (x1).toNatClampNeg))] → ∀ (H : Heap) (locs : List Loc), va_P Z.1 vwCl (wX1 Z a0 o0 ++ wX0 Z a1 o1) H → va_D A (wX1 Z a0 o0 ++ wX0 Z a1 o1) → va_S A s.heap H locs → f_X1_watch_b42 o0 o1 x1 k42_0 = some R → W p l e { frames := 1, cells := 0, slots := 0, locals := 24 } s m ([.ref (a0 0), .int x1, .ref (a1 0)] : List Value).toArray below meth c H locs 0 0 (MQ below (rwQ Z none (fun _ => wX1 Z a0 R.1 ++ wX0 Z a1 R.2) A) ([.ref (a0 0), .int x1, .ref (a1 0)] : List Value).toArray s 0 0 A) (F0 m 42 ls [.int k42_0, .int x1, .ref (a0 10)]) := by
    intro k42_0 ls hl H locs hP hD hS hf
    rw [f_X1_watch_b42] at hf
    obtain ⟨g42, hf⟩ := gd hf
    refine va_zast (pc := 42) (D := Z.1) (n := 6) (f := o0.1 9) hx hb hK hP hD hS 9 2 rfl rfl (inb_in g42) dX1_watch_42 (fun H locs hP hD hS => ?_)
    obtain ⟨s42, h_42, hf⟩ := bd hf
    have hP : va_P Z.1 vwCl (wX1 Z a0 s42 ++ wX0 Z a1 o1) H := st_P (f := fun z => wX1 Z a0 z ++ wX0 Z a1 o1) h_42 hP
    have hD : va_D A (wX1 Z a0 s42 ++ wX0 Z a1 o1) := st_D (f := fun z => wX1 Z a0 z ++ wX0 Z a1 o1) h_42 hD
    refine lv_aload_n (pc := 43) hx hb dX1_watch_43 rfl (lv_at hl 0 rfl) ?_
    refine va_get (pc := 44) (D := Z.1) (ci := 1) (v := .ref (a0 10)) (C := RX1) (T := TX1) (N := 15) hx hb hts u1 hown hK hP 0 rfl rfl 9 (by decide) w6 (fun _ h9 => h9) rfl dX1_watch_44 ?_
    refine lv_iload_n (pc := 47) hx hb dX1_watch_47 rfl (lv_at hl 1 rfl) ?_
    obtain ⟨g48, hf⟩ := gd hf
    refine va_zald (pc := 48) (D := Z.1) (n := 6) (f := s42.1 9) hx hb hK hP 9 2 rfl rfl (inb_in g48) dX1_watch_48 ?_
    refine lv_if_eq (pc := 49) (tgt := 63) hx hb dX1_watch_49 (by decide) (fun c1 => ?_) (fun c1 => ?_)
    · have hf := (if_pos c1).symm.trans hf
      have hf := (Option.some.inj hf)
      subst hf
      exact rw_v (fun _ => 0) hx hb hr hlk hP hD hS dX1_watch_63
    · have hf := (if_neg c1).symm.trans hf
      refine lv_iload (pc := 52) hx hb dX1_watch_52 (lv_at hl 4 rfl) ?_
      refine lv_if_ne (pc := 54) (tgt := 63) hx hb dX1_watch_54 (by decide) (fun c2 => ?_) (fun c2 => ?_)
      · have hf := (if_neg c2).symm.trans hf
        have hf := (Option.some.inj hf)
        subst hf
        exact rw_v (fun _ => 0) hx hb hr hlk hP hD hS dX1_watch_63
      · have hf := (if_pos c2).symm.trans hf
        refine lv_aload_n (pc := 57) hx hb dX1_watch_57 rfl (lv_at hl 2 rfl) ?_
        refine lv_iload_n (pc := 58) hx hb dX1_watch_58 rfl (lv_at hl 1 rfl) ?_
        refine lv_lload_n (pc := 59) hx hb dX1_watch_59 rfl (lv_at hl 3 rfl) ?_
        obtain ⟨r60, h_60, hf⟩ := bd hf
        refine rw_V (pc := 60) (C := RX0) (As := [.int x1, .long ((if 0 < (o0.2 14 (x1).toNatClampNeg) then o0.2 14 (x1).toNatClampNeg else -(o0.2 14 (x1).toNatClampNeg)) - ((o0.1 8 (x1).toNatClampNeg).toInt64))]) (rest := []) (st1 := []) (wn := fun _ => wX1 Z a0 s42 ++ wX0 Z a1 r60) ⟨hx, hb, hml, hown, hts⟩ (c_X0_put Z l a1 o1 x1 ((if 0 < (o0.2 14 (x1).toNatClampNeg) then o0.2 14 (x1).toNatClampNeg else -(o0.2 14 (x1).toNatClampNeg)) - ((o0.1 8 (x1).toNatClampNeg).toInt64)) r60 h_60) (cwV 2 hts gX1_watch_X0_put rfl rfl rfl hv_X0_put ⟨Nat.le_of_ble_eq_true rfl, Nat.le_of_ble_eq_true rfl⟩) hK hE hP hD hS hA [15, 16, 17] [0, 1, 2, 3, 4, 5, 6, 7, 8, 9, 10, 11, 12, 13, 14] [0, 1, 2, 3, 4, 5, 6, 7, 8, 9, 10, 11, 12, 13, 14, 15, 16, 17] rfl rfl rfl (fun _ => rfl) 0 rfl rfl rfl hl.1 rfl (lv_room (Nat.le_of_ble_eq_true rfl)) dX1_watch_60 ⟨Nat.le_of_ble_eq_true rfl, Nat.le_of_ble_eq_true rfl⟩ rfl (fun _ H locs hP hD hS => ?_)
        have hf := (Option.some.inj hf)
        subst hf
        exact rw_v (fun _ => 0) hx hb hr hlk hP hD hS dX1_watch_63
  rw [f_X1_watch] at hf
  refine lv_aload_n (pc := 0) hx hb dX1_watch_0 rfl (lv_at hl 0 rfl) ?_
  refine va_get (pc := 1) (D := Z.1) (ci := 1) (v := .ref (a0 15)) (C := RX1) (T := TX1) (N := 15) hx hb hts u1 hown hK hP 0 rfl rfl 14 (by decide) w0 (fun _ h9 => h9) rfl dX1_watch_1 ?_
  refine lv_iload_n (pc := 4) hx hb dX1_watch_4 rfl (lv_at hl 1 rfl) ?_
  obtain ⟨g5, hf⟩ := gd hf
  refine va_lald (pc := 5) (D := Z.1) (n := 6) (f := o0.2 14) hx hb hK hP 14 1 rfl rfl (inb_in g5) dX1_watch_5 ?_
  refine va_mabs_long (pc := 6) hx hb (hml.trans hl.1.symm) hown w1 w2 w3 w4 (Nat.le_of_ble_eq_true rfl) (Nat.le_of_ble_eq_true rfl) (Nat.zero_le _) (Nat.zero_le _) dX1_watch_6 ?_
  refine lv_aload_n (pc := 9) hx hb dX1_watch_9 rfl (lv_at hl 0 rfl) ?_
  refine va_get (pc := 10) (D := Z.1) (ci := 1) (v := .ref (a0 9)) (C := RX1) (T := TX1) (N := 15) hx hb hts u1 hown hK hP 0 rfl rfl 8 (by decide) w5 (fun _ h9 => h9) rfl dX1_watch_10 ?_
  refine lv_iload_n (pc := 13) hx hb dX1_watch_13 rfl (lv_at hl 1 rfl) ?_
  obtain ⟨g14, hf⟩ := gd hf
  refine va_iald (pc := 14) (D := Z.1) (n := 6) (f := o0.1 8) hx hb hK hP 8 0 rfl rfl (inb_in g14) dX1_watch_14 ?_
  refine lv_i2l (pc := 15) (v := (o0.1 8 (x1).toNatClampNeg).toInt64) hx hb dX1_watch_15 rfl ?_
  refine lv_lsub (pc := 16) hx hb dX1_watch_16 ?_
  refine lv_lstore_n (pc := 17) (lv' := [(3, .long ((if 0 < (o0.2 14 (x1).toNatClampNeg) then o0.2 14 (x1).toNatClampNeg else -(o0.2 14 (x1).toNatClampNeg)) - ((o0.1 8 (x1).toNatClampNeg).toInt64))), (0, .ref (a0 0)), (1, .int x1), (2, .ref (a1 0))]) hx hb dX1_watch_17 rfl hl (by decide) rfl (fun ls hl => ?_)
  refine lv_aload_n (pc := 18) hx hb dX1_watch_18 rfl (lv_at hl 1 rfl) ?_
  refine va_get (pc := 19) (D := Z.1) (ci := 1) (v := .ref (a0 10)) (C := RX1) (T := TX1) (N := 15) hx hb hts u1 hown hK hP 0 rfl rfl 9 (by decide) w6 (fun _ h9 => h9) rfl dX1_watch_19 ?_
  refine lv_iload_n (pc := 22) hx hb dX1_watch_22 rfl (lv_at hl 2 rfl) ?_
  obtain ⟨g23, hf⟩ := gd hf
  refine va_zald (pc := 23) (D := Z.1) (n := 6) (f := o0.1 9) hx hb hK hP 9 2 rfl rfl (inb_in g23) dX1_watch_23 ?_
  refine lv_istore (pc := 24) (lv' := [(5, .int (o0.1 9 (x1).toNatClampNeg)), (3, .long ((if 0 < (o0.2 14 (x1).toNatClampNeg) then o0.2 14 (x1).toNatClampNeg else -(o0.2 14 (x1).toNatClampNeg)) - ((o0.1 8 (x1).toNatClampNeg).toInt64))), (0, .ref (a0 0)), (1, .int x1), (2, .ref (a1 0))]) hx hb dX1_watch_24 hl (by decide) rfl (fun ls hl => ?_)
  refine lv_aload_n (pc := 26) hx hb dX1_watch_26 rfl (lv_at hl 2 rfl) ?_
  refine va_get (pc := 27) (D := Z.1) (ci := 1) (v := .ref (a0 10)) (C := RX1) (T := TX1) (N := 15) hx hb hts u1 hown hK hP 0 rfl rfl 9 (by decide) w6 (fun _ h9 => h9) rfl dX1_watch_27 ?_
  refine lv_iload_n (pc := 30) hx hb dX1_watch_30 rfl (lv_at hl 3 rfl) ?_
  refine lv_lload_n (pc := 31) hx hb dX1_watch_31 rfl (lv_at hl 1 rfl) ?_
  refine lv_lconst (pc := 32) (v := 0) hx hb dX1_watch_32 (by decide) ?_
  refine W.lcmp (pc := 33) hx hb dX1_watch_33 ?_
  refine lv_if_le (pc := 34) (tgt := 41) hx hb dX1_watch_34 (by decide) (fun c1 => ?_) (fun c1 => ?_)
  · have hf := (if_pos c1).symm.trans hf
    refine lv_iconst (pc := 41) (v := 0) hx hb dX1_watch_41 (by decide) ?_
    exact B42 0 _ (lv_sub hl [2, 3, 4, 1, 0] rfl) _ _ hP hD hS hf
  · have hf := (if_neg c1).symm.trans hf
    refine lv_iconst (pc := 37) (v := 1) hx hb dX1_watch_37 (by decide) ?_
    refine lv_goto (pc := 38) (tgt := 42) hx hb dX1_watch_38 (by decide) ?_
    exact B42 1 _ (lv_sub hl [2, 3, 4, 1, 0] rfl) _ _ hP hD hS hf
def f_X1_passOn (o0 : ObS) (x1 : Int32) : Option (ObS) :=
  if inb x1 6 then
  (f_X1_isMeasuring o0 ((o0.1 5 (x1).toNatClampNeg) - 100)).bind fun r12 =>
  if r12 = (0 : Int32) then
    some (o0)
  else
    if inb x1 6 then
    if inb ((o0.1 5 (x1).toNatClampNeg) - 100) 6 then
    (some (oj o0 10 ((o0.1 5 (x1).toNatClampNeg) - 100).toNatClampNeg (f_X6_held (o0.2 13 (x1).toNatClampNeg) 0 3000))).bind fun s36 =>
    some (s36)
    else none
    else none
  else none
set_option maxHeartbeats 4000000 in
set_option maxRecDepth 100000 in
theorem c_X1_passOn (Z : EnvT) (l : Launch) (a0 : Nat → Nat) (o0 : ObS) (x1 : Int32) (R : ObS) (hf : f_X1_passOn o0 x1 = some R) : RW Z l yX1_passOn wsX1_passOn { frames := 2, cells := 0, slots := 0, locals := 42 } [.ref (a0 0), .int x1] (wX1 Z a0 o0) none (fun _ => wX1 Z a0 R) 0 0 := by
  refine rw_of (cc := cX1_passOn) (maxL := 3) (ret := none) (by decide) rfl (Nat.le_of_ble_eq_true rfl) ?_
  intro p e s m below meth c A ls hx hb hr hml hts hown hlk hin hP hK hE hD hA hS hl
  have hown : s.vm.findClass RX1 = some m.cls := hown
  have hl : lv_has ls 3 [(0, .ref (a0 0)), (1, .int x1)] := hl
  have w0 := hts (.fieldLink RX1 29 "HeatTrain$Controllers" "driven" "[I") (by decide +kernel)
  have w1 := hts (.fieldLink RX1 44 "HeatTrain$Controllers" "goal" "[J") (by decide +kernel)
  have w2 := hts (.fieldLink RX1 54 "HeatTrain$Controllers" "output" "[J") (by decide +kernel)
  have w3 := hts (.constantLong RX1 116 (3000)) (by decide +kernel)
  have w4 := hts (.static yX6_held) (by decide +kernel)
  have w5 := hts (.initialized RX6) (by decide +kernel)
  have u1 : ∀ w ∈ wsX10, w ∈ wsX1_passOn := by decide +kernel
  rw [f_X1_passOn] at hf
  refine lv_aload_n (pc := 0) hx hb dX1_passOn_0 rfl (lv_at hl 0 rfl) ?_
  refine va_get (pc := 1) (D := Z.1) (ci := 1) (v := .ref (a0 6)) (C := RX1) (T := TX1) (N := 15) hx hb hts u1 hown hK hP 0 rfl rfl 5 (by decide) w0 (fun _ h9 => h9) rfl dX1_passOn_1 ?_
  refine lv_iload_n (pc := 4) hx hb dX1_passOn_4 rfl (lv_at hl 1 rfl) ?_
  obtain ⟨g5, hf⟩ := gd hf
  refine va_iald (pc := 5) (D := Z.1) (n := 6) (f := o0.1 5) hx hb hK hP 5 0 rfl rfl (inb_in g5) dX1_passOn_5 ?_
  refine lv_bipush (pc := 6) (v := 100) hx hb dX1_passOn_6 (by decide) ?_
  refine lv_isub (pc := 8) hx hb dX1_passOn_8 ?_
  refine lv_istore_n (pc := 9) (lv' := [(2, .int ((o0.1 5 (x1).toNatClampNeg) - 100)), (0, .ref (a0 0)), (1, .int x1)]) hx hb dX1_passOn_9 rfl hl (by decide) rfl (fun ls hl => ?_)
  refine lv_aload_n (pc := 10) hx hb dX1_passOn_10 rfl (lv_at hl 1 rfl) ?_
  refine lv_iload_n (pc := 11) hx hb dX1_passOn_11 rfl (lv_at hl 0 rfl) ?_
  obtain ⟨r12, h_12, hf⟩ := bd hf
  refine ro_V (pc := 12) (C := RX1) (As := [.int ((o0.1 5 (x1).toNatClampNeg) - 100)]) (rest := []) (st1 := [.int r12]) ⟨hx, hb, hml, hown, hts⟩ (c_X1_isMeasuring Z l a0 o0 ((o0.1 5 (x1).toNatClampNeg) - 100) r12 h_12) (cwV 1 hts gX1_passOn_X1_isMeasuring rfl rfl rfl hv_X1_isMeasuring ⟨Nat.le_of_ble_eq_true rfl, Nat.le_of_ble_eq_true rfl⟩) hK hE hP 1 rfl rfl rfl hl.1 rfl (lv_room (Nat.le_of_ble_eq_true rfl)) dX1_passOn_12 ⟨Nat.le_of_ble_eq_true rfl, Nat.le_of_ble_eq_true rfl⟩ rfl ?_
  refine lv_if_eq (pc := 15) (tgt := 37) hx hb dX1_passOn_15 (by decide) (fun c1 => ?_) (fun c1 => ?_)
  · have hf := (if_pos c1).symm.trans hf
    have hf := (Option.some.inj hf)
    subst hf
    exact rw_v (fun _ => 0) hx hb hr hlk hP hD hS dX1_passOn_37
  · have hf := (if_neg c1).symm.trans hf
    refine lv_aload_n (pc := 18) hx hb dX1_passOn_18 rfl (lv_at hl 1 rfl) ?_
    refine va_get (pc := 19) (D := Z.1) (ci := 1) (v := .ref (a0 11)) (C := RX1) (T := TX1) (N := 15) hx hb hts u1 hown hK hP 0 rfl rfl 10 (by decide) w1 (fun _ h9 => h9) rfl dX1_passOn_19 ?_
    refine lv_iload_n (pc := 22) hx hb dX1_passOn_22 rfl (lv_at hl 0 rfl) ?_
    refine lv_aload_n (pc := 23) hx hb dX1_passOn_23 rfl (lv_at hl 1 rfl) ?_
    refine va_get (pc := 24) (D := Z.1) (ci := 1) (v := .ref (a0 14)) (C := RX1) (T := TX1) (N := 15) hx hb hts u1 hown hK hP 0 rfl rfl 13 (by decide) w2 (fun _ h9 => h9) rfl dX1_passOn_24 ?_
    refine lv_iload_n (pc := 27) hx hb dX1_passOn_27 rfl (lv_at hl 2 rfl) ?_
    obtain ⟨g28, hf⟩ := gd hf
    refine va_lald (pc := 28) (D := Z.1) (n := 6) (f := o0.2 13) hx hb hK hP 13 1 rfl rfl (inb_in g28) dX1_passOn_28 ?_
    refine lv_lconst (pc := 29) (v := 0) hx hb dX1_passOn_29 (by decide) ?_
    refine lv_ldc2 (pc := 30) (v := 3000) hx hb hown w3 dX1_passOn_30 ?_
    refine ro_SN (pc := 33) (As := [.long (o0.2 13 (x1).toNatClampNeg), .long 0, .long 3000]) (rest := [.int ((o0.1 5 (x1).toNatClampNeg) - 100), .ref (a0 11)]) (st1 := [.long (f_X6_held (o0.2 13 (x1).toNatClampNeg) 0 3000), .int ((o0.1 5 (x1).toNatClampNeg) - 100), .ref (a0 11)]) ⟨hx, hb, hml, hown, hts⟩ (c_X6_held Z l (o0.2 13 (x1).toNatClampNeg) 0 3000 _ rfl) (va_cnB 3 hts gX1_passOn_X6_held_n118 rfl rfl rfl hE.1 w5 hs_X6_held ⟨Nat.le_of_ble_eq_true rfl, Nat.le_of_ble_eq_true rfl⟩) w4 hK hE (hP.sub (ws' := []) [] rfl) rfl hl.1 rfl (lv_room (Nat.le_of_ble_eq_true rfl)) dX1_passOn_33 ⟨Nat.le_of_ble_eq_true rfl, Nat.le_of_ble_eq_true rfl⟩ rfl ?_
    obtain ⟨g36, hf⟩ := gd hf
    refine va_last (pc := 36) (D := Z.1) (n := 6) (f := o0.2 10) hx hb hK hP hD hS 10 1 rfl rfl (inb_in g36) dX1_passOn_36 (fun H locs hP hD hS => ?_)
    obtain ⟨s36, h_36, hf⟩ := bd hf
    have hP : va_P Z.1 vwCl (wX1 Z a0 s36) H := st_P (f := fun z => wX1 Z a0 z) h_36 hP
    have hD : va_D A (wX1 Z a0 s36) := st_D (f := fun z => wX1 Z a0 z) h_36 hD
    have hf := (Option.some.inj hf)
    subst hf
    exact rw_v (fun _ => 0) hx hb hr hlk hP hD hS dX1_passOn_37
def f_X1_work_b2 (o1 : ObS) : Nat → Int32 → ObS → ObS → Option (ObS × ObS)
  | 0, _, _, _ => none
  | n + 1, v2_3, o2_0, o2_2 =>
  if (o2_0.1 0 0) ≤ v2_3 then
    some (o2_0, o2_2)
  else
    if 6 ≤ v2_3 then
      some (o2_0, o2_2)
    else
      if inb v2_3 6 then
      if (o2_0.1 1 (v2_3).toNatClampNeg) = (0 : Int32) then
        if inb v2_3 6 then
        (f_X3_flowOf o1 (o2_0.1 2 (v2_3).toNatClampNeg)).bind fun r57 =>
        if inb v2_3 6 then
        if inb v2_3 6 then
        (some (oj o2_0 13 (v2_3).toNatClampNeg ((r57 * ((o2_0.1 3 (v2_3).toNatClampNeg).toInt64)) / 100))).bind fun s72 =>
        f_X1_work_b2 o1 n (v2_3 + 1) s72 o2_2
        else none
        else none
        else none
      else
        (f_X1_measure o2_0 o1 v2_3).bind fun r28 =>
        (f_X1_watch r28 o2_2 v2_3).bind fun r34 =>
        (f_X1_passOn r34.1 v2_3).bind fun r39 =>
        f_X1_work_b2 o1 n (v2_3 + 1) r39 r34.2
      else none
def f_X1_work (o0 : ObS) (o1 : ObS) (o2 : ObS) : Option (ObS × ObS) :=
  f_X1_work_b2 o1 64 0 o0 o2
set_option maxHeartbeats 4000000 in
set_option maxRecDepth 100000 in
theorem c_X1_work (Z : EnvT) (l : Launch) (a0 : Nat → Nat) (o0 : ObS) (a1 : Nat → Nat) (o1 : ObS) (a2 : Nat → Nat) (o2 : ObS) (R : ObS × ObS) (hf : f_X1_work o0 o1 o2 = some R) : RW Z l yX1_work wsX1_work { frames := 3, cells := 0, slots := 0, locals := 68 } [.ref (a0 0), .ref (a1 0), .ref (a2 0)] (wX1 Z a0 o0 ++ wX3 Z a1 o1 ++ wX0 Z a2 o2) none (fun _ => wX1 Z a0 R.1 ++ wX3 Z a1 o1 ++ wX0 Z a2 R.2) 0 0 := by
  refine rw_of (cc := cX1_work) (maxL := 4) (ret := none) (by decide) rfl (Nat.le_of_ble_eq_true rfl) ?_
  intro p e s m below meth c A ls hx hb hr hml hts hown hlk hin hP hK hE hD hA hS hl
  have hown : s.vm.findClass RX1 = some m.cls := hown
  have hl : lv_has ls 4 [(0, .ref (a0 0)), (1, .ref (a1 0)), (2, .ref (a2 0))] := hl
  have w0 := hts (.fieldLink RX1 9 "HeatTrain$Controllers" "made" "I") (by decide +kernel)
  have w1 := hts (.fieldLink RX1 15 "HeatTrain$Controllers" "measuring" "[Z") (by decide +kernel)
  have w2 := hts (.fieldLink RX1 54 "HeatTrain$Controllers" "output" "[J") (by decide +kernel)
  have w3 := hts (.fieldLink RX1 19 "HeatTrain$Controllers" "stream" "[I") (by decide +kernel)
  have w4 := hts (.fieldLink RX1 23 "HeatTrain$Controllers" "factor" "[I") (by decide +kernel)
  have w5 := hts (.constantLong RX1 89 (100)) (by decide +kernel)
  have u1 : ∀ w ∈ wsX10, w ∈ wsX1_work := by decide +kernel
  have B2 : ∀ (n : Nat), ∀ (v2_3 : Int32) (o2_0 : ObS) (o2_2 : ObS) (ls : Array Slot), lv_has ls 4 [(0, .ref (a0 0)), (1, .ref (a1 0)), (2, .ref (a2 0)), (3, .int v2_3)] → ∀ (H : Heap) (locs : List Loc), va_P Z.1 vwCl (wX1 Z a0 o2_0 ++ wX3 Z a1 o1 ++ wX0 Z a2 o2_2) H → va_D A (wX1 Z a0 o2_0 ++ wX3 Z a1 o1 ++ wX0 Z a2 o2_2) → va_S A s.heap H locs → f_X1_work_b2 o1 n v2_3 o2_0 o2_2 = some R → W p l e { frames := 3, cells := 0, slots := 0, locals := 68 } s m ([.ref (a0 0), .ref (a1 0), .ref (a2 0)] : List Value).toArray below meth c H locs 0 0 (MQ below (rwQ Z none (fun _ => wX1 Z a0 R.1 ++ wX3 Z a1 o1 ++ wX0 Z a2 R.2) A) ([.ref (a0 0), .ref (a1 0), .ref (a2 0)] : List Value).toArray s 0 0 A) (F0 m 2 ls []) := by
    intro n
    induction n with
    | zero => intro v2_3 o2_0 o2_2 ls hl H locs hP hD hS hf; rw [f_X1_work_b2] at hf; exact nomatch hf
    | succ n ih =>
      intro v2_3 o2_0 o2_2 ls hl H locs hP hD hS hf
      rw [f_X1_work_b2] at hf
      refine lv_iload_n (pc := 2) hx hb dX1_work_2 rfl (lv_at hl 3 rfl) ?_
      refine lv_aload_n (pc := 3) hx hb dX1_work_3 rfl (lv_at hl 0 rfl) ?_
      refine va_get (pc := 4) (D := Z.1) (ci := 1) (v := .int (o2_0.1 0 0)) (C := RX1) (T := TX1) (N := 15) hx hb hts u1 hown hK hP 0 rfl rfl 0 (by decide) w0 (fun _ h9 => h9) rfl dX1_work_4 ?_
      refine lv_icmp_ge (pc := 7) (tgt := 79) hx hb dX1_work_7 (by decide) (fun c1 => ?_) (fun c1 => ?_)
      · have hf := (if_pos c1).symm.trans hf
        have hf := (Option.some.inj hf)
        subst hf
        exact rw_v (fun _ => 0) hx hb hr hlk hP hD hS dX1_work_79
      · have hf := (if_neg c1).symm.trans hf
        refine lv_iload_n (pc := 10) hx hb dX1_work_10 rfl (lv_at hl 3 rfl) ?_
        refine lv_bipush (pc := 11) (v := 6) hx hb dX1_work_11 (by decide) ?_
        refine lv_icmp_ge (pc := 13) (tgt := 79) hx hb dX1_work_13 (by decide) (fun c2 => ?_) (fun c2 => ?_)
        · have hf := (if_pos c2).symm.trans hf
          have hf := (Option.some.inj hf)
          subst hf
          exact rw_v (fun _ => 0) hx hb hr hlk hP hD hS dX1_work_79
        · have hf := (if_neg c2).symm.trans hf
          refine lv_aload_n (pc := 16) hx hb dX1_work_16 rfl (lv_at hl 0 rfl) ?_
          refine va_get (pc := 17) (D := Z.1) (ci := 1) (v := .ref (a0 2)) (C := RX1) (T := TX1) (N := 15) hx hb hts u1 hown hK hP 0 rfl rfl 1 (by decide) w1 (fun _ h9 => h9) rfl dX1_work_17 ?_
          refine lv_iload_n (pc := 20) hx hb dX1_work_20 rfl (lv_at hl 3 rfl) ?_
          obtain ⟨g21, hf⟩ := gd hf
          refine va_zald (pc := 21) (D := Z.1) (n := 6) (f := o2_0.1 1) hx hb hK hP 1 2 rfl rfl (inb_in g21) dX1_work_21 ?_
          refine lv_if_eq (pc := 22) (tgt := 45) hx hb dX1_work_22 (by decide) (fun c3 => ?_) (fun c3 => ?_)
          · have hf := (if_pos c3).symm.trans hf
            refine lv_aload_n (pc := 45) hx hb dX1_work_45 rfl (lv_at hl 0 rfl) ?_
            refine va_get (pc := 46) (D := Z.1) (ci := 1) (v := .ref (a0 14)) (C := RX1) (T := TX1) (N := 15) hx hb hts u1 hown hK hP 0 rfl rfl 13 (by decide) w2 (fun _ h9 => h9) rfl dX1_work_46 ?_
            refine lv_iload_n (pc := 49) hx hb dX1_work_49 rfl (lv_at hl 3 rfl) ?_
            refine lv_aload_n (pc := 50) hx hb dX1_work_50 rfl (lv_at hl 1 rfl) ?_
            refine lv_aload_n (pc := 51) hx hb dX1_work_51 rfl (lv_at hl 0 rfl) ?_
            refine va_get (pc := 52) (D := Z.1) (ci := 1) (v := .ref (a0 3)) (C := RX1) (T := TX1) (N := 15) hx hb hts u1 hown hK hP 0 rfl rfl 2 (by decide) w3 (fun _ h9 => h9) rfl dX1_work_52 ?_
            refine lv_iload_n (pc := 55) hx hb dX1_work_55 rfl (lv_at hl 3 rfl) ?_
            obtain ⟨g56, hf⟩ := gd hf
            refine va_iald (pc := 56) (D := Z.1) (n := 6) (f := o2_0.1 2) hx hb hK hP 2 0 rfl rfl (inb_in g56) dX1_work_56 ?_
            obtain ⟨r57, h_57, hf⟩ := bd hf
            refine ro_V (pc := 57) (C := RX3) (As := [.int (o2_0.1 2 (v2_3).toNatClampNeg)]) (rest := [.int v2_3, .ref (a0 14)]) (st1 := [.long r57, .int v2_3, .ref (a0 14)]) ⟨hx, hb, hml, hown, hts⟩ (c_X3_flowOf Z l a1 o1 (o2_0.1 2 (v2_3).toNatClampNeg) r57 h_57) (cwV 1 hts gX1_work_X3_flowOf rfl rfl rfl hv_X3_flowOf ⟨Nat.le_of_ble_eq_true rfl, Nat.le_of_ble_eq_true rfl⟩) hK hE (hP.sub (ws' := wX3 Z a1 o1) [15, 16, 17] rfl) 3 rfl rfl rfl hl.1 rfl (lv_room (Nat.le_of_ble_eq_true rfl)) dX1_work_57 ⟨Nat.le_of_ble_eq_true rfl, Nat.le_of_ble_eq_true rfl⟩ rfl ?_
            refine lv_aload_n (pc := 60) hx hb dX1_work_60 rfl (lv_at hl 0 rfl) ?_
            refine va_get (pc := 61) (D := Z.1) (ci := 1) (v := .ref (a0 4)) (C := RX1) (T := TX1) (N := 15) hx hb hts u1 hown hK hP 0 rfl rfl 3 (by decide) w4 (fun _ h9 => h9) rfl dX1_work_61 ?_
            refine lv_iload_n (pc := 64) hx hb dX1_work_64 rfl (lv_at hl 3 rfl) ?_
            obtain ⟨g65, hf⟩ := gd hf
            refine va_iald (pc := 65) (D := Z.1) (n := 6) (f := o2_0.1 3) hx hb hK hP 3 0 rfl rfl (inb_in g65) dX1_work_65 ?_
            refine lv_i2l (pc := 66) (v := (o2_0.1 3 (v2_3).toNatClampNeg).toInt64) hx hb dX1_work_66 rfl ?_
            refine lv_lmul (pc := 67) hx hb dX1_work_67 ?_
            refine lv_ldc2 (pc := 68) (v := 100) hx hb hown w5 dX1_work_68 ?_
            refine lv_ldiv (pc := 71) hx hb dX1_work_71 (by decide) ?_
            obtain ⟨g72, hf⟩ := gd hf
            refine va_last (pc := 72) (D := Z.1) (n := 6) (f := o2_0.2 13) hx hb hK hP hD hS 13 1 rfl rfl (inb_in g72) dX1_work_72 (fun H locs hP hD hS => ?_)
            obtain ⟨s72, h_72, hf⟩ := bd hf
            have hP : va_P Z.1 vwCl (wX1 Z a0 s72 ++ wX3 Z a1 o1 ++ wX0 Z a2 o2_2) H := st_P (f := fun z => wX1 Z a0 z ++ wX3 Z a1 o1 ++ wX0 Z a2 o2_2) h_72 hP
            have hD : va_D A (wX1 Z a0 s72 ++ wX3 Z a1 o1 ++ wX0 Z a2 o2_2) := st_D (f := fun z => wX1 Z a0 z ++ wX3 Z a1 o1 ++ wX0 Z a2 o2_2) h_72 hD
            refine lv_iinc (pc := 73) (v := v2_3 + 1) (lv' := [(3, .int (v2_3 + 1)), (0, .ref (a0 0)), (1, .ref (a1 0)), (2, .ref (a2 0))]) hx hb dX1_work_73 hl (k := 3) rfl rfl (by decide) rfl (fun ls hl => ?_)
            refine lv_goto (pc := 76) (tgt := 2) hx hb dX1_work_76 (by decide) ?_
            exact ih (v2_3 + 1) s72 o2_2 _ (lv_sub hl [1, 2, 3, 0] rfl) _ _ hP hD hS hf
          · have hf := (if_neg c3).symm.trans hf
            refine lv_aload_n (pc := 25) hx hb dX1_work_25 rfl (lv_at hl 0 rfl) ?_
            refine lv_iload_n (pc := 26) hx hb dX1_work_26 rfl (lv_at hl 3 rfl) ?_
            refine lv_aload_n (pc := 27) hx hb dX1_work_27 rfl (lv_at hl 1 rfl) ?_
            obtain ⟨r28, h_28, hf⟩ := bd hf
            refine rw_V (pc := 28) (C := RX1) (As := [.int v2_3, .ref (a1 0)]) (rest := []) (st1 := []) (wn := fun _ => wX1 Z a0 r28 ++ wX3 Z a1 o1 ++ wX0 Z a2 o2_2) ⟨hx, hb, hml, hown, hts⟩ (c_X1_measure Z l a0 o2_0 a1 o1 v2_3 r28 h_28) (cwV 2 hts gX1_work_X1_measure rfl rfl rfl hv_X1_measure ⟨Nat.le_of_ble_eq_true rfl, Nat.le_of_ble_eq_true rfl⟩) hK hE hP hD hS hA [0, 1, 2, 3, 4, 5, 6, 7, 8, 9, 10, 11, 12, 13, 14, 15, 16, 17] [18, 19, 20] [3, 4, 5, 6, 7, 8, 9, 10, 11, 12, 13, 14, 15, 16, 17, 18, 19, 20, 0, 1, 2] rfl rfl rfl (fun _ => rfl) 1 rfl rfl rfl hl.1 rfl (lv_room (Nat.le_of_ble_eq_true rfl)) dX1_work_28 ⟨Nat.le_of_ble_eq_true rfl, Nat.le_of_ble_eq_true rfl⟩ rfl (fun _ H locs hP hD hS => ?_)
            refine lv_aload_n (pc := 31) hx hb dX1_work_31 rfl (lv_at hl 0 rfl) ?_
            refine lv_iload_n (pc := 32) hx hb dX1_work_32 rfl (lv_at hl 3 rfl) ?_
            refine lv_aload_n (pc := 33) hx hb dX1_work_33 rfl (lv_at hl 2 rfl) ?_
            obtain ⟨r34, h_34, hf⟩ := bd hf
            refine rw_V (pc := 34) (C := RX1) (As := [.int v2_3, .ref (a2 0)]) (rest := []) (st1 := []) (wn := fun _ => wX1 Z a0 r34.1 ++ wX3 Z a1 o1 ++ wX0 Z a2 r34.2) ⟨hx, hb, hml, hown, hts⟩ (c_X1_watch Z l a0 r28 a2 o2_2 v2_3 r34 h_34) (cwV 2 hts gX1_work_X1_watch rfl rfl rfl hv_X1_watch ⟨Nat.le_of_ble_eq_true rfl, Nat.le_of_ble_eq_true rfl⟩) hK hE hP hD hS hA [0, 1, 2, 3, 4, 5, 6, 7, 8, 9, 10, 11, 12, 13, 14, 18, 19, 20] [15, 16, 17] [3, 4, 5, 6, 7, 8, 9, 10, 11, 12, 13, 14, 15, 16, 17, 0, 1, 2, 18, 19, 20] rfl rfl rfl (fun _ => rfl) 1 rfl rfl rfl hl.1 rfl (lv_room (Nat.le_of_ble_eq_true rfl)) dX1_work_34 ⟨Nat.le_of_ble_eq_true rfl, Nat.le_of_ble_eq_true rfl⟩ rfl (fun _ H locs hP hD hS => ?_)
            refine lv_aload_n (pc := 37) hx hb dX1_work_37 rfl (lv_at hl 0 rfl) ?_
            refine lv_iload_n (pc := 38) hx hb dX1_work_38 rfl (lv_at hl 3 rfl) ?_
            obtain ⟨r39, h_39, hf⟩ := bd hf
            refine rw_V (pc := 39) (C := RX1) (As := [.int v2_3]) (rest := []) (st1 := []) (wn := fun _ => wX1 Z a0 r39 ++ wX3 Z a1 o1 ++ wX0 Z a2 r34.2) ⟨hx, hb, hml, hown, hts⟩ (c_X1_passOn Z l a0 r34.1 v2_3 r39 h_39) (cwV 1 hts gX1_work_X1_passOn rfl rfl rfl hv_X1_passOn ⟨Nat.le_of_ble_eq_true rfl, Nat.le_of_ble_eq_true rfl⟩) hK hE hP hD hS hA [0, 1, 2, 3, 4, 5, 6, 7, 8, 9, 10, 11, 12, 13, 14] [15, 16, 17, 18, 19, 20] [6, 7, 8, 9, 10, 11, 12, 13, 14, 15, 16, 17, 18, 19, 20, 0, 1, 2, 3, 4, 5] rfl rfl rfl (fun _ => rfl) 1 rfl rfl rfl hl.1 rfl (lv_room (Nat.le_of_ble_eq_true rfl)) dX1_work_39 ⟨Nat.le_of_ble_eq_true rfl, Nat.le_of_ble_eq_true rfl⟩ rfl (fun _ H locs hP hD hS => ?_)
            refine lv_goto (pc := 42) (tgt := 73) hx hb dX1_work_42 (by decide) ?_
            refine lv_iinc (pc := 73) (v := v2_3 + 1) (lv' := [(3, .int (v2_3 + 1)), (0, .ref (a0 0)), (1, .ref (a1 0)), (2, .ref (a2 0))]) hx hb dX1_work_73 hl (k := 3) rfl rfl (by decide) rfl (fun ls hl => ?_)
            refine lv_goto (pc := 76) (tgt := 2) hx hb dX1_work_76 (by decide) ?_
            exact ih (v2_3 + 1) r39 r34.2 _ (lv_sub hl [1, 2, 3, 0] rfl) _ _ hP hD hS hf
  rw [f_X1_work] at hf
  refine lv_iconst (pc := 0) (v := 0) hx hb dX1_work_0 (by decide) ?_
  refine lv_istore_n (pc := 1) (lv' := [(3, .int 0), (0, .ref (a0 0)), (1, .ref (a1 0)), (2, .ref (a2 0))]) hx hb dX1_work_1 rfl hl (by decide) rfl (fun ls hl => ?_)
  exact B2 64 0 o0 o2 _ (lv_sub hl [1, 2, 3, 0] rfl) _ _ hP hD hS hf
def f_X1_goesAhead (x1 : Int64) (x2 : Int64) (x3 : Int32) : Int32 :=
  if x3 = (0 : Int32) then
    if (0 : Int32) ≤ (lg_cmp x1 x2) then
      (0 : Int32)
    else
      (1 : Int32)
  else
    if (lg_cmp x1 x2) ≤ (0 : Int32) then
      (0 : Int32)
    else
      (1 : Int32)
set_option maxHeartbeats 4000000 in
set_option maxRecDepth 100000 in
theorem c_X1_goesAhead (Z : EnvT) (l : Launch) (x1 : Int64) (x2 : Int64) (x3 : Int32) (R : Int32) (hf : f_X1_goesAhead x1 x2 x3 = R) : RO Z l yX1_goesAhead wsX1_goesAhead { frames := 0, cells := 0, slots := 0, locals := 0 } [.long x1, .long x2, .int x3] ([]) (some (.int R)) := by
  refine ro_of (cc := cX1_goesAhead) (maxL := 5) (ret := (some .boolean)) (by decide) rfl (Nat.le_of_ble_eq_true rfl) ?_
  intro p e s m below meth c ls hx hb hr hml hts hown hlk hP hK hE hl
  have hown : s.vm.findClass RX1 = some m.cls := hown
  have hl : lv_has ls 5 [(0, .long x1), (2, .long x2), (4, .int x3)] := hl
  rw [f_X1_goesAhead] at hf
  refine lv_iload (pc := 0) hx hb dX1_goesAhead_0 (lv_at hl 2 rfl) ?_
  refine lv_if_eq (pc := 2) (tgt := 19) hx hb dX1_goesAhead_2 (by decide) (fun c1 => ?_) (fun c1 => ?_)
  · have hf := (if_pos c1).symm.trans hf
    refine lv_lload_n (pc := 19) hx hb dX1_goesAhead_19 rfl (lv_at hl 0 rfl) ?_
    refine lv_lload_n (pc := 20) hx hb dX1_goesAhead_20 rfl (lv_at hl 1 rfl) ?_
    refine W.lcmp (pc := 21) hx hb dX1_goesAhead_21 ?_
    refine lv_if_ge (pc := 22) (tgt := 29) hx hb dX1_goesAhead_22 (by decide) (fun c2 => ?_) (fun c2 => ?_)
    · have hf := (if_pos c2).symm.trans hf
      refine lv_iconst (pc := 29) (v := 0) hx hb dX1_goesAhead_29 (by decide) ?_
      exact ro_z hx hb hr hlk hf rfl dX1_goesAhead_30
    · have hf := (if_neg c2).symm.trans hf
      refine lv_iconst (pc := 25) (v := 1) hx hb dX1_goesAhead_25 (by decide) ?_
      refine lv_goto (pc := 26) (tgt := 30) hx hb dX1_goesAhead_26 (by decide) ?_
      exact ro_z hx hb hr hlk hf rfl dX1_goesAhead_30
  · have hf := (if_neg c1).symm.trans hf
    refine lv_lload_n (pc := 5) hx hb dX1_goesAhead_5 rfl (lv_at hl 0 rfl) ?_
    refine lv_lload_n (pc := 6) hx hb dX1_goesAhead_6 rfl (lv_at hl 1 rfl) ?_
    refine W.lcmp (pc := 7) hx hb dX1_goesAhead_7 ?_
    refine lv_if_le (pc := 8) (tgt := 15) hx hb dX1_goesAhead_8 (by decide) (fun c3 => ?_) (fun c3 => ?_)
    · have hf := (if_pos c3).symm.trans hf
      refine lv_iconst (pc := 15) (v := 0) hx hb dX1_goesAhead_15 (by decide) ?_
      refine lv_goto (pc := 16) (tgt := 30) hx hb dX1_goesAhead_16 (by decide) ?_
      exact ro_z hx hb hr hlk hf rfl dX1_goesAhead_30
    · have hf := (if_neg c3).symm.trans hf
      refine lv_iconst (pc := 11) (v := 1) hx hb dX1_goesAhead_11 (by decide) ?_
      refine lv_goto (pc := 12) (tgt := 30) hx hb dX1_goesAhead_12 (by decide) ?_
      exact ro_z hx hb hr hlk hf rfl dX1_goesAhead_30
def f_X1_chosenFor_b5 (o0 : ObS) (x1 : Int32) (x2 : Int32) : Nat → Int32 → Int32 → Option (Int32)
  | 0, _, _ => none
  | n + 1, v5_4, v5_3 =>
  if (o0.1 0 0) ≤ v5_4 then
    some (v5_3)
  else
    if 6 ≤ v5_4 then
      some (v5_3)
    else
      if inb v5_4 6 then
      if (o0.1 5 (v5_4).toNatClampNeg) = x1 then
        if (f_X1_isMade o0 v5_3) = (0 : Int32) then
          f_X1_chosenFor_b5 o0 x1 x2 n (v5_4 + 1) v5_4
        else
          if inb v5_4 6 then
          if inb v5_3 6 then
          if (f_X1_goesAhead (o0.2 13 (v5_4).toNatClampNeg) (o0.2 13 (v5_3).toNatClampNeg) x2) = (0 : Int32) then
            f_X1_chosenFor_b5 o0 x1 x2 n (v5_4 + 1) v5_3
          else
            f_X1_chosenFor_b5 o0 x1 x2 n (v5_4 + 1) v5_4
          else none
          else none
      else
        f_X1_chosenFor_b5 o0 x1 x2 n (v5_4 + 1) v5_3
      else none
def f_X1_chosenFor (o0 : ObS) (x1 : Int32) (x2 : Int32) : Option (Int32) :=
  f_X1_chosenFor_b5 o0 x1 x2 64 0 (-1)
set_option maxHeartbeats 4000000 in
set_option maxRecDepth 100000 in
theorem c_X1_chosenFor (Z : EnvT) (l : Launch) (a0 : Nat → Nat) (o0 : ObS) (x1 : Int32) (x2 : Int32) (R : Int32) (hf : f_X1_chosenFor o0 x1 x2 = some R) : RO Z l yX1_chosenFor wsX1_chosenFor { frames := 1, cells := 0, slots := 0, locals := 24 } [.ref (a0 0), .int x1, .int x2] (wX1 Z a0 o0) (some (.int R)) := by
  refine ro_of (cc := cX1_chosenFor) (maxL := 5) (ret := (some .int)) (by decide) rfl (Nat.le_of_ble_eq_true rfl) ?_
  intro p e s m below meth c ls hx hb hr hml hts hown hlk hP hK hE hl
  have hown : s.vm.findClass RX1 = some m.cls := hown
  have hl : lv_has ls 5 [(0, .ref (a0 0)), (1, .int x1), (2, .int x2)] := hl
  have w0 := hts (.fieldLink RX1 9 "HeatTrain$Controllers" "made" "I") (by decide +kernel)
  have w1 := hts (.fieldLink RX1 29 "HeatTrain$Controllers" "driven" "[I") (by decide +kernel)
  have w2 := hts (.fieldLink RX1 54 "HeatTrain$Controllers" "output" "[J") (by decide +kernel)
  have u1 : ∀ w ∈ wsX10, w ∈ wsX1_chosenFor := by decide +kernel
  have B5 : ∀ (n : Nat), ∀ (v5_4 : Int32) (v5_3 : Int32) (ls : Array Slot), lv_has ls 5 [(0, .ref (a0 0)), (1, .int x1), (2, .int x2), (3, .int v5_3), (4, .int v5_4)] → f_X1_chosenFor_b5 o0 x1 x2 n v5_4 v5_3 = some R → W p l e { frames := 1, cells := 0, slots := 0, locals := 24 } s m ([.ref (a0 0), .int x1, .int x2] : List Value).toArray below meth c s.heap [] 0 0 (MQ below (roQ (some (.int R))) ([.ref (a0 0), .int x1, .int x2] : List Value).toArray s 0 0 (fun _ => False)) (F0 m 5 ls []) := by
    intro n
    induction n with
    | zero => intro v5_4 v5_3 ls hl hf; rw [f_X1_chosenFor_b5] at hf; exact nomatch hf
    | succ n ih =>
      intro v5_4 v5_3 ls hl hf
      rw [f_X1_chosenFor_b5] at hf
      refine lv_iload (pc := 5) hx hb dX1_chosenFor_5 (lv_at hl 4 rfl) ?_
      refine lv_aload_n (pc := 7) hx hb dX1_chosenFor_7 rfl (lv_at hl 0 rfl) ?_
      refine va_get (pc := 8) (D := Z.1) (ci := 1) (v := .int (o0.1 0 0)) (C := RX1) (T := TX1) (N := 15) hx hb hts u1 hown hK hP 0 rfl rfl 0 (by decide) w0 (fun _ h9 => h9) rfl dX1_chosenFor_8 ?_
      refine lv_icmp_ge (pc := 11) (tgt := 69) hx hb dX1_chosenFor_11 (by decide) (fun c1 => ?_) (fun c1 => ?_)
      · have hf := (if_pos c1).symm.trans hf
        refine lv_iload_n (pc := 69) hx hb dX1_chosenFor_69 rfl (lv_at hl 3 rfl) ?_
        exact ro_i hx hb hr hlk (Option.some.inj hf) dX1_chosenFor_70
      · have hf := (if_neg c1).symm.trans hf
        refine lv_iload (pc := 14) hx hb dX1_chosenFor_14 (lv_at hl 4 rfl) ?_
        refine lv_bipush (pc := 16) (v := 6) hx hb dX1_chosenFor_16 (by decide) ?_
        refine lv_icmp_ge (pc := 18) (tgt := 69) hx hb dX1_chosenFor_18 (by decide) (fun c2 => ?_) (fun c2 => ?_)
        · have hf := (if_pos c2).symm.trans hf
          refine lv_iload_n (pc := 69) hx hb dX1_chosenFor_69 rfl (lv_at hl 3 rfl) ?_
          exact ro_i hx hb hr hlk (Option.some.inj hf) dX1_chosenFor_70
        · have hf := (if_neg c2).symm.trans hf
          refine lv_aload_n (pc := 21) hx hb dX1_chosenFor_21 rfl (lv_at hl 0 rfl) ?_
          refine va_get (pc := 22) (D := Z.1) (ci := 1) (v := .ref (a0 6)) (C := RX1) (T := TX1) (N := 15) hx hb hts u1 hown hK hP 0 rfl rfl 5 (by decide) w1 (fun _ h9 => h9) rfl dX1_chosenFor_22 ?_
          refine lv_iload (pc := 25) hx hb dX1_chosenFor_25 (lv_at hl 4 rfl) ?_
          obtain ⟨g27, hf⟩ := gd hf
          refine va_iald (pc := 27) (D := Z.1) (n := 6) (f := o0.1 5) hx hb hK hP 5 0 rfl rfl (inb_in g27) dX1_chosenFor_27 ?_
          refine lv_iload_n (pc := 28) hx hb dX1_chosenFor_28 rfl (lv_at hl 1 rfl) ?_
          refine lv_icmp_ne (pc := 29) (tgt := 63) hx hb dX1_chosenFor_29 (by decide) (fun c3 => ?_) (fun c3 => ?_)
          · have hf := (if_neg c3).symm.trans hf
            refine lv_iinc (pc := 63) (v := v5_4 + 1) (lv' := [(4, .int (v5_4 + 1)), (0, .ref (a0 0)), (1, .int x1), (2, .int x2), (3, .int v5_3)]) hx hb dX1_chosenFor_63 hl (k := 4) rfl rfl (by decide) rfl (fun ls hl => ?_)
            refine lv_goto (pc := 66) (tgt := 5) hx hb dX1_chosenFor_66 (by decide) ?_
            exact ih (v5_4 + 1) v5_3 _ (lv_sub hl [1, 2, 3, 4, 0] rfl) hf
          · have hf := (if_pos c3).symm.trans hf
            refine lv_aload_n (pc := 32) hx hb dX1_chosenFor_32 rfl (lv_at hl 0 rfl) ?_
            refine lv_iload_n (pc := 33) hx hb dX1_chosenFor_33 rfl (lv_at hl 3 rfl) ?_
            refine ro_V (pc := 34) (C := RX1) (As := [.int v5_3]) (rest := []) (st1 := [.int (f_X1_isMade o0 v5_3)]) ⟨hx, hb, hml, hown, hts⟩ (c_X1_isMade Z l a0 o0 v5_3 _ rfl) (cwV 1 hts gX1_chosenFor_X1_isMade rfl rfl rfl hv_X1_isMade ⟨Nat.le_of_ble_eq_true rfl, Nat.le_of_ble_eq_true rfl⟩) hK hE hP 1 rfl rfl rfl hl.1 rfl (lv_room (Nat.le_of_ble_eq_true rfl)) dX1_chosenFor_34 ⟨Nat.le_of_ble_eq_true rfl, Nat.le_of_ble_eq_true rfl⟩ rfl ?_
            refine lv_if_eq (pc := 37) (tgt := 60) hx hb dX1_chosenFor_37 (by decide) (fun c4 => ?_) (fun c4 => ?_)
            · have hf := (if_pos c4).symm.trans hf
              refine lv_iload (pc := 60) hx hb dX1_chosenFor_60 (lv_at hl 4 rfl) ?_
              refine lv_istore_n (pc := 62) (lv' := [(3, .int v5_4), (0, .ref (a0 0)), (1, .int x1), (2, .int x2), (4, .int v5_4)]) hx hb dX1_chosenFor_62 rfl hl (by decide) rfl (fun ls hl => ?_)
              refine lv_iinc (pc := 63) (v := v5_4 + 1) (lv' := [(4, .int (v5_4 + 1)), (3, .int v5_4), (0, .ref (a0 0)), (1, .int x1), (2, .int x2)]) hx hb dX1_chosenFor_63 hl (k := 4) rfl rfl (by decide) rfl (fun ls hl => ?_)
              refine lv_goto (pc := 66) (tgt := 5) hx hb dX1_chosenFor_66 (by decide) ?_
              exact ih (v5_4 + 1) v5_4 _ (lv_sub hl [2, 3, 4, 1, 0] rfl) hf
            · have hf := (if_neg c4).symm.trans hf
              refine lv_aload_n (pc := 40) hx hb dX1_chosenFor_40 rfl (lv_at hl 0 rfl) ?_
              refine va_get (pc := 41) (D := Z.1) (ci := 1) (v := .ref (a0 14)) (C := RX1) (T := TX1) (N := 15) hx hb hts u1 hown hK hP 0 rfl rfl 13 (by decide) w2 (fun _ h9 => h9) rfl dX1_chosenFor_41 ?_
              refine lv_iload (pc := 44) hx hb dX1_chosenFor_44 (lv_at hl 4 rfl) ?_
              obtain ⟨g46, hf⟩ := gd hf
              refine va_lald (pc := 46) (D := Z.1) (n := 6) (f := o0.2 13) hx hb hK hP 13 1 rfl rfl (inb_in g46) dX1_chosenFor_46 ?_
              refine lv_aload_n (pc := 47) hx hb dX1_chosenFor_47 rfl (lv_at hl 0 rfl) ?_
              refine va_get (pc := 48) (D := Z.1) (ci := 1) (v := .ref (a0 14)) (C := RX1) (T := TX1) (N := 15) hx hb hts u1 hown hK hP 0 rfl rfl 13 (by decide) w2 (fun _ h9 => h9) rfl dX1_chosenFor_48 ?_
              refine lv_iload_n (pc := 51) hx hb dX1_chosenFor_51 rfl (lv_at hl 3 rfl) ?_
              obtain ⟨g52, hf⟩ := gd hf
              refine va_lald (pc := 52) (D := Z.1) (n := 6) (f := o0.2 13) hx hb hK hP 13 1 rfl rfl (inb_in g52) dX1_chosenFor_52 ?_
              refine lv_iload_n (pc := 53) hx hb dX1_chosenFor_53 rfl (lv_at hl 2 rfl) ?_
              refine ro_S (pc := 54) (As := [.long (o0.2 13 (v5_4).toNatClampNeg), .long (o0.2 13 (v5_3).toNatClampNeg), .int x2]) (rest := []) (st1 := [.int (f_X1_goesAhead (o0.2 13 (v5_4).toNatClampNeg) (o0.2 13 (v5_3).toNatClampNeg) x2)]) ⟨hx, hb, hml, hown, hts⟩ (c_X1_goesAhead Z l (o0.2 13 (v5_4).toNatClampNeg) (o0.2 13 (v5_3).toNatClampNeg) x2 _ rfl) (va_cwS 3 hts gX1_chosenFor_X1_goesAhead rfl rfl rfl hs_X1_goesAhead ⟨Nat.le_of_ble_eq_true rfl, Nat.le_of_ble_eq_true rfl⟩) hK hE (hP.sub (ws' := []) [] rfl) rfl hl.1 rfl (lv_room (Nat.le_of_ble_eq_true rfl)) dX1_chosenFor_54 ⟨Nat.le_of_ble_eq_true rfl, Nat.le_of_ble_eq_true rfl⟩ rfl ?_
              refine lv_if_eq (pc := 57) (tgt := 63) hx hb dX1_chosenFor_57 (by decide) (fun c5 => ?_) (fun c5 => ?_)
              · have hf := (if_pos c5).symm.trans hf
                refine lv_iinc (pc := 63) (v := v5_4 + 1) (lv' := [(4, .int (v5_4 + 1)), (0, .ref (a0 0)), (1, .int x1), (2, .int x2), (3, .int v5_3)]) hx hb dX1_chosenFor_63 hl (k := 4) rfl rfl (by decide) rfl (fun ls hl => ?_)
                refine lv_goto (pc := 66) (tgt := 5) hx hb dX1_chosenFor_66 (by decide) ?_
                exact ih (v5_4 + 1) v5_3 _ (lv_sub hl [1, 2, 3, 4, 0] rfl) hf
              · have hf := (if_neg c5).symm.trans hf
                refine lv_iload (pc := 60) hx hb dX1_chosenFor_60 (lv_at hl 4 rfl) ?_
                refine lv_istore_n (pc := 62) (lv' := [(3, .int v5_4), (0, .ref (a0 0)), (1, .int x1), (2, .int x2), (4, .int v5_4)]) hx hb dX1_chosenFor_62 rfl hl (by decide) rfl (fun ls hl => ?_)
                refine lv_iinc (pc := 63) (v := v5_4 + 1) (lv' := [(4, .int (v5_4 + 1)), (3, .int v5_4), (0, .ref (a0 0)), (1, .int x1), (2, .int x2)]) hx hb dX1_chosenFor_63 hl (k := 4) rfl rfl (by decide) rfl (fun ls hl => ?_)
                refine lv_goto (pc := 66) (tgt := 5) hx hb dX1_chosenFor_66 (by decide) ?_
                exact ih (v5_4 + 1) v5_4 _ (lv_sub hl [2, 3, 4, 1, 0] rfl) hf
  rw [f_X1_chosenFor] at hf
  refine lv_iconst (pc := 0) (v := (-1)) hx hb dX1_chosenFor_0 (by decide) ?_
  refine lv_istore_n (pc := 1) (lv' := [(3, .int (-1)), (0, .ref (a0 0)), (1, .int x1), (2, .int x2)]) hx hb dX1_chosenFor_1 rfl hl (by decide) rfl (fun ls hl => ?_)
  refine lv_iconst (pc := 2) (v := 0) hx hb dX1_chosenFor_2 (by decide) ?_
  refine lv_istore (pc := 3) (lv' := [(4, .int 0), (3, .int (-1)), (0, .ref (a0 0)), (1, .int x1), (2, .int x2)]) hx hb dX1_chosenFor_3 hl (by decide) rfl (fun ls hl => ?_)
  exact B5 64 0 (-1) _ (lv_sub hl [2, 3, 4, 1, 0] rfl) hf
def f_X1_letFollow_b3 (x1 : Int32) (x2 : Int64) : Nat → Int32 → ObS → Option (ObS)
  | 0, _, _ => none
  | n + 1, v3_4, o3_0 =>
  if (o3_0.1 0 0) ≤ v3_4 then
    some (o3_0)
  else
    if 6 ≤ v3_4 then
      some (o3_0)
    else
      if inb v3_4 6 then
      if (o3_0.1 5 (v3_4).toNatClampNeg) = x1 then
        if inb v3_4 6 then
        if (o3_0.1 1 (v3_4).toNatClampNeg) = (0 : Int32) then
          f_X1_letFollow_b3 x1 x2 n (v3_4 + 1) o3_0
        else
          if inb v3_4 6 then
          if (lg_cmp (o3_0.2 13 (v3_4).toNatClampNeg) x2) = (0 : Int32) then
            f_X1_letFollow_b3 x1 x2 n (v3_4 + 1) o3_0
          else
            if inb v3_4 6 then
            if inb v3_4 6 then
            if inb v3_4 6 then
            (some (oj o3_0 11 (v3_4).toNatClampNeg (f_X1_heldSum (((x2 - ((o3_0.1 4 (v3_4).toNatClampNeg).toInt64)) - (o3_0.2 12 (v3_4).toNatClampNeg)) * 1000)))).bind fun s83 =>
            f_X1_letFollow_b3 x1 x2 n (v3_4 + 1) s83
            else none
            else none
            else none
          else none
        else none
      else
        f_X1_letFollow_b3 x1 x2 n (v3_4 + 1) o3_0
      else none
def f_X1_letFollow (o0 : ObS) (x1 : Int32) (x2 : Int64) : Option (ObS) :=
  f_X1_letFollow_b3 x1 x2 64 0 o0
set_option maxHeartbeats 4000000 in
set_option maxRecDepth 100000 in
theorem c_X1_letFollow (Z : EnvT) (l : Launch) (a0 : Nat → Nat) (o0 : ObS) (x1 : Int32) (x2 : Int64) (R : ObS) (hf : f_X1_letFollow o0 x1 x2 = some R) : RW Z l yX1_letFollow wsX1_letFollow { frames := 2, cells := 0, slots := 0, locals := 46 } [.ref (a0 0), .int x1, .long x2] (wX1 Z a0 o0) none (fun _ => wX1 Z a0 R) 0 0 := by
  refine rw_of (cc := cX1_letFollow) (maxL := 5) (ret := none) (by decide) rfl (Nat.le_of_ble_eq_true rfl) ?_
  intro p e s m below meth c A ls hx hb hr hml hts hown hlk hin hP hK hE hD hA hS hl
  have hown : s.vm.findClass RX1 = some m.cls := hown
  have hl : lv_has ls 5 [(0, .ref (a0 0)), (1, .int x1), (2, .long x2)] := hl
  have w0 := hts (.fieldLink RX1 9 "HeatTrain$Controllers" "made" "I") (by decide +kernel)
  have w1 := hts (.fieldLink RX1 29 "HeatTrain$Controllers" "driven" "[I") (by decide +kernel)
  have w2 := hts (.fieldLink RX1 15 "HeatTrain$Controllers" "measuring" "[Z") (by decide +kernel)
  have w3 := hts (.fieldLink RX1 54 "HeatTrain$Controllers" "output" "[J") (by decide +kernel)
  have w4 := hts (.fieldLink RX1 48 "HeatTrain$Controllers" "sum" "[J") (by decide +kernel)
  have w5 := hts (.fieldLink RX1 26 "HeatTrain$Controllers" "base" "[I") (by decide +kernel)
  have w6 := hts (.fieldLink RX1 51 "HeatTrain$Controllers" "fed" "[J") (by decide +kernel)
  have w7 := hts (.constantLong RX1 100 (1000)) (by decide +kernel)
  have u1 : ∀ w ∈ wsX10, w ∈ wsX1_letFollow := by decide +kernel
  have B3 : ∀ (n : Nat), ∀ (v3_4 : Int32) (o3_0 : ObS) (ls : Array Slot), lv_has ls 5 [(0, .ref (a0 0)), (1, .int x1), (2, .long x2), (4, .int v3_4)] → ∀ (H : Heap) (locs : List Loc), va_P Z.1 vwCl (wX1 Z a0 o3_0) H → va_D A (wX1 Z a0 o3_0) → va_S A s.heap H locs → f_X1_letFollow_b3 x1 x2 n v3_4 o3_0 = some R → W p l e { frames := 2, cells := 0, slots := 0, locals := 46 } s m ([.ref (a0 0), .int x1, .long x2] : List Value).toArray below meth c H locs 0 0 (MQ below (rwQ Z none (fun _ => wX1 Z a0 R) A) ([.ref (a0 0), .int x1, .long x2] : List Value).toArray s 0 0 A) (F0 m 3 ls []) := by
    intro n
    induction n with
    | zero => intro v3_4 o3_0 ls hl H locs hP hD hS hf; rw [f_X1_letFollow_b3] at hf; exact nomatch hf
    | succ n ih =>
      intro v3_4 o3_0 ls hl H locs hP hD hS hf
      rw [f_X1_letFollow_b3] at hf
      refine lv_iload (pc := 3) hx hb dX1_letFollow_3 (lv_at hl 3 rfl) ?_
      refine lv_aload_n (pc := 5) hx hb dX1_letFollow_5 rfl (lv_at hl 0 rfl) ?_
      refine va_get (pc := 6) (D := Z.1) (ci := 1) (v := .int (o3_0.1 0 0)) (C := RX1) (T := TX1) (N := 15) hx hb hts u1 hown hK hP 0 rfl rfl 0 (by decide) w0 (fun _ h9 => h9) rfl dX1_letFollow_6 ?_
      refine lv_icmp_ge (pc := 9) (tgt := 90) hx hb dX1_letFollow_9 (by decide) (fun c1 => ?_) (fun c1 => ?_)
      · have hf := (if_pos c1).symm.trans hf
        have hf := (Option.some.inj hf)
        subst hf
        exact rw_v (fun _ => 0) hx hb hr hlk hP hD hS dX1_letFollow_90
      · have hf := (if_neg c1).symm.trans hf
        refine lv_iload (pc := 12) hx hb dX1_letFollow_12 (lv_at hl 3 rfl) ?_
        refine lv_bipush (pc := 14) (v := 6) hx hb dX1_letFollow_14 (by decide) ?_
        refine lv_icmp_ge (pc := 16) (tgt := 90) hx hb dX1_letFollow_16 (by decide) (fun c2 => ?_) (fun c2 => ?_)
        · have hf := (if_pos c2).symm.trans hf
          have hf := (Option.some.inj hf)
          subst hf
          exact rw_v (fun _ => 0) hx hb hr hlk hP hD hS dX1_letFollow_90
        · have hf := (if_neg c2).symm.trans hf
          refine lv_aload_n (pc := 19) hx hb dX1_letFollow_19 rfl (lv_at hl 0 rfl) ?_
          refine va_get (pc := 20) (D := Z.1) (ci := 1) (v := .ref (a0 6)) (C := RX1) (T := TX1) (N := 15) hx hb hts u1 hown hK hP 0 rfl rfl 5 (by decide) w1 (fun _ h9 => h9) rfl dX1_letFollow_20 ?_
          refine lv_iload (pc := 23) hx hb dX1_letFollow_23 (lv_at hl 3 rfl) ?_
          obtain ⟨g25, hf⟩ := gd hf
          refine va_iald (pc := 25) (D := Z.1) (n := 6) (f := o3_0.1 5) hx hb hK hP 5 0 rfl rfl (inb_in g25) dX1_letFollow_25 ?_
          refine lv_iload_n (pc := 26) hx hb dX1_letFollow_26 rfl (lv_at hl 1 rfl) ?_
          refine lv_icmp_ne (pc := 27) (tgt := 84) hx hb dX1_letFollow_27 (by decide) (fun c3 => ?_) (fun c3 => ?_)
          · have hf := (if_neg c3).symm.trans hf
            refine lv_iinc (pc := 84) (v := v3_4 + 1) (lv' := [(4, .int (v3_4 + 1)), (0, .ref (a0 0)), (1, .int x1), (2, .long x2)]) hx hb dX1_letFollow_84 hl (k := 3) rfl rfl (by decide) rfl (fun ls hl => ?_)
            refine lv_goto (pc := 87) (tgt := 3) hx hb dX1_letFollow_87 (by decide) ?_
            exact ih (v3_4 + 1) o3_0 _ (lv_sub hl [1, 2, 3, 0] rfl) _ _ hP hD hS hf
          · have hf := (if_pos c3).symm.trans hf
            refine lv_aload_n (pc := 30) hx hb dX1_letFollow_30 rfl (lv_at hl 0 rfl) ?_
            refine va_get (pc := 31) (D := Z.1) (ci := 1) (v := .ref (a0 2)) (C := RX1) (T := TX1) (N := 15) hx hb hts u1 hown hK hP 0 rfl rfl 1 (by decide) w2 (fun _ h9 => h9) rfl dX1_letFollow_31 ?_
            refine lv_iload (pc := 34) hx hb dX1_letFollow_34 (lv_at hl 3 rfl) ?_
            obtain ⟨g36, hf⟩ := gd hf
            refine va_zald (pc := 36) (D := Z.1) (n := 6) (f := o3_0.1 1) hx hb hK hP 1 2 rfl rfl (inb_in g36) dX1_letFollow_36 ?_
            refine lv_if_eq (pc := 37) (tgt := 84) hx hb dX1_letFollow_37 (by decide) (fun c4 => ?_) (fun c4 => ?_)
            · have hf := (if_pos c4).symm.trans hf
              refine lv_iinc (pc := 84) (v := v3_4 + 1) (lv' := [(4, .int (v3_4 + 1)), (0, .ref (a0 0)), (1, .int x1), (2, .long x2)]) hx hb dX1_letFollow_84 hl (k := 3) rfl rfl (by decide) rfl (fun ls hl => ?_)
              refine lv_goto (pc := 87) (tgt := 3) hx hb dX1_letFollow_87 (by decide) ?_
              exact ih (v3_4 + 1) o3_0 _ (lv_sub hl [1, 2, 3, 0] rfl) _ _ hP hD hS hf
            · have hf := (if_neg c4).symm.trans hf
              refine lv_aload_n (pc := 40) hx hb dX1_letFollow_40 rfl (lv_at hl 0 rfl) ?_
              refine va_get (pc := 41) (D := Z.1) (ci := 1) (v := .ref (a0 14)) (C := RX1) (T := TX1) (N := 15) hx hb hts u1 hown hK hP 0 rfl rfl 13 (by decide) w3 (fun _ h9 => h9) rfl dX1_letFollow_41 ?_
              refine lv_iload (pc := 44) hx hb dX1_letFollow_44 (lv_at hl 3 rfl) ?_
              obtain ⟨g46, hf⟩ := gd hf
              refine va_lald (pc := 46) (D := Z.1) (n := 6) (f := o3_0.2 13) hx hb hK hP 13 1 rfl rfl (inb_in g46) dX1_letFollow_46 ?_
              refine lv_lload_n (pc := 47) hx hb dX1_letFollow_47 rfl (lv_at hl 2 rfl) ?_
              refine W.lcmp (pc := 48) hx hb dX1_letFollow_48 ?_
              refine lv_if_eq (pc := 49) (tgt := 84) hx hb dX1_letFollow_49 (by decide) (fun c5 => ?_) (fun c5 => ?_)
              · have hf := (if_pos c5).symm.trans hf
                refine lv_iinc (pc := 84) (v := v3_4 + 1) (lv' := [(4, .int (v3_4 + 1)), (0, .ref (a0 0)), (1, .int x1), (2, .long x2)]) hx hb dX1_letFollow_84 hl (k := 3) rfl rfl (by decide) rfl (fun ls hl => ?_)
                refine lv_goto (pc := 87) (tgt := 3) hx hb dX1_letFollow_87 (by decide) ?_
                exact ih (v3_4 + 1) o3_0 _ (lv_sub hl [1, 2, 3, 0] rfl) _ _ hP hD hS hf
              · have hf := (if_neg c5).symm.trans hf
                refine lv_aload_n (pc := 52) hx hb dX1_letFollow_52 rfl (lv_at hl 0 rfl) ?_
                refine va_get (pc := 53) (D := Z.1) (ci := 1) (v := .ref (a0 12)) (C := RX1) (T := TX1) (N := 15) hx hb hts u1 hown hK hP 0 rfl rfl 11 (by decide) w4 (fun _ h9 => h9) rfl dX1_letFollow_53 ?_
                refine lv_iload (pc := 56) hx hb dX1_letFollow_56 (lv_at hl 3 rfl) ?_
                refine lv_lload_n (pc := 58) hx hb dX1_letFollow_58 rfl (lv_at hl 2 rfl) ?_
                refine lv_aload_n (pc := 59) hx hb dX1_letFollow_59 rfl (lv_at hl 0 rfl) ?_
                refine va_get (pc := 60) (D := Z.1) (ci := 1) (v := .ref (a0 5)) (C := RX1) (T := TX1) (N := 15) hx hb hts u1 hown hK hP 0 rfl rfl 4 (by decide) w5 (fun _ h9 => h9) rfl dX1_letFollow_60 ?_
                refine lv_iload (pc := 63) hx hb dX1_letFollow_63 (lv_at hl 3 rfl) ?_
                obtain ⟨g65, hf⟩ := gd hf
                refine va_iald (pc := 65) (D := Z.1) (n := 6) (f := o3_0.1 4) hx hb hK hP 4 0 rfl rfl (inb_in g65) dX1_letFollow_65 ?_
                refine lv_i2l (pc := 66) (v := (o3_0.1 4 (v3_4).toNatClampNeg).toInt64) hx hb dX1_letFollow_66 rfl ?_
                refine lv_lsub (pc := 67) hx hb dX1_letFollow_67 ?_
                refine lv_aload_n (pc := 68) hx hb dX1_letFollow_68 rfl (lv_at hl 0 rfl) ?_
                refine va_get (pc := 69) (D := Z.1) (ci := 1) (v := .ref (a0 13)) (C := RX1) (T := TX1) (N := 15) hx hb hts u1 hown hK hP 0 rfl rfl 12 (by decide) w6 (fun _ h9 => h9) rfl dX1_letFollow_69 ?_
                refine lv_iload (pc := 72) hx hb dX1_letFollow_72 (lv_at hl 3 rfl) ?_
                obtain ⟨g74, hf⟩ := gd hf
                refine va_lald (pc := 74) (D := Z.1) (n := 6) (f := o3_0.2 12) hx hb hK hP 12 1 rfl rfl (inb_in g74) dX1_letFollow_74 ?_
                refine lv_lsub (pc := 75) hx hb dX1_letFollow_75 ?_
                refine lv_ldc2 (pc := 76) (v := 1000) hx hb hown w7 dX1_letFollow_76 ?_
                refine lv_lmul (pc := 79) hx hb dX1_letFollow_79 ?_
                refine ro_S (pc := 80) (As := [.long (((x2 - ((o3_0.1 4 (v3_4).toNatClampNeg).toInt64)) - (o3_0.2 12 (v3_4).toNatClampNeg)) * 1000)]) (rest := [.int v3_4, .ref (a0 12)]) (st1 := [.long (f_X1_heldSum (((x2 - ((o3_0.1 4 (v3_4).toNatClampNeg).toInt64)) - (o3_0.2 12 (v3_4).toNatClampNeg)) * 1000)), .int v3_4, .ref (a0 12)]) ⟨hx, hb, hml, hown, hts⟩ (c_X1_heldSum Z l (((x2 - ((o3_0.1 4 (v3_4).toNatClampNeg).toInt64)) - (o3_0.2 12 (v3_4).toNatClampNeg)) * 1000) _ rfl) (va_cwS 1 hts gX1_letFollow_X1_heldSum rfl rfl rfl hs_X1_heldSum ⟨Nat.le_of_ble_eq_true rfl, Nat.le_of_ble_eq_true rfl⟩) hK hE (hP.sub (ws' := []) [] rfl) rfl hl.1 rfl (lv_room (Nat.le_of_ble_eq_true rfl)) dX1_letFollow_80 ⟨Nat.le_of_ble_eq_true rfl, Nat.le_of_ble_eq_true rfl⟩ rfl ?_
                obtain ⟨g83, hf⟩ := gd hf
                refine va_last (pc := 83) (D := Z.1) (n := 6) (f := o3_0.2 11) hx hb hK hP hD hS 11 1 rfl rfl (inb_in g83) dX1_letFollow_83 (fun H locs hP hD hS => ?_)
                obtain ⟨s83, h_83, hf⟩ := bd hf
                have hP : va_P Z.1 vwCl (wX1 Z a0 s83) H := st_P (f := fun z => wX1 Z a0 z) h_83 hP
                have hD : va_D A (wX1 Z a0 s83) := st_D (f := fun z => wX1 Z a0 z) h_83 hD
                refine lv_iinc (pc := 84) (v := v3_4 + 1) (lv' := [(4, .int (v3_4 + 1)), (0, .ref (a0 0)), (1, .int x1), (2, .long x2)]) hx hb dX1_letFollow_84 hl (k := 3) rfl rfl (by decide) rfl (fun ls hl => ?_)
                refine lv_goto (pc := 87) (tgt := 3) hx hb dX1_letFollow_87 (by decide) ?_
                exact ih (v3_4 + 1) s83 _ (lv_sub hl [1, 2, 3, 0] rfl) _ _ hP hD hS hf
  rw [f_X1_letFollow] at hf
  refine lv_iconst (pc := 0) (v := 0) hx hb dX1_letFollow_0 (by decide) ?_
  refine lv_istore (pc := 1) (lv' := [(4, .int 0), (0, .ref (a0 0)), (1, .int x1), (2, .long x2)]) hx hb dX1_letFollow_1 hl (by decide) rfl (fun ls hl => ?_)
  exact B3 64 0 o0 _ (lv_sub hl [1, 2, 3, 0] rfl) _ _ hP hD hS hf
