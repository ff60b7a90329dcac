def f_X5_count (o0 : ObS) : Int32 :=
  o0.1 0 0
set_option maxHeartbeats 4000000 in
set_option maxRecDepth 100000 in
theorem c_X5_count (Z : EnvT) (l : Launch) (a0 : Nat → Nat) (o0 : ObS) (R : Int32) (hf : f_X5_count o0 = R) : RO Z l yX5_count wsX5_count { frames := 0, cells := 0, slots := 0, locals := 0 } [.ref (a0 0)] (wX5 Z a0 o0) (some (.int R)) := by
  refine ro_of (cc := cX5_count) (maxL := 1) (ret := (some .int)) (by decide) rfl (Nat.le_of_ble_eq_true rfl) ?_
  intro p e s m below meth c ls hx hb hr hml hts hown hlk hP hK hE hl
  have hown : s.vm.findClass RX5 = some m.cls := hown
  have hl : lv_has ls 1 [(0, .ref (a0 0))] := hl
  have w0 := hts (.fieldLink RX5 9 "HeatTrain$Units" "made" "I") (by decide +kernel)
  have u5 : ∀ w ∈ wsX50, w ∈ wsX5_count := by decide +kernel
  rw [f_X5_count] at hf
  refine lv_aload_n (pc := 0) hx hb dX5_count_0 rfl (lv_at hl 0 rfl) ?_
  refine va_get (pc := 1) (D := Z.1) (ci := 5) (v := .int (o0.1 0 0)) (C := RX5) (T := TX5) (N := 9) hx hb hts u5 hown hK hP 0 rfl rfl 0 (by decide) w0 (fun _ h9 => h9) rfl dX5_count_1 ?_
  exact ro_i hx hb hr hlk hf dX5_count_4
def f_X5_isMade (o0 : ObS) (x1 : Int32) : Int32 :=
  if x1 < (0 : Int32) then
    (0 : Int32)
  else
    if (o0.1 0 0) ≤ x1 then
      (0 : Int32)
    else
      if 12 ≤ x1 then
        (0 : Int32)
      else
        (1 : Int32)
set_option maxHeartbeats 4000000 in
set_option maxRecDepth 100000 in
theorem c_X5_isMade (Z : EnvT) (l : Launch) (a0 : Nat → Nat) (o0 : ObS) (x1 : Int32) (R : Int32) (hf : f_X5_isMade o0 x1 = R) : RO Z l yX5_isMade wsX5_isMade { frames := 0, cells := 0, slots := 0, locals := 0 } [.ref (a0 0), .int x1] (wX5 Z a0 o0) (some (.int R)) := by
  refine ro_of (cc := cX5_isMade) (maxL := 2) (ret := (some .boolean)) (by decide) rfl (Nat.le_of_ble_eq_true rfl) ?_
  intro p e s m below meth c ls hx hb hr hml hts hown hlk hP hK hE hl
  have hown : s.vm.findClass RX5 = some m.cls := hown
  have hl : lv_has ls 2 [(0, .ref (a0 0)), (1, .int x1)] := hl
  have w0 := hts (.fieldLink RX5 9 "HeatTrain$Units" "made" "I") (by decide +kernel)
  have u5 : ∀ w ∈ wsX50, w ∈ wsX5_isMade := by decide +kernel
  rw [f_X5_isMade] at hf
  refine lv_iload_n (pc := 0) hx hb dX5_isMade_0 rfl (lv_at hl 1 rfl) ?_
  refine lv_if_lt (pc := 1) (tgt := 22) hx hb dX5_isMade_1 (by decide) (fun c1 => ?_) (fun c1 => ?_)
  · have hf := (if_pos c1).symm.trans hf
    refine lv_iconst (pc := 22) (v := 0) hx hb dX5_isMade_22 (by decide) ?_
    exact ro_z hx hb hr hlk hf rfl dX5_isMade_23
  · have hf := (if_neg c1).symm.trans hf
    refine lv_iload_n (pc := 4) hx hb dX5_isMade_4 rfl (lv_at hl 1 rfl) ?_
    refine lv_aload_n (pc := 5) hx hb dX5_isMade_5 rfl (lv_at hl 0 rfl) ?_
    refine va_get (pc := 6) (D := Z.1) (ci := 5) (v := .int (o0.1 0 0)) (C := RX5) (T := TX5) (N := 9) hx hb hts u5 hown hK hP 0 rfl rfl 0 (by decide) w0 (fun _ h9 => h9) rfl dX5_isMade_6 ?_
    refine lv_icmp_ge (pc := 9) (tgt := 22) hx hb dX5_isMade_9 (by decide) (fun c2 => ?_) (fun c2 => ?_)
    · have hf := (if_pos c2).symm.trans hf
      refine lv_iconst (pc := 22) (v := 0) hx hb dX5_isMade_22 (by decide) ?_
      exact ro_z hx hb hr hlk hf rfl dX5_isMade_23
    · have hf := (if_neg c2).symm.trans hf
      refine lv_iload_n (pc := 12) hx hb dX5_isMade_12 rfl (lv_at hl 1 rfl) ?_
      refine lv_bipush (pc := 13) (v := 12) hx hb dX5_isMade_13 (by decide) ?_
      refine lv_icmp_ge (pc := 15) (tgt := 22) hx hb dX5_isMade_15 (by decide) (fun c3 => ?_) (fun c3 => ?_)
      · have hf := (if_pos c3).symm.trans hf
        refine lv_iconst (pc := 22) (v := 0) hx hb dX5_isMade_22 (by decide) ?_
        exact ro_z hx hb hr hlk hf rfl dX5_isMade_23
      · have hf := (if_neg c3).symm.trans hf
        refine lv_iconst (pc := 18) (v := 1) hx hb dX5_isMade_18 (by decide) ?_
        refine lv_goto (pc := 19) (tgt := 23) hx hb dX5_isMade_19 (by decide) ?_
        exact ro_z hx hb hr hlk hf rfl dX5_isMade_23
def f_X5_add (o0 : ObS) (x1 : Int32) (x2 : Int32) (x3 : Int32) (x4 : Int32) (x5 : Int32) : Option (Int32 × ObS) :=
  if (o0.1 0 0) < 12 then
    (some (oi o0 0 0 ((o0.1 0 0) + 1))).bind fun s24 =>
    if inb (o0.1 0 0) 12 then
    (some (oi s24 1 (o0.1 0 0).toNatClampNeg x1)).bind fun s34 =>
    if inb (o0.1 0 0) 12 then
    (some (oi s34 3 (o0.1 0 0).toNatClampNeg x2)).bind fun s42 =>
    if inb (o0.1 0 0) 12 then
    (some (oi s42 2 (o0.1 0 0).toNatClampNeg x3)).bind fun s50 =>
    if inb (o0.1 0 0) 12 then
    (some (oi s50 4 (o0.1 0 0).toNatClampNeg x4)).bind fun s59 =>
    if inb (o0.1 0 0) 12 then
    (some (oi s59 5 (o0.1 0 0).toNatClampNeg x5)).bind fun s68 =>
    some (o0.1 0 0, s68)
    else none
    else none
    else none
    else none
    else none
  else
    some ((-1 : Int32), o0)
set_option maxHeartbeats 4000000 in
set_option maxRecDepth 100000 in
theorem c_X5_add (Z : EnvT) (l : Launch) (a0 : Nat → Nat) (o0 : ObS) (x1 : Int32) (x2 : Int32) (x3 : Int32) (x4 : Int32) (x5 : Int32) (R : Int32 × ObS) (hf : f_X5_add o0 x1 x2 x3 x4 x5 = some R) : RW Z l yX5_add wsX5_add { frames := 0, cells := 0, slots := 0, locals := 0 } [.ref (a0 0), .int x1, .int x2, .int x3, .int x4, .int x5] (wX5 Z a0 o0) (some (.int R.1)) (fun _ => wX5 Z a0 R.2) 0 0 := by
  refine rw_of (cc := cX5_add) (maxL := 7) (ret := (some .int)) (by decide) rfl (Nat.le_of_ble_eq_true rfl) ?_
  intro p e s m below meth c A ls hx hb hr hml hts hown hlk hin hP hK hE hD hA hS hl
  have hown : s.vm.findClass RX5 = some m.cls := hown
  have hl : lv_has ls 7 [(0, .ref (a0 0)), (1, .int x1), (2, .int x2), (3, .int x3), (4, .int x4), (5, .int x5)] := hl
  have w0 := hts (.fieldLink RX5 9 "HeatTrain$Units" "made" "I") (by decide +kernel)
  have w1 := hts (.fieldLink RX5 15 "HeatTrain$Units" "kind" "[I") (by decide +kernel)
  have w2 := hts (.fieldLink RX5 22 "HeatTrain$Units" "number" "[I") (by decide +kernel)
  have w3 := hts (.fieldLink RX5 19 "HeatTrain$Units" "degrees" "[I") (by decide +kernel)
  have w4 := hts (.fieldLink RX5 25 "HeatTrain$Units" "first" "[I") (by decide +kernel)
  have w5 := hts (.fieldLink RX5 28 "HeatTrain$Units" "second" "[I") (by decide +kernel)
  have u5 : ∀ w ∈ wsX50, w ∈ wsX5_add := by decide +kernel
  rw [f_X5_add] at hf
  refine lv_aload_n (pc := 0) hx hb dX5_add_0 rfl (lv_at hl 0 rfl) ?_
  refine va_get (pc := 1) (D := Z.1) (ci := 5) (v := .int (o0.1 0 0)) (C := RX5) (T := TX5) (N := 9) hx hb hts u5 hown hK hP 0 rfl rfl 0 (by decide) w0 (fun _ h9 => h9) rfl dX5_add_1 ?_
  refine lv_bipush (pc := 4) (v := 12) hx hb dX5_add_4 (by decide) ?_
  refine lv_icmp_lt (pc := 6) (tgt := 11) hx hb dX5_add_6 (by decide) (fun c1 => ?_) (fun c1 => ?_)
  · have hf := (if_pos c1).symm.trans hf
    refine lv_aload_n (pc := 11) hx hb dX5_add_11 rfl (lv_at hl 0 rfl) ?_
    refine va_get (pc := 12) (D := Z.1) (ci := 5) (v := .int (o0.1 0 0)) (C := RX5) (T := TX5) (N := 9) hx hb hts u5 hown hK hP 0 rfl rfl 0 (by decide) w0 (fun _ h9 => h9) rfl dX5_add_12 ?_
    refine lv_istore (pc := 15) (lv' := [(6, .int (o0.1 0 0)), (0, .ref (a0 0)), (1, .int x1), (2, .int x2), (3, .int x3), (4, .int x4), (5, .int x5)]) hx hb dX5_add_15 hl (by decide) rfl (fun ls hl => ?_)
    refine lv_aload_n (pc := 17) hx hb dX5_add_17 rfl (lv_at hl 1 rfl) ?_
    refine lv_dup (pc := 18) hx hb dX5_add_18 rfl ?_
    refine va_get (pc := 19) (D := Z.1) (ci := 5) (v := .int (o0.1 0 0)) (C := RX5) (T := TX5) (N := 9) hx hb hts u5 hown hK hP 0 rfl rfl 0 (by decide) w0 (fun _ h9 => h9) rfl dX5_add_19 ?_
    refine lv_iconst (pc := 22) (v := 1) hx hb dX5_add_22 (by decide) ?_
    refine lv_iadd (pc := 23) hx hb dX5_add_23 ?_
    refine va_put (pc := 24) (D := Z.1) (ci := 5) (v := .int ((o0.1 0 0) + 1)) (ty := .int) (C := RX5) (T := TX5) (N := 9) hx hb hts u5 tyX5 tyX5_ok nmX5 hown hK hP hD hS 0 rfl rfl 0 (by decide) w0 (fun _ h9 => h9) rfl (by decide +kernel) rfl rfl (Nat.le_of_ble_eq_true rfl) dX5_add_24 (fun H locs hP hD hS => ?_)
    obtain ⟨s24, h_24, hf⟩ := bd hf
    have hP : va_P Z.1 vwCl (wX5 Z a0 s24) H := st_P (f := fun z => wX5 Z a0 z) h_24 hP
    have hD : va_D A (wX5 Z a0 s24) := st_D (f := fun z => wX5 Z a0 z) h_24 hD
    refine lv_aload_n (pc := 27) hx hb dX5_add_27 rfl (lv_at hl 1 rfl) ?_
    refine va_get (pc := 28) (D := Z.1) (ci := 5) (v := .ref (a0 2)) (C := RX5) (T := TX5) (N := 9) hx hb hts u5 hown hK hP 0 rfl rfl 1 (by decide) w1 (fun _ h9 => h9) rfl dX5_add_28 ?_
    refine lv_iload (pc := 31) hx hb dX5_add_31 (lv_at hl 0 rfl) ?_
    refine lv_iload_n (pc := 33) hx hb dX5_add_33 rfl (lv_at hl 2 rfl) ?_
    obtain ⟨g34, hf⟩ := gd hf
    refine va_iast (pc := 34) (D := Z.1) (n := 12) (f := s24.1 1) hx hb hK hP hD hS 1 0 rfl rfl (inb_in g34) dX5_add_34 (fun H locs hP hD hS => ?_)
    obtain ⟨s34, h_34, hf⟩ := bd hf
    have hP : va_P Z.1 vwCl (wX5 Z a0 s34) H := st_P (f := fun z => wX5 Z a0 z) h_34 hP
    have hD : va_D A (wX5 Z a0 s34) := st_D (f := fun z => wX5 Z a0 z) h_34 hD
    refine lv_aload_n (pc := 35) hx hb dX5_add_35 rfl (lv_at hl 1 rfl) ?_
    refine va_get (pc := 36) (D := Z.1) (ci := 5) (v := .ref (a0 4)) (C := RX5) (T := TX5) (N := 9) hx hb hts u5 hown hK hP 0 rfl rfl 3 (by decide) w2 (fun _ h9 => h9) rfl dX5_add_36 ?_
    refine lv_iload (pc := 39) hx hb dX5_add_39 (lv_at hl 0 rfl) ?_
    refine lv_iload_n (pc := 41) hx hb dX5_add_41 rfl (lv_at hl 3 rfl) ?_
    obtain ⟨g42, hf⟩ := gd hf
    refine va_iast (pc := 42) (D := Z.1) (n := 12) (f := s34.1 3) hx hb hK hP hD hS 3 0 rfl rfl (inb_in g42) dX5_add_42 (fun H locs hP hD hS => ?_)
    obtain ⟨s42, h_42, hf⟩ := bd hf
    have hP : va_P Z.1 vwCl (wX5 Z a0 s42) H := st_P (f := fun z => wX5 Z a0 z) h_42 hP
    have hD : va_D A (wX5 Z a0 s42) := st_D (f := fun z => wX5 Z a0 z) h_42 hD
    refine lv_aload_n (pc := 43) hx hb dX5_add_43 rfl (lv_at hl 1 rfl) ?_
    refine va_get (pc := 44) (D := Z.1) (ci := 5) (v := .ref (a0 3)) (C := RX5) (T := TX5) (N := 9) hx hb hts u5 hown hK hP 0 rfl rfl 2 (by decide) w3 (fun _ h9 => h9) rfl dX5_add_44 ?_
    refine lv_iload (pc := 47) hx hb dX5_add_47 (lv_at hl 0 rfl) ?_
    refine lv_iload_n (pc := 49) hx hb dX5_add_49 rfl (lv_at hl 4 rfl) ?_
    obtain ⟨g50, hf⟩ := gd hf
    refine va_iast (pc := 50) (D := Z.1) (n := 12) (f := s42.1 2) hx hb hK hP hD hS 2 0 rfl rfl (inb_in g50) dX5_add_50 (fun H locs hP hD hS => ?_)
    obtain ⟨s50, h_50, hf⟩ := bd hf
    have hP : va_P Z.1 vwCl (wX5 Z a0 s50) H := st_P (f := fun z => wX5 Z a0 z) h_50 hP
    have hD : va_D A (wX5 Z a0 s50) := st_D (f := fun z => wX5 Z a0 z) h_50 hD
    refine lv_aload_n (pc := 51) hx hb dX5_add_51 rfl (lv_at hl 1 rfl) ?_
    refine va_get (pc := 52) (D := Z.1) (ci := 5) (v := .ref (a0 5)) (C := RX5) (T := TX5) (N := 9) hx hb hts u5 hown hK hP 0 rfl rfl 4 (by decide) w4 (fun _ h9 => h9) rfl dX5_add_52 ?_
    refine lv_iload (pc := 55) hx hb dX5_add_55 (lv_at hl 0 rfl) ?_
    refine lv_iload (pc := 57) hx hb dX5_add_57 (lv_at hl 5 rfl) ?_
    obtain ⟨g59, hf⟩ := gd hf
    refine va_iast (pc := 59) (D := Z.1) (n := 12) (f := s50.1 4) hx hb hK hP hD hS 4 0 rfl rfl (inb_in g59) dX5_add_59 (fun H locs hP hD hS => ?_)
    obtain ⟨s59, h_59, hf⟩ := bd hf
    have hP : va_P Z.1 vwCl (wX5 Z a0 s59) H := st_P (f := fun z => wX5 Z a0 z) h_59 hP
    have hD : va_D A (wX5 Z a0 s59) := st_D (f := fun z => wX5 Z a0 z) h_59 hD
    refine lv_aload_n (pc := 60) hx hb dX5_add_60 rfl (lv_at hl 1 rfl) ?_
    refine va_get (pc := 61) (D := Z.1) (ci := 5) (v := .ref (a0 6)) (C := RX5) (T := TX5) (N := 9) hx hb hts u5 hown hK hP 0 rfl rfl 5 (by decide) w5 (fun _ h9 => h9) rfl dX5_add_61 ?_
    refine lv_iload (pc := 64) hx hb dX5_add_64 (lv_at hl 0 rfl) ?_
    refine lv_iload (pc := 66) hx hb dX5_add_66 (lv_at hl 6 rfl) ?_
    obtain ⟨g68, hf⟩ := gd hf
    refine va_iast (pc := 68) (D := Z.1) (n := 12) (f := s59.1 5) hx hb hK hP hD hS 5 0 rfl rfl (inb_in g68) dX5_add_68 (fun H locs hP hD hS => ?_)
    obtain ⟨s68, h_68, hf⟩ := bd hf
    have hP : va_P Z.1 vwCl (wX5 Z a0 s68) H := st_P (f := fun z => wX5 Z a0 z) h_68 hP
    have hD : va_D A (wX5 Z a0 s68) := st_D (f := fun z => wX5 Z a0 z) h_68 hD
    refine lv_iload (pc := 69) hx hb dX5_add_69 (lv_at hl 0 rfl) ?_
    have hf := (Option.some.inj hf)
    subst hf
    exact rw_i (fun _ => 0) hx hb hr hlk rfl hP hD hS dX5_add_71
  · have hf := (if_neg c1).symm.trans hf
    refine lv_iconst (pc := 9) (v := (-1)) hx hb dX5_add_9 (by decide) ?_
    have hf := (Option.some.inj hf)
    subst hf
    exact rw_i (fun _ => 0) hx hb hr hlk rfl hP hD hS dX5_add_10
def f_X5_putTaker (o0 : ObS) (x1 : Int32) (x2 : Int32) : Option (ObS) :=
  if (f_X3_isThere x1) = (0 : Int32) then
    some (o0)
  else
    if inb x1 24 then
    (some (oi o0 6 (x1).toNatClampNeg x2)).bind fun s13 =>
    some (s13)
    else none
set_option maxHeartbeats 4000000 in
set_option maxRecDepth 100000 in
theorem c_X5_putTaker (Z : EnvT) (l : Launch) (a0 : Nat → Nat) (o0 : ObS) (x1 : Int32) (x2 : Int32) (R : ObS) (hf : f_X5_putTaker o0 x1 x2 = some R) : RW Z l yX5_putTaker wsX5_putTaker { frames := 1, cells := 0, slots := 0, locals := 20 } [.ref (a0 0), .int x1, .int x2] (wX5 Z a0 o0) none (fun _ => wX5 Z a0 R) 0 0 := by
  refine rw_of (cc := cX5_putTaker) (maxL := 3) (ret := none) (by decide) rfl (Nat.le_of_ble_eq_true rfl) ?_
  intro p e s m below meth c A ls hx hb hr hml hts hown hlk hin hP hK hE hD hA hS hl
  have hown : s.vm.findClass RX5 = some m.cls := hown
  have hl : lv_has ls 3 [(0, .ref (a0 0)), (1, .int x1), (2, .int x2)] := hl
  have w0 := hts (.fieldLink RX5 39 "HeatTrain$Units" "taker" "[I") (by decide +kernel)
  have u5 : ∀ w ∈ wsX50, w ∈ wsX5_putTaker := by decide +kernel
  rw [f_X5_putTaker] at hf
  refine lv_iload_n (pc := 0) hx hb dX5_putTaker_0 rfl (lv_at hl 1 rfl) ?_
  refine ro_S (pc := 1) (As := [.int x1]) (rest := []) (st1 := [.int (f_X3_isThere x1)]) ⟨hx, hb, hml, hown, hts⟩ (c_X3_isThere Z l x1 _ rfl) (va_cwS 1 hts gX5_putTaker_X3_isThere rfl rfl rfl hs_X3_isThere ⟨Nat.le_of_ble_eq_true rfl, Nat.le_of_ble_eq_true rfl⟩) hK hE (hP.sub (ws' := []) [] rfl) rfl hl.1 rfl (lv_room (Nat.le_of_ble_eq_true rfl)) dX5_putTaker_1 ⟨Nat.le_of_ble_eq_true rfl, Nat.le_of_ble_eq_true rfl⟩ rfl ?_
  refine lv_if_eq (pc := 4) (tgt := 14) hx hb dX5_putTaker_4 (by decide) (fun c1 => ?_) (fun c1 => ?_)
  · have hf := (if_pos c1).symm.trans hf
    have hf := (Option.some.inj hf)
    subst hf
    exact rw_v (fun _ => 0) hx hb hr hlk hP hD hS dX5_putTaker_14
  · have hf := (if_neg c1).symm.trans hf
    refine lv_aload_n (pc := 7) hx hb dX5_putTaker_7 rfl (lv_at hl 0 rfl) ?_
    refine va_get (pc := 8) (D := Z.1) (ci := 5) (v := .ref (a0 7)) (C := RX5) (T := TX5) (N := 9) hx hb hts u5 hown hK hP 0 rfl rfl 6 (by decide) w0 (fun _ h9 => h9) rfl dX5_putTaker_8 ?_
    refine lv_iload_n (pc := 11) hx hb dX5_putTaker_11 rfl (lv_at hl 1 rfl) ?_
    refine lv_iload_n (pc := 12) hx hb dX5_putTaker_12 rfl (lv_at hl 2 rfl) ?_
    obtain ⟨g13, hf⟩ := gd hf
    refine va_iast (pc := 13) (D := Z.1) (n := 24) (f := o0.1 6) hx hb hK hP hD hS 6 0 rfl rfl (inb_in g13) dX5_putTaker_13 (fun H locs hP hD hS => ?_)
    obtain ⟨s13, h_13, hf⟩ := bd hf
    have hP : va_P Z.1 vwCl (wX5 Z a0 s13) H := st_P (f := fun z => wX5 Z a0 z) h_13 hP
    have hD : va_D A (wX5 Z a0 s13) := st_D (f := fun z => wX5 Z a0 z) h_13 hD
    have hf := (Option.some.inj hf)
    subst hf
    exact rw_v (fun _ => 0) hx hb hr hlk hP hD hS dX5_putTaker_14
def f_X5_addSource (o0 : ObS) (x1 : Int32) (x2 : Int32) : Option (Int32 × ObS) :=
  (f_X5_add o0 0 x1 x2 (-1) (-1)).bind fun r6 =>
  some (r6.1, r6.2)
set_option maxHeartbeats 4000000 in
set_option maxRecDepth 100000 in
theorem c_X5_addSource (Z : EnvT) (l : Launch) (a0 : Nat → Nat) (o0 : ObS) (x1 : Int32) (x2 : Int32) (R : Int32 × ObS) (hf : f_X5_addSource o0 x1 x2 = some R) : RW Z l yX5_addSource wsX5_addSource { frames := 1, cells := 0, slots := 0, locals := 26 } [.ref (a0 0), .int x1, .int x2] (wX5 Z a0 o0) (some (.int R.1)) (fun _ => wX5 Z a0 R.2) 0 0 := by
  refine rw_of (cc := cX5_addSource) (maxL := 3) (ret := (some .int)) (by decide) rfl (Nat.le_of_ble_eq_true rfl) ?_
  intro p e s m below meth c A ls hx hb hr hml hts hown hlk hin hP hK hE hD hA hS hl
  have hown : s.vm.findClass RX5 = some m.cls := hown
  have hl : lv_has ls 3 [(0, .ref (a0 0)), (1, .int x1), (2, .int x2)] := hl
  rw [f_X5_addSource] at hf
  refine lv_aload_n (pc := 0) hx hb dX5_addSource_0 rfl (lv_at hl 0 rfl) ?_
  refine lv_iconst (pc := 1) (v := 0) hx hb dX5_addSource_1 (by decide) ?_
  refine lv_iload_n (pc := 2) hx hb dX5_addSource_2 rfl (lv_at hl 1 rfl) ?_
  refine lv_iload_n (pc := 3) hx hb dX5_addSource_3 rfl (lv_at hl 2 rfl) ?_
  refine lv_iconst (pc := 4) (v := (-1)) hx hb dX5_addSource_4 (by decide) ?_
  refine lv_iconst (pc := 5) (v := (-1)) hx hb dX5_addSource_5 (by decide) ?_
  obtain ⟨r6, h_6, hf⟩ := bd hf
  refine rw_V (pc := 6) (C := RX5) (As := [.int 0, .int x1, .int x2, .int (-1), .int (-1)]) (rest := []) (st1 := [.int r6.1]) (wn := fun _ => wX5 Z a0 r6.2) ⟨hx, hb, hml, hown, hts⟩ (c_X5_add Z l a0 o0 0 x1 x2 (-1) (-1) r6 h_6) (cwV 5 hts gX5_addSource_X5_add rfl rfl rfl hv_X5_add ⟨Nat.le_of_ble_eq_true rfl, Nat.le_of_ble_eq_true rfl⟩) hK hE hP hD hS hA [0, 1, 2, 3, 4, 5, 6, 7, 8] [] [0, 1, 2, 3, 4, 5, 6, 7, 8] rfl rfl rfl (fun _ => rfl) 5 rfl rfl rfl hl.1 rfl (lv_room (Nat.le_of_ble_eq_true rfl)) dX5_addSource_6 ⟨Nat.le_of_ble_eq_true rfl, Nat.le_of_ble_eq_true rfl⟩ rfl (fun _ H locs hP hD hS => ?_)
  have hf := (Option.some.inj hf)
  subst hf
  exact rw_i (fun _ => 0) hx hb hr hlk rfl hP hD hS dX5_addSource_9
def f_X5_addTaker (o0 : ObS) (x1 : Int32) (x2 : Int32) (x3 : Int32) (x4 : Int32) : Option (Int32 × ObS) :=
  (f_X5_add o0 x1 x4 0 x2 x3).bind fun r7 =>
  (f_X5_putTaker r7.2 x2 r7.1).bind fun r16 =>
  (f_X5_putTaker r16 x3 r7.1).bind fun r23 =>
  some (r7.1, r23)
set_option maxHeartbeats 4000000 in
set_option maxRecDepth 100000 in
theorem c_X5_addTaker (Z : EnvT) (l : Launch) (a0 : Nat → Nat) (o0 : ObS) (x1 : Int32) (x2 : Int32) (x3 : Int32) (x4 : Int32) (R : Int32 × ObS) (hf : f_X5_addTaker o0 x1 x2 x3 x4 = some R) : RW Z l yX5_addTaker wsX5_addTaker { frames := 2, cells := 0, slots := 0, locals := 42 } [.ref (a0 0), .int x1, .int x2, .int x3, .int x4] (wX5 Z a0 o0) (some (.int R.1)) (fun _ => wX5 Z a0 R.2) 0 0 := by
  refine rw_of (cc := cX5_addTaker) (maxL := 6) (ret := (some .int)) (by decide) rfl (Nat.le_of_ble_eq_true rfl) ?_
  intro p e s m below meth c A ls hx hb hr hml hts hown hlk hin hP hK hE hD hA hS hl
  have hown : s.vm.findClass RX5 = some m.cls := hown
  have hl : lv_has ls 6 [(0, .ref (a0 0)), (1, .int x1), (2, .int x2), (3, .int x3), (4, .int x4)] := hl
  rw [f_X5_addTaker] at hf
  refine lv_aload_n (pc := 0) hx hb dX5_addTaker_0 rfl (lv_at hl 0 rfl) ?_
  refine lv_iload_n (pc := 1) hx hb dX5_addTaker_1 rfl (lv_at hl 1 rfl) ?_
  refine lv_iload (pc := 2) hx hb dX5_addTaker_2 (lv_at hl 4 rfl) ?_
  refine lv_iconst (pc := 4) (v := 0) hx hb dX5_addTaker_4 (by decide) ?_
  refine lv_iload_n (pc := 5) hx hb dX5_addTaker_5 rfl (lv_at hl 2 rfl) ?_
  refine lv_iload_n (pc := 6) hx hb dX5_addTaker_6 rfl (lv_at hl 3 rfl) ?_
  obtain ⟨r7, h_7, hf⟩ := bd hf
  refine rw_V (pc := 7) (C := RX5) (As := [.int x1, .int x4, .int 0, .int x2, .int x3]) (rest := []) (st1 := [.int r7.1]) (wn := fun _ => wX5 Z a0 r7.2) ⟨hx, hb, hml, hown, hts⟩ (c_X5_add Z l a0 o0 x1 x4 0 x2 x3 r7 h_7) (cwV 5 hts gX5_addTaker_X5_add rfl rfl rfl hv_X5_add ⟨Nat.le_of_ble_eq_true rfl, Nat.le_of_ble_eq_true rfl⟩) hK hE hP hD hS hA [0, 1, 2, 3, 4, 5, 6, 7, 8] [] [0, 1, 2, 3, 4, 5, 6, 7, 8] rfl rfl rfl (fun _ => rfl) 5 rfl rfl rfl hl.1 rfl (lv_room (Nat.le_of_ble_eq_true rfl)) dX5_addTaker_7 ⟨Nat.le_of_ble_eq_true rfl, Nat.le_of_ble_eq_true rfl⟩ rfl (fun _ H locs hP hD hS => ?_)
  refine lv_istore (pc := 10) (lv' := [(5, .int r7.1), (0, .ref (a0 0)), (1, .int x1), (2, .int x2), (3, .int x3), (4, .int x4)]) hx hb dX5_addTaker_10 hl (by decide) rfl (fun ls hl => ?_)
  refine lv_aload_n (pc := 12) hx hb dX5_addTaker_12 rfl (lv_at hl 1 rfl) ?_
  refine lv_iload_n (pc := 13) hx hb dX5_addTaker_13 rfl (lv_at hl 3 rfl) ?_
  refine lv_iload (pc := 14) hx hb dX5_addTaker_14 (lv_at hl 0 rfl) ?_
  obtain ⟨r16, h_16, hf⟩ := bd hf
  refine rw_V (pc := 16) (C := RX5) (As := [.int x2, .int r7.1]) (rest := []) (st1 := []) (wn := fun _ => wX5 Z a0 r16) ⟨hx, hb, hml, hown, hts⟩ (c_X5_putTaker Z l a0 r7.2 x2 r7.1 r16 h_16) (cwV 2 hts gX5_addTaker_X5_putTaker rfl rfl rfl hv_X5_putTaker ⟨Nat.le_of_ble_eq_true rfl, Nat.le_of_ble_eq_true rfl⟩) hK hE hP hD hS hA [0, 1, 2, 3, 4, 5, 6, 7, 8] [] [0, 1, 2, 3, 4, 5, 6, 7, 8] rfl rfl rfl (fun _ => rfl) 5 rfl rfl rfl hl.1 rfl (lv_room (Nat.le_of_ble_eq_true rfl)) dX5_addTaker_16 ⟨Nat.le_of_ble_eq_true rfl, Nat.le_of_ble_eq_true rfl⟩ rfl (fun _ H locs hP hD hS => ?_)
  refine lv_aload_n (pc := 19) hx hb dX5_addTaker_19 rfl (lv_at hl 1 rfl) ?_
  refine lv_iload_n (pc := 20) hx hb dX5_addTaker_20 rfl (lv_at hl 4 rfl) ?_
  refine lv_iload (pc := 21) hx hb dX5_addTaker_21 (lv_at hl 0 rfl) ?_
  obtain ⟨r23, h_23, hf⟩ := bd hf
  refine rw_V (pc := 23) (C := RX5) (As := [.int x3, .int r7.1]) (rest := []) (st1 := []) (wn := fun _ => wX5 Z a0 r23) ⟨hx, hb, hml, hown, hts⟩ (c_X5_putTaker Z l a0 r16 x3 r7.1 r23 h_23) (cwV 2 hts gX5_addTaker_X5_putTaker rfl rfl rfl hv_X5_putTaker ⟨Nat.le_of_ble_eq_true rfl, Nat.le_of_ble_eq_true rfl⟩) hK hE hP hD hS hA [0, 1, 2, 3, 4, 5, 6, 7, 8] [] [0, 1, 2, 3, 4, 5, 6, 7, 8] rfl rfl rfl (fun _ => rfl) 5 rfl rfl rfl hl.1 rfl (lv_room (Nat.le_of_ble_eq_true rfl)) dX5_addTaker_23 ⟨Nat.le_of_ble_eq_true rfl, Nat.le_of_ble_eq_true rfl⟩ rfl (fun _ H locs hP hD hS => ?_)
  refine lv_iload (pc := 26) hx hb dX5_addTaker_26 (lv_at hl 0 rfl) ?_
  have hf := (Option.some.inj hf)
  subst hf
  exact rw_i (fun _ => 0) hx hb hr hlk rfl hP hD hS dX5_addTaker_28
def f_X5_takeInstead (o0 : ObS) (x1 : Int32) (x2 : Int32) : Option (Int32 × ObS) :=
  if (f_X5_isMade o0 x1) = (0 : Int32) then
    some ((-1 : Int32), o0)
  else
    if inb x1 12 then
    (f_X5_putTaker o0 (o0.1 4 (x1).toNatClampNeg) (-1)).bind fun r20 =>
    (f_X5_putTaker r20 x2 x1).bind fun r26 =>
    if inb x1 12 then
    (some (oi r26 4 (x1).toNatClampNeg x2)).bind fun s35 =>
    some (o0.1 4 (x1).toNatClampNeg, s35)
    else none
    else none
set_option maxHeartbeats 4000000 in
set_option maxRecDepth 100000 in
theorem c_X5_takeInstead (Z : EnvT) (l : Launch) (a0 : Nat → Nat) (o0 : ObS) (x1 : Int32) (x2 : Int32) (R : Int32 × ObS) (hf : f_X5_takeInstead o0 x1 x2 = some R) : RW Z l yX5_takeInstead wsX5_takeInstead { frames := 2, cells := 0, slots := 0, locals := 42 } [.ref (a0 0), .int x1, .int x2] (wX5 Z a0 o0) (some (.int R.1)) (fun _ => wX5 Z a0 R.2) 0 0 := by
  refine rw_of (cc := cX5_takeInstead) (maxL := 4) (ret := (some .int)) (by decide) rfl (Nat.le_of_ble_eq_true rfl) ?_
  intro p e s m below meth c A ls hx hb hr hml hts hown hlk hin hP hK hE hD hA hS hl
  have hown : s.vm.findClass RX5 = some m.cls := hown
  have hl : lv_has ls 4 [(0, .ref (a0 0)), (1, .int x1), (2, .int x2)] := hl
  have w0 := hts (.fieldLink RX5 25 "HeatTrain$Units" "first" "[I") (by decide +kernel)
  have u5 : ∀ w ∈ wsX50, w ∈ wsX5_takeInstead := by decide +kernel
  rw [f_X5_takeInstead] at hf
  refine lv_aload_n (pc := 0) hx hb dX5_takeInstead_0 rfl (lv_at hl 0 rfl) ?_
  refine lv_iload_n (pc := 1) hx hb dX5_takeInstead_1 rfl (lv_at hl 1 rfl) ?_
  refine ro_V (pc := 2) (C := RX5) (As := [.int x1]) (rest := []) (st1 := [.int (f_X5_isMade o0 x1)]) ⟨hx, hb, hml, hown, hts⟩ (c_X5_isMade Z l a0 o0 x1 _ rfl) (cwV 1 hts gX5_takeInstead_X5_isMade rfl rfl rfl hv_X5_isMade ⟨Nat.le_of_ble_eq_true rfl, Nat.le_of_ble_eq_true rfl⟩) hK hE hP 5 rfl rfl rfl hl.1 rfl (lv_room (Nat.le_of_ble_eq_true rfl)) dX5_takeInstead_2 ⟨Nat.le_of_ble_eq_true rfl, Nat.le_of_ble_eq_true rfl⟩ rfl ?_
  refine lv_if_ne (pc := 5) (tgt := 10) hx hb dX5_takeInstead_5 (by decide) (fun c1 => ?_) (fun c1 => ?_)
  · have hf := (if_neg c1).symm.trans hf
    refine lv_aload_n (pc := 10) hx hb dX5_takeInstead_10 rfl (lv_at hl 0 rfl) ?_
    refine va_get (pc := 11) (D := Z.1) (ci := 5) (v := .ref (a0 5)) (C := RX5) (T := TX5) (N := 9) hx hb hts u5 hown hK hP 0 rfl rfl 4 (by decide) w0 (fun _ h9 => h9) rfl dX5_takeInstead_11 ?_
    refine lv_iload_n (pc := 14) hx hb dX5_takeInstead_14 rfl (lv_at hl 1 rfl) ?_
    obtain ⟨g15, hf⟩ := gd hf
    refine va_iald (pc := 15) (D := Z.1) (n := 12) (f := o0.1 4) hx hb hK hP 4 0 rfl rfl (inb_in g15) dX5_takeInstead_15 ?_
    refine lv_istore_n (pc := 16) (lv' := [(3, .int (o0.1 4 (x1).toNatClampNeg)), (0, .ref (a0 0)), (1, .int x1), (2, .int x2)]) hx hb dX5_takeInstead_16 rfl hl (by decide) rfl (fun ls hl => ?_)
    refine lv_aload_n (pc := 17) hx hb dX5_takeInstead_17 rfl (lv_at hl 1 rfl) ?_
    refine lv_iload_n (pc := 18) hx hb dX5_takeInstead_18 rfl (lv_at hl 0 rfl) ?_
    refine lv_iconst (pc := 19) (v := (-1)) hx hb dX5_takeInstead_19 (by decide) ?_
    obtain ⟨r20, h_20, hf⟩ := bd hf
    refine rw_V (pc := 20) (C := RX5) (As := [.int (o0.1 4 (x1).toNatClampNeg), .int (-1)]) (rest := []) (st1 := []) (wn := fun _ => wX5 Z a0 r20) ⟨hx, hb, hml, hown, hts⟩ (c_X5_putTaker Z l a0 o0 (o0.1 4 (x1).toNatClampNeg) (-1) r20 h_20) (cwV 2 hts gX5_takeInstead_X5_putTaker rfl rfl rfl hv_X5_putTaker ⟨Nat.le_of_ble_eq_true rfl, Nat.le_of_ble_eq_true rfl⟩) hK hE hP hD hS hA [0, 1, 2, 3, 4, 5, 6, 7, 8] [] [0, 1, 2, 3, 4, 5, 6, 7, 8] rfl rfl rfl (fun _ => rfl) 5 rfl rfl rfl hl.1 rfl (lv_room (Nat.le_of_ble_eq_true rfl)) dX5_takeInstead_20 ⟨Nat.le_of_ble_eq_true rfl, Nat.le_of_ble_eq_true rfl⟩ rfl (fun _ H locs hP hD hS => ?_)
    refine lv_aload_n (pc := 23) hx hb dX5_takeInstead_23 rfl (lv_at hl 1 rfl) ?_
    refine lv_iload_n (pc := 24) hx hb dX5_takeInstead_24 rfl (lv_at hl 3 rfl) ?_
    refine lv_iload_n (pc := 25) hx hb dX5_takeInstead_25 rfl (lv_at hl 2 rfl) ?_
    obtain ⟨r26, h_26, hf⟩ := bd hf
    refine rw_V (pc := 26) (C := RX5) (As := [.int x2, .int x1]) (rest := []) (st1 := []) (wn := fun _ => wX5 Z a0 r26) ⟨hx, hb, hml, hown, hts⟩ (c_X5_putTaker Z l a0 r20 x2 x1 r26 h_26) (cwV 2 hts gX5_takeInstead_X5_putTaker rfl rfl rfl hv_X5_putTaker ⟨Nat.le_of_ble_eq_true rfl, Nat.le_of_ble_eq_true rfl⟩) hK hE hP hD hS hA [0, 1, 2, 3, 4, 5, 6, 7, 8] [] [0, 1, 2, 3, 4, 5, 6, 7, 8] rfl rfl rfl (fun _ => rfl) 5 rfl rfl rfl hl.1 rfl (lv_room (Nat.le_of_ble_eq_true rfl)) dX5_takeInstead_26 ⟨Nat.le_of_ble_eq_true rfl, Nat.le_of_ble_eq_true rfl⟩ rfl (fun _ H locs hP hD hS => ?_)
    refine lv_aload_n (pc := 29) hx hb dX5_takeInstead_29 rfl (lv_at hl 1 rfl) ?_
    refine va_get (pc := 30) (D := Z.1) (ci := 5) (v := .ref (a0 5)) (C := RX5) (T := TX5) (N := 9) hx hb hts u5 hown hK hP 0 rfl rfl 4 (by decide) w0 (fun _ h9 => h9) rfl dX5_takeInstead_30 ?_
    refine lv_iload_n (pc := 33) hx hb dX5_takeInstead_33 rfl (lv_at hl 2 rfl) ?_
    refine lv_iload_n (pc := 34) hx hb dX5_takeInstead_34 rfl (lv_at hl 3 rfl) ?_
    obtain ⟨g35, hf⟩ := gd hf
    refine va_iast (pc := 35) (D := Z.1) (n := 12) (f := r26.1 4) hx hb hK hP hD hS 4 0 rfl rfl (inb_in g35) dX5_takeInstead_35 (fun H locs hP hD hS => ?_)
    obtain ⟨s35, h_35, hf⟩ := bd hf
    have hP : va_P Z.1 vwCl (wX5 Z a0 s35) H := st_P (f := fun z => wX5 Z a0 z) h_35 hP
    have hD : va_D A (wX5 Z a0 s35) := st_D (f := fun z => wX5 Z a0 z) h_35 hD
    refine lv_iload_n (pc := 36) hx hb dX5_takeInstead_36 rfl (lv_at hl 0 rfl) ?_
    have hf := (Option.some.inj hf)
    subst hf
    exact rw_i (fun _ => 0) hx hb hr hlk rfl hP hD hS dX5_takeInstead_37
  · have hf := (if_pos c1).symm.trans hf
    refine lv_iconst (pc := 8) (v := (-1)) hx hb dX5_takeInstead_8 (by decide) ?_
    have hf := (Option.some.inj hf)
    subst hf
    exact rw_i (fun _ => 0) hx hb hr hlk rfl hP hD hS dX5_takeInstead_9
def f_X5_isTaken (o0 : ObS) (x1 : Int32) : Option (Int32) :=
  if (f_X3_isThere x1) = (0 : Int32) then
    some ((0 : Int32))
  else
    if inb x1 24 then
    if (o0.1 6 (x1).toNatClampNeg) = (-1) then
      some ((0 : Int32))
    else
      some ((1 : Int32))
    else none
set_option maxHeartbeats 4000000 in
set_option maxRecDepth 100000 in
theorem c_X5_isTaken (Z : EnvT) (l : Launch) (a0 : Nat → Nat) (o0 : ObS) (x1 : Int32) (R : Int32) (hf : f_X5_isTaken o0 x1 = some R) : RO Z l yX5_isTaken wsX5_isTaken { frames := 1, cells := 0, slots := 0, locals := 20 } [.ref (a0 0), .int x1] (wX5 Z a0 o0) (some (.int R)) := by
  refine ro_of (cc := cX5_isTaken) (maxL := 2) (ret := (some .boolean)) (by decide) rfl (Nat.le_of_ble_eq_true rfl) ?_
  intro p e s m below meth c ls hx hb hr hml hts hown hlk hP hK hE hl
  have hown : s.vm.findClass RX5 = some m.cls := hown
  have hl : lv_has ls 2 [(0, .ref (a0 0)), (1, .int x1)] := hl
  have w0 := hts (.fieldLink RX5 39 "HeatTrain$Units" "taker" "[I") (by decide +kernel)
  have u5 : ∀ w ∈ wsX50, w ∈ wsX5_isTaken := by decide +kernel
  rw [f_X5_isTaken] at hf
  refine lv_iload_n (pc := 0) hx hb dX5_isTaken_0 rfl (lv_at hl 1 rfl) ?_
  refine ro_S (pc := 1) (As := [.int x1]) (rest := []) (st1 := [.int (f_X3_isThere x1)]) ⟨hx, hb, hml, hown, hts⟩ (c_X3_isThere Z l x1 _ rfl) (va_cwS 1 hts gX5_isTaken_X3_isThere rfl rfl rfl hs_X3_isThere ⟨Nat.le_of_ble_eq_true rfl, Nat.le_of_ble_eq_true rfl⟩) hK hE (hP.sub (ws' := []) [] rfl) rfl hl.1 rfl (lv_room (Nat.le_of_ble_eq_true rfl)) dX5_isTaken_1 ⟨Nat.le_of_ble_eq_true rfl, Nat.le_of_ble_eq_true rfl⟩ rfl ?_
  refine lv_if_eq (pc := 4) (tgt := 21) hx hb dX5_isTaken_4 (by decide) (fun c1 => ?_) (fun c1 => ?_)
  · have hf := (if_pos c1).symm.trans hf
    refine lv_iconst (pc := 21) (v := 0) hx hb dX5_isTaken_21 (by decide) ?_
    exact ro_z hx hb hr hlk (Option.some.inj hf) rfl dX5_isTaken_22
  · have hf := (if_neg c1).symm.trans hf
    refine lv_aload_n (pc := 7) hx hb dX5_isTaken_7 rfl (lv_at hl 0 rfl) ?_
    refine va_get (pc := 8) (D := Z.1) (ci := 5) (v := .ref (a0 7)) (C := RX5) (T := TX5) (N := 9) hx hb hts u5 hown hK hP 0 rfl rfl 6 (by decide) w0 (fun _ h9 => h9) rfl dX5_isTaken_8 ?_
    refine lv_iload_n (pc := 11) hx hb dX5_isTaken_11 rfl (lv_at hl 1 rfl) ?_
    obtain ⟨g12, hf⟩ := gd hf
    refine va_iald (pc := 12) (D := Z.1) (n := 24) (f := o0.1 6) hx hb hK hP 6 0 rfl rfl (inb_in g12) dX5_isTaken_12 ?_
    refine lv_iconst (pc := 13) (v := (-1)) hx hb dX5_isTaken_13 (by decide) ?_
    refine lv_icmp_eq (pc := 14) (tgt := 21) hx hb dX5_isTaken_14 (by decide) (fun c2 => ?_) (fun c2 => ?_)
    · have hf := (if_pos c2).symm.trans hf
      refine lv_iconst (pc := 21) (v := 0) hx hb dX5_isTaken_21 (by decide) ?_
      exact ro_z hx hb hr hlk (Option.some.inj hf) rfl dX5_isTaken_22
    · have hf := (if_neg c2).symm.trans hf
      refine lv_iconst (pc := 17) (v := 1) hx hb dX5_isTaken_17 (by decide) ?_
      refine lv_goto (pc := 18) (tgt := 22) hx hb dX5_isTaken_18 (by decide) ?_
      exact ro_z hx hb hr hlk (Option.some.inj hf) rfl dX5_isTaken_22
def f_X5_kindOf (o0 : ObS) (x1 : Int32) : Option (Int32) :=
  if (f_X5_isMade o0 x1) = (0 : Int32) then
    some ((-1 : Int32))
  else
    if inb x1 12 then
    some (o0.1 1 (x1).toNatClampNeg)
    else none
set_option maxHeartbeats 4000000 in
set_option maxRecDepth 100000 in
theorem c_X5_kindOf (Z : EnvT) (l : Launch) (a0 : Nat → Nat) (o0 : ObS) (x1 : Int32) (R : Int32) (hf : f_X5_kindOf o0 x1 = some R) : RO Z l yX5_kindOf wsX5_kindOf { frames := 1, cells := 0, slots := 0, locals := 21 } [.ref (a0 0), .int x1] (wX5 Z a0 o0) (some (.int R)) := by
  refine ro_of (cc := cX5_kindOf) (maxL := 2) (ret := (some .int)) (by decide) rfl (Nat.le_of_ble_eq_true rfl) ?_
  intro p e s m below meth c ls hx hb hr hml hts hown hlk hP hK hE hl
  have hown : s.vm.findClass RX5 = some m.cls := hown
  have hl : lv_has ls 2 [(0, .ref (a0 0)), (1, .int x1)] := hl
  have w0 := hts (.fieldLink RX5 15 "HeatTrain$Units" "kind" "[I") (by decide +kernel)
  have u5 : ∀ w ∈ wsX50, w ∈ wsX5_kindOf := by decide +kernel
  rw [f_X5_kindOf] at hf
  refine lv_aload_n (pc := 0) hx hb dX5_kindOf_0 rfl (lv_at hl 0 rfl) ?_
  refine lv_iload_n (pc := 1) hx hb dX5_kindOf_1 rfl (lv_at hl 1 rfl) ?_
  refine ro_V (pc := 2) (C := RX5) (As := [.int x1]) (rest := []) (st1 := [.int (f_X5_isMade o0 x1)]) ⟨hx, hb, hml, hown, hts⟩ (c_X5_isMade Z l a0 o0 x1 _ rfl) (cwV 1 hts gX5_kindOf_X5_isMade rfl rfl rfl hv_X5_isMade ⟨Nat.le_of_ble_eq_true rfl, Nat.le_of_ble_eq_true rfl⟩) hK hE hP 5 rfl rfl rfl hl.1 rfl (lv_room (Nat.le_of_ble_eq_true rfl)) dX5_kindOf_2 ⟨Nat.le_of_ble_eq_true rfl, Nat.le_of_ble_eq_true rfl⟩ rfl ?_
  refine lv_if_eq (pc := 5) (tgt := 17) hx hb dX5_kindOf_5 (by decide) (fun c1 => ?_) (fun c1 => ?_)
  · have hf := (if_pos c1).symm.trans hf
    refine lv_iconst (pc := 17) (v := (-1)) hx hb dX5_kindOf_17 (by decide) ?_
    exact ro_i hx hb hr hlk (Option.some.inj hf) dX5_kindOf_18
  · have hf := (if_neg c1).symm.trans hf
    refine lv_aload_n (pc := 8) hx hb dX5_kindOf_8 rfl (lv_at hl 0 rfl) ?_
    refine va_get (pc := 9) (D := Z.1) (ci := 5) (v := .ref (a0 2)) (C := RX5) (T := TX5) (N := 9) hx hb hts u5 hown hK hP 0 rfl rfl 1 (by decide) w0 (fun _ h9 => h9) rfl dX5_kindOf_9 ?_
    refine lv_iload_n (pc := 12) hx hb dX5_kindOf_12 rfl (lv_at hl 1 rfl) ?_
    obtain ⟨g13, hf⟩ := gd hf
    refine va_iald (pc := 13) (D := Z.1) (n := 12) (f := o0.1 1) hx hb hK hP 1 0 rfl rfl (inb_in g13) dX5_kindOf_13 ?_
    refine lv_goto (pc := 14) (tgt := 18) hx hb dX5_kindOf_14 (by decide) ?_
    exact ro_i hx hb hr hlk (Option.some.inj hf) dX5_kindOf_18
def f_X5_numberOf (o0 : ObS) (x1 : Int32) : Option (Int32) :=
  if (f_X5_isMade o0 x1) = (0 : Int32) then
    some ((0 : Int32))
  else
    if inb x1 12 then
    some (o0.1 3 (x1).toNatClampNeg)
    else none
set_option maxHeartbeats 4000000 in
set_option maxRecDepth 100000 in
theorem c_X5_numberOf (Z : EnvT) (l : Launch) (a0 : Nat → Nat) (o0 : ObS) (x1 : Int32) (R : Int32) (hf : f_X5_numberOf o0 x1 = some R) : RO Z l yX5_numberOf wsX5_numberOf { frames := 1, cells := 0, slots := 0, locals := 21 } [.ref (a0 0), .int x1] (wX5 Z a0 o0) (some (.int R)) := by
  refine ro_of (cc := cX5_numberOf) (maxL := 2) (ret := (some .int)) (by decide) rfl (Nat.le_of_ble_eq_true rfl) ?_
  intro p e s m below meth c ls hx hb hr hml hts hown hlk hP hK hE hl
  have hown : s.vm.findClass RX5 = some m.cls := hown
  have hl : lv_has ls 2 [(0, .ref (a0 0)), (1, .int x1)] := hl
  have w0 := hts (.fieldLink RX5 22 "HeatTrain$Units" "number" "[I") (by decide +kernel)
  have u5 : ∀ w ∈ wsX50, w ∈ wsX5_numberOf := by decide +kernel
  rw [f_X5_numberOf] at hf
  refine lv_aload_n (pc := 0) hx hb dX5_numberOf_0 rfl (lv_at hl 0 rfl) ?_
  refine lv_iload_n (pc := 1) hx hb dX5_numberOf_1 rfl (lv_at hl 1 rfl) ?_
  refine ro_V (pc := 2) (C := RX5) (As := [.int x1]) (rest := []) (st1 := [.int (f_X5_isMade o0 x1)]) ⟨hx, hb, hml, hown, hts⟩ (c_X5_isMade Z l a0 o0 x1 _ rfl) (cwV 1 hts gX5_numberOf_X5_isMade rfl rfl rfl hv_X5_isMade ⟨Nat.le_of_ble_eq_true rfl, Nat.le_of_ble_eq_true rfl⟩) hK hE hP 5 rfl rfl rfl hl.1 rfl (lv_room (Nat.le_of_ble_eq_true rfl)) dX5_numberOf_2 ⟨Nat.le_of_ble_eq_true rfl, Nat.le_of_ble_eq_true rfl⟩ rfl ?_
  refine lv_if_eq (pc := 5) (tgt := 17) hx hb dX5_numberOf_5 (by decide) (fun c1 => ?_) (fun c1 => ?_)
  · have hf := (if_pos c1).symm.trans hf
    refine lv_iconst (pc := 17) (v := 0) hx hb dX5_numberOf_17 (by decide) ?_
    exact ro_i hx hb hr hlk (Option.some.inj hf) dX5_numberOf_18
  · have hf := (if_neg c1).symm.trans hf
    refine lv_aload_n (pc := 8) hx hb dX5_numberOf_8 rfl (lv_at hl 0 rfl) ?_
    refine va_get (pc := 9) (D := Z.1) (ci := 5) (v := .ref (a0 4)) (C := RX5) (T := TX5) (N := 9) hx hb hts u5 hown hK hP 0 rfl rfl 3 (by decide) w0 (fun _ h9 => h9) rfl dX5_numberOf_9 ?_
    refine lv_iload_n (pc := 12) hx hb dX5_numberOf_12 rfl (lv_at hl 1 rfl) ?_
    obtain ⟨g13, hf⟩ := gd hf
    refine va_iald (pc := 13) (D := Z.1) (n := 12) (f := o0.1 3) hx hb hK hP 3 0 rfl rfl (inb_in g13) dX5_numberOf_13 ?_
    refine lv_goto (pc := 14) (tgt := 18) hx hb dX5_numberOf_14 (by decide) ?_
    exact ro_i hx hb hr hlk (Option.some.inj hf) dX5_numberOf_18
def f_X5_putNumber (o0 : ObS) (x1 : Int32) (x2 : Int32) : Option (ObS) :=
  if (f_X5_isMade o0 x1) = (0 : Int32) then
    some (o0)
  else
    if inb x1 12 then
    (some (oi o0 3 (x1).toNatClampNeg x2)).bind fun s14 =>
    some (s14)
    else none
set_option maxHeartbeats 4000000 in
set_option maxRecDepth 100000 in
theorem c_X5_putNumber (Z : EnvT) (l : Launch) (a0 : Nat → Nat) (o0 : ObS) (x1 : Int32) (x2 : Int32) (R : ObS) (hf : f_X5_putNumber o0 x1 x2 = some R) : RW Z l yX5_putNumber wsX5_putNumber { frames := 1, cells := 0, slots := 0, locals := 21 } [.ref (a0 0), .int x1, .int x2] (wX5 Z a0 o0) none (fun _ => wX5 Z a0 R) 0 0 := by
  refine rw_of (cc := cX5_putNumber) (maxL := 3) (ret := none) (by decide) rfl (Nat.le_of_ble_eq_true rfl) ?_
  intro p e s m below meth c A ls hx hb hr hml hts hown hlk hin hP hK hE hD hA hS hl
  have hown : s.vm.findClass RX5 = some m.cls := hown
  have hl : lv_has ls 3 [(0, .ref (a0 0)), (1, .int x1), (2, .int x2)] := hl
  have w0 := hts (.fieldLink RX5 22 "HeatTrain$Units" "number" "[I") (by decide +kernel)
  have u5 : ∀ w ∈ wsX50, w ∈ wsX5_putNumber := by decide +kernel
  rw [f_X5_putNumber] at hf
  refine lv_aload_n (pc := 0) hx hb dX5_putNumber_0 rfl (lv_at hl 0 rfl) ?_
  refine lv_iload_n (pc := 1) hx hb dX5_putNumber_1 rfl (lv_at hl 1 rfl) ?_
  refine ro_V (pc := 2) (C := RX5) (As := [.int x1]) (rest := []) (st1 := [.int (f_X5_isMade o0 x1)]) ⟨hx, hb, hml, hown, hts⟩ (c_X5_isMade Z l a0 o0 x1 _ rfl) (cwV 1 hts gX5_putNumber_X5_isMade rfl rfl rfl hv_X5_isMade ⟨Nat.le_of_ble_eq_true rfl, Nat.le_of_ble_eq_true rfl⟩) hK hE hP 5 rfl rfl rfl hl.1 rfl (lv_room (Nat.le_of_ble_eq_true rfl)) dX5_putNumber_2 ⟨Nat.le_of_ble_eq_true rfl, Nat.le_of_ble_eq_true rfl⟩ rfl ?_
  refine lv_if_eq (pc := 5) (tgt := 15) hx hb dX5_putNumber_5 (by decide) (fun c1 => ?_) (fun c1 => ?_)
  · have hf := (if_pos c1).symm.trans hf
    have hf := (Option.some.inj hf)
    subst hf
    exact rw_v (fun _ => 0) hx hb hr hlk hP hD hS dX5_putNumber_15
  · have hf := (if_neg c1).symm.trans hf
    refine lv_aload_n (pc := 8) hx hb dX5_putNumber_8 rfl (lv_at hl 0 rfl) ?_
    refine va_get (pc := 9) (D := Z.1) (ci := 5) (v := .ref (a0 4)) (C := RX5) (T := TX5) (N := 9) hx hb hts u5 hown hK hP 0 rfl rfl 3 (by decide) w0 (fun _ h9 => h9) rfl dX5_putNumber_9 ?_
    refine lv_iload_n (pc := 12) hx hb dX5_putNumber_12 rfl (lv_at hl 1 rfl) ?_
    refine lv_iload_n (pc := 13) hx hb dX5_putNumber_13 rfl (lv_at hl 2 rfl) ?_
    obtain ⟨g14, hf⟩ := gd hf
    refine va_iast (pc := 14) (D := Z.1) (n := 12) (f := o0.1 3) hx hb hK hP hD hS 3 0 rfl rfl (inb_in g14) dX5_putNumber_14 (fun H locs hP hD hS => ?_)
    obtain ⟨s14, h_14, hf⟩ := bd hf
    have hP : va_P Z.1 vwCl (wX5 Z a0 s14) H := st_P (f := fun z => wX5 Z a0 z) h_14 hP
    have hD : va_D A (wX5 Z a0 s14) := st_D (f := fun z => wX5 Z a0 z) h_14 hD
    have hf := (Option.some.inj hf)
    subst hf
    exact rw_v (fun _ => 0) hx hb hr hlk hP hD hS dX5_putNumber_15
def f_X5_movedBy (o0 : ObS) (x1 : Int32) : Option (Int64) :=
  if (f_X5_isMade o0 x1) = (0 : Int32) then
    some ((0 : Int64))
  else
    if inb x1 12 then
    some (o0.2 7 (x1).toNatClampNeg)
    else none
set_option maxHeartbeats 4000000 in
set_option maxRecDepth 100000 in
theorem c_X5_movedBy (Z : EnvT) (l : Launch) (a0 : Nat → Nat) (o0 : ObS) (x1 : Int32) (R : Int64) (hf : f_X5_movedBy o0 x1 = some R) : RO Z l yX5_movedBy wsX5_movedBy { frames := 1, cells := 0, slots := 0, locals := 21 } [.ref (a0 0), .int x1] (wX5 Z a0 o0) (some (.long R)) := by
  refine ro_of (cc := cX5_movedBy) (maxL := 2) (ret := (some .long)) (by decide) rfl (Nat.le_of_ble_eq_true rfl) ?_
  intro p e s m below meth c ls hx hb hr hml hts hown hlk hP hK hE hl
  have hown : s.vm.findClass RX5 = some m.cls := hown
  have hl : lv_has ls 2 [(0, .ref (a0 0)), (1, .int x1)] := hl
  have w0 := hts (.fieldLink RX5 31 "HeatTrain$Units" "moved" "[J") (by decide +kernel)
  have u5 : ∀ w ∈ wsX50, w ∈ wsX5_movedBy := by decide +kernel
  rw [f_X5_movedBy] at hf
  refine lv_aload_n (pc := 0) hx hb dX5_movedBy_0 rfl (lv_at hl 0 rfl) ?_
  refine lv_iload_n (pc := 1) hx hb dX5_movedBy_1 rfl (lv_at hl 1 rfl) ?_
  refine ro_V (pc := 2) (C := RX5) (As := [.int x1]) (rest := []) (st1 := [.int (f_X5_isMade o0 x1)]) ⟨hx, hb, hml, hown, hts⟩ (c_X5_isMade Z l a0 o0 x1 _ rfl) (cwV 1 hts gX5_movedBy_X5_isMade rfl rfl rfl hv_X5_isMade ⟨Nat.le_of_ble_eq_true rfl, Nat.le_of_ble_eq_true rfl⟩) hK hE hP 5 rfl rfl rfl hl.1 rfl (lv_room (Nat.le_of_ble_eq_true rfl)) dX5_movedBy_2 ⟨Nat.le_of_ble_eq_true rfl, Nat.le_of_ble_eq_true rfl⟩ rfl ?_
  refine lv_if_eq (pc := 5) (tgt := 17) hx hb dX5_movedBy_5 (by decide) (fun c1 => ?_) (fun c1 => ?_)
  · have hf := (if_pos c1).symm.trans hf
    refine lv_lconst (pc := 17) (v := 0) hx hb dX5_movedBy_17 (by decide) ?_
    exact ro_l hx hb hr hlk (Option.some.inj hf) dX5_movedBy_18
  · have hf := (if_neg c1).symm.trans hf
    refine lv_aload_n (pc := 8) hx hb dX5_movedBy_8 rfl (lv_at hl 0 rfl) ?_
    refine va_get (pc := 9) (D := Z.1) (ci := 5) (v := .ref (a0 8)) (C := RX5) (T := TX5) (N := 9) hx hb hts u5 hown hK hP 0 rfl rfl 7 (by decide) w0 (fun _ h9 => h9) rfl dX5_movedBy_9 ?_
    refine lv_iload_n (pc := 12) hx hb dX5_movedBy_12 rfl (lv_at hl 1 rfl) ?_
    obtain ⟨g13, hf⟩ := gd hf
    refine va_lald (pc := 13) (D := Z.1) (n := 12) (f := o0.2 7) hx hb hK hP 7 1 rfl rfl (inb_in g13) dX5_movedBy_13 ?_
    refine lv_goto (pc := 14) (tgt := 18) hx hb dX5_movedBy_14 (by decide) ?_
    exact ro_l hx hb hr hlk (Option.some.inj hf) dX5_movedBy_18
def f_X5_takesGreatest (o0 : ObS) (x1 : Int32) : Option (Int32) :=
  if (f_X5_isMade o0 x1) = (0 : Int32) then
    some ((0 : Int32))
  else
    if inb x1 12 then
    if (o0.1 8 (x1).toNatClampNeg) = (0 : Int32) then
      some ((0 : Int32))
    else
      some ((1 : Int32))
    else none
set_option maxHeartbeats 4000000 in
set_option maxRecDepth 100000 in
theorem c_X5_takesGreatest (Z : EnvT) (l : Launch) (a0 : Nat → Nat) (o0 : ObS) (x1 : Int32) (R : Int32) (hf : f_X5_takesGreatest o0 x1 = some R) : RO Z l yX5_takesGreatest wsX5_takesGreatest { frames := 1, cells := 0, slots := 0, locals := 21 } [.ref (a0 0), .int x1] (wX5 Z a0 o0) (some (.int R)) := by
  refine ro_of (cc := cX5_takesGreatest) (maxL := 2) (ret := (some .boolean)) (by decide) rfl (Nat.le_of_ble_eq_true rfl) ?_
  intro p e s m below meth c ls hx hb hr hml hts hown hlk hP hK hE hl
  have hown : s.vm.findClass RX5 = some m.cls := hown
  have hl : lv_has ls 2 [(0, .ref (a0 0)), (1, .int x1)] := hl
  have w0 := hts (.fieldLink RX5 35 "HeatTrain$Units" "greatest" "[Z") (by decide +kernel)
  have u5 : ∀ w ∈ wsX50, w ∈ wsX5_takesGreatest := by decide +kernel
  rw [f_X5_takesGreatest] at hf
  refine lv_aload_n (pc := 0) hx hb dX5_takesGreatest_0 rfl (lv_at hl 0 rfl) ?_
  refine lv_iload_n (pc := 1) hx hb dX5_takesGreatest_1 rfl (lv_at hl 1 rfl) ?_
  refine ro_V (pc := 2) (C := RX5) (As := [.int x1]) (rest := []) (st1 := [.int (f_X5_isMade o0 x1)]) ⟨hx, hb, hml, hown, hts⟩ (c_X5_isMade Z l a0 o0 x1 _ rfl) (cwV 1 hts gX5_takesGreatest_X5_isMade rfl rfl rfl hv_X5_isMade ⟨Nat.le_of_ble_eq_true rfl, Nat.le_of_ble_eq_true rfl⟩) hK hE hP 5 rfl rfl rfl hl.1 rfl (lv_room (Nat.le_of_ble_eq_true rfl)) dX5_takesGreatest_2 ⟨Nat.le_of_ble_eq_true rfl, Nat.le_of_ble_eq_true rfl⟩ rfl ?_
  refine lv_if_eq (pc := 5) (tgt := 21) hx hb dX5_takesGreatest_5 (by decide) (fun c1 => ?_) (fun c1 => ?_)
  · have hf := (if_pos c1).symm.trans hf
    refine lv_iconst (pc := 21) (v := 0) hx hb dX5_takesGreatest_21 (by decide) ?_
    exact ro_z hx hb hr hlk (Option.some.inj hf) rfl dX5_takesGreatest_22
  · have hf := (if_neg c1).symm.trans hf
    refine lv_aload_n (pc := 8) hx hb dX5_takesGreatest_8 rfl (lv_at hl 0 rfl) ?_
    refine va_get (pc := 9) (D := Z.1) (ci := 5) (v := .ref (a0 9)) (C := RX5) (T := TX5) (N := 9) hx hb hts u5 hown hK hP 0 rfl rfl 8 (by decide) w0 (fun _ h9 => h9) rfl dX5_takesGreatest_9 ?_
    refine lv_iload_n (pc := 12) hx hb dX5_takesGreatest_12 rfl (lv_at hl 1 rfl) ?_
    obtain ⟨g13, hf⟩ := gd hf
    refine va_zald (pc := 13) (D := Z.1) (n := 12) (f := o0.1 8) hx hb hK hP 8 2 rfl rfl (inb_in g13) dX5_takesGreatest_13 ?_
    refine lv_if_eq (pc := 14) (tgt := 21) hx hb dX5_takesGreatest_14 (by decide) (fun c2 => ?_) (fun c2 => ?_)
    · have hf := (if_pos c2).symm.trans hf
      refine lv_iconst (pc := 21) (v := 0) hx hb dX5_takesGreatest_21 (by decide) ?_
      exact ro_z hx hb hr hlk (Option.some.inj hf) rfl dX5_takesGreatest_22
    · have hf := (if_neg c2).symm.trans hf
      refine lv_iconst (pc := 17) (v := 1) hx hb dX5_takesGreatest_17 (by decide) ?_
      refine lv_goto (pc := 18) (tgt := 22) hx hb dX5_takesGreatest_18 (by decide) ?_
      exact ro_z hx hb hr hlk (Option.some.inj hf) rfl dX5_takesGreatest_22
def f_X5_turnChoice (o0 : ObS) (x1 : Int32) : Option (Int32 × ObS) :=
  if (f_X5_isMade o0 x1) = (0 : Int32) then
    (f_X5_takesGreatest o0 x1).bind fun r30 =>
    if isb r30 then
    some (r30, o0)
    else none
  else
    if inb x1 12 then
    if (o0.1 8 (x1).toNatClampNeg) = (0 : Int32) then
      if inb x1 12 then
      (some (oi o0 8 (x1).toNatClampNeg (vp_nar .boolean 1))).bind fun s27 =>
      (f_X5_takesGreatest s27 x1).bind fun r30 =>
      if isb r30 then
      some (r30, s27)
      else none
      else none
    else
      if inb x1 12 then
      (some (oi o0 8 (x1).toNatClampNeg (vp_nar .boolean 0))).bind fun s27 =>
      (f_X5_takesGreatest s27 x1).bind fun r30 =>
      if isb r30 then
      some (r30, s27)
      else none
      else none
    else none
set_option maxHeartbeats 4000000 in
set_option maxRecDepth 100000 in
theorem c_X5_turnChoice (Z : EnvT) (l : Launch) (a0 : Nat → Nat) (o0 : ObS) (x1 : Int32) (R : Int32 × ObS) (hf : f_X5_turnChoice o0 x1 = some R) : RW Z l yX5_turnChoice wsX5_turnChoice { frames := 2, cells := 0, slots := 0, locals := 42 } [.ref (a0 0), .int x1] (wX5 Z a0 o0) (some (.int R.1)) (fun _ => wX5 Z a0 R.2) 0 0 := by
  refine rw_of (cc := cX5_turnChoice) (maxL := 2) (ret := (some .boolean)) (by decide) rfl (Nat.le_of_ble_eq_true rfl) ?_
  intro p e s m below meth c A ls hx hb hr hml hts hown hlk hin hP hK hE hD hA hS hl
  have hown : s.vm.findClass RX5 = some m.cls := hown
  have hl : lv_has ls 2 [(0, .ref (a0 0)), (1, .int x1)] := hl
  have w0 := hts (.fieldLink RX5 35 "HeatTrain$Units" "greatest" "[Z") (by decide +kernel)
  have u5 : ∀ w ∈ wsX50, w ∈ wsX5_turnChoice := by decide +kernel
  rw [f_X5_turnChoice] at hf
  refine lv_aload_n (pc := 0) hx hb dX5_turnChoice_0 rfl (lv_at hl 0 rfl) ?_
  refine lv_iload_n (pc := 1) hx hb dX5_turnChoice_1 rfl (lv_at hl 1 rfl) ?_
  refine ro_V (pc := 2) (C := RX5) (As := [.int x1]) (rest := []) (st1 := [.int (f_X5_isMade o0 x1)]) ⟨hx, hb, hml, hown, hts⟩ (c_X5_isMade Z l a0 o0 x1 _ rfl) (cwV 1 hts gX5_turnChoice_X5_isMade rfl rfl rfl hv_X5_isMade ⟨Nat.le_of_ble_eq_true rfl, Nat.le_of_ble_eq_true rfl⟩) hK hE hP 5 rfl rfl rfl hl.1 rfl (lv_room (Nat.le_of_ble_eq_true rfl)) dX5_turnChoice_2 ⟨Nat.le_of_ble_eq_true rfl, Nat.le_of_ble_eq_true rfl⟩ rfl ?_
  refine lv_if_eq (pc := 5) (tgt := 28) hx hb dX5_turnChoice_5 (by decide) (fun c1 => ?_) (fun c1 => ?_)
  · have hf := (if_pos c1).symm.trans hf
    refine lv_aload_n (pc := 28) hx hb dX5_turnChoice_28 rfl (lv_at hl 0 rfl) ?_
    refine lv_iload_n (pc := 29) hx hb dX5_turnChoice_29 rfl (lv_at hl 1 rfl) ?_
    obtain ⟨r30, h_30, hf⟩ := bd hf
    refine ro_V (pc := 30) (C := RX5) (As := [.int x1]) (rest := []) (st1 := [.int r30]) ⟨hx, hb, hml, hown, hts⟩ (c_X5_takesGreatest Z l a0 o0 x1 r30 h_30) (cwV 1 hts gX5_turnChoice_X5_takesGreatest rfl rfl rfl hv_X5_takesGreatest ⟨Nat.le_of_ble_eq_true rfl, Nat.le_of_ble_eq_true rfl⟩) hK hE hP 5 rfl rfl rfl hl.1 rfl (lv_room (Nat.le_of_ble_eq_true rfl)) dX5_turnChoice_30 ⟨Nat.le_of_ble_eq_true rfl, Nat.le_of_ble_eq_true rfl⟩ rfl ?_
    obtain ⟨gz, hf⟩ := gd hf
    have hf := (Option.some.inj hf)
    subst hf
    exact rw_z (fun _ => 0) hx hb hr hlk rfl (isb_n gz) hP hD hS dX5_turnChoice_33
  · have hf := (if_neg c1).symm.trans hf
    refine lv_aload_n (pc := 8) hx hb dX5_turnChoice_8 rfl (lv_at hl 0 rfl) ?_
    refine va_get (pc := 9) (D := Z.1) (ci := 5) (v := .ref (a0 9)) (C := RX5) (T := TX5) (N := 9) hx hb hts u5 hown hK hP 0 rfl rfl 8 (by decide) w0 (fun _ h9 => h9) rfl dX5_turnChoice_9 ?_
    refine lv_iload_n (pc := 12) hx hb dX5_turnChoice_12 rfl (lv_at hl 1 rfl) ?_
    refine lv_aload_n (pc := 13) hx hb dX5_turnChoice_13 rfl (lv_at hl 0 rfl) ?_
    refine va_get (pc := 14) (D := Z.1) (ci := 5) (v := .ref (a0 9)) (C := RX5) (T := TX5) (N := 9) hx hb hts u5 hown hK hP 0 rfl rfl 8 (by decide) w0 (fun _ h9 => h9) rfl dX5_turnChoice_14 ?_
    refine lv_iload_n (pc := 17) hx hb dX5_turnChoice_17 rfl (lv_at hl 1 rfl) ?_
    obtain ⟨g18, hf⟩ := gd hf
    refine va_zald (pc := 18) (D := Z.1) (n := 12) (f := o0.1 8) hx hb hK hP 8 2 rfl rfl (inb_in g18) dX5_turnChoice_18 ?_
    refine lv_if_ne (pc := 19) (tgt := 26) hx hb dX5_turnChoice_19 (by decide) (fun c2 => ?_) (fun c2 => ?_)
    · have hf := (if_neg c2).symm.trans hf
      refine lv_iconst (pc := 26) (v := 0) hx hb dX5_turnChoice_26 (by decide) ?_
      obtain ⟨g27, hf⟩ := gd hf
      refine va_zast (pc := 27) (D := Z.1) (n := 12) (f := o0.1 8) hx hb hK hP hD hS 8 2 rfl rfl (inb_in g27) dX5_turnChoice_27 (fun H locs hP hD hS => ?_)
      obtain ⟨s27, h_27, hf⟩ := bd hf
      have hP : va_P Z.1 vwCl (wX5 Z a0 s27) H := st_P (f := fun z => wX5 Z a0 z) h_27 hP
      have hD : va_D A (wX5 Z a0 s27) := st_D (f := fun z => wX5 Z a0 z) h_27 hD
      refine lv_aload_n (pc := 28) hx hb dX5_turnChoice_28 rfl (lv_at hl 0 rfl) ?_
      refine lv_iload_n (pc := 29) hx hb dX5_turnChoice_29 rfl (lv_at hl 1 rfl) ?_
      obtain ⟨r30, h_30, hf⟩ := bd hf
      refine ro_V (pc := 30) (C := RX5) (As := [.int x1]) (rest := []) (st1 := [.int r30]) ⟨hx, hb, hml, hown, hts⟩ (c_X5_takesGreatest Z l a0 s27 x1 r30 h_30) (cwV 1 hts gX5_turnChoice_X5_takesGreatest rfl rfl rfl hv_X5_takesGreatest ⟨Nat.le_of_ble_eq_true rfl, Nat.le_of_ble_eq_true rfl⟩) hK hE hP 5 rfl rfl rfl hl.1 rfl (lv_room (Nat.le_of_ble_eq_true rfl)) dX5_turnChoice_30 ⟨Nat.le_of_ble_eq_true rfl, Nat.le_of_ble_eq_true rfl⟩ rfl ?_
      obtain ⟨gz, hf⟩ := gd hf
      have hf := (Option.some.inj hf)
      subst hf
      exact rw_z (fun _ => 0) hx hb hr hlk rfl (isb_n gz) hP hD hS dX5_turnChoice_33
    · have hf := (if_pos c2).symm.trans hf
      refine lv_iconst (pc := 22) (v := 1) hx hb dX5_turnChoice_22 (by decide) ?_
      refine lv_goto (pc := 23) (tgt := 27) hx hb dX5_turnChoice_23 (by decide) ?_
      obtain ⟨g27, hf⟩ := gd hf
      refine va_zast (pc := 27) (D := Z.1) (n := 12) (f := o0.1 8) hx hb hK hP hD hS 8 2 rfl rfl (inb_in g27) dX5_turnChoice_27 (fun H locs hP hD hS => ?_)
      obtain ⟨s27, h_27, hf⟩ := bd hf
      have hP : va_P Z.1 vwCl (wX5 Z a0 s27) H := st_P (f := fun z => wX5 Z a0 z) h_27 hP
      have hD : va_D A (wX5 Z a0 s27) := st_D (f := fun z => wX5 Z a0 z) h_27 hD
      refine lv_aload_n (pc := 28) hx hb dX5_turnChoice_28 rfl (lv_at hl 0 rfl) ?_
      refine lv_iload_n (pc := 29) hx hb dX5_turnChoice_29 rfl (lv_at hl 1 rfl) ?_
      obtain ⟨r30, h_30, hf⟩ := bd hf
      refine ro_V (pc := 30) (C := RX5) (As := [.int x1]) (rest := []) (st1 := [.int r30]) ⟨hx, hb, hml, hown, hts⟩ (c_X5_takesGreatest Z l a0 s27 x1 r30 h_30) (cwV 1 hts gX5_turnChoice_X5_takesGreatest rfl rfl rfl hv_X5_takesGreatest ⟨Nat.le_of_ble_eq_true rfl, Nat.le_of_ble_eq_true rfl⟩) hK hE hP 5 rfl rfl rfl hl.1 rfl (lv_room (Nat.le_of_ble_eq_true rfl)) dX5_turnChoice_30 ⟨Nat.le_of_ble_eq_true rfl, Nat.le_of_ble_eq_true rfl⟩ rfl ?_
      obtain ⟨gz, hf⟩ := gd hf
      have hf := (Option.some.inj hf)
      subst hf
      exact rw_z (fun _ => 0) hx hb hr hlk rfl (isb_n gz) hP hD hS dX5_turnChoice_33
def f_X5_transferred (x1 : Int64) (x2 : Int64) (x3 : Int64) : Option (Int64) :=
  if (lg_cmp (x1 + x2) 0) = (0 : Int32) then
    some ((0 : Int64))
  else
    if decide (¬ (10 * (x1 + x2)) = (0 : Int64)) then
    some (((x1 * x2) * x3) / (10 * (x1 + x2)))
    else none
set_option maxHeartbeats 4000000 in
set_option maxRecDepth 100000 in
theorem c_X5_transferred (Z : EnvT) (l : Launch) (x1 : Int64) (x2 : Int64) (x3 : Int64) (R : Int64) (hf : f_X5_transferred x1 x2 x3 = some R) : RO Z l yX5_transferred wsX5_transferred { frames := 0, cells := 0, slots := 0, locals := 0 } [.long x1, .long x2, .long x3] ([]) (some (.long R)) := by
  refine ro_of (cc := cX5_transferred) (maxL := 8) (ret := (some .long)) (by decide) rfl (Nat.le_of_ble_eq_true rfl) ?_
  intro p e s m below meth c ls hx hb hr hml hts hown hlk hP hK hE hl
  have hown : s.vm.findClass RX5 = some m.cls := hown
  have hl : lv_has ls 8 [(0, .long x1), (2, .long x2), (4, .long x3)] := hl
  have w0 := hts (.constantLong RX5 109 (10)) (by decide +kernel)
  rw [f_X5_transferred] at hf
  refine lv_lload_n (pc := 0) hx hb dX5_transferred_0 rfl (lv_at hl 0 rfl) ?_
  refine lv_lload_n (pc := 1) hx hb dX5_transferred_1 rfl (lv_at hl 1 rfl) ?_
  refine lv_ladd (pc := 2) hx hb dX5_transferred_2 ?_
  refine lv_lstore (pc := 3) (lv' := [(6, .long (x1 + x2)), (0, .long x1), (2, .long x2), (4, .long x3)]) hx hb dX5_transferred_3 hl (by decide) rfl (fun ls hl => ?_)
  refine lv_lload (pc := 5) hx hb dX5_transferred_5 (lv_at hl 0 rfl) ?_
  refine lv_lconst (pc := 7) (v := 0) hx hb dX5_transferred_7 (by decide) ?_
  refine W.lcmp (pc := 8) hx hb dX5_transferred_8 ?_
  refine lv_if_ne (pc := 9) (tgt := 16) hx hb dX5_transferred_9 (by decide) (fun c1 => ?_) (fun c1 => ?_)
  · have hf := (if_neg c1).symm.trans hf
    refine lv_lload_n (pc := 16) hx hb dX5_transferred_16 rfl (lv_at hl 1 rfl) ?_
    refine lv_lload_n (pc := 17) hx hb dX5_transferred_17 rfl (lv_at hl 2 rfl) ?_
    refine lv_lmul (pc := 18) hx hb dX5_transferred_18 ?_
    refine lv_lload (pc := 19) hx hb dX5_transferred_19 (lv_at hl 3 rfl) ?_
    refine lv_lmul (pc := 21) hx hb dX5_transferred_21 ?_
    refine lv_ldc2 (pc := 22) (v := 10) hx hb hown w0 dX5_transferred_22 ?_
    refine lv_lload (pc := 25) hx hb dX5_transferred_25 (lv_at hl 0 rfl) ?_
    refine lv_lmul (pc := 27) hx hb dX5_transferred_27 ?_
    obtain ⟨g28, hf⟩ := gd hf
    refine lv_ldiv (pc := 28) hx hb dX5_transferred_28 (of_decide_eq_true g28) ?_
    exact ro_l hx hb hr hlk (Option.some.inj hf) dX5_transferred_29
  · have hf := (if_pos c1).symm.trans hf
    refine lv_lconst (pc := 12) (v := 0) hx hb dX5_transferred_12 (by decide) ?_
    refine lv_goto (pc := 13) (tgt := 29) hx hb dX5_transferred_13 (by decide) ?_
    exact ro_l hx hb hr hlk (Option.some.inj hf) dX5_transferred_29
def f_X5_split_b54 (o1 : ObS) (x1 : Int32) (x2 : Int32) (r7 : Int64) (r19 : Int64) (k54_0 : Int64) : Option (ObS) :=
  (f_X3_fill o1 (2 * x1) ((r7 * x2.toInt64) / 100) k54_0).bind fun r64 =>
  (f_X3_fill r64 ((2 * x1) + 1) (r7 - ((r7 * x2.toInt64) / 100)) (r19 - k54_0)).bind fun r83 =>
  some (r83)
def f_X5_split (o0 : ObS) (o1 : ObS) (x1 : Int32) (x2 : Int32) : Option (ObS) :=
  if inb x1 12 then
  (f_X3_flowOf o1 (o0.1 4 (x1).toNatClampNeg)).bind fun r7 =>
  if inb x1 12 then
  (f_X3_heatOf o1 (o0.1 4 (x1).toNatClampNeg)).bind fun r19 =>
  if (lg_cmp r7 0) = (0 : Int32) then
    f_X5_split_b54 o1 x1 x2 r7 r19 0
  else
    if decide (¬ r7 = (0 : Int64)) then
    f_X5_split_b54 o1 x1 x2 r7 r19 ((r19 * ((r7 * x2.toInt64) / 100)) / r7)
    else none
  else none
  else none
set_option maxHeartbeats 4000000 in
set_option maxRecDepth 100000 in
theorem c_X5_split (Z : EnvT) (l : Launch) (a0 : Nat → Nat) (o0 : ObS) (a1 : Nat → Nat) (o1 : ObS) (x1 : Int32) (x2 : Int32) (R : ObS) (hf : f_X5_split o0 o1 x1 x2 = some R) : RW Z l yX5_split wsX5_split { frames := 2, cells := 0, slots := 0, locals := 45 } [.ref (a0 0), .ref (a1 0), .int x1, .int x2] (wX5 Z a0 o0 ++ wX3 Z a1 o1) none (fun _ => wX5 Z a0 o0 ++ wX3 Z a1 R) 0 0 := by
  refine rw_of (cc := cX5_split) (maxL := 12) (ret := none) (by decide) rfl (Nat.le_of_ble_eq_true rfl) ?_
  intro p e s m below meth c A ls hx hb hr hml hts hown hlk hin hP hK hE hD hA hS hl
  have hown : s.vm.findClass RX5 = some m.cls := hown
  have hl : lv_has ls 12 [(0, .ref (a0 0)), (1, .ref (a1 0)), (2, .int x1), (3, .int x2)] := hl
  have w0 := hts (.fieldLink RX5 25 "HeatTrain$Units" "first" "[I") (by decide +kernel)
  have w1 := hts (.constantLong RX5 91 (100)) (by decide +kernel)
  have u5 : ∀ w ∈ wsX50, w ∈ wsX5_split := by decide +kernel
  have B54 : ∀ (r7 : Int64) (r19 : Int64), ∀ (k54_0 : Int64) (ls : Array Slot), lv_has ls 12 [(1, .ref (a1 0)), (2, .int x1), (4, .long r7), (6, .long r19), (8, .long ((r7 * x2.toInt64) / 100))] → ∀ (H : Heap) (locs : List Loc), va_P Z.1 vwCl (wX5 Z a0 o0 ++ wX3 Z a1 o1) H → va_D A (wX5 Z a0 o0 ++ wX3 Z a1 o1) → va_S A s.heap H locs → f_X5_split_b54 o1 x1 x2 r7 r19 k54_0 = some R → W p l e { frames := 2, cells := 0, slots := 0, locals := 45 } s m ([.ref (a0 0), .ref (a1 0), .int x1, .int x2] : List Value).toArray below meth c H locs 0 0 (MQ below (rwQ Z none (fun _ => wX5 Z a0 o0 ++ wX3 Z a1 R) A) ([.ref (a0 0), .ref (a1 0), .int x1, .int x2] : List Value).toArray s 0 0 A) (F0 m 54 ls [.long k54_0]) := by
    intro r7 r19 k54_0 ls hl H locs hP hD hS hf
    rw [f_X5_split_b54] at hf
    refine lv_lstore (pc := 54) (lv' := [(10, .long k54_0), (1, .ref (a1 0)), (2, .int x1), (4, .long r7), (6, .long r19), (8, .long ((r7 * x2.toInt64) / 100))]) hx hb dX5_split_54 hl (by decide) rfl (fun ls hl => ?_)
    refine lv_aload_n (pc := 56) hx hb dX5_split_56 rfl (lv_at hl 1 rfl) ?_
    refine lv_iconst (pc := 57) (v := 2) hx hb dX5_split_57 (by decide) ?_
    refine lv_iload_n (pc := 58) hx hb dX5_split_58 rfl (lv_at hl 2 rfl) ?_
    refine lv_imul (pc := 59) hx hb dX5_split_59 ?_
    refine lv_lload (pc := 60) hx hb dX5_split_60 (lv_at hl 5 rfl) ?_
    refine lv_lload (pc := 62) hx hb dX5_split_62 (lv_at hl 0 rfl) ?_
    obtain ⟨r64, h_64, hf⟩ := bd hf
    refine rw_V (pc := 64) (C := RX3) (As := [.int (2 * x1), .long ((r7 * x2.toInt64) / 100), .long k54_0]) (rest := []) (st1 := []) (wn := fun _ => wX5 Z a0 o0 ++ wX3 Z a1 r64) ⟨hx, hb, hml, hown, hts⟩ (c_X3_fill Z l a1 o1 (2 * x1) ((r7 * x2.toInt64) / 100) k54_0 r64 h_64) (cwV 3 hts gX5_split_X3_fill rfl rfl rfl hv_X3_fill ⟨Nat.le_of_ble_eq_true rfl, Nat.le_of_ble_eq_true rfl⟩) hK hE hP hD hS hA [9, 10, 11] [0, 1, 2, 3, 4, 5, 6, 7, 8] [0, 1, 2, 3, 4, 5, 6, 7, 8, 9, 10, 11] rfl rfl rfl (fun _ => rfl) 3 rfl rfl rfl hl.1 rfl (lv_room (Nat.le_of_ble_eq_true rfl)) dX5_split_64 ⟨Nat.le_of_ble_eq_true rfl, Nat.le_of_ble_eq_true rfl⟩ rfl (fun _ H locs hP hD hS => ?_)
    refine lv_aload_n (pc := 67) hx hb dX5_split_67 rfl (lv_at hl 1 rfl) ?_
    refine lv_iconst (pc := 68) (v := 2) hx hb dX5_split_68 (by decide) ?_
    refine lv_iload_n (pc := 69) hx hb dX5_split_69 rfl (lv_at hl 2 rfl) ?_
    refine lv_imul (pc := 70) hx hb dX5_split_70 ?_
    refine lv_iconst (pc := 71) (v := 1) hx hb dX5_split_71 (by decide) ?_
    refine lv_iadd (pc := 72) hx hb dX5_split_72 ?_
    refine lv_lload (pc := 73) hx hb dX5_split_73 (lv_at hl 3 rfl) ?_
    refine lv_lload (pc := 75) hx hb dX5_split_75 (lv_at hl 5 rfl) ?_
    refine lv_lsub (pc := 77) hx hb dX5_split_77 ?_
    refine lv_lload (pc := 78) hx hb dX5_split_78 (lv_at hl 4 rfl) ?_
    refine lv_lload (pc := 80) hx hb dX5_split_80 (lv_at hl 0 rfl) ?_
    refine lv_lsub (pc := 82) hx hb dX5_split_82 ?_
    obtain ⟨r83, h_83, hf⟩ := bd hf
    refine rw_V (pc := 83) (C := RX3) (As := [.int ((2 * x1) + 1), .long (r7 - ((r7 * x2.toInt64) / 100)), .long (r19 - k54_0)]) (rest := []) (st1 := []) (wn := fun _ => wX5 Z a0 o0 ++ wX3 Z a1 r83) ⟨hx, hb, hml, hown, hts⟩ (c_X3_fill Z l a1 r64 ((2 * x1) + 1) (r7 - ((r7 * x2.toInt64) / 100)) (r19 - k54_0) r83 h_83) (cwV 3 hts gX5_split_X3_fill rfl rfl rfl hv_X3_fill ⟨Nat.le_of_ble_eq_true rfl, Nat.le_of_ble_eq_true rfl⟩) hK hE hP hD hS hA [9, 10, 11] [0, 1, 2, 3, 4, 5, 6, 7, 8] [0, 1, 2, 3, 4, 5, 6, 7, 8, 9, 10, 11] rfl rfl rfl (fun _ => rfl) 3 rfl rfl rfl hl.1 rfl (lv_room (Nat.le_of_ble_eq_true rfl)) dX5_split_83 ⟨Nat.le_of_ble_eq_true rfl, Nat.le_of_ble_eq_true rfl⟩ rfl (fun _ H locs hP hD hS => ?_)
    have hf := (Option.some.inj hf)
    subst hf
    exact rw_v (fun _ => 0) hx hb hr hlk hP hD hS dX5_split_86
  rw [f_X5_split] at hf
  refine lv_aload_n (pc := 0) hx hb dX5_split_0 rfl (lv_at hl 1 rfl) ?_
  refine lv_aload_n (pc := 1) hx hb dX5_split_1 rfl (lv_at hl 0 rfl) ?_
  refine va_get (pc := 2) (D := Z.1) (ci := 5) (v := .ref (a0 5)) (C := RX5) (T := TX5) (N := 9) hx hb hts u5 hown hK hP 0 rfl rfl 4 (by decide) w0 (fun _ h9 => h9) rfl dX5_split_2 ?_
  refine lv_iload_n (pc := 5) hx hb dX5_split_5 rfl (lv_at hl 2 rfl) ?_
  obtain ⟨g6, hf⟩ := gd hf
  refine va_iald (pc := 6) (D := Z.1) (n := 12) (f := o0.1 4) hx hb hK hP 4 0 rfl rfl (inb_in g6) dX5_split_6 ?_
  obtain ⟨r7, h_7, hf⟩ := bd hf
  refine ro_V (pc := 7) (C := RX3) (As := [.int (o0.1 4 (x1).toNatClampNeg)]) (rest := []) (st1 := [.long r7]) ⟨hx, hb, hml, hown, hts⟩ (c_X3_flowOf Z l a1 o1 (o0.1 4 (x1).toNatClampNeg) r7 h_7) (cwV 1 hts gX5_split_X3_flowOf rfl rfl rfl hv_X3_flowOf ⟨Nat.le_of_ble_eq_true rfl, Nat.le_of_ble_eq_true rfl⟩) hK hE (hP.sub (ws' := wX3 Z a1 o1) [9, 10, 11] rfl) 3 rfl rfl rfl hl.1 rfl (lv_room (Nat.le_of_ble_eq_true rfl)) dX5_split_7 ⟨Nat.le_of_ble_eq_true rfl, Nat.le_of_ble_eq_true rfl⟩ rfl ?_
  refine lv_lstore (pc := 10) (lv' := [(4, .long r7), (0, .ref (a0 0)), (1, .ref (a1 0)), (2, .int x1), (3, .int x2)]) hx hb dX5_split_10 hl (by decide) rfl (fun ls hl => ?_)
  refine lv_aload_n (pc := 12) hx hb dX5_split_12 rfl (lv_at hl 2 rfl) ?_
  refine lv_aload_n (pc := 13) hx hb dX5_split_13 rfl (lv_at hl 1 rfl) ?_
  refine va_get (pc := 14) (D := Z.1) (ci := 5) (v := .ref (a0 5)) (C := RX5) (T := TX5) (N := 9) hx hb hts u5 hown hK hP 0 rfl rfl 4 (by decide) w0 (fun _ h9 => h9) rfl dX5_split_14 ?_
  refine lv_iload_n (pc := 17) hx hb dX5_split_17 rfl (lv_at hl 3 rfl) ?_
  obtain ⟨g18, hf⟩ := gd hf
  refine va_iald (pc := 18) (D := Z.1) (n := 12) (f := o0.1 4) hx hb hK hP 4 0 rfl rfl (inb_in g18) dX5_split_18 ?_
  obtain ⟨r19, h_19, hf⟩ := bd hf
  refine ro_V (pc := 19) (C := RX3) (As := [.int (o0.1 4 (x1).toNatClampNeg)]) (rest := []) (st1 := [.long r19]) ⟨hx, hb, hml, hown, hts⟩ (c_X3_heatOf Z l a1 o1 (o0.1 4 (x1).toNatClampNeg) r19 h_19) (cwV 1 hts gX5_split_X3_heatOf rfl rfl rfl hv_X3_heatOf ⟨Nat.le_of_ble_eq_true rfl, Nat.le_of_ble_eq_true rfl⟩) hK hE (hP.sub (ws' := wX3 Z a1 o1) [9, 10, 11] rfl) 3 rfl rfl rfl hl.1 rfl (lv_room (Nat.le_of_ble_eq_true rfl)) dX5_split_19 ⟨Nat.le_of_ble_eq_true rfl, Nat.le_of_ble_eq_true rfl⟩ rfl ?_
  refine lv_lstore (pc := 22) (lv' := [(6, .long r19), (4, .long r7), (0, .ref (a0 0)), (1, .ref (a1 0)), (2, .int x1), (3, .int x2)]) hx hb dX5_split_22 hl (by decide) rfl (fun ls hl => ?_)
  refine lv_lload (pc := 24) hx hb dX5_split_24 (lv_at hl 1 rfl) ?_
  refine lv_iload_n (pc := 26) hx hb dX5_split_26 rfl (lv_at hl 5 rfl) ?_
  refine lv_i2l (pc := 27) (v := x2.toInt64) hx hb dX5_split_27 rfl ?_
  refine lv_lmul (pc := 28) hx hb dX5_split_28 ?_
  refine lv_ldc2 (pc := 29) (v := 100) hx hb hown w1 dX5_split_29 ?_
  refine lv_ldiv (pc := 32) hx hb dX5_split_32 (by decide) ?_
  refine lv_lstore (pc := 33) (lv' := [(8, .long ((r7 * x2.toInt64) / 100)), (6, .long r19), (4, .long r7), (0, .ref (a0 0)), (1, .ref (a1 0)), (2, .int x1), (3, .int x2)]) hx hb dX5_split_33 hl (by decide) rfl (fun ls hl => ?_)
  refine lv_lload (pc := 35) hx hb dX5_split_35 (lv_at hl 2 rfl) ?_
  refine lv_lconst (pc := 37) (v := 0) hx hb dX5_split_37 (by decide) ?_
  refine W.lcmp (pc := 38) hx hb dX5_split_38 ?_
  refine lv_if_ne (pc := 39) (tgt := 46) hx hb dX5_split_39 (by decide) (fun c1 => ?_) (fun c1 => ?_)
  · have hf := (if_neg c1).symm.trans hf
    refine lv_lload (pc := 46) hx hb dX5_split_46 (lv_at hl 1 rfl) ?_
    refine lv_lload (pc := 48) hx hb dX5_split_48 (lv_at hl 0 rfl) ?_
    refine lv_lmul (pc := 50) hx hb dX5_split_50 ?_
    refine lv_lload (pc := 51) hx hb dX5_split_51 (lv_at hl 2 rfl) ?_
    obtain ⟨g53, hf⟩ := gd hf
    refine lv_ldiv (pc := 53) hx hb dX5_split_53 (of_decide_eq_true g53) ?_
    exact B54 r7 r19 ((r19 * ((r7 * x2.toInt64) / 100)) / r7) _ (lv_sub hl [4, 5, 2, 1, 0] rfl) _ _ hP hD hS hf
  · have hf := (if_pos c1).symm.trans hf
    refine lv_lconst (pc := 42) (v := 0) hx hb dX5_split_42 (by decide) ?_
    refine lv_goto (pc := 43) (tgt := 54) hx hb dX5_split_43 (by decide) ?_
    exact B54 r7 r19 0 _ (lv_sub hl [4, 5, 2, 1, 0] rfl) _ _ hP hD hS hf
def f_X5_mix (o0 : ObS) (o1 : ObS) (x1 : Int32) : Option (ObS) :=
  if inb x1 12 then
  (f_X3_flowOf o1 (o0.1 4 (x1).toNatClampNeg)).bind fun r7 =>
  if inb x1 12 then
  (f_X3_flowOf o1 (o0.1 5 (x1).toNatClampNeg)).bind fun r17 =>
  if inb x1 12 then
  (f_X3_heatOf o1 (o0.1 4 (x1).toNatClampNeg)).bind fun r29 =>
  if inb x1 12 then
  (f_X3_heatOf o1 (o0.1 5 (x1).toNatClampNeg)).bind fun r39 =>
  (f_X3_fill o1 (2 * x1) (r7 + r17) (r29 + r39)).bind fun r52 =>
  some (r52)
  else none
  else none
  else none
  else none
set_option maxHeartbeats 4000000 in
set_option maxRecDepth 100000 in
theorem c_X5_mix (Z : EnvT) (l : Launch) (a0 : Nat → Nat) (o0 : ObS) (a1 : Nat → Nat) (o1 : ObS) (x1 : Int32) (R : ObS) (hf : f_X5_mix o0 o1 x1 = some R) : RW Z l yX5_mix wsX5_mix { frames := 2, cells := 0, slots := 0, locals := 45 } [.ref (a0 0), .ref (a1 0), .int x1] (wX5 Z a0 o0 ++ wX3 Z a1 o1) none (fun _ => wX5 Z a0 o0 ++ wX3 Z a1 R) 0 0 := by
  refine rw_of (cc := cX5_mix) (maxL := 7) (ret := none) (by decide) rfl (Nat.le_of_ble_eq_true rfl) ?_
  intro p e s m below meth c A ls hx hb hr hml hts hown hlk hin hP hK hE hD hA hS hl
  have hown : s.vm.findClass RX5 = some m.cls := hown
  have hl : lv_has ls 7 [(0, .ref (a0 0)), (1, .ref (a1 0)), (2, .int x1)] := hl
  have w0 := hts (.fieldLink RX5 25 "HeatTrain$Units" "first" "[I") (by decide +kernel)
  have w1 := hts (.fieldLink RX5 28 "HeatTrain$Units" "second" "[I") (by decide +kernel)
  have u5 : ∀ w ∈ wsX50, w ∈ wsX5_mix := by decide +kernel
  rw [f_X5_mix] at hf
  refine lv_aload_n (pc := 0) hx hb dX5_mix_0 rfl (lv_at hl 1 rfl) ?_
  refine lv_aload_n (pc := 1) hx hb dX5_mix_1 rfl (lv_at hl 0 rfl) ?_
  refine va_get (pc := 2) (D := Z.1) (ci := 5) (v := .ref (a0 5)) (C := RX5) (T := TX5) (N := 9) hx hb hts u5 hown hK hP 0 rfl rfl 4 (by decide) w0 (fun _ h9 => h9) rfl dX5_mix_2 ?_
  refine lv_iload_n (pc := 5) hx hb dX5_mix_5 rfl (lv_at hl 2 rfl) ?_
  obtain ⟨g6, hf⟩ := gd hf
  refine va_iald (pc := 6) (D := Z.1) (n := 12) (f := o0.1 4) hx hb hK hP 4 0 rfl rfl (inb_in g6) dX5_mix_6 ?_
  obtain ⟨r7, h_7, hf⟩ := bd hf
  refine ro_V (pc := 7) (C := RX3) (As := [.int (o0.1 4 (x1).toNatClampNeg)]) (rest := []) (st1 := [.long r7]) ⟨hx, hb, hml, hown, hts⟩ (c_X3_flowOf Z l a1 o1 (o0.1 4 (x1).toNatClampNeg) r7 h_7) (cwV 1 hts gX5_mix_X3_flowOf rfl rfl rfl hv_X3_flowOf ⟨Nat.le_of_ble_eq_true rfl, Nat.le_of_ble_eq_true rfl⟩) hK hE (hP.sub (ws' := wX3 Z a1 o1) [9, 10, 11] rfl) 3 rfl rfl rfl hl.1 rfl (lv_room (Nat.le_of_ble_eq_true rfl)) dX5_mix_7 ⟨Nat.le_of_ble_eq_true rfl, Nat.le_of_ble_eq_true rfl⟩ rfl ?_
  refine lv_aload_n (pc := 10) hx hb dX5_mix_10 rfl (lv_at hl 1 rfl) ?_
  refine lv_aload_n (pc := 11) hx hb dX5_mix_11 rfl (lv_at hl 0 rfl) ?_
  refine va_get (pc := 12) (D := Z.1) (ci := 5) (v := .ref (a0 6)) (C := RX5) (T := TX5) (N := 9) hx hb hts u5 hown hK hP 0 rfl rfl 5 (by decide) w1 (fun _ h9 => h9) rfl dX5_mix_12 ?_
  refine lv_iload_n (pc := 15) hx hb dX5_mix_15 rfl (lv_at hl 2 rfl) ?_
  obtain ⟨g16, hf⟩ := gd hf
  refine va_iald (pc := 16) (D := Z.1) (n := 12) (f := o0.1 5) hx hb hK hP 5 0 rfl rfl (inb_in g16) dX5_mix_16 ?_
  obtain ⟨r17, h_17, hf⟩ := bd hf
  refine ro_V (pc := 17) (C := RX3) (As := [.int (o0.1 5 (x1).toNatClampNeg)]) (rest := [.long r7]) (st1 := [.long r17, .long r7]) ⟨hx, hb, hml, hown, hts⟩ (c_X3_flowOf Z l a1 o1 (o0.1 5 (x1).toNatClampNeg) r17 h_17) (cwV 1 hts gX5_mix_X3_flowOf rfl rfl rfl hv_X3_flowOf ⟨Nat.le_of_ble_eq_true rfl, Nat.le_of_ble_eq_true rfl⟩) hK hE (hP.sub (ws' := wX3 Z a1 o1) [9, 10, 11] rfl) 3 rfl rfl rfl hl.1 rfl (lv_room (Nat.le_of_ble_eq_true rfl)) dX5_mix_17 ⟨Nat.le_of_ble_eq_true rfl, Nat.le_of_ble_eq_true rfl⟩ rfl ?_
  refine lv_ladd (pc := 20) hx hb dX5_mix_20 ?_
  refine lv_lstore_n (pc := 21) (lv' := [(3, .long (r7 + r17)), (0, .ref (a0 0)), (1, .ref (a1 0)), (2, .int x1)]) hx hb dX5_mix_21 rfl hl (by decide) rfl (fun ls hl => ?_)
  refine lv_aload_n (pc := 22) hx hb dX5_mix_22 rfl (lv_at hl 2 rfl) ?_
  refine lv_aload_n (pc := 23) hx hb dX5_mix_23 rfl (lv_at hl 1 rfl) ?_
  refine va_get (pc := 24) (D := Z.1) (ci := 5) (v := .ref (a0 5)) (C := RX5) (T := TX5) (N := 9) hx hb hts u5 hown hK hP 0 rfl rfl 4 (by decide) w0 (fun _ h9 => h9) rfl dX5_mix_24 ?_
  refine lv_iload_n (pc := 27) hx hb dX5_mix_27 rfl (lv_at hl 3 rfl) ?_
  obtain ⟨g28, hf⟩ := gd hf
  refine va_iald (pc := 28) (D := Z.1) (n := 12) (f := o0.1 4) hx hb hK hP 4 0 rfl rfl (inb_in g28) dX5_mix_28 ?_
  obtain ⟨r29, h_29, hf⟩ := bd hf
  refine ro_V (pc := 29) (C := RX3) (As := [.int (o0.1 4 (x1).toNatClampNeg)]) (rest := []) (st1 := [.long r29]) ⟨hx, hb, hml, hown, hts⟩ (c_X3_heatOf Z l a1 o1 (o0.1 4 (x1).toNatClampNeg) r29 h_29) (cwV 1 hts gX5_mix_X3_heatOf rfl rfl rfl hv_X3_heatOf ⟨Nat.le_of_ble_eq_true rfl, Nat.le_of_ble_eq_true rfl⟩) hK hE (hP.sub (ws' := wX3 Z a1 o1) [9, 10, 11] rfl) 3 rfl rfl rfl hl.1 rfl (lv_room (Nat.le_of_ble_eq_true rfl)) dX5_mix_29 ⟨Nat.le_of_ble_eq_true rfl, Nat.le_of_ble_eq_true rfl⟩ rfl ?_
  refine lv_aload_n (pc := 32) hx hb dX5_mix_32 rfl (lv_at hl 2 rfl) ?_
  refine lv_aload_n (pc := 33) hx hb dX5_mix_33 rfl (lv_at hl 1 rfl) ?_
  refine va_get (pc := 34) (D := Z.1) (ci := 5) (v := .ref (a0 6)) (C := RX5) (T := TX5) (N := 9) hx hb hts u5 hown hK hP 0 rfl rfl 5 (by decide) w1 (fun _ h9 => h9) rfl dX5_mix_34 ?_
  refine lv_iload_n (pc := 37) hx hb dX5_mix_37 rfl (lv_at hl 3 rfl) ?_
  obtain ⟨g38, hf⟩ := gd hf
  refine va_iald (pc := 38) (D := Z.1) (n := 12) (f := o0.1 5) hx hb hK hP 5 0 rfl rfl (inb_in g38) dX5_mix_38 ?_
  obtain ⟨r39, h_39, hf⟩ := bd hf
  refine ro_V (pc := 39) (C := RX3) (As := [.int (o0.1 5 (x1).toNatClampNeg)]) (rest := [.long r29]) (st1 := [.long r39, .long r29]) ⟨hx, hb, hml, hown, hts⟩ (c_X3_heatOf Z l a1 o1 (o0.1 5 (x1).toNatClampNeg) r39 h_39) (cwV 1 hts gX5_mix_X3_heatOf rfl rfl rfl hv_X3_heatOf ⟨Nat.le_of_ble_eq_true rfl, Nat.le_of_ble_eq_true rfl⟩) hK hE (hP.sub (ws' := wX3 Z a1 o1) [9, 10, 11] rfl) 3 rfl rfl rfl hl.1 rfl (lv_room (Nat.le_of_ble_eq_true rfl)) dX5_mix_39 ⟨Nat.le_of_ble_eq_true rfl, Nat.le_of_ble_eq_true rfl⟩ rfl ?_
  refine lv_ladd (pc := 42) hx hb dX5_mix_42 ?_
  refine lv_lstore (pc := 43) (lv' := [(5, .long (r29 + r39)), (3, .long (r7 + r17)), (0, .ref (a0 0)), (1, .ref (a1 0)), (2, .int x1)]) hx hb dX5_mix_43 hl (by decide) rfl (fun ls hl => ?_)
  refine lv_aload_n (pc := 45) hx hb dX5_mix_45 rfl (lv_at hl 3 rfl) ?_
  refine lv_iconst (pc := 46) (v := 2) hx hb dX5_mix_46 (by decide) ?_
  refine lv_iload_n (pc := 47) hx hb dX5_mix_47 rfl (lv_at hl 4 rfl) ?_
  refine lv_imul (pc := 48) hx hb dX5_mix_48 ?_
  refine lv_lload_n (pc := 49) hx hb dX5_mix_49 rfl (lv_at hl 1 rfl) ?_
  refine lv_lload (pc := 50) hx hb dX5_mix_50 (lv_at hl 0 rfl) ?_
  obtain ⟨r52, h_52, hf⟩ := bd hf
  refine rw_V (pc := 52) (C := RX3) (As := [.int (2 * x1), .long (r7 + r17), .long (r29 + r39)]) (rest := []) (st1 := []) (wn := fun _ => wX5 Z a0 o0 ++ wX3 Z a1 r52) ⟨hx, hb, hml, hown, hts⟩ (c_X3_fill Z l a1 o1 (2 * x1) (r7 + r17) (r29 + r39) r52 h_52) (cwV 3 hts gX5_mix_X3_fill rfl rfl rfl hv_X3_fill ⟨Nat.le_of_ble_eq_true rfl, Nat.le_of_ble_eq_true rfl⟩) hK hE hP hD hS hA [9, 10, 11] [0, 1, 2, 3, 4, 5, 6, 7, 8] [0, 1, 2, 3, 4, 5, 6, 7, 8, 9, 10, 11] rfl rfl rfl (fun _ => rfl) 3 rfl rfl rfl hl.1 rfl (lv_room (Nat.le_of_ble_eq_true rfl)) dX5_mix_52 ⟨Nat.le_of_ble_eq_true rfl, Nat.le_of_ble_eq_true rfl⟩ rfl (fun _ H locs hP hD hS => ?_)
  have hf := (Option.some.inj hf)
  subst hf
  exact rw_v (fun _ => 0) hx hb hr hlk hP hD hS dX5_mix_55
def f_X5_exchange (o0 : ObS) (o1 : ObS) (x1 : Int32) (x2 : Int32) : Option (Int64 × ObS) :=
  if inb x1 12 then
  if inb x1 12 then
  (f_X3_flowOf o1 (o0.1 4 (x1).toNatClampNeg)).bind fun r19 =>
  (f_X3_heatOf o1 (o0.1 4 (x1).toNatClampNeg)).bind fun r27 =>
  (f_X3_flowOf o1 (o0.1 5 (x1).toNatClampNeg)).bind fun r35 =>
  (f_X3_heatOf o1 (o0.1 5 (x1).toNatClampNeg)).bind fun r43 =>
  (f_X3_warmthOf o1 (o0.1 4 (x1).toNatClampNeg)).bind fun r51 =>
  (f_X3_warmthOf o1 (o0.1 5 (x1).toNatClampNeg)).bind fun r57 =>
  (f_X5_transferred x2.toInt64 (if r35 < r19 then r35 else r19) (r51 - r57)).bind fun r74 =>
  (f_X3_fill o1 (2 * x1) r19 (r27 - (f_X6_held r74 (-r43) r27))).bind fun r102 =>
  (f_X3_fill r102 ((2 * x1) + 1) r35 (r43 + (f_X6_held r74 (-r43) r27))).bind fun r118 =>
  some ((f_X6_held r74 (-r43) r27), r118)
  else none
  else none
set_option maxHeartbeats 4000000 in
set_option maxRecDepth 100000 in
theorem c_X5_exchange (Z : EnvT) (l : Launch) (a0 : Nat → Nat) (o0 : ObS) (a1 : Nat → Nat) (o1 : ObS) (x1 : Int32) (x2 : Int32) (R : Int64 × ObS) (hf : f_X5_exchange o0 o1 x1 x2 = some R) : RW Z l yX5_exchange wsX5_exchange { frames := 2, cells := 0, slots := 0, locals := 45 } [.ref (a0 0), .ref (a1 0), .int x1, .int x2] (wX5 Z a0 o0 ++ wX3 Z a1 o1) (some (.long R.1)) (fun _ => wX5 Z a0 o0 ++ wX3 Z a1 R.2) 0 0 := by
  refine rw_of (cc := cX5_exchange) (maxL := 20) (ret := (some .long)) (by decide) rfl (Nat.le_of_ble_eq_true rfl) ?_
  intro p e s m below meth c A ls hx hb hr hml hts hown hlk hin hP hK hE hD hA hS hl
  have hown : s.vm.findClass RX5 = some m.cls := hown
  have hl : lv_has ls 20 [(0, .ref (a0 0)), (1, .ref (a1 0)), (2, .int x1), (3, .int x2)] := hl
  have w0 := hts (.fieldLink RX5 25 "HeatTrain$Units" "first" "[I") (by decide +kernel)
  have w1 := hts (.fieldLink RX5 28 "HeatTrain$Units" "second" "[I") (by decide +kernel)
  have w2 := hts (.methodLink RX5 96 Lib.MathLoose.min_long.x) (by decide +kernel)
  have w3 := hts (.static Lib.MathLoose.min_long.x) (by decide +kernel)
  have w4 := hts (.initialized "java/lang/Math") (by decide +kernel)
  have w5 := hts (.code Lib.MathLoose.min_long.x Lib.MathLoose.min_long.code 4 (some .long)) (by decide +kernel)
  have w6 := hts (.static yX6_held) (by decide +kernel)
  have w7 := hts (.initialized RX6) (by decide +kernel)
  have u5 : ∀ w ∈ wsX50, w ∈ wsX5_exchange := by decide +kernel
  rw [f_X5_exchange] at hf
  refine lv_aload_n (pc := 0) hx hb dX5_exchange_0 rfl (lv_at hl 0 rfl) ?_
  refine va_get (pc := 1) (D := Z.1) (ci := 5) (v := .ref (a0 5)) (C := RX5) (T := TX5) (N := 9) hx hb hts u5 hown hK hP 0 rfl rfl 4 (by decide) w0 (fun _ h9 => h9) rfl dX5_exchange_1 ?_
  refine lv_iload_n (pc := 4) hx hb dX5_exchange_4 rfl (lv_at hl 2 rfl) ?_
  obtain ⟨g5, hf⟩ := gd hf
  refine va_iald (pc := 5) (D := Z.1) (n := 12) (f := o0.1 4) hx hb hK hP 4 0 rfl rfl (inb_in g5) dX5_exchange_5 ?_
  refine lv_istore (pc := 6) (lv' := [(4, .int (o0.1 4 (x1).toNatClampNeg)), (0, .ref (a0 0)), (1, .ref (a1 0)), (2, .int x1), (3, .int x2)]) hx hb dX5_exchange_6 hl (by decide) rfl (fun ls hl => ?_)
  refine lv_aload_n (pc := 8) hx hb dX5_exchange_8 rfl (lv_at hl 1 rfl) ?_
  refine va_get (pc := 9) (D := Z.1) (ci := 5) (v := .ref (a0 6)) (C := RX5) (T := TX5) (N := 9) hx hb hts u5 hown hK hP 0 rfl rfl 5 (by decide) w1 (fun _ h9 => h9) rfl dX5_exchange_9 ?_
  refine lv_iload_n (pc := 12) hx hb dX5_exchange_12 rfl (lv_at hl 3 rfl) ?_
  obtain ⟨g13, hf⟩ := gd hf
  refine va_iald (pc := 13) (D := Z.1) (n := 12) (f := o0.1 5) hx hb hK hP 5 0 rfl rfl (inb_in g13) dX5_exchange_13 ?_
  refine lv_istore (pc := 14) (lv' := [(5, .int (o0.1 5 (x1).toNatClampNeg)), (4, .int (o0.1 4 (x1).toNatClampNeg)), (0, .ref (a0 0)), (1, .ref (a1 0)), (2, .int x1), (3, .int x2)]) hx hb dX5_exchange_14 hl (by decide) rfl (fun ls hl => ?_)
  refine lv_aload_n (pc := 16) hx hb dX5_exchange_16 rfl (lv_at hl 3 rfl) ?_
  refine lv_iload (pc := 17) hx hb dX5_exchange_17 (lv_at hl 1 rfl) ?_
  obtain ⟨r19, h_19, hf⟩ := bd hf
  refine ro_V (pc := 19) (C := RX3) (As := [.int (o0.1 4 (x1).toNatClampNeg)]) (rest := []) (st1 := [.long r19]) ⟨hx, hb, hml, hown, hts⟩ (c_X3_flowOf Z l a1 o1 (o0.1 4 (x1).toNatClampNeg) r19 h_19) (cwV 1 hts gX5_exchange_X3_flowOf rfl rfl rfl hv_X3_flowOf ⟨Nat.le_of_ble_eq_true rfl, Nat.le_of_ble_eq_true rfl⟩) hK hE (hP.sub (ws' := wX3 Z a1 o1) [9, 10, 11] rfl) 3 rfl rfl rfl hl.1 rfl (lv_room (Nat.le_of_ble_eq_true rfl)) dX5_exchange_19 ⟨Nat.le_of_ble_eq_true rfl, Nat.le_of_ble_eq_true rfl⟩ rfl ?_
  refine lv_lstore (pc := 22) (lv' := [(6, .long r19), (5, .int (o0.1 5 (x1).toNatClampNeg)), (4, .int (o0.1 4 (x1).toNatClampNeg)), (0, .ref (a0 0)), (1, .ref (a1 0)), (2, .int x1), (3, .int x2)]) hx hb dX5_exchange_22 hl (by decide) rfl (fun ls hl => ?_)
  refine lv_aload_n (pc := 24) hx hb dX5_exchange_24 rfl (lv_at hl 4 rfl) ?_
  refine lv_iload (pc := 25) hx hb dX5_exchange_25 (lv_at hl 2 rfl) ?_
  obtain ⟨r27, h_27, hf⟩ := bd hf
  refine ro_V (pc := 27) (C := RX3) (As := [.int (o0.1 4 (x1).toNatClampNeg)]) (rest := []) (st1 := [.long r27]) ⟨hx, hb, hml, hown, hts⟩ (c_X3_heatOf Z l a1 o1 (o0.1 4 (x1).toNatClampNeg) r27 h_27) (cwV 1 hts gX5_exchange_X3_heatOf rfl rfl rfl hv_X3_heatOf ⟨Nat.le_of_ble_eq_true rfl, Nat.le_of_ble_eq_true rfl⟩) hK hE (hP.sub (ws' := wX3 Z a1 o1) [9, 10, 11] rfl) 3 rfl rfl rfl hl.1 rfl (lv_room (Nat.le_of_ble_eq_true rfl)) dX5_exchange_27 ⟨Nat.le_of_ble_eq_true rfl, Nat.le_of_ble_eq_true rfl⟩ rfl ?_
  refine lv_lstore (pc := 30) (lv' := [(8, .long r27), (6, .long r19), (5, .int (o0.1 5 (x1).toNatClampNeg)), (4, .int (o0.1 4 (x1).toNatClampNeg)), (0, .ref (a0 0)), (1, .ref (a1 0)), (2, .int x1), (3, .int x2)]) hx hb dX5_exchange_30 hl (by decide) rfl (fun ls hl => ?_)
  refine lv_aload_n (pc := 32) hx hb dX5_exchange_32 rfl (lv_at hl 5 rfl) ?_
  refine lv_iload (pc := 33) hx hb dX5_exchange_33 (lv_at hl 2 rfl) ?_
  obtain ⟨r35, h_35, hf⟩ := bd hf
  refine ro_V (pc := 35) (C := RX3) (As := [.int (o0.1 5 (x1).toNatClampNeg)]) (rest := []) (st1 := [.long r35]) ⟨hx, hb, hml, hown, hts⟩ (c_X3_flowOf Z l a1 o1 (o0.1 5 (x1).toNatClampNeg) r35 h_35) (cwV 1 hts gX5_exchange_X3_flowOf rfl rfl rfl hv_X3_flowOf ⟨Nat.le_of_ble_eq_true rfl, Nat.le_of_ble_eq_true rfl⟩) hK hE (hP.sub (ws' := wX3 Z a1 o1) [9, 10, 11] rfl) 3 rfl rfl rfl hl.1 rfl (lv_room (Nat.le_of_ble_eq_true rfl)) dX5_exchange_35 ⟨Nat.le_of_ble_eq_true rfl, Nat.le_of_ble_eq_true rfl⟩ rfl ?_
  refine lv_lstore (pc := 38) (lv' := [(10, .long r35), (8, .long r27), (6, .long r19), (5, .int (o0.1 5 (x1).toNatClampNeg)), (4, .int (o0.1 4 (x1).toNatClampNeg)), (0, .ref (a0 0)), (1, .ref (a1 0)), (2, .int x1), (3, .int x2)]) hx hb dX5_exchange_38 hl (by decide) rfl (fun ls hl => ?_)
  refine lv_aload_n (pc := 40) hx hb dX5_exchange_40 rfl (lv_at hl 6 rfl) ?_
  refine lv_iload (pc := 41) hx hb dX5_exchange_41 (lv_at hl 3 rfl) ?_
  obtain ⟨r43, h_43, hf⟩ := bd hf
  refine ro_V (pc := 43) (C := RX3) (As := [.int (o0.1 5 (x1).toNatClampNeg)]) (rest := []) (st1 := [.long r43]) ⟨hx, hb, hml, hown, hts⟩ (c_X3_heatOf Z l a1 o1 (o0.1 5 (x1).toNatClampNeg) r43 h_43) (cwV 1 hts gX5_exchange_X3_heatOf rfl rfl rfl hv_X3_heatOf ⟨Nat.le_of_ble_eq_true rfl, Nat.le_of_ble_eq_true rfl⟩) hK hE (hP.sub (ws' := wX3 Z a1 o1) [9, 10, 11] rfl) 3 rfl rfl rfl hl.1 rfl (lv_room (Nat.le_of_ble_eq_true rfl)) dX5_exchange_43 ⟨Nat.le_of_ble_eq_true rfl, Nat.le_of_ble_eq_true rfl⟩ rfl ?_
  refine lv_lstore (pc := 46) (lv' := [(12, .long r43), (10, .long r35), (8, .long r27), (6, .long r19), (5, .int (o0.1 5 (x1).toNatClampNeg)), (4, .int (o0.1 4 (x1).toNatClampNeg)), (0, .ref (a0 0)), (1, .ref (a1 0)), (2, .int x1), (3, .int x2)]) hx hb dX5_exchange_46 hl (by decide) rfl (fun ls hl => ?_)
  refine lv_aload_n (pc := 48) hx hb dX5_exchange_48 rfl (lv_at hl 7 rfl) ?_
  refine lv_iload (pc := 49) hx hb dX5_exchange_49 (lv_at hl 5 rfl) ?_
  obtain ⟨r51, h_51, hf⟩ := bd hf
  refine ro_V (pc := 51) (C := RX3) (As := [.int (o0.1 4 (x1).toNatClampNeg)]) (rest := []) (st1 := [.long r51]) ⟨hx, hb, hml, hown, hts⟩ (c_X3_warmthOf Z l a1 o1 (o0.1 4 (x1).toNatClampNeg) r51 h_51) (cwV 1 hts gX5_exchange_X3_warmthOf rfl rfl rfl hv_X3_warmthOf ⟨Nat.le_of_ble_eq_true rfl, Nat.le_of_ble_eq_true rfl⟩) hK hE (hP.sub (ws' := wX3 Z a1 o1) [9, 10, 11] rfl) 3 rfl rfl rfl hl.1 rfl (lv_room (Nat.le_of_ble_eq_true rfl)) dX5_exchange_51 ⟨Nat.le_of_ble_eq_true rfl, Nat.le_of_ble_eq_true rfl⟩ rfl ?_
  refine lv_aload_n (pc := 54) hx hb dX5_exchange_54 rfl (lv_at hl 7 rfl) ?_
  refine lv_iload (pc := 55) hx hb dX5_exchange_55 (lv_at hl 4 rfl) ?_
  obtain ⟨r57, h_57, hf⟩ := bd hf
  refine ro_V (pc := 57) (C := RX3) (As := [.int (o0.1 5 (x1).toNatClampNeg)]) (rest := [.long r51]) (st1 := [.long r57, .long r51]) ⟨hx, hb, hml, hown, hts⟩ (c_X3_warmthOf Z l a1 o1 (o0.1 5 (x1).toNatClampNeg) r57 h_57) (cwV 1 hts gX5_exchange_X3_warmthOf rfl rfl rfl hv_X3_warmthOf ⟨Nat.le_of_ble_eq_true rfl, Nat.le_of_ble_eq_true rfl⟩) hK hE (hP.sub (ws' := wX3 Z a1 o1) [9, 10, 11] rfl) 3 rfl rfl rfl hl.1 rfl (lv_room (Nat.le_of_ble_eq_true rfl)) dX5_exchange_57 ⟨Nat.le_of_ble_eq_true rfl, Nat.le_of_ble_eq_true rfl⟩ rfl ?_
  refine lv_lsub (pc := 60) hx hb dX5_exchange_60 ?_
  refine lv_lstore (pc := 61) (lv' := [(14, .long (r51 - r57)), (12, .long r43), (10, .long r35), (8, .long r27), (6, .long r19), (5, .int (o0.1 5 (x1).toNatClampNeg)), (4, .int (o0.1 4 (x1).toNatClampNeg)), (0, .ref (a0 0)), (1, .ref (a1 0)), (2, .int x1), (3, .int x2)]) hx hb dX5_exchange_61 hl (by decide) rfl (fun ls hl => ?_)
  refine lv_iload_n (pc := 63) hx hb dX5_exchange_63 rfl (lv_at hl 10 rfl) ?_
  refine lv_i2l (pc := 64) (v := x2.toInt64) hx hb dX5_exchange_64 rfl ?_
  refine lv_lload (pc := 65) hx hb dX5_exchange_65 (lv_at hl 4 rfl) ?_
  refine lv_lload (pc := 67) hx hb dX5_exchange_67 (lv_at hl 2 rfl) ?_
  refine va_mmin_long (pc := 69) hx hb (hml.trans hl.1.symm) hown w2 w3 w4 w5 (Nat.le_of_ble_eq_true rfl) (Nat.le_of_ble_eq_true rfl) (Nat.zero_le _) (Nat.zero_le _) dX5_exchange_69 ?_
  refine lv_lload (pc := 72) hx hb dX5_exchange_72 (lv_at hl 0 rfl) ?_
  obtain ⟨r74, h_74, hf⟩ := bd hf
  refine ro_S (pc := 74) (As := [.long x2.toInt64, .long (if r35 < r19 then r35 else r19), .long (r51 - r57)]) (rest := []) (st1 := [.long r74]) ⟨hx, hb, hml, hown, hts⟩ (c_X5_transferred Z l x2.toInt64 (if r35 < r19 then r35 else r19) (r51 - r57) r74 h_74) (va_cwS 3 hts gX5_exchange_X5_transferred rfl rfl rfl hs_X5_transferred ⟨Nat.le_of_ble_eq_true rfl, Nat.le_of_ble_eq_true rfl⟩) hK hE (hP.sub (ws' := []) [] rfl) rfl hl.1 rfl (lv_room (Nat.le_of_ble_eq_true rfl)) dX5_exchange_74 ⟨Nat.le_of_ble_eq_true rfl, Nat.le_of_ble_eq_true rfl⟩ rfl ?_
  refine lv_lstore (pc := 77) (lv' := [(16, .long r74), (14, .long (r51 - r57)), (12, .long r43), (10, .long r35), (8, .long r27), (6, .long r19), (5, .int (o0.1 5 (x1).toNatClampNeg)), (4, .int (o0.1 4 (x1).toNatClampNeg)), (0, .ref (a0 0)), (1, .ref (a1 0)), (2, .int x1), (3, .int x2)]) hx hb dX5_exchange_77 hl (by decide) rfl (fun ls hl => ?_)
  refine lv_lload (pc := 79) hx hb dX5_exchange_79 (lv_at hl 0 rfl) ?_
  refine lv_lload (pc := 81) hx hb dX5_exchange_81 (lv_at hl 2 rfl) ?_
  refine lv_lneg (pc := 83) hx hb dX5_exchange_83 ?_
  refine lv_lload (pc := 84) hx hb dX5_exchange_84 (lv_at hl 4 rfl) ?_
  refine ro_SN (pc := 86) (As := [.long r74, .long (-r43), .long r27]) (rest := []) (st1 := [.long (f_X6_held r74 (-r43) r27)]) ⟨hx, hb, hml, hown, hts⟩ (c_X6_held Z l r74 (-r43) r27 _ rfl) (va_cnB 3 hts gX5_exchange_X6_held_n106 rfl rfl rfl hE.2.1 w7 hs_X6_held ⟨Nat.le_of_ble_eq_true rfl, Nat.le_of_ble_eq_true rfl⟩) w6 hK hE (hP.sub (ws' := []) [] rfl) rfl hl.1 rfl (lv_room (Nat.le_of_ble_eq_true rfl)) dX5_exchange_86 ⟨Nat.le_of_ble_eq_true rfl, Nat.le_of_ble_eq_true rfl⟩ rfl ?_
  refine lv_lstore (pc := 89) (lv' := [(18, .long (f_X6_held r74 (-r43) r27)), (16, .long r74), (14, .long (r51 - r57)), (12, .long r43), (10, .long r35), (8, .long r27), (6, .long r19), (5, .int (o0.1 5 (x1).toNatClampNeg)), (4, .int (o0.1 4 (x1).toNatClampNeg)), (0, .ref (a0 0)), (1, .ref (a1 0)), (2, .int x1), (3, .int x2)]) hx hb dX5_exchange_89 hl (by decide) rfl (fun ls hl => ?_)
  refine lv_aload_n (pc := 91) hx hb dX5_exchange_91 rfl (lv_at hl 10 rfl) ?_
  refine lv_iconst (pc := 92) (v := 2) hx hb dX5_exchange_92 (by decide) ?_
  refine lv_iload_n (pc := 93) hx hb dX5_exchange_93 rfl (lv_at hl 11 rfl) ?_
  refine lv_imul (pc := 94) hx hb dX5_exchange_94 ?_
  refine lv_lload (pc := 95) hx hb dX5_exchange_95 (lv_at hl 6 rfl) ?_
  refine lv_lload (pc := 97) hx hb dX5_exchange_97 (lv_at hl 5 rfl) ?_
  refine lv_lload (pc := 99) hx hb dX5_exchange_99 (lv_at hl 0 rfl) ?_
  refine lv_lsub (pc := 101) hx hb dX5_exchange_101 ?_
  obtain ⟨r102, h_102, hf⟩ := bd hf
  refine rw_V (pc := 102) (C := RX3) (As := [.int (2 * x1), .long r19, .long (r27 - (f_X6_held r74 (-r43) r27))]) (rest := []) (st1 := []) (wn := fun _ => wX5 Z a0 o0 ++ wX3 Z a1 r102) ⟨hx, hb, hml, hown, hts⟩ (c_X3_fill Z l a1 o1 (2 * x1) r19 (r27 - (f_X6_held r74 (-r43) r27)) r102 h_102) (cwV 3 hts gX5_exchange_X3_fill rfl rfl rfl hv_X3_fill ⟨Nat.le_of_ble_eq_true rfl, Nat.le_of_ble_eq_true rfl⟩) hK hE hP hD hS hA [9, 10, 11] [0, 1, 2, 3, 4, 5, 6, 7, 8] [0, 1, 2, 3, 4, 5, 6, 7, 8, 9, 10, 11] rfl rfl rfl (fun _ => rfl) 3 rfl rfl rfl hl.1 rfl (lv_room (Nat.le_of_ble_eq_true rfl)) dX5_exchange_102 ⟨Nat.le_of_ble_eq_true rfl, Nat.le_of_ble_eq_true rfl⟩ rfl (fun _ H locs hP hD hS => ?_)
  refine lv_aload_n (pc := 105) hx hb dX5_exchange_105 rfl (lv_at hl 10 rfl) ?_
  refine lv_iconst (pc := 106) (v := 2) hx hb dX5_exchange_106 (by decide) ?_
  refine lv_iload_n (pc := 107) hx hb dX5_exchange_107 rfl (lv_at hl 11 rfl) ?_
  refine lv_imul (pc := 108) hx hb dX5_exchange_108 ?_
  refine lv_iconst (pc := 109) (v := 1) hx hb dX5_exchange_109 (by decide) ?_
  refine lv_iadd (pc := 110) hx hb dX5_exchange_110 ?_
  refine lv_lload (pc := 111) hx hb dX5_exchange_111 (lv_at hl 4 rfl) ?_
  refine lv_lload (pc := 113) hx hb dX5_exchange_113 (lv_at hl 3 rfl) ?_
  refine lv_lload (pc := 115) hx hb dX5_exchange_115 (lv_at hl 0 rfl) ?_
  refine lv_ladd (pc := 117) hx hb dX5_exchange_117 ?_
  obtain ⟨r118, h_118, hf⟩ := bd hf
  refine rw_V (pc := 118) (C := RX3) (As := [.int ((2 * x1) + 1), .long r35, .long (r43 + (f_X6_held r74 (-r43) r27))]) (rest := []) (st1 := []) (wn := fun _ => wX5 Z a0 o0 ++ wX3 Z a1 r118) ⟨hx, hb, hml, hown, hts⟩ (c_X3_fill Z l a1 r102 ((2 * x1) + 1) r35 (r43 + (f_X6_held r74 (-r43) r27)) r118 h_118) (cwV 3 hts gX5_exchange_X3_fill rfl rfl rfl hv_X3_fill ⟨Nat.le_of_ble_eq_true rfl, Nat.le_of_ble_eq_true rfl⟩) hK hE hP hD hS hA [9, 10, 11] [0, 1, 2, 3, 4, 5, 6, 7, 8] [0, 1, 2, 3, 4, 5, 6, 7, 8, 9, 10, 11] rfl rfl rfl (fun _ => rfl) 3 rfl rfl rfl hl.1 rfl (lv_room (Nat.le_of_ble_eq_true rfl)) dX5_exchange_118 ⟨Nat.le_of_ble_eq_true rfl, Nat.le_of_ble_eq_true rfl⟩ rfl (fun _ H locs hP hD hS => ?_)
  refine lv_lload (pc := 121) hx hb dX5_exchange_121 (lv_at hl 0 rfl) ?_
  have hf := (Option.some.inj hf)
  subst hf
  exact rw_l (fun _ => 0) hx hb hr hlk rfl hP hD hS dX5_exchange_123
def f_X5_cool (o0 : ObS) (o1 : ObS) (x1 : Int32) (x2 : Int32) : Option (Int64 × ObS) :=
  if inb x1 12 then
  (f_X3_flowOf o1 (o0.1 4 (x1).toNatClampNeg)).bind fun r7 =>
  if inb x1 12 then
  (f_X3_heatOf o1 (o0.1 4 (x1).toNatClampNeg)).bind fun r19 =>
  (f_X3_fill o1 (2 * x1) r7 (r19 - (if x2.toInt64 < r19 then x2.toInt64 else r19))).bind fun r44 =>
  some ((if x2.toInt64 < r19 then x2.toInt64 else r19), r44)
  else none
  else none
set_option maxHeartbeats 4000000 in
set_option maxRecDepth 100000 in
theorem c_X5_cool (Z : EnvT) (l : Launch) (a0 : Nat → Nat) (o0 : ObS) (a1 : Nat → Nat) (o1 : ObS) (x1 : Int32) (x2 : Int32) (R : Int64 × ObS) (hf : f_X5_cool o0 o1 x1 x2 = some R) : RW Z l yX5_cool wsX5_cool { frames := 2, cells := 0, slots := 0, locals := 45 } [.ref (a0 0), .ref (a1 0), .int x1, .int x2] (wX5 Z a0 o0 ++ wX3 Z a1 o1) (some (.long R.1)) (fun _ => wX5 Z a0 o0 ++ wX3 Z a1 R.2) 0 0 := by
  refine rw_of (cc := cX5_cool) (maxL := 10) (ret := (some .long)) (by decide) rfl (Nat.le_of_ble_eq_true rfl) ?_
  intro p e s m below meth c A ls hx hb hr hml hts hown hlk hin hP hK hE hD hA hS hl
  have hown : s.vm.findClass RX5 = some m.cls := hown
  have hl : lv_has ls 10 [(0, .ref (a0 0)), (1, .ref (a1 0)), (2, .int x1), (3, .int x2)] := hl
  have w0 := hts (.fieldLink RX5 25 "HeatTrain$Units" "first" "[I") (by decide +kernel)
  have w1 := hts (.methodLink RX5 96 Lib.MathLoose.min_long.x) (by decide +kernel)
  have w2 := hts (.static Lib.MathLoose.min_long.x) (by decide +kernel)
  have w3 := hts (.initialized "java/lang/Math") (by decide +kernel)
  have w4 := hts (.code Lib.MathLoose.min_long.x Lib.MathLoose.min_long.code 4 (some .long)) (by decide +kernel)
  have u5 : ∀ w ∈ wsX50, w ∈ wsX5_cool := by decide +kernel
  rw [f_X5_cool] at hf
  refine lv_aload_n (pc := 0) hx hb dX5_cool_0 rfl (lv_at hl 1 rfl) ?_
  refine lv_aload_n (pc := 1) hx hb dX5_cool_1 rfl (lv_at hl 0 rfl) ?_
  refine va_get (pc := 2) (D := Z.1) (ci := 5) (v := .ref (a0 5)) (C := RX5) (T := TX5) (N := 9) hx hb hts u5 hown hK hP 0 rfl rfl 4 (by decide) w0 (fun _ h9 => h9) rfl dX5_cool_2 ?_
  refine lv_iload_n (pc := 5) hx hb dX5_cool_5 rfl (lv_at hl 2 rfl) ?_
  obtain ⟨g6, hf⟩ := gd hf
  refine va_iald (pc := 6) (D := Z.1) (n := 12) (f := o0.1 4) hx hb hK hP 4 0 rfl rfl (inb_in g6) dX5_cool_6 ?_
  obtain ⟨r7, h_7, hf⟩ := bd hf
  refine ro_V (pc := 7) (C := RX3) (As := [.int (o0.1 4 (x1).toNatClampNeg)]) (rest := []) (st1 := [.long r7]) ⟨hx, hb, hml, hown, hts⟩ (c_X3_flowOf Z l a1 o1 (o0.1 4 (x1).toNatClampNeg) r7 h_7) (cwV 1 hts gX5_cool_X3_flowOf rfl rfl rfl hv_X3_flowOf ⟨Nat.le_of_ble_eq_true rfl, Nat.le_of_ble_eq_true rfl⟩) hK hE (hP.sub (ws' := wX3 Z a1 o1) [9, 10, 11] rfl) 3 rfl rfl rfl hl.1 rfl (lv_room (Nat.le_of_ble_eq_true rfl)) dX5_cool_7 ⟨Nat.le_of_ble_eq_true rfl, Nat.le_of_ble_eq_true rfl⟩ rfl ?_
  refine lv_lstore (pc := 10) (lv' := [(4, .long r7), (0, .ref (a0 0)), (1, .ref (a1 0)), (2, .int x1), (3, .int x2)]) hx hb dX5_cool_10 hl (by decide) rfl (fun ls hl => ?_)
  refine lv_aload_n (pc := 12) hx hb dX5_cool_12 rfl (lv_at hl 2 rfl) ?_
  refine lv_aload_n (pc := 13) hx hb dX5_cool_13 rfl (lv_at hl 1 rfl) ?_
  refine va_get (pc := 14) (D := Z.1) (ci := 5) (v := .ref (a0 5)) (C := RX5) (T := TX5) (N := 9) hx hb hts u5 hown hK hP 0 rfl rfl 4 (by decide) w0 (fun _ h9 => h9) rfl dX5_cool_14 ?_
  refine lv_iload_n (pc := 17) hx hb dX5_cool_17 rfl (lv_at hl 3 rfl) ?_
  obtain ⟨g18, hf⟩ := gd hf
  refine va_iald (pc := 18) (D := Z.1) (n := 12) (f := o0.1 4) hx hb hK hP 4 0 rfl rfl (inb_in g18) dX5_cool_18 ?_
  obtain ⟨r19, h_19, hf⟩ := bd hf
  refine ro_V (pc := 19) (C := RX3) (As := [.int (o0.1 4 (x1).toNatClampNeg)]) (rest := []) (st1 := [.long r19]) ⟨hx, hb, hml, hown, hts⟩ (c_X3_heatOf Z l a1 o1 (o0.1 4 (x1).toNatClampNeg) r19 h_19) (cwV 1 hts gX5_cool_X3_heatOf rfl rfl rfl hv_X3_heatOf ⟨Nat.le_of_ble_eq_true rfl, Nat.le_of_ble_eq_true rfl⟩) hK hE (hP.sub (ws' := wX3 Z a1 o1) [9, 10, 11] rfl) 3 rfl rfl rfl hl.1 rfl (lv_room (Nat.le_of_ble_eq_true rfl)) dX5_cool_19 ⟨Nat.le_of_ble_eq_true rfl, Nat.le_of_ble_eq_true rfl⟩ rfl ?_
  refine lv_lstore (pc := 22) (lv' := [(6, .long r19), (4, .long r7), (0, .ref (a0 0)), (1, .ref (a1 0)), (2, .int x1), (3, .int x2)]) hx hb dX5_cool_22 hl (by decide) rfl (fun ls hl => ?_)
  refine lv_lload (pc := 24) hx hb dX5_cool_24 (lv_at hl 0 rfl) ?_
  refine lv_iload_n (pc := 26) hx hb dX5_cool_26 rfl (lv_at hl 5 rfl) ?_
  refine lv_i2l (pc := 27) (v := x2.toInt64) hx hb dX5_cool_27 rfl ?_
  refine va_mmin_long (pc := 28) hx hb (hml.trans hl.1.symm) hown w1 w2 w3 w4 (Nat.le_of_ble_eq_true rfl) (Nat.le_of_ble_eq_true rfl) (Nat.zero_le _) (Nat.zero_le _) dX5_cool_28 ?_
  refine lv_lstore (pc := 31) (lv' := [(8, .long (if x2.toInt64 < r19 then x2.toInt64 else r19)), (6, .long r19), (4, .long r7), (0, .ref (a0 0)), (1, .ref (a1 0)), (2, .int x1), (3, .int x2)]) hx hb dX5_cool_31 hl (by decide) rfl (fun ls hl => ?_)
  refine lv_aload_n (pc := 33) hx hb dX5_cool_33 rfl (lv_at hl 4 rfl) ?_
  refine lv_iconst (pc := 34) (v := 2) hx hb dX5_cool_34 (by decide) ?_
  refine lv_iload_n (pc := 35) hx hb dX5_cool_35 rfl (lv_at hl 5 rfl) ?_
  refine lv_imul (pc := 36) hx hb dX5_cool_36 ?_
  refine lv_lload (pc := 37) hx hb dX5_cool_37 (lv_at hl 2 rfl) ?_
  refine lv_lload (pc := 39) hx hb dX5_cool_39 (lv_at hl 1 rfl) ?_
  refine lv_lload (pc := 41) hx hb dX5_cool_41 (lv_at hl 0 rfl) ?_
  refine lv_lsub (pc := 43) hx hb dX5_cool_43 ?_
  obtain ⟨r44, h_44, hf⟩ := bd hf
  refine rw_V (pc := 44) (C := RX3) (As := [.int (2 * x1), .long r7, .long (r19 - (if x2.toInt64 < r19 then x2.toInt64 else r19))]) (rest := []) (st1 := []) (wn := fun _ => wX5 Z a0 o0 ++ wX3 Z a1 r44) ⟨hx, hb, hml, hown, hts⟩ (c_X3_fill Z l a1 o1 (2 * x1) r7 (r19 - (if x2.toInt64 < r19 then x2.toInt64 else r19)) r44 h_44) (cwV 3 hts gX5_cool_X3_fill rfl rfl rfl hv_X3_fill ⟨Nat.le_of_ble_eq_true rfl, Nat.le_of_ble_eq_true rfl⟩) hK hE hP hD hS hA [9, 10, 11] [0, 1, 2, 3, 4, 5, 6, 7, 8] [0, 1, 2, 3, 4, 5, 6, 7, 8, 9, 10, 11] rfl rfl rfl (fun _ => rfl) 3 rfl rfl rfl hl.1 rfl (lv_room (Nat.le_of_ble_eq_true rfl)) dX5_cool_44 ⟨Nat.le_of_ble_eq_true rfl, Nat.le_of_ble_eq_true rfl⟩ rfl (fun _ H locs hP hD hS => ?_)
  refine lv_lload (pc := 47) hx hb dX5_cool_47 (lv_at hl 0 rfl) ?_
  have hf := (Option.some.inj hf)
  subst hf
  exact rw_l (fun _ => 0) hx hb hr hlk rfl hP hD hS dX5_cool_49
def f_X5_give (o0 : ObS) (o1 : ObS) (x1 : Int32) (x2 : Int32) : Option (Int64 × ObS) :=
  if (f_X5_isMade o0 x1) = (0 : Int32) then
    some ((0 : Int64), o1)
  else
    if inb x1 12 then
    if (o0.1 1 (x1).toNatClampNeg) = 0 then
      if inb x1 12 then
      (f_X3_fill o1 (2 * x1) x2.toInt64 (x2.toInt64 * ((o0.1 2 (x1).toNatClampNeg).toInt64))).bind fun r68 =>
      some ((0 : Int64), r68)
      else none
    else
      if (o0.1 1 (x1).toNatClampNeg) = 1 then
        (f_X5_split o0 o1 x1 x2).bind fun r77 =>
        some ((0 : Int64), r77)
      else
        if (o0.1 1 (x1).toNatClampNeg) = 2 then
          (f_X5_mix o0 o1 x1).bind fun r85 =>
          some ((0 : Int64), r85)
        else
          if (o0.1 1 (x1).toNatClampNeg) = 3 then
            (f_X5_exchange o0 o1 x1 x2).bind fun r94 =>
            some (r94.1, r94.2)
          else
            if (o0.1 1 (x1).toNatClampNeg) = 4 then
              (f_X5_cool o0 o1 x1 x2).bind fun r102 =>
              some (r102.1, r102.2)
            else
              some ((0 : Int64), o1)
    else none
set_option maxHeartbeats 4000000 in
set_option maxRecDepth 100000 in
theorem c_X5_give (Z : EnvT) (l : Launch) (a0 : Nat → Nat) (o0 : ObS) (a1 : Nat → Nat) (o1 : ObS) (x1 : Int32) (x2 : Int32) (R : Int64 × ObS) (hf : f_X5_give o0 o1 x1 x2 = some R) : RW Z l yX5_give wsX5_give { frames := 3, cells := 0, slots := 0, locals := 84 } [.ref (a0 0), .ref (a1 0), .int x1, .int x2] (wX5 Z a0 o0 ++ wX3 Z a1 o1) (some (.long R.1)) (fun _ => wX5 Z a0 o0 ++ wX3 Z a1 R.2) 0 0 := by
  refine rw_of (cc := cX5_give) (maxL := 4) (ret := (some .long)) (by decide) rfl (Nat.le_of_ble_eq_true rfl) ?_
  intro p e s m below meth c A ls hx hb hr hml hts hown hlk hin hP hK hE hD hA hS hl
  have hown : s.vm.findClass RX5 = some m.cls := hown
  have hl : lv_has ls 4 [(0, .ref (a0 0)), (1, .ref (a1 0)), (2, .int x1), (3, .int x2)] := hl
  have w0 := hts (.fieldLink RX5 15 "HeatTrain$Units" "kind" "[I") (by decide +kernel)
  have w1 := hts (.fieldLink RX5 19 "HeatTrain$Units" "degrees" "[I") (by decide +kernel)
  have u5 : ∀ w ∈ wsX50, w ∈ wsX5_give := by decide +kernel
  rw [f_X5_give] at hf
  refine lv_aload_n (pc := 0) hx hb dX5_give_0 rfl (lv_at hl 0 rfl) ?_
  refine lv_iload_n (pc := 1) hx hb dX5_give_1 rfl (lv_at hl 2 rfl) ?_
  refine ro_V (pc := 2) (C := RX5) (As := [.int x1]) (rest := []) (st1 := [.int (f_X5_isMade o0 x1)]) ⟨hx, hb, hml, hown, hts⟩ (c_X5_isMade Z l a0 o0 x1 _ rfl) (cwV 1 hts gX5_give_X5_isMade rfl rfl rfl hv_X5_isMade ⟨Nat.le_of_ble_eq_true rfl, Nat.le_of_ble_eq_true rfl⟩) hK hE (hP.sub (ws' := wX5 Z a0 o0) [0, 1, 2, 3, 4, 5, 6, 7, 8] rfl) 5 rfl rfl rfl hl.1 rfl (lv_room (Nat.le_of_ble_eq_true rfl)) dX5_give_2 ⟨Nat.le_of_ble_eq_true rfl, Nat.le_of_ble_eq_true rfl⟩ rfl ?_
  refine lv_if_ne (pc := 5) (tgt := 10) hx hb dX5_give_5 (by decide) (fun c1 => ?_) (fun c1 => ?_)
  · have hf := (if_neg c1).symm.trans hf
    refine lv_aload_n (pc := 10) hx hb dX5_give_10 rfl (lv_at hl 0 rfl) ?_
    refine va_get (pc := 11) (D := Z.1) (ci := 5) (v := .ref (a0 2)) (C := RX5) (T := TX5) (N := 9) hx hb hts u5 hown hK hP 0 rfl rfl 1 (by decide) w0 (fun _ h9 => h9) rfl dX5_give_11 ?_
    refine lv_iload_n (pc := 14) hx hb dX5_give_14 rfl (lv_at hl 2 rfl) ?_
    obtain ⟨g15, hf⟩ := gd hf
    refine va_iald (pc := 15) (D := Z.1) (n := 12) (f := o0.1 1) hx hb hK hP 1 0 rfl rfl (inb_in g15) dX5_give_15 ?_
    by_cases c2 : (o0.1 1 (x1).toNatClampNeg) = 0
    · have hf := (if_pos c2).symm.trans hf
      refine lv_tableIn (pc := 16) (off := 36) (tgt := 52) hx hb dX5_give_16 (by rw [c2]; decide) (by rw [c2]; decide) (by rw [c2]; rfl) (by decide) ?_
      refine lv_aload_n (pc := 52) hx hb dX5_give_52 rfl (lv_at hl 1 rfl) ?_
      refine lv_iconst (pc := 53) (v := 2) hx hb dX5_give_53 (by decide) ?_
      refine lv_iload_n (pc := 54) hx hb dX5_give_54 rfl (lv_at hl 2 rfl) ?_
      refine lv_imul (pc := 55) hx hb dX5_give_55 ?_
      refine lv_iload_n (pc := 56) hx hb dX5_give_56 rfl (lv_at hl 3 rfl) ?_
      refine lv_i2l (pc := 57) (v := x2.toInt64) hx hb dX5_give_57 rfl ?_
      refine lv_iload_n (pc := 58) hx hb dX5_give_58 rfl (lv_at hl 3 rfl) ?_
      refine lv_i2l (pc := 59) (v := x2.toInt64) hx hb dX5_give_59 rfl ?_
      refine lv_aload_n (pc := 60) hx hb dX5_give_60 rfl (lv_at hl 0 rfl) ?_
      refine va_get (pc := 61) (D := Z.1) (ci := 5) (v := .ref (a0 3)) (C := RX5) (T := TX5) (N := 9) hx hb hts u5 hown hK hP 0 rfl rfl 2 (by decide) w1 (fun _ h9 => h9) rfl dX5_give_61 ?_
      refine lv_iload_n (pc := 64) hx hb dX5_give_64 rfl (lv_at hl 2 rfl) ?_
      obtain ⟨g65, hf⟩ := gd hf
      refine va_iald (pc := 65) (D := Z.1) (n := 12) (f := o0.1 2) hx hb hK hP 2 0 rfl rfl (inb_in g65) dX5_give_65 ?_
      refine lv_i2l (pc := 66) (v := (o0.1 2 (x1).toNatClampNeg).toInt64) hx hb dX5_give_66 rfl ?_
      refine lv_lmul (pc := 67) hx hb dX5_give_67 ?_
      obtain ⟨r68, h_68, hf⟩ := bd hf
      refine rw_V (pc := 68) (C := RX3) (As := [.int (2 * x1), .long x2.toInt64, .long (x2.toInt64 * ((o0.1 2 (x1).toNatClampNeg).toInt64))]) (rest := []) (st1 := []) (wn := fun _ => wX5 Z a0 o0 ++ wX3 Z a1 r68) ⟨hx, hb, hml, hown, hts⟩ (c_X3_fill Z l a1 o1 (2 * x1) x2.toInt64 (x2.toInt64 * ((o0.1 2 (x1).toNatClampNeg).toInt64)) r68 h_68) (cwV 3 hts gX5_give_X3_fill rfl rfl rfl hv_X3_fill ⟨Nat.le_of_ble_eq_true rfl, Nat.le_of_ble_eq_true rfl⟩) hK hE hP hD hS hA [9, 10, 11] [0, 1, 2, 3, 4, 5, 6, 7, 8] [0, 1, 2, 3, 4, 5, 6, 7, 8, 9, 10, 11] rfl rfl rfl (fun _ => rfl) 3 rfl rfl rfl hl.1 rfl (lv_room (Nat.le_of_ble_eq_true rfl)) dX5_give_68 ⟨Nat.le_of_ble_eq_true rfl, Nat.le_of_ble_eq_true rfl⟩ rfl (fun _ H locs hP hD hS => ?_)
      refine lv_lconst (pc := 71) (v := 0) hx hb dX5_give_71 (by decide) ?_
      have hf := (Option.some.inj hf)
      subst hf
      exact rw_l (fun _ => 0) hx hb hr hlk rfl hP hD hS dX5_give_72
    · have hf := (if_neg c2).symm.trans hf
      by_cases c3 : (o0.1 1 (x1).toNatClampNeg) = 1
      · have hf := (if_pos c3).symm.trans hf
        refine lv_tableIn (pc := 16) (off := 57) (tgt := 73) hx hb dX5_give_16 (by rw [c3]; decide) (by rw [c3]; decide) (by rw [c3]; rfl) (by decide) ?_
        refine lv_aload_n (pc := 73) hx hb dX5_give_73 rfl (lv_at hl 0 rfl) ?_
        refine lv_aload_n (pc := 74) hx hb dX5_give_74 rfl (lv_at hl 1 rfl) ?_
        refine lv_iload_n (pc := 75) hx hb dX5_give_75 rfl (lv_at hl 2 rfl) ?_
        refine lv_iload_n (pc := 76) hx hb dX5_give_76 rfl (lv_at hl 3 rfl) ?_
        obtain ⟨r77, h_77, hf⟩ := bd hf
        refine rw_V (pc := 77) (C := RX5) (As := [.ref (a1 0), .int x1, .int x2]) (rest := []) (st1 := []) (wn := fun _ => wX5 Z a0 o0 ++ wX3 Z a1 r77) ⟨hx, hb, hml, hown, hts⟩ (c_X5_split Z l a0 o0 a1 o1 x1 x2 r77 h_77) (cwV 3 hts gX5_give_X5_split rfl rfl rfl hv_X5_split ⟨Nat.le_of_ble_eq_true rfl, Nat.le_of_ble_eq_true rfl⟩) hK hE hP hD hS hA [0, 1, 2, 3, 4, 5, 6, 7, 8, 9, 10, 11] [] [0, 1, 2, 3, 4, 5, 6, 7, 8, 9, 10, 11] rfl rfl rfl (fun _ => rfl) 5 rfl rfl rfl hl.1 rfl (lv_room (Nat.le_of_ble_eq_true rfl)) dX5_give_77 ⟨Nat.le_of_ble_eq_true rfl, Nat.le_of_ble_eq_true rfl⟩ rfl (fun _ H locs hP hD hS => ?_)
        refine lv_lconst (pc := 80) (v := 0) hx hb dX5_give_80 (by decide) ?_
        have hf := (Option.some.inj hf)
        subst hf
        exact rw_l (fun _ => 0) hx hb hr hlk rfl hP hD hS dX5_give_81
      · have hf := (if_neg c3).symm.trans hf
        by_cases c4 : (o0.1 1 (x1).toNatClampNeg) = 2
        · have hf := (if_pos c4).symm.trans hf
          refine lv_tableIn (pc := 16) (off := 66) (tgt := 82) hx hb dX5_give_16 (by rw [c4]; decide) (by rw [c4]; decide) (by rw [c4]; rfl) (by decide) ?_
          refine lv_aload_n (pc := 82) hx hb dX5_give_82 rfl (lv_at hl 0 rfl) ?_
          refine lv_aload_n (pc := 83) hx hb dX5_give_83 rfl (lv_at hl 1 rfl) ?_
          refine lv_iload_n (pc := 84) hx hb dX5_give_84 rfl (lv_at hl 2 rfl) ?_
          obtain ⟨r85, h_85, hf⟩ := bd hf
          refine rw_V (pc := 85) (C := RX5) (As := [.ref (a1 0), .int x1]) (rest := []) (st1 := []) (wn := fun _ => wX5 Z a0 o0 ++ wX3 Z a1 r85) ⟨hx, hb, hml, hown, hts⟩ (c_X5_mix Z l a0 o0 a1 o1 x1 r85 h_85) (cwV 2 hts gX5_give_X5_mix rfl rfl rfl hv_X5_mix ⟨Nat.le_of_ble_eq_true rfl, Nat.le_of_ble_eq_true rfl⟩) hK hE hP hD hS hA [0, 1, 2, 3, 4, 5, 6, 7, 8, 9, 10, 11] [] [0, 1, 2, 3, 4, 5, 6, 7, 8, 9, 10, 11] rfl rfl rfl (fun _ => rfl) 5 rfl rfl rfl hl.1 rfl (lv_room (Nat.le_of_ble_eq_true rfl)) dX5_give_85 ⟨Nat.le_of_ble_eq_true rfl, Nat.le_of_ble_eq_true rfl⟩ rfl (fun _ H locs hP hD hS => ?_)
          refine lv_lconst (pc := 88) (v := 0) hx hb dX5_give_88 (by decide) ?_
          have hf := (Option.some.inj hf)
          subst hf
          exact rw_l (fun _ => 0) hx hb hr hlk rfl hP hD hS dX5_give_89
        · have hf := (if_neg c4).symm.trans hf
          by_cases c5 : (o0.1 1 (x1).toNatClampNeg) = 3
          · have hf := (if_pos c5).symm.trans hf
            refine lv_tableIn (pc := 16) (off := 74) (tgt := 90) hx hb dX5_give_16 (by rw [c5]; decide) (by rw [c5]; decide) (by rw [c5]; rfl) (by decide) ?_
            refine lv_aload_n (pc := 90) hx hb dX5_give_90 rfl (lv_at hl 0 rfl) ?_
            refine lv_aload_n (pc := 91) hx hb dX5_give_91 rfl (lv_at hl 1 rfl) ?_
            refine lv_iload_n (pc := 92) hx hb dX5_give_92 rfl (lv_at hl 2 rfl) ?_
            refine lv_iload_n (pc := 93) hx hb dX5_give_93 rfl (lv_at hl 3 rfl) ?_
            obtain ⟨r94, h_94, hf⟩ := bd hf
            refine rw_V (pc := 94) (C := RX5) (As := [.ref (a1 0), .int x1, .int x2]) (rest := []) (st1 := [.long r94.1]) (wn := fun _ => wX5 Z a0 o0 ++ wX3 Z a1 r94.2) ⟨hx, hb, hml, hown, hts⟩ (c_X5_exchange Z l a0 o0 a1 o1 x1 x2 r94 h_94) (cwV 3 hts gX5_give_X5_exchange rfl rfl rfl hv_X5_exchange ⟨Nat.le_of_ble_eq_true rfl, Nat.le_of_ble_eq_true rfl⟩) hK hE hP hD hS hA [0, 1, 2, 3, 4, 5, 6, 7, 8, 9, 10, 11] [] [0, 1, 2, 3, 4, 5, 6, 7, 8, 9, 10, 11] rfl rfl rfl (fun _ => rfl) 5 rfl rfl rfl hl.1 rfl (lv_room (Nat.le_of_ble_eq_true rfl)) dX5_give_94 ⟨Nat.le_of_ble_eq_true rfl, Nat.le_of_ble_eq_true rfl⟩ rfl (fun _ H locs hP hD hS => ?_)
            have hf := (Option.some.inj hf)
            subst hf
            exact rw_l (fun _ => 0) hx hb hr hlk rfl hP hD hS dX5_give_97
          · have hf := (if_neg c5).symm.trans hf
            by_cases c6 : (o0.1 1 (x1).toNatClampNeg) = 4
            · have hf := (if_pos c6).symm.trans hf
              refine lv_tableIn (pc := 16) (off := 82) (tgt := 98) hx hb dX5_give_16 (by rw [c6]; decide) (by rw [c6]; decide) (by rw [c6]; rfl) (by decide) ?_
              refine lv_aload_n (pc := 98) hx hb dX5_give_98 rfl (lv_at hl 0 rfl) ?_
              refine lv_aload_n (pc := 99) hx hb dX5_give_99 rfl (lv_at hl 1 rfl) ?_
              refine lv_iload_n (pc := 100) hx hb dX5_give_100 rfl (lv_at hl 2 rfl) ?_
              refine lv_iload_n (pc := 101) hx hb dX5_give_101 rfl (lv_at hl 3 rfl) ?_
              obtain ⟨r102, h_102, hf⟩ := bd hf
              refine rw_V (pc := 102) (C := RX5) (As := [.ref (a1 0), .int x1, .int x2]) (rest := []) (st1 := [.long r102.1]) (wn := fun _ => wX5 Z a0 o0 ++ wX3 Z a1 r102.2) ⟨hx, hb, hml, hown, hts⟩ (c_X5_cool Z l a0 o0 a1 o1 x1 x2 r102 h_102) (cwV 3 hts gX5_give_X5_cool rfl rfl rfl hv_X5_cool ⟨Nat.le_of_ble_eq_true rfl, Nat.le_of_ble_eq_true rfl⟩) hK hE hP hD hS hA [0, 1, 2, 3, 4, 5, 6, 7, 8, 9, 10, 11] [] [0, 1, 2, 3, 4, 5, 6, 7, 8, 9, 10, 11] rfl rfl rfl (fun _ => rfl) 5 rfl rfl rfl hl.1 rfl (lv_room (Nat.le_of_ble_eq_true rfl)) dX5_give_102 ⟨Nat.le_of_ble_eq_true rfl, Nat.le_of_ble_eq_true rfl⟩ rfl (fun _ H locs hP hD hS => ?_)
              have hf := (Option.some.inj hf)
              subst hf
              exact rw_l (fun _ => 0) hx hb hr hlk rfl hP hD hS dX5_give_105
            · have hf := (if_neg c6).symm.trans hf
              refine lv_tableOut (pc := 16) (tgt := 106) hx hb dX5_give_16 (by have := tne c2 (show (0 : Int32).toInt = 0 by decide); have := tne c3 (show (1 : Int32).toInt = 1 by decide); have := tne c4 (show (2 : Int32).toInt = 2 by decide); have := tne c5 (show (3 : Int32).toInt = 3 by decide); have := tne c6 (show (4 : Int32).toInt = 4 by decide); omega) (by decide) ?_
              refine lv_lconst (pc := 106) (v := 0) hx hb dX5_give_106 (by decide) ?_
              have hf := (Option.some.inj hf)
              subst hf
              exact rw_l (fun _ => 0) hx hb hr hlk rfl hP hD hS dX5_give_107
  · have hf := (if_pos c1).symm.trans hf
    refine lv_lconst (pc := 8) (v := 0) hx hb dX5_give_8 (by decide) ?_
    have hf := (Option.some.inj hf)
    subst hf
    exact rw_l (fun _ => 0) hx hb hr hlk rfl hP hD hS dX5_give_9
