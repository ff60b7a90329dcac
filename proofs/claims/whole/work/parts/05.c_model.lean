def f_X7_canDrive (o0 : ObS) (x1 : Int32) : Option (Int32) :=
  (f_X7_isUnit o0 x1).bind fun r2 =>
  if r2 = (0 : Int32) then
    if (f_X7_in x1 (101 + (o0.1 22 0)) 105) = (0 : Int32) then
      some ((0 : Int32))
    else
      some ((1 : Int32))
  else
    some ((1 : Int32))
set_option maxHeartbeats 4000000 in
set_option maxRecDepth 100000 in
theorem c_X7_canDrive (Z : EnvT) (l : Launch) (a0 : Nat → Nat) (o0 : ObS) (x1 : Int32) (R : Int32) (hf : f_X7_canDrive o0 x1 = some R) : RO Z l yX7_canDrive wsX7_canDrive { frames := 2, cells := 0, slots := 0, locals := 43 } [.ref (a0 0), .int x1] (wX7 Z a0 o0) (some (.int R)) := by
  refine ro_of (cc := cX7_canDrive) (maxL := 2) (ret := (some .boolean)) (by decide) rfl (Nat.le_of_ble_eq_true rfl) ?_
  intro p e s m below meth c ls hx hb hr hml hts hown hlk hP hK hE hl
  have hown : s.vm.findClass RX7 = some m.cls := hown
  have hl : lv_has ls 2 [(0, .ref (a0 0)), (1, .int x1)] := hl
  have w0 := hts (.fieldLink RX7 128 "HeatTrainModel" "controllers" "I") (by decide +kernel)
  have u7 : ∀ w ∈ wsX70, w ∈ wsX7_canDrive := by decide +kernel
  rw [f_X7_canDrive] at hf
  refine lv_aload_n (pc := 0) hx hb dX7_canDrive_0 rfl (lv_at hl 0 rfl) ?_
  refine lv_iload_n (pc := 1) hx hb dX7_canDrive_1 rfl (lv_at hl 1 rfl) ?_
  obtain ⟨r2, h_2, hf⟩ := bd hf
  refine ro_V (pc := 2) (C := RX7) (As := [.int x1]) (rest := []) (st1 := [.int r2]) ⟨hx, hb, hml, hown, hts⟩ (c_X7_isUnit Z l a0 o0 x1 r2 h_2) (cwV 1 hts gX7_canDrive_X7_isUnit rfl rfl rfl hv_X7_isUnit ⟨Nat.le_of_ble_eq_true rfl, Nat.le_of_ble_eq_true rfl⟩) hK hE hP 7 rfl rfl rfl hl.1 rfl (lv_room (Nat.le_of_ble_eq_true rfl)) dX7_canDrive_2 ⟨Nat.le_of_ble_eq_true rfl, Nat.le_of_ble_eq_true rfl⟩ rfl ?_
  refine lv_if_ne (pc := 5) (tgt := 24) hx hb dX7_canDrive_5 (by decide) (fun c1 => ?_) (fun c1 => ?_)
  · have hf := (if_neg c1).symm.trans hf
    refine lv_iconst (pc := 24) (v := 1) hx hb dX7_canDrive_24 (by decide) ?_
    refine lv_goto (pc := 25) (tgt := 29) hx hb dX7_canDrive_25 (by decide) ?_
    exact ro_z hx hb hr hlk (Option.some.inj hf) rfl dX7_canDrive_29
  · have hf := (if_pos c1).symm.trans hf
    refine lv_iload_n (pc := 8) hx hb dX7_canDrive_8 rfl (lv_at hl 1 rfl) ?_
    refine lv_bipush (pc := 9) (v := 101) hx hb dX7_canDrive_9 (by decide) ?_
    refine lv_aload_n (pc := 11) hx hb dX7_canDrive_11 rfl (lv_at hl 0 rfl) ?_
    refine va_get (pc := 12) (D := Z.1) (ci := 7) (v := .int (o0.1 22 0)) (C := RX7) (T := TX7) (N := 41) hx hb hts u7 hown hK hP 0 rfl rfl 22 (by decide) w0 (fun _ h9 => h9) rfl dX7_canDrive_12 ?_
    refine lv_iadd (pc := 15) hx hb dX7_canDrive_15 ?_
    refine lv_bipush (pc := 16) (v := 105) hx hb dX7_canDrive_16 (by decide) ?_
    refine ro_S (pc := 18) (As := [.int x1, .int (101 + (o0.1 22 0)), .int 105]) (rest := []) (st1 := [.int (f_X7_in x1 (101 + (o0.1 22 0)) 105)]) ⟨hx, hb, hml, hown, hts⟩ (c_X7_in Z l x1 (101 + (o0.1 22 0)) 105 _ rfl) (va_cwS 3 hts gX7_canDrive_X7_in rfl rfl rfl hs_X7_in ⟨Nat.le_of_ble_eq_true rfl, Nat.le_of_ble_eq_true rfl⟩) hK hE (hP.sub (ws' := []) [] rfl) rfl hl.1 rfl (lv_room (Nat.le_of_ble_eq_true rfl)) dX7_canDrive_18 ⟨Nat.le_of_ble_eq_true rfl, Nat.le_of_ble_eq_true rfl⟩ rfl ?_
    refine lv_if_eq (pc := 21) (tgt := 28) hx hb dX7_canDrive_21 (by decide) (fun c2 => ?_) (fun c2 => ?_)
    · have hf := (if_pos c2).symm.trans hf
      refine lv_iconst (pc := 28) (v := 0) hx hb dX7_canDrive_28 (by decide) ?_
      exact ro_z hx hb hr hlk (Option.some.inj hf) rfl dX7_canDrive_29
    · have hf := (if_neg c2).symm.trans hf
      refine lv_iconst (pc := 24) (v := 1) hx hb dX7_canDrive_24 (by decide) ?_
      refine lv_goto (pc := 25) (tgt := 29) hx hb dX7_canDrive_25 (by decide) ?_
      exact ro_z hx hb hr hlk (Option.some.inj hf) rfl dX7_canDrive_29
def f_X7_adds (o0 : ObS) (x1 : Int32) (x2 : Int32) (x3 : Int32) (x4 : Int32) (x5 : Int32) (x6 : Int32) : Option (Int32 × ObS) :=
  if inb (o0.1 22 0) 6 then
  (some (oi o0 23 (o0.1 22 0).toNatClampNeg x1)).bind fun s13 =>
  if inb (o0.1 22 0) 6 then
  (some (oi s13 24 (o0.1 22 0).toNatClampNeg x2)).bind fun s21 =>
  if inb (o0.1 22 0) 6 then
  (some (oi s21 25 (o0.1 22 0).toNatClampNeg x3)).bind fun s29 =>
  if inb (o0.1 22 0) 6 then
  (some (oi s29 26 (o0.1 22 0).toNatClampNeg x4)).bind fun s38 =>
  if inb (o0.1 22 0) 6 then
  (some (oi s38 28 (o0.1 22 0).toNatClampNeg x5)).bind fun s47 =>
  if inb (o0.1 22 0) 6 then
  (some (oi s47 27 (o0.1 22 0).toNatClampNeg x6)).bind fun s56 =>
  if inb (o0.1 22 0) 6 then
  (some (oi s56 30 (o0.1 22 0).toNatClampNeg 0)).bind fun s64 =>
  if inb (o0.1 22 0) 6 then
  (some (oi s64 31 (o0.1 22 0).toNatClampNeg 500)).bind fun s74 =>
  (some (oi s74 22 0 ((s74.1 22 0) + 1))).bind fun s82 =>
  some (o0.1 22 0, s82)
  else none
  else none
  else none
  else none
  else none
  else none
  else none
  else none
set_option maxHeartbeats 4000000 in
set_option maxRecDepth 100000 in
theorem c_X7_adds (Z : EnvT) (l : Launch) (a0 : Nat → Nat) (o0 : ObS) (x1 : Int32) (x2 : Int32) (x3 : Int32) (x4 : Int32) (x5 : Int32) (x6 : Int32) (R : Int32 × ObS) (hf : f_X7_adds o0 x1 x2 x3 x4 x5 x6 = some R) : RW Z l yX7_adds wsX7_adds { frames := 0, cells := 0, slots := 0, locals := 0 } [.ref (a0 0), .int x1, .int x2, .int x3, .int x4, .int x5, .int x6] (wX7 Z a0 o0) (some (.int R.1)) (fun _ => wX7 Z a0 R.2) 0 0 := by
  refine rw_of (cc := cX7_adds) (maxL := 8) (ret := (some .int)) (by decide) rfl (Nat.le_of_ble_eq_true rfl) ?_
  intro p e s m below meth c A ls hx hb hr hml hts hown hlk hin hP hK hE hD hA hS hl
  have hown : s.vm.findClass RX7 = some m.cls := hown
  have hl : lv_has ls 8 [(0, .ref (a0 0)), (1, .int x1), (2, .int x2), (3, .int x3), (4, .int x4), (5, .int x5), (6, .int x6)] := hl
  have w0 := hts (.fieldLink RX7 128 "HeatTrainModel" "controllers" "I") (by decide +kernel)
  have w1 := hts (.fieldLink RX7 66 "HeatTrainModel" "streams" "[I") (by decide +kernel)
  have w2 := hts (.fieldLink RX7 69 "HeatTrainModel" "goals" "[I") (by decide +kernel)
  have w3 := hts (.fieldLink RX7 72 "HeatTrainModel" "gains" "[I") (by decide +kernel)
  have w4 := hts (.fieldLink RX7 75 "HeatTrainModel" "bases" "[I") (by decide +kernel)
  have w5 := hts (.fieldLink RX7 81 "HeatTrainModel" "ratios" "[I") (by decide +kernel)
  have w6 := hts (.fieldLink RX7 78 "HeatTrainModel" "drives" "[I") (by decide +kernel)
  have w7 := hts (.fieldLink RX7 87 "HeatTrainModel" "feedBy" "[I") (by decide +kernel)
  have w8 := hts (.fieldLink RX7 90 "HeatTrainModel" "limits" "[I") (by decide +kernel)
  have u7 : ∀ w ∈ wsX70, w ∈ wsX7_adds := by decide +kernel
  rw [f_X7_adds] at hf
  refine lv_aload_n (pc := 0) hx hb dX7_adds_0 rfl (lv_at hl 0 rfl) ?_
  refine va_get (pc := 1) (D := Z.1) (ci := 7) (v := .int (o0.1 22 0)) (C := RX7) (T := TX7) (N := 41) hx hb hts u7 hown hK hP 0 rfl rfl 22 (by decide) w0 (fun _ h9 => h9) rfl dX7_adds_1 ?_
  refine lv_istore (pc := 4) (lv' := [(7, .int (o0.1 22 0)), (0, .ref (a0 0)), (1, .int x1), (2, .int x2), (3, .int x3), (4, .int x4), (5, .int x5), (6, .int x6)]) hx hb dX7_adds_4 hl (by decide) rfl (fun ls hl => ?_)
  refine lv_aload_n (pc := 6) hx hb dX7_adds_6 rfl (lv_at hl 1 rfl) ?_
  refine va_get (pc := 7) (D := Z.1) (ci := 7) (v := .ref (a0 24)) (C := RX7) (T := TX7) (N := 41) hx hb hts u7 hown hK hP 0 rfl rfl 23 (by decide) w1 (fun _ h9 => h9) rfl dX7_adds_7 ?_
  refine lv_iload (pc := 10) hx hb dX7_adds_10 (lv_at hl 0 rfl) ?_
  refine lv_iload_n (pc := 12) hx hb dX7_adds_12 rfl (lv_at hl 2 rfl) ?_
  obtain ⟨g13, hf⟩ := gd hf
  refine va_iast (pc := 13) (D := Z.1) (n := 6) (f := o0.1 23) hx hb hK hP hD hS 19 0 rfl rfl (inb_in g13) dX7_adds_13 (fun H locs hP hD hS => ?_)
  obtain ⟨s13, h_13, hf⟩ := bd hf
  have hP : va_P Z.1 vwCl (wX7 Z a0 s13) H := st_P (f := fun z => wX7 Z a0 z) h_13 hP
  have hD : va_D A (wX7 Z a0 s13) := st_D (f := fun z => wX7 Z a0 z) h_13 hD
  refine lv_aload_n (pc := 14) hx hb dX7_adds_14 rfl (lv_at hl 1 rfl) ?_
  refine va_get (pc := 15) (D := Z.1) (ci := 7) (v := .ref (a0 25)) (C := RX7) (T := TX7) (N := 41) hx hb hts u7 hown hK hP 0 rfl rfl 24 (by decide) w2 (fun _ h9 => h9) rfl dX7_adds_15 ?_
  refine lv_iload (pc := 18) hx hb dX7_adds_18 (lv_at hl 0 rfl) ?_
  refine lv_iload_n (pc := 20) hx hb dX7_adds_20 rfl (lv_at hl 3 rfl) ?_
  obtain ⟨g21, hf⟩ := gd hf
  refine va_iast (pc := 21) (D := Z.1) (n := 6) (f := s13.1 24) hx hb hK hP hD hS 20 0 rfl rfl (inb_in g21) dX7_adds_21 (fun H locs hP hD hS => ?_)
  obtain ⟨s21, h_21, hf⟩ := bd hf
  have hP : va_P Z.1 vwCl (wX7 Z a0 s21) H := st_P (f := fun z => wX7 Z a0 z) h_21 hP
  have hD : va_D A (wX7 Z a0 s21) := st_D (f := fun z => wX7 Z a0 z) h_21 hD
  refine lv_aload_n (pc := 22) hx hb dX7_adds_22 rfl (lv_at hl 1 rfl) ?_
  refine va_get (pc := 23) (D := Z.1) (ci := 7) (v := .ref (a0 26)) (C := RX7) (T := TX7) (N := 41) hx hb hts u7 hown hK hP 0 rfl rfl 25 (by decide) w3 (fun _ h9 => h9) rfl dX7_adds_23 ?_
  refine lv_iload (pc := 26) hx hb dX7_adds_26 (lv_at hl 0 rfl) ?_
  refine lv_iload_n (pc := 28) hx hb dX7_adds_28 rfl (lv_at hl 4 rfl) ?_
  obtain ⟨g29, hf⟩ := gd hf
  refine va_iast (pc := 29) (D := Z.1) (n := 6) (f := s21.1 25) hx hb hK hP hD hS 21 0 rfl rfl (inb_in g29) dX7_adds_29 (fun H locs hP hD hS => ?_)
  obtain ⟨s29, h_29, hf⟩ := bd hf
  have hP : va_P Z.1 vwCl (wX7 Z a0 s29) H := st_P (f := fun z => wX7 Z a0 z) h_29 hP
  have hD : va_D A (wX7 Z a0 s29) := st_D (f := fun z => wX7 Z a0 z) h_29 hD
  refine lv_aload_n (pc := 30) hx hb dX7_adds_30 rfl (lv_at hl 1 rfl) ?_
  refine va_get (pc := 31) (D := Z.1) (ci := 7) (v := .ref (a0 27)) (C := RX7) (T := TX7) (N := 41) hx hb hts u7 hown hK hP 0 rfl rfl 26 (by decide) w4 (fun _ h9 => h9) rfl dX7_adds_31 ?_
  refine lv_iload (pc := 34) hx hb dX7_adds_34 (lv_at hl 0 rfl) ?_
  refine lv_iload (pc := 36) hx hb dX7_adds_36 (lv_at hl 5 rfl) ?_
  obtain ⟨g38, hf⟩ := gd hf
  refine va_iast (pc := 38) (D := Z.1) (n := 6) (f := s29.1 26) hx hb hK hP hD hS 22 0 rfl rfl (inb_in g38) dX7_adds_38 (fun H locs hP hD hS => ?_)
  obtain ⟨s38, h_38, hf⟩ := bd hf
  have hP : va_P Z.1 vwCl (wX7 Z a0 s38) H := st_P (f := fun z => wX7 Z a0 z) h_38 hP
  have hD : va_D A (wX7 Z a0 s38) := st_D (f := fun z => wX7 Z a0 z) h_38 hD
  refine lv_aload_n (pc := 39) hx hb dX7_adds_39 rfl (lv_at hl 1 rfl) ?_
  refine va_get (pc := 40) (D := Z.1) (ci := 7) (v := .ref (a0 29)) (C := RX7) (T := TX7) (N := 41) hx hb hts u7 hown hK hP 0 rfl rfl 28 (by decide) w5 (fun _ h9 => h9) rfl dX7_adds_40 ?_
  refine lv_iload (pc := 43) hx hb dX7_adds_43 (lv_at hl 0 rfl) ?_
  refine lv_iload (pc := 45) hx hb dX7_adds_45 (lv_at hl 6 rfl) ?_
  obtain ⟨g47, hf⟩ := gd hf
  refine va_iast (pc := 47) (D := Z.1) (n := 6) (f := s38.1 28) hx hb hK hP hD hS 24 0 rfl rfl (inb_in g47) dX7_adds_47 (fun H locs hP hD hS => ?_)
  obtain ⟨s47, h_47, hf⟩ := bd hf
  have hP : va_P Z.1 vwCl (wX7 Z a0 s47) H := st_P (f := fun z => wX7 Z a0 z) h_47 hP
  have hD : va_D A (wX7 Z a0 s47) := st_D (f := fun z => wX7 Z a0 z) h_47 hD
  refine lv_aload_n (pc := 48) hx hb dX7_adds_48 rfl (lv_at hl 1 rfl) ?_
  refine va_get (pc := 49) (D := Z.1) (ci := 7) (v := .ref (a0 28)) (C := RX7) (T := TX7) (N := 41) hx hb hts u7 hown hK hP 0 rfl rfl 27 (by decide) w6 (fun _ h9 => h9) rfl dX7_adds_49 ?_
  refine lv_iload (pc := 52) hx hb dX7_adds_52 (lv_at hl 0 rfl) ?_
  refine lv_iload (pc := 54) hx hb dX7_adds_54 (lv_at hl 7 rfl) ?_
  obtain ⟨g56, hf⟩ := gd hf
  refine va_iast (pc := 56) (D := Z.1) (n := 6) (f := s47.1 27) hx hb hK hP hD hS 23 0 rfl rfl (inb_in g56) dX7_adds_56 (fun H locs hP hD hS => ?_)
  obtain ⟨s56, h_56, hf⟩ := bd hf
  have hP : va_P Z.1 vwCl (wX7 Z a0 s56) H := st_P (f := fun z => wX7 Z a0 z) h_56 hP
  have hD : va_D A (wX7 Z a0 s56) := st_D (f := fun z => wX7 Z a0 z) h_56 hD
  refine lv_aload_n (pc := 57) hx hb dX7_adds_57 rfl (lv_at hl 1 rfl) ?_
  refine va_get (pc := 58) (D := Z.1) (ci := 7) (v := .ref (a0 31)) (C := RX7) (T := TX7) (N := 41) hx hb hts u7 hown hK hP 0 rfl rfl 30 (by decide) w7 (fun _ h9 => h9) rfl dX7_adds_58 ?_
  refine lv_iload (pc := 61) hx hb dX7_adds_61 (lv_at hl 0 rfl) ?_
  refine lv_iconst (pc := 63) (v := 0) hx hb dX7_adds_63 (by decide) ?_
  obtain ⟨g64, hf⟩ := gd hf
  refine va_iast (pc := 64) (D := Z.1) (n := 6) (f := s56.1 30) hx hb hK hP hD hS 26 0 rfl rfl (inb_in g64) dX7_adds_64 (fun H locs hP hD hS => ?_)
  obtain ⟨s64, h_64, hf⟩ := bd hf
  have hP : va_P Z.1 vwCl (wX7 Z a0 s64) H := st_P (f := fun z => wX7 Z a0 z) h_64 hP
  have hD : va_D A (wX7 Z a0 s64) := st_D (f := fun z => wX7 Z a0 z) h_64 hD
  refine lv_aload_n (pc := 65) hx hb dX7_adds_65 rfl (lv_at hl 1 rfl) ?_
  refine va_get (pc := 66) (D := Z.1) (ci := 7) (v := .ref (a0 32)) (C := RX7) (T := TX7) (N := 41) hx hb hts u7 hown hK hP 0 rfl rfl 31 (by decide) w8 (fun _ h9 => h9) rfl dX7_adds_66 ?_
  refine lv_iload (pc := 69) hx hb dX7_adds_69 (lv_at hl 0 rfl) ?_
  refine lv_sipush (pc := 71) (v := 500) hx hb dX7_adds_71 (by decide) ?_
  obtain ⟨g74, hf⟩ := gd hf
  refine va_iast (pc := 74) (D := Z.1) (n := 6) (f := s64.1 31) hx hb hK hP hD hS 27 0 rfl rfl (inb_in g74) dX7_adds_74 (fun H locs hP hD hS => ?_)
  obtain ⟨s74, h_74, hf⟩ := bd hf
  have hP : va_P Z.1 vwCl (wX7 Z a0 s74) H := st_P (f := fun z => wX7 Z a0 z) h_74 hP
  have hD : va_D A (wX7 Z a0 s74) := st_D (f := fun z => wX7 Z a0 z) h_74 hD
  refine lv_aload_n (pc := 75) hx hb dX7_adds_75 rfl (lv_at hl 1 rfl) ?_
  refine lv_dup (pc := 76) hx hb dX7_adds_76 rfl ?_
  refine va_get (pc := 77) (D := Z.1) (ci := 7) (v := .int (s74.1 22 0)) (C := RX7) (T := TX7) (N := 41) hx hb hts u7 hown hK hP 0 rfl rfl 22 (by decide) w0 (fun _ h9 => h9) rfl dX7_adds_77 ?_
  refine lv_iconst (pc := 80) (v := 1) hx hb dX7_adds_80 (by decide) ?_
  refine lv_iadd (pc := 81) hx hb dX7_adds_81 ?_
  refine va_put (pc := 82) (D := Z.1) (ci := 7) (v := .int ((s74.1 22 0) + 1)) (ty := .int) (C := RX7) (T := TX7) (N := 41) hx hb hts u7 tyX7 tyX7_ok nmX7 hown hK hP hD hS 0 rfl rfl 22 (by decide) w0 (fun _ h9 => h9) rfl (by decide +kernel) rfl rfl (Nat.le_of_ble_eq_true rfl) dX7_adds_82 (fun H locs hP hD hS => ?_)
  obtain ⟨s82, h_82, hf⟩ := bd hf
  have hP : va_P Z.1 vwCl (wX7 Z a0 s82) H := st_P (f := fun z => wX7 Z a0 z) h_82 hP
  have hD : va_D A (wX7 Z a0 s82) := st_D (f := fun z => wX7 Z a0 z) h_82 hD
  refine lv_iload (pc := 85) hx hb dX7_adds_85 (lv_at hl 0 rfl) ?_
  have hf := (Option.some.inj hf)
  subst hf
  exact rw_i (fun _ => 0) hx hb hr hlk rfl hP hD hS dX7_adds_87
def f_X7_isMix (o0 : ObS) (x1 : Int32) : Option (Int32) :=
  if 12 ≤ x1 then
    some ((0 : Int32))
  else
    if inb x1 12 then
    if (o0.1 3 (x1).toNatClampNeg) = 2 then
      some ((1 : Int32))
    else
      some ((0 : Int32))
    else none
set_option maxHeartbeats 4000000 in
set_option maxRecDepth 100000 in
theorem c_X7_isMix (Z : EnvT) (l : Launch) (a0 : Nat → Nat) (o0 : ObS) (x1 : Int32) (R : Int32) (hf : f_X7_isMix o0 x1 = some R) : RO Z l yX7_isMix wsX7_isMix { frames := 0, cells := 0, slots := 0, locals := 0 } [.ref (a0 0), .int x1] (wX7 Z a0 o0) (some (.int R)) := by
  refine ro_of (cc := cX7_isMix) (maxL := 2) (ret := (some .boolean)) (by decide) rfl (Nat.le_of_ble_eq_true rfl) ?_
  intro p e s m below meth c ls hx hb hr hml hts hown hlk hP hK hE hl
  have hown : s.vm.findClass RX7 = some m.cls := hown
  have hl : lv_has ls 2 [(0, .ref (a0 0)), (1, .int x1)] := hl
  have w0 := hts (.fieldLink RX7 7 "HeatTrainModel" "kinds" "[I") (by decide +kernel)
  have u7 : ∀ w ∈ wsX70, w ∈ wsX7_isMix := by decide +kernel
  rw [f_X7_isMix] at hf
  refine lv_iload_n (pc := 0) hx hb dX7_isMix_0 rfl (lv_at hl 1 rfl) ?_
  refine lv_bipush (pc := 1) (v := 12) hx hb dX7_isMix_1 (by decide) ?_
  refine lv_icmp_ge (pc := 3) (tgt := 20) hx hb dX7_isMix_3 (by decide) (fun c1 => ?_) (fun c1 => ?_)
  · have hf := (if_pos c1).symm.trans hf
    refine lv_iconst (pc := 20) (v := 0) hx hb dX7_isMix_20 (by decide) ?_
    exact ro_z hx hb hr hlk (Option.some.inj hf) rfl dX7_isMix_21
  · have hf := (if_neg c1).symm.trans hf
    refine lv_aload_n (pc := 6) hx hb dX7_isMix_6 rfl (lv_at hl 0 rfl) ?_
    refine va_get (pc := 7) (D := Z.1) (ci := 7) (v := .ref (a0 4)) (C := RX7) (T := TX7) (N := 41) hx hb hts u7 hown hK hP 0 rfl rfl 3 (by decide) w0 (fun _ h9 => h9) rfl dX7_isMix_7 ?_
    refine lv_iload_n (pc := 10) hx hb dX7_isMix_10 rfl (lv_at hl 1 rfl) ?_
    obtain ⟨g11, hf⟩ := gd hf
    refine va_iald (pc := 11) (D := Z.1) (n := 12) (f := o0.1 3) hx hb hK hP 1 0 rfl rfl (inb_in g11) dX7_isMix_11 ?_
    refine lv_iconst (pc := 12) (v := 2) hx hb dX7_isMix_12 (by decide) ?_
    refine lv_icmp_ne (pc := 13) (tgt := 20) hx hb dX7_isMix_13 (by decide) (fun c2 => ?_) (fun c2 => ?_)
    · have hf := (if_neg c2).symm.trans hf
      refine lv_iconst (pc := 20) (v := 0) hx hb dX7_isMix_20 (by decide) ?_
      exact ro_z hx hb hr hlk (Option.some.inj hf) rfl dX7_isMix_21
    · have hf := (if_pos c2).symm.trans hf
      refine lv_iconst (pc := 16) (v := 1) hx hb dX7_isMix_16 (by decide) ?_
      refine lv_goto (pc := 17) (tgt := 21) hx hb dX7_isMix_17 (by decide) ?_
      exact ro_z hx hb hr hlk (Option.some.inj hf) rfl dX7_isMix_21
def f_X7_control_b106 (o0 : ObS) (x1 : Int32) (x2 : Int32) (x3 : Int32) (x4 : Int32) (x5 : Int32) (k106_0 : Int32) : Option (Int32 × ObS) :=
  (f_X7_holds o0 k106_0).bind fun r106 =>
  if r106.1 = (0 : Int32) then
    some ((0 : Int32), r106.2)
  else
    (f_X7_adds r106.2 x1 x2 x3 x4 (-1) x5).bind fun r123 =>
    some (r123.1, r123.2)
def f_X7_control_b88 (o0 : ObS) (x1 : Int32) (x2 : Int32) (x3 : Int32) (x4 : Int32) (x5 : Int32)  : Option (Int32 × ObS) :=
  f_X7_control_b106 o0 x1 x2 x3 x4 x5 2
def f_X7_control_b62 (o0 : ObS) (x1 : Int32) (x2 : Int32) (x3 : Int32) (x4 : Int32) (x5 : Int32) (k22_0 : Int32) (k62_0 : Int32) : Option (Int32 × ObS) :=
  if k22_0 = (0 : Int32) then
    f_X7_control_b106 o0 x1 x2 x3 x4 x5 1
  else
    if k62_0 = (0 : Int32) then
      f_X7_control_b88 o0 x1 x2 x3 x4 x5
    else
      (f_X7_isMix o0 x5).bind fun r82 =>
      if r82 = (0 : Int32) then
        if (o0.1 22 0) = 6 then
          f_X7_control_b106 o0 x1 x2 x3 x4 x5 3
        else
          f_X7_control_b106 o0 x1 x2 x3 x4 x5 0
      else
        f_X7_control_b88 o0 x1 x2 x3 x4 x5
def f_X7_control_b61 (o0 : ObS) (x1 : Int32) (x2 : Int32) (x3 : Int32) (x4 : Int32) (x5 : Int32) (k22_0 : Int32)  : Option (Int32 × ObS) :=
  f_X7_control_b62 o0 x1 x2 x3 x4 x5 k22_0 0
def f_X7_control_b22 (o0 : ObS) (x1 : Int32) (x2 : Int32) (x3 : Int32) (x4 : Int32) (x5 : Int32) (k22_0 : Int32) : Option (Int32 × ObS) :=
  if (f_X7_in x2 0 3000) = (0 : Int32) then
    f_X7_control_b61 o0 x1 x2 x3 x4 x5 k22_0
  else
    if (f_X7_in x3 (-99) 99) = (0 : Int32) then
      f_X7_control_b61 o0 x1 x2 x3 x4 x5 k22_0
    else
      if (f_X7_in x4 0 99999) = (0 : Int32) then
        f_X7_control_b61 o0 x1 x2 x3 x4 x5 k22_0
      else
        f_X7_control_b62 o0 x1 x2 x3 x4 x5 k22_0 1
def f_X7_control_b21 (o0 : ObS) (x1 : Int32) (x2 : Int32) (x3 : Int32) (x4 : Int32) (x5 : Int32)  : Option (Int32 × ObS) :=
  f_X7_control_b22 o0 x1 x2 x3 x4 x5 0
def f_X7_control (o0 : ObS) (x1 : Int32) (x2 : Int32) (x3 : Int32) (x4 : Int32) (x5 : Int32) : Option (Int32 × ObS) :=
  (f_X7_isStream o0 x1).bind fun r2 =>
  if r2 = (0 : Int32) then
    f_X7_control_b21 o0 x1 x2 x3 x4 x5
  else
    (f_X7_canDrive o0 x5).bind fun r11 =>
    if r11 = (0 : Int32) then
      f_X7_control_b21 o0 x1 x2 x3 x4 x5
    else
      f_X7_control_b22 o0 x1 x2 x3 x4 x5 1
set_option maxHeartbeats 4000000 in
set_option maxRecDepth 100000 in
theorem c_X7_control (Z : EnvT) (l : Launch) (a0 : Nat → Nat) (o0 : ObS) (x1 : Int32) (x2 : Int32) (x3 : Int32) (x4 : Int32) (x5 : Int32) (R : Int32 × ObS) (hf : f_X7_control o0 x1 x2 x3 x4 x5 = some R) : RW Z l yX7_control wsX7_control { frames := 3, cells := 0, slots := 0, locals := 64 } [.ref (a0 0), .int x1, .int x2, .int x3, .int x4, .int x5] (wX7 Z a0 o0) (some (.int R.1)) (fun _ => wX7 Z a0 R.2) 0 0 := by
  refine rw_of (cc := cX7_control) (maxL := 8) (ret := (some .int)) (by decide) rfl (Nat.le_of_ble_eq_true rfl) ?_
  intro p e s m below meth c A ls hx hb hr hml hts hown hlk hin hP hK hE hD hA hS hl
  have hown : s.vm.findClass RX7 = some m.cls := hown
  have hl : lv_has ls 8 [(0, .ref (a0 0)), (1, .int x1), (2, .int x2), (3, .int x3), (4, .int x4), (5, .int x5)] := hl
  have w0 := hts (.constant RX7 131 (99999)) (by decide +kernel)
  have w1 := hts (.fieldLink RX7 128 "HeatTrainModel" "controllers" "I") (by decide +kernel)
  have u7 : ∀ w ∈ wsX70, w ∈ wsX7_control := by decide +kernel
  have B106 : ∀ (k106_0 : Int32) (ls : Array Slot), lv_has ls 8 [(0, .ref (a0 0)), (1, .int x1), (2, .int x2), (3, .int x3), (4, .int x4), (5, .int x5)] → ∀ (H : Heap) (locs : List Loc), va_P Z.1 vwCl (wX7 Z a0 o0) H → va_D A (wX7 Z a0 o0) → va_S A s.heap H locs → f_X7_control_b106 o0 x1 x2 x3 x4 x5 k106_0 = some R → W p l e { frames := 3, cells := 0, slots := 0, locals := 64 } s m ([.ref (a0 0), .int x1, .int x2, .int x3, .int x4, .int x5] : List Value).toArray below meth c H locs 0 0 (MQ below (rwQ Z (some (.int R.1)) (fun _ => wX7 Z a0 R.2) A) ([.ref (a0 0), .int x1, .int x2, .int x3, .int x4, .int x5] : List Value).toArray s 0 0 A) (F0 m 106 ls [.int k106_0, .ref (a0 0)]) := by
    intro k106_0 ls hl H locs hP hD hS hf
    rw [f_X7_control_b106] at hf
    obtain ⟨r106, h_106, hf⟩ := bd hf
    refine rw_V (pc := 106) (C := RX7) (As := [.int k106_0]) (rest := []) (st1 := [.int r106.1]) (wn := fun _ => wX7 Z a0 r106.2) ⟨hx, hb, hml, hown, hts⟩ (c_X7_holds Z l a0 o0 k106_0 r106 h_106) (cwV 1 hts gX7_control_X7_holds rfl rfl rfl hv_X7_holds ⟨Nat.le_of_ble_eq_true rfl, Nat.le_of_ble_eq_true rfl⟩) hK hE hP hD hS hA [0, 1, 2, 3, 4, 5, 6, 7, 8, 9, 10, 11, 12, 13, 14, 15, 16, 17, 18, 19, 20, 21, 22, 23, 24, 25, 26, 27, 28, 29, 30, 31, 32, 33, 34, 35] [] [0, 1, 2, 3, 4, 5, 6, 7, 8, 9, 10, 11, 12, 13, 14, 15, 16, 17, 18, 19, 20, 21, 22, 23, 24, 25, 26, 27, 28, 29, 30, 31, 32, 33, 34, 35] rfl rfl rfl (fun _ => rfl) 7 rfl rfl rfl hl.1 rfl (lv_room (Nat.le_of_ble_eq_true rfl)) dX7_control_106 ⟨Nat.le_of_ble_eq_true rfl, Nat.le_of_ble_eq_true rfl⟩ rfl (fun _ H locs hP hD hS => ?_)
    refine lv_if_ne (pc := 109) (tgt := 114) hx hb dX7_control_109 (by decide) (fun c1 => ?_) (fun c1 => ?_)
    · have hf := (if_neg c1).symm.trans hf
      refine lv_aload_n (pc := 114) hx hb dX7_control_114 rfl (lv_at hl 0 rfl) ?_
      refine lv_iload_n (pc := 115) hx hb dX7_control_115 rfl (lv_at hl 1 rfl) ?_
      refine lv_iload_n (pc := 116) hx hb dX7_control_116 rfl (lv_at hl 2 rfl) ?_
      refine lv_iload_n (pc := 117) hx hb dX7_control_117 rfl (lv_at hl 3 rfl) ?_
      refine lv_iload (pc := 118) hx hb dX7_control_118 (lv_at hl 4 rfl) ?_
      refine lv_iconst (pc := 120) (v := (-1)) hx hb dX7_control_120 (by decide) ?_
      refine lv_iload (pc := 121) hx hb dX7_control_121 (lv_at hl 5 rfl) ?_
      obtain ⟨r123, h_123, hf⟩ := bd hf
      refine rw_V (pc := 123) (C := RX7) (As := [.int x1, .int x2, .int x3, .int x4, .int (-1), .int x5]) (rest := []) (st1 := [.int r123.1]) (wn := fun _ => wX7 Z a0 r123.2) ⟨hx, hb, hml, hown, hts⟩ (c_X7_adds Z l a0 r106.2 x1 x2 x3 x4 (-1) x5 r123 h_123) (cwV 6 hts gX7_control_X7_adds rfl rfl rfl hv_X7_adds ⟨Nat.le_of_ble_eq_true rfl, Nat.le_of_ble_eq_true rfl⟩) hK hE hP hD hS hA [0, 1, 2, 3, 4, 5, 6, 7, 8, 9, 10, 11, 12, 13, 14, 15, 16, 17, 18, 19, 20, 21, 22, 23, 24, 25, 26, 27, 28, 29, 30, 31, 32, 33, 34, 35] [] [0, 1, 2, 3, 4, 5, 6, 7, 8, 9, 10, 11, 12, 13, 14, 15, 16, 17, 18, 19, 20, 21, 22, 23, 24, 25, 26, 27, 28, 29, 30, 31, 32, 33, 34, 35] rfl rfl rfl (fun _ => rfl) 7 rfl rfl rfl hl.1 rfl (lv_room (Nat.le_of_ble_eq_true rfl)) dX7_control_123 ⟨Nat.le_of_ble_eq_true rfl, Nat.le_of_ble_eq_true rfl⟩ rfl (fun _ H locs hP hD hS => ?_)
      have hf := (Option.some.inj hf)
      subst hf
      exact rw_i (fun _ => 0) hx hb hr hlk rfl hP hD hS dX7_control_126
    · have hf := (if_pos c1).symm.trans hf
      refine lv_iconst (pc := 112) (v := 0) hx hb dX7_control_112 (by decide) ?_
      have hf := (Option.some.inj hf)
      subst hf
      exact rw_i (fun _ => 0) hx hb hr hlk rfl hP hD hS dX7_control_113
  have B88 : ∀ (ls : Array Slot), lv_has ls 8 [(0, .ref (a0 0)), (1, .int x1), (2, .int x2), (3, .int x3), (4, .int x4), (5, .int x5)] → ∀ (H : Heap) (locs : List Loc), va_P Z.1 vwCl (wX7 Z a0 o0) H → va_D A (wX7 Z a0 o0) → va_S A s.heap H locs → f_X7_control_b88 o0 x1 x2 x3 x4 x5 = some R → W p l e { frames := 3, cells := 0, slots := 0, locals := 64 } s m ([.ref (a0 0), .int x1, .int x2, .int x3, .int x4, .int x5] : List Value).toArray below meth c H locs 0 0 (MQ below (rwQ Z (some (.int R.1)) (fun _ => wX7 Z a0 R.2) A) ([.ref (a0 0), .int x1, .int x2, .int x3, .int x4, .int x5] : List Value).toArray s 0 0 A) (F0 m 88 ls [.ref (a0 0)]) := by
    intro ls hl H locs hP hD hS hf
    rw [f_X7_control_b88] at hf
    refine lv_iconst (pc := 88) (v := 2) hx hb dX7_control_88 (by decide) ?_
    refine lv_goto (pc := 89) (tgt := 106) hx hb dX7_control_89 (by decide) ?_
    exact B106 2 _ (lv_sub hl [0, 1, 2, 3, 4, 5] rfl) _ _ hP hD hS hf
  have B62 : ∀ (k22_0 : Int32), ∀ (k62_0 : Int32) (ls : Array Slot), lv_has ls 8 [(0, .ref (a0 0)), (1, .int x1), (2, .int x2), (3, .int x3), (4, .int x4), (5, .int x5), (6, .int k22_0)] → ∀ (H : Heap) (locs : List Loc), va_P Z.1 vwCl (wX7 Z a0 o0) H → va_D A (wX7 Z a0 o0) → va_S A s.heap H locs → f_X7_control_b62 o0 x1 x2 x3 x4 x5 k22_0 k62_0 = some R → W p l e { frames := 3, cells := 0, slots := 0, locals := 64 } s m ([.ref (a0 0), .int x1, .int x2, .int x3, .int x4, .int x5] : List Value).toArray below meth c H locs 0 0 (MQ below (rwQ Z (some (.int R.1)) (fun _ => wX7 Z a0 R.2) A) ([.ref (a0 0), .int x1, .int x2, .int x3, .int x4, .int x5] : List Value).toArray s 0 0 A) (F0 m 62 ls [.int k62_0]) := by
    intro k22_0 k62_0 ls hl H locs hP hD hS hf
    rw [f_X7_control_b62] at hf
    refine lv_istore (pc := 62) (lv' := [(7, .int k62_0), (0, .ref (a0 0)), (1, .int x1), (2, .int x2), (3, .int x3), (4, .int x4), (5, .int x5), (6, .int k22_0)]) hx hb dX7_control_62 hl (by decide) rfl (fun ls hl => ?_)
    refine lv_aload_n (pc := 64) hx hb dX7_control_64 rfl (lv_at hl 1 rfl) ?_
    refine lv_iload (pc := 65) hx hb dX7_control_65 (lv_at hl 7 rfl) ?_
    refine lv_if_ne (pc := 67) (tgt := 74) hx hb dX7_control_67 (by decide) (fun c1 => ?_) (fun c1 => ?_)
    · have hf := (if_neg c1).symm.trans hf
      refine lv_iload (pc := 74) hx hb dX7_control_74 (lv_at hl 0 rfl) ?_
      refine lv_if_eq (pc := 76) (tgt := 88) hx hb dX7_control_76 (by decide) (fun c2 => ?_) (fun c2 => ?_)
      · have hf := (if_pos c2).symm.trans hf
        exact B88 _ (lv_sub hl [1, 2, 3, 4, 5, 6] rfl) _ _ hP hD hS hf
      · have hf := (if_neg c2).symm.trans hf
        refine lv_aload_n (pc := 79) hx hb dX7_control_79 rfl (lv_at hl 1 rfl) ?_
        refine lv_iload (pc := 80) hx hb dX7_control_80 (lv_at hl 6 rfl) ?_
        obtain ⟨r82, h_82, hf⟩ := bd hf
        refine ro_V (pc := 82) (C := RX7) (As := [.int x5]) (rest := [.ref (a0 0)]) (st1 := [.int r82, .ref (a0 0)]) ⟨hx, hb, hml, hown, hts⟩ (c_X7_isMix Z l a0 o0 x5 r82 h_82) (cwV 1 hts gX7_control_X7_isMix rfl rfl rfl hv_X7_isMix ⟨Nat.le_of_ble_eq_true rfl, Nat.le_of_ble_eq_true rfl⟩) hK hE hP 7 rfl rfl rfl hl.1 rfl (lv_room (Nat.le_of_ble_eq_true rfl)) dX7_control_82 ⟨Nat.le_of_ble_eq_true rfl, Nat.le_of_ble_eq_true rfl⟩ rfl ?_
        refine lv_if_eq (pc := 85) (tgt := 92) hx hb dX7_control_85 (by decide) (fun c3 => ?_) (fun c3 => ?_)
        · have hf := (if_pos c3).symm.trans hf
          refine lv_aload_n (pc := 92) hx hb dX7_control_92 rfl (lv_at hl 1 rfl) ?_
          refine va_get (pc := 93) (D := Z.1) (ci := 7) (v := .int (o0.1 22 0)) (C := RX7) (T := TX7) (N := 41) hx hb hts u7 hown hK hP 0 rfl rfl 22 (by decide) w1 (fun _ h9 => h9) rfl dX7_control_93 ?_
          refine lv_bipush (pc := 96) (v := 6) hx hb dX7_control_96 (by decide) ?_
          refine lv_icmp_ne (pc := 98) (tgt := 105) hx hb dX7_control_98 (by decide) (fun c4 => ?_) (fun c4 => ?_)
          · have hf := (if_neg c4).symm.trans hf
            refine lv_iconst (pc := 105) (v := 0) hx hb dX7_control_105 (by decide) ?_
            exact B106 0 _ (lv_sub hl [1, 2, 3, 4, 5, 6] rfl) _ _ hP hD hS hf
          · have hf := (if_pos c4).symm.trans hf
            refine lv_iconst (pc := 101) (v := 3) hx hb dX7_control_101 (by decide) ?_
            refine lv_goto (pc := 102) (tgt := 106) hx hb dX7_control_102 (by decide) ?_
            exact B106 3 _ (lv_sub hl [1, 2, 3, 4, 5, 6] rfl) _ _ hP hD hS hf
        · have hf := (if_neg c3).symm.trans hf
          exact B88 _ (lv_sub hl [1, 2, 3, 4, 5, 6] rfl) _ _ hP hD hS hf
    · have hf := (if_pos c1).symm.trans hf
      refine lv_iconst (pc := 70) (v := 1) hx hb dX7_control_70 (by decide) ?_
      refine lv_goto (pc := 71) (tgt := 106) hx hb dX7_control_71 (by decide) ?_
      exact B106 1 _ (lv_sub hl [1, 2, 3, 4, 5, 6] rfl) _ _ hP hD hS hf
  have B61 : ∀ (k22_0 : Int32), ∀ (ls : Array Slot), lv_has ls 8 [(0, .ref (a0 0)), (1, .int x1), (2, .int x2), (3, .int x3), (4, .int x4), (5, .int x5), (6, .int k22_0)] → ∀ (H : Heap) (locs : List Loc), va_P Z.1 vwCl (wX7 Z a0 o0) H → va_D A (wX7 Z a0 o0) → va_S A s.heap H locs → f_X7_control_b61 o0 x1 x2 x3 x4 x5 k22_0 = some R → W p l e { frames := 3, cells := 0, slots := 0, locals := 64 } s m ([.ref (a0 0), .int x1, .int x2, .int x3, .int x4, .int x5] : List Value).toArray below meth c H locs 0 0 (MQ below (rwQ Z (some (.int R.1)) (fun _ => wX7 Z a0 R.2) A) ([.ref (a0 0), .int x1, .int x2, .int x3, .int x4, .int x5] : List Value).toArray s 0 0 A) (F0 m 61 ls []) := by
    intro k22_0 ls hl H locs hP hD hS hf
    rw [f_X7_control_b61] at hf
    refine lv_iconst (pc := 61) (v := 0) hx hb dX7_control_61 (by decide) ?_
    exact B62 k22_0 0 _ (lv_sub hl [0, 1, 2, 3, 4, 5, 6] rfl) _ _ hP hD hS hf
  have B22 : ∀ (k22_0 : Int32) (ls : Array Slot), lv_has ls 8 [(0, .ref (a0 0)), (1, .int x1), (2, .int x2), (3, .int x3), (4, .int x4), (5, .int x5)] → ∀ (H : Heap) (locs : List Loc), va_P Z.1 vwCl (wX7 Z a0 o0) H → va_D A (wX7 Z a0 o0) → va_S A s.heap H locs → f_X7_control_b22 o0 x1 x2 x3 x4 x5 k22_0 = some R → W p l e { frames := 3, cells := 0, slots := 0, locals := 64 } s m ([.ref (a0 0), .int x1, .int x2, .int x3, .int x4, .int x5] : List Value).toArray below meth c H locs 0 0 (MQ below (rwQ Z (some (.int R.1)) (fun _ => wX7 Z a0 R.2) A) ([.ref (a0 0), .int x1, .int x2, .int x3, .int x4, .int x5] : List Value).toArray s 0 0 A) (F0 m 22 ls [.int k22_0]) := by
    intro k22_0 ls hl H locs hP hD hS hf
    rw [f_X7_control_b22] at hf
    refine lv_istore (pc := 22) (lv' := [(6, .int k22_0), (0, .ref (a0 0)), (1, .int x1), (2, .int x2), (3, .int x3), (4, .int x4), (5, .int x5)]) hx hb dX7_control_22 hl (by decide) rfl (fun ls hl => ?_)
    refine lv_iload_n (pc := 24) hx hb dX7_control_24 rfl (lv_at hl 3 rfl) ?_
    refine lv_iconst (pc := 25) (v := 0) hx hb dX7_control_25 (by decide) ?_
    refine lv_sipush (pc := 26) (v := 3000) hx hb dX7_control_26 (by decide) ?_
    refine ro_S (pc := 29) (As := [.int x2, .int 0, .int 3000]) (rest := []) (st1 := [.int (f_X7_in x2 0 3000)]) ⟨hx, hb, hml, hown, hts⟩ (c_X7_in Z l x2 0 3000 _ rfl) (va_cwS 3 hts gX7_control_X7_in rfl rfl rfl hs_X7_in ⟨Nat.le_of_ble_eq_true rfl, Nat.le_of_ble_eq_true rfl⟩) hK hE (hP.sub (ws' := []) [] rfl) rfl hl.1 rfl (lv_room (Nat.le_of_ble_eq_true rfl)) dX7_control_29 ⟨Nat.le_of_ble_eq_true rfl, Nat.le_of_ble_eq_true rfl⟩ rfl ?_
    refine lv_if_eq (pc := 32) (tgt := 61) hx hb dX7_control_32 (by decide) (fun c1 => ?_) (fun c1 => ?_)
    · have hf := (if_pos c1).symm.trans hf
      exact B61 k22_0 _ (lv_sub hl [1, 2, 3, 4, 5, 6, 0] rfl) _ _ hP hD hS hf
    · have hf := (if_neg c1).symm.trans hf
      refine lv_iload_n (pc := 35) hx hb dX7_control_35 rfl (lv_at hl 4 rfl) ?_
      refine lv_bipush (pc := 36) (v := (-99)) hx hb dX7_control_36 (by decide) ?_
      refine lv_bipush (pc := 38) (v := 99) hx hb dX7_control_38 (by decide) ?_
      refine ro_S (pc := 40) (As := [.int x3, .int (-99), .int 99]) (rest := []) (st1 := [.int (f_X7_in x3 (-99) 99)]) ⟨hx, hb, hml, hown, hts⟩ (c_X7_in Z l x3 (-99) 99 _ rfl) (va_cwS 3 hts gX7_control_X7_in rfl rfl rfl hs_X7_in ⟨Nat.le_of_ble_eq_true rfl, Nat.le_of_ble_eq_true rfl⟩) hK hE (hP.sub (ws' := []) [] rfl) rfl hl.1 rfl (lv_room (Nat.le_of_ble_eq_true rfl)) dX7_control_40 ⟨Nat.le_of_ble_eq_true rfl, Nat.le_of_ble_eq_true rfl⟩ rfl ?_
      refine lv_if_eq (pc := 43) (tgt := 61) hx hb dX7_control_43 (by decide) (fun c2 => ?_) (fun c2 => ?_)
      · have hf := (if_pos c2).symm.trans hf
        exact B61 k22_0 _ (lv_sub hl [1, 2, 3, 4, 5, 6, 0] rfl) _ _ hP hD hS hf
      · have hf := (if_neg c2).symm.trans hf
        refine lv_iload (pc := 46) hx hb dX7_control_46 (lv_at hl 5 rfl) ?_
        refine lv_iconst (pc := 48) (v := 0) hx hb dX7_control_48 (by decide) ?_
        refine lv_ldc (pc := 49) (v := 99999) hx hb hown w0 dX7_control_49 ?_
        refine ro_S (pc := 51) (As := [.int x4, .int 0, .int 99999]) (rest := []) (st1 := [.int (f_X7_in x4 0 99999)]) ⟨hx, hb, hml, hown, hts⟩ (c_X7_in Z l x4 0 99999 _ rfl) (va_cwS 3 hts gX7_control_X7_in rfl rfl rfl hs_X7_in ⟨Nat.le_of_ble_eq_true rfl, Nat.le_of_ble_eq_true rfl⟩) hK hE (hP.sub (ws' := []) [] rfl) rfl hl.1 rfl (lv_room (Nat.le_of_ble_eq_true rfl)) dX7_control_51 ⟨Nat.le_of_ble_eq_true rfl, Nat.le_of_ble_eq_true rfl⟩ rfl ?_
        refine lv_if_eq (pc := 54) (tgt := 61) hx hb dX7_control_54 (by decide) (fun c3 => ?_) (fun c3 => ?_)
        · have hf := (if_pos c3).symm.trans hf
          exact B61 k22_0 _ (lv_sub hl [1, 2, 3, 4, 5, 6, 0] rfl) _ _ hP hD hS hf
        · have hf := (if_neg c3).symm.trans hf
          refine lv_iconst (pc := 57) (v := 1) hx hb dX7_control_57 (by decide) ?_
          refine lv_goto (pc := 58) (tgt := 62) hx hb dX7_control_58 (by decide) ?_
          exact B62 k22_0 1 _ (lv_sub hl [1, 2, 3, 4, 5, 6, 0] rfl) _ _ hP hD hS hf
  have B21 : ∀ (ls : Array Slot), lv_has ls 8 [(0, .ref (a0 0)), (1, .int x1), (2, .int x2), (3, .int x3), (4, .int x4), (5, .int x5)] → ∀ (H : Heap) (locs : List Loc), va_P Z.1 vwCl (wX7 Z a0 o0) H → va_D A (wX7 Z a0 o0) → va_S A s.heap H locs → f_X7_control_b21 o0 x1 x2 x3 x4 x5 = some R → W p l e { frames := 3, cells := 0, slots := 0, locals := 64 } s m ([.ref (a0 0), .int x1, .int x2, .int x3, .int x4, .int x5] : List Value).toArray below meth c H locs 0 0 (MQ below (rwQ Z (some (.int R.1)) (fun _ => wX7 Z a0 R.2) A) ([.ref (a0 0), .int x1, .int x2, .int x3, .int x4, .int x5] : List Value).toArray s 0 0 A) (F0 m 21 ls []) := by
    intro ls hl H locs hP hD hS hf
    rw [f_X7_control_b21] at hf
    refine lv_iconst (pc := 21) (v := 0) hx hb dX7_control_21 (by decide) ?_
    exact B22 0 _ (lv_sub hl [0, 1, 2, 3, 4, 5] rfl) _ _ hP hD hS hf
  rw [f_X7_control] at hf
  refine lv_aload_n (pc := 0) hx hb dX7_control_0 rfl (lv_at hl 0 rfl) ?_
  refine lv_iload_n (pc := 1) hx hb dX7_control_1 rfl (lv_at hl 1 rfl) ?_
  obtain ⟨r2, h_2, hf⟩ := bd hf
  refine ro_V (pc := 2) (C := RX7) (As := [.int x1]) (rest := []) (st1 := [.int r2]) ⟨hx, hb, hml, hown, hts⟩ (c_X7_isStream Z l a0 o0 x1 r2 h_2) (cwV 1 hts gX7_control_X7_isStream rfl rfl rfl hv_X7_isStream ⟨Nat.le_of_ble_eq_true rfl, Nat.le_of_ble_eq_true rfl⟩) hK hE hP 7 rfl rfl rfl hl.1 rfl (lv_room (Nat.le_of_ble_eq_true rfl)) dX7_control_2 ⟨Nat.le_of_ble_eq_true rfl, Nat.le_of_ble_eq_true rfl⟩ rfl ?_
  refine lv_if_eq (pc := 5) (tgt := 21) hx hb dX7_control_5 (by decide) (fun c1 => ?_) (fun c1 => ?_)
  · have hf := (if_pos c1).symm.trans hf
    exact B21 _ (lv_sub hl [0, 1, 2, 3, 4, 5] rfl) _ _ hP hD hS hf
  · have hf := (if_neg c1).symm.trans hf
    refine lv_aload_n (pc := 8) hx hb dX7_control_8 rfl (lv_at hl 0 rfl) ?_
    refine lv_iload (pc := 9) hx hb dX7_control_9 (lv_at hl 5 rfl) ?_
    obtain ⟨r11, h_11, hf⟩ := bd hf
    refine ro_V (pc := 11) (C := RX7) (As := [.int x5]) (rest := []) (st1 := [.int r11]) ⟨hx, hb, hml, hown, hts⟩ (c_X7_canDrive Z l a0 o0 x5 r11 h_11) (cwV 1 hts gX7_control_X7_canDrive rfl rfl rfl hv_X7_canDrive ⟨Nat.le_of_ble_eq_true rfl, Nat.le_of_ble_eq_true rfl⟩) hK hE hP 7 rfl rfl rfl hl.1 rfl (lv_room (Nat.le_of_ble_eq_true rfl)) dX7_control_11 ⟨Nat.le_of_ble_eq_true rfl, Nat.le_of_ble_eq_true rfl⟩ rfl ?_
    refine lv_if_eq (pc := 14) (tgt := 21) hx hb dX7_control_14 (by decide) (fun c2 => ?_) (fun c2 => ?_)
    · have hf := (if_pos c2).symm.trans hf
      exact B21 _ (lv_sub hl [0, 1, 2, 3, 4, 5] rfl) _ _ hP hD hS hf
    · have hf := (if_neg c2).symm.trans hf
      refine lv_iconst (pc := 17) (v := 1) hx hb dX7_control_17 (by decide) ?_
      refine lv_goto (pc := 18) (tgt := 22) hx hb dX7_control_18 (by decide) ?_
      exact B22 1 _ (lv_sub hl [0, 1, 2, 3, 4, 5] rfl) _ _ hP hD hS hf
def f_X7_ratio_b70 (o0 : ObS) (x1 : Int32) (x2 : Int32) (x3 : Int32) (k70_0 : Int32) : Option (Int32 × ObS) :=
  (f_X7_holds o0 k70_0).bind fun r70 =>
  if r70.1 = (0 : Int32) then
    some ((0 : Int32), r70.2)
  else
    (f_X7_adds r70.2 x1 0 0 0 x2 x3).bind fun r85 =>
    some (r85.1, r85.2)
def f_X7_ratio_b52 (o0 : ObS) (x1 : Int32) (x2 : Int32) (x3 : Int32)  : Option (Int32 × ObS) :=
  f_X7_ratio_b70 o0 x1 x2 x3 2
def f_X7_ratio_b21 (o0 : ObS) (x1 : Int32) (x2 : Int32) (x3 : Int32) (k21_0 : Int32) : Option (Int32 × ObS) :=
  if k21_0 = (0 : Int32) then
    f_X7_ratio_b70 o0 x1 x2 x3 1
  else
    if (f_X7_in x2 0 999) = (0 : Int32) then
      f_X7_ratio_b52 o0 x1 x2 x3
    else
      (f_X7_isMix o0 x3).bind fun r46 =>
      if r46 = (0 : Int32) then
        if (o0.1 22 0) = 6 then
          f_X7_ratio_b70 o0 x1 x2 x3 3
        else
          f_X7_ratio_b70 o0 x1 x2 x3 0
      else
        f_X7_ratio_b52 o0 x1 x2 x3
def f_X7_ratio_b20 (o0 : ObS) (x1 : Int32) (x2 : Int32) (x3 : Int32)  : Option (Int32 × ObS) :=
  f_X7_ratio_b21 o0 x1 x2 x3 0
def f_X7_ratio (o0 : ObS) (x1 : Int32) (x2 : Int32) (x3 : Int32) : Option (Int32 × ObS) :=
  (f_X7_isStream o0 x1).bind fun r2 =>
  if r2 = (0 : Int32) then
    f_X7_ratio_b20 o0 x1 x2 x3
  else
    (f_X7_isUnit o0 x3).bind fun r10 =>
    if r10 = (0 : Int32) then
      f_X7_ratio_b20 o0 x1 x2 x3
    else
      f_X7_ratio_b21 o0 x1 x2 x3 1
set_option maxHeartbeats 4000000 in
set_option maxRecDepth 100000 in
theorem c_X7_ratio (Z : EnvT) (l : Launch) (a0 : Nat → Nat) (o0 : ObS) (x1 : Int32) (x2 : Int32) (x3 : Int32) (R : Int32 × ObS) (hf : f_X7_ratio o0 x1 x2 x3 = some R) : RW Z l yX7_ratio wsX7_ratio { frames := 2, cells := 0, slots := 0, locals := 43 } [.ref (a0 0), .int x1, .int x2, .int x3] (wX7 Z a0 o0) (some (.int R.1)) (fun _ => wX7 Z a0 R.2) 0 0 := by
  refine rw_of (cc := cX7_ratio) (maxL := 5) (ret := (some .int)) (by decide) rfl (Nat.le_of_ble_eq_true rfl) ?_
  intro p e s m below meth c A ls hx hb hr hml hts hown hlk hin hP hK hE hD hA hS hl
  have hown : s.vm.findClass RX7 = some m.cls := hown
  have hl : lv_has ls 5 [(0, .ref (a0 0)), (1, .int x1), (2, .int x2), (3, .int x3)] := hl
  have w0 := hts (.fieldLink RX7 128 "HeatTrainModel" "controllers" "I") (by decide +kernel)
  have u7 : ∀ w ∈ wsX70, w ∈ wsX7_ratio := by decide +kernel
  have B70 : ∀ (k70_0 : Int32) (ls : Array Slot), lv_has ls 5 [(0, .ref (a0 0)), (1, .int x1), (2, .int x2), (3, .int x3)] → ∀ (H : Heap) (locs : List Loc), va_P Z.1 vwCl (wX7 Z a0 o0) H → va_D A (wX7 Z a0 o0) → va_S A s.heap H locs → f_X7_ratio_b70 o0 x1 x2 x3 k70_0 = some R → W p l e { frames := 2, cells := 0, slots := 0, locals := 43 } s m ([.ref (a0 0), .int x1, .int x2, .int x3] : List Value).toArray below meth c H locs 0 0 (MQ below (rwQ Z (some (.int R.1)) (fun _ => wX7 Z a0 R.2) A) ([.ref (a0 0), .int x1, .int x2, .int x3] : List Value).toArray s 0 0 A) (F0 m 70 ls [.int k70_0, .ref (a0 0)]) := by
    intro k70_0 ls hl H locs hP hD hS hf
    rw [f_X7_ratio_b70] at hf
    obtain ⟨r70, h_70, hf⟩ := bd hf
    refine rw_V (pc := 70) (C := RX7) (As := [.int k70_0]) (rest := []) (st1 := [.int r70.1]) (wn := fun _ => wX7 Z a0 r70.2) ⟨hx, hb, hml, hown, hts⟩ (c_X7_holds Z l a0 o0 k70_0 r70 h_70) (cwV 1 hts gX7_ratio_X7_holds rfl rfl rfl hv_X7_holds ⟨Nat.le_of_ble_eq_true rfl, Nat.le_of_ble_eq_true rfl⟩) hK hE hP hD hS hA [0, 1, 2, 3, 4, 5, 6, 7, 8, 9, 10, 11, 12, 13, 14, 15, 16, 17, 18, 19, 20, 21, 22, 23, 24, 25, 26, 27, 28, 29, 30, 31, 32, 33, 34, 35] [] [0, 1, 2, 3, 4, 5, 6, 7, 8, 9, 10, 11, 12, 13, 14, 15, 16, 17, 18, 19, 20, 21, 22, 23, 24, 25, 26, 27, 28, 29, 30, 31, 32, 33, 34, 35] rfl rfl rfl (fun _ => rfl) 7 rfl rfl rfl hl.1 rfl (lv_room (Nat.le_of_ble_eq_true rfl)) dX7_ratio_70 ⟨Nat.le_of_ble_eq_true rfl, Nat.le_of_ble_eq_true rfl⟩ rfl (fun _ H locs hP hD hS => ?_)
    refine lv_if_ne (pc := 73) (tgt := 78) hx hb dX7_ratio_73 (by decide) (fun c1 => ?_) (fun c1 => ?_)
    · have hf := (if_neg c1).symm.trans hf
      refine lv_aload_n (pc := 78) hx hb dX7_ratio_78 rfl (lv_at hl 0 rfl) ?_
      refine lv_iload_n (pc := 79) hx hb dX7_ratio_79 rfl (lv_at hl 1 rfl) ?_
      refine lv_iconst (pc := 80) (v := 0) hx hb dX7_ratio_80 (by decide) ?_
      refine lv_iconst (pc := 81) (v := 0) hx hb dX7_ratio_81 (by decide) ?_
      refine lv_iconst (pc := 82) (v := 0) hx hb dX7_ratio_82 (by decide) ?_
      refine lv_iload_n (pc := 83) hx hb dX7_ratio_83 rfl (lv_at hl 2 rfl) ?_
      refine lv_iload_n (pc := 84) hx hb dX7_ratio_84 rfl (lv_at hl 3 rfl) ?_
      obtain ⟨r85, h_85, hf⟩ := bd hf
      refine rw_V (pc := 85) (C := RX7) (As := [.int x1, .int 0, .int 0, .int 0, .int x2, .int x3]) (rest := []) (st1 := [.int r85.1]) (wn := fun _ => wX7 Z a0 r85.2) ⟨hx, hb, hml, hown, hts⟩ (c_X7_adds Z l a0 r70.2 x1 0 0 0 x2 x3 r85 h_85) (cwV 6 hts gX7_ratio_X7_adds rfl rfl rfl hv_X7_adds ⟨Nat.le_of_ble_eq_true rfl, Nat.le_of_ble_eq_true rfl⟩) hK hE hP hD hS hA [0, 1, 2, 3, 4, 5, 6, 7, 8, 9, 10, 11, 12, 13, 14, 15, 16, 17, 18, 19, 20, 21, 22, 23, 24, 25, 26, 27, 28, 29, 30, 31, 32, 33, 34, 35] [] [0, 1, 2, 3, 4, 5, 6, 7, 8, 9, 10, 11, 12, 13, 14, 15, 16, 17, 18, 19, 20, 21, 22, 23, 24, 25, 26, 27, 28, 29, 30, 31, 32, 33, 34, 35] rfl rfl rfl (fun _ => rfl) 7 rfl rfl rfl hl.1 rfl (lv_room (Nat.le_of_ble_eq_true rfl)) dX7_ratio_85 ⟨Nat.le_of_ble_eq_true rfl, Nat.le_of_ble_eq_true rfl⟩ rfl (fun _ H locs hP hD hS => ?_)
      have hf := (Option.some.inj hf)
      subst hf
      exact rw_i (fun _ => 0) hx hb hr hlk rfl hP hD hS dX7_ratio_88
    · have hf := (if_pos c1).symm.trans hf
      refine lv_iconst (pc := 76) (v := 0) hx hb dX7_ratio_76 (by decide) ?_
      have hf := (Option.some.inj hf)
      subst hf
      exact rw_i (fun _ => 0) hx hb hr hlk rfl hP hD hS dX7_ratio_77
  have B52 : ∀ (ls : Array Slot), lv_has ls 5 [(0, .ref (a0 0)), (1, .int x1), (2, .int x2), (3, .int x3)] → ∀ (H : Heap) (locs : List Loc), va_P Z.1 vwCl (wX7 Z a0 o0) H → va_D A (wX7 Z a0 o0) → va_S A s.heap H locs → f_X7_ratio_b52 o0 x1 x2 x3 = some R → W p l e { frames := 2, cells := 0, slots := 0, locals := 43 } s m ([.ref (a0 0), .int x1, .int x2, .int x3] : List Value).toArray below meth c H locs 0 0 (MQ below (rwQ Z (some (.int R.1)) (fun _ => wX7 Z a0 R.2) A) ([.ref (a0 0), .int x1, .int x2, .int x3] : List Value).toArray s 0 0 A) (F0 m 52 ls [.ref (a0 0)]) := by
    intro ls hl H locs hP hD hS hf
    rw [f_X7_ratio_b52] at hf
    refine lv_iconst (pc := 52) (v := 2) hx hb dX7_ratio_52 (by decide) ?_
    refine lv_goto (pc := 53) (tgt := 70) hx hb dX7_ratio_53 (by decide) ?_
    exact B70 2 _ (lv_sub hl [0, 1, 2, 3] rfl) _ _ hP hD hS hf
  have B21 : ∀ (k21_0 : Int32) (ls : Array Slot), lv_has ls 5 [(0, .ref (a0 0)), (1, .int x1), (2, .int x2), (3, .int x3)] → ∀ (H : Heap) (locs : List Loc), va_P Z.1 vwCl (wX7 Z a0 o0) H → va_D A (wX7 Z a0 o0) → va_S A s.heap H locs → f_X7_ratio_b21 o0 x1 x2 x3 k21_0 = some R → W p l e { frames := 2, cells := 0, slots := 0, locals := 43 } s m ([.ref (a0 0), .int x1, .int x2, .int x3] : List Value).toArray below meth c H locs 0 0 (MQ below (rwQ Z (some (.int R.1)) (fun _ => wX7 Z a0 R.2) A) ([.ref (a0 0), .int x1, .int x2, .int x3] : List Value).toArray s 0 0 A) (F0 m 21 ls [.int k21_0]) := by
    intro k21_0 ls hl H locs hP hD hS hf
    rw [f_X7_ratio_b21] at hf
    refine lv_istore (pc := 21) (lv' := [(4, .int k21_0), (0, .ref (a0 0)), (1, .int x1), (2, .int x2), (3, .int x3)]) hx hb dX7_ratio_21 hl (by decide) rfl (fun ls hl => ?_)
    refine lv_aload_n (pc := 23) hx hb dX7_ratio_23 rfl (lv_at hl 1 rfl) ?_
    refine lv_iload (pc := 24) hx hb dX7_ratio_24 (lv_at hl 0 rfl) ?_
    refine lv_if_ne (pc := 26) (tgt := 33) hx hb dX7_ratio_26 (by decide) (fun c1 => ?_) (fun c1 => ?_)
    · have hf := (if_neg c1).symm.trans hf
      refine lv_iload_n (pc := 33) hx hb dX7_ratio_33 rfl (lv_at hl 3 rfl) ?_
      refine lv_iconst (pc := 34) (v := 0) hx hb dX7_ratio_34 (by decide) ?_
      refine lv_sipush (pc := 35) (v := 999) hx hb dX7_ratio_35 (by decide) ?_
      refine ro_S (pc := 38) (As := [.int x2, .int 0, .int 999]) (rest := [.ref (a0 0)]) (st1 := [.int (f_X7_in x2 0 999), .ref (a0 0)]) ⟨hx, hb, hml, hown, hts⟩ (c_X7_in Z l x2 0 999 _ rfl) (va_cwS 3 hts gX7_ratio_X7_in rfl rfl rfl hs_X7_in ⟨Nat.le_of_ble_eq_true rfl, Nat.le_of_ble_eq_true rfl⟩) hK hE (hP.sub (ws' := []) [] rfl) rfl hl.1 rfl (lv_room (Nat.le_of_ble_eq_true rfl)) dX7_ratio_38 ⟨Nat.le_of_ble_eq_true rfl, Nat.le_of_ble_eq_true rfl⟩ rfl ?_
      refine lv_if_eq (pc := 41) (tgt := 52) hx hb dX7_ratio_41 (by decide) (fun c2 => ?_) (fun c2 => ?_)
      · have hf := (if_pos c2).symm.trans hf
        exact B52 _ (lv_sub hl [1, 2, 3, 4] rfl) _ _ hP hD hS hf
      · have hf := (if_neg c2).symm.trans hf
        refine lv_aload_n (pc := 44) hx hb dX7_ratio_44 rfl (lv_at hl 1 rfl) ?_
        refine lv_iload_n (pc := 45) hx hb dX7_ratio_45 rfl (lv_at hl 4 rfl) ?_
        obtain ⟨r46, h_46, hf⟩ := bd hf
        refine ro_V (pc := 46) (C := RX7) (As := [.int x3]) (rest := [.ref (a0 0)]) (st1 := [.int r46, .ref (a0 0)]) ⟨hx, hb, hml, hown, hts⟩ (c_X7_isMix Z l a0 o0 x3 r46 h_46) (cwV 1 hts gX7_ratio_X7_isMix rfl rfl rfl hv_X7_isMix ⟨Nat.le_of_ble_eq_true rfl, Nat.le_of_ble_eq_true rfl⟩) hK hE hP 7 rfl rfl rfl hl.1 rfl (lv_room (Nat.le_of_ble_eq_true rfl)) dX7_ratio_46 ⟨Nat.le_of_ble_eq_true rfl, Nat.le_of_ble_eq_true rfl⟩ rfl ?_
        refine lv_if_eq (pc := 49) (tgt := 56) hx hb dX7_ratio_49 (by decide) (fun c3 => ?_) (fun c3 => ?_)
        · have hf := (if_pos c3).symm.trans hf
          refine lv_aload_n (pc := 56) hx hb dX7_ratio_56 rfl (lv_at hl 1 rfl) ?_
          refine va_get (pc := 57) (D := Z.1) (ci := 7) (v := .int (o0.1 22 0)) (C := RX7) (T := TX7) (N := 41) hx hb hts u7 hown hK hP 0 rfl rfl 22 (by decide) w0 (fun _ h9 => h9) rfl dX7_ratio_57 ?_
          refine lv_bipush (pc := 60) (v := 6) hx hb dX7_ratio_60 (by decide) ?_
          refine lv_icmp_ne (pc := 62) (tgt := 69) hx hb dX7_ratio_62 (by decide) (fun c4 => ?_) (fun c4 => ?_)
          · have hf := (if_neg c4).symm.trans hf
            refine lv_iconst (pc := 69) (v := 0) hx hb dX7_ratio_69 (by decide) ?_
            exact B70 0 _ (lv_sub hl [1, 2, 3, 4] rfl) _ _ hP hD hS hf
          · have hf := (if_pos c4).symm.trans hf
            refine lv_iconst (pc := 65) (v := 3) hx hb dX7_ratio_65 (by decide) ?_
            refine lv_goto (pc := 66) (tgt := 70) hx hb dX7_ratio_66 (by decide) ?_
            exact B70 3 _ (lv_sub hl [1, 2, 3, 4] rfl) _ _ hP hD hS hf
        · have hf := (if_neg c3).symm.trans hf
          exact B52 _ (lv_sub hl [1, 2, 3, 4] rfl) _ _ hP hD hS hf
    · have hf := (if_pos c1).symm.trans hf
      refine lv_iconst (pc := 29) (v := 1) hx hb dX7_ratio_29 (by decide) ?_
      refine lv_goto (pc := 30) (tgt := 70) hx hb dX7_ratio_30 (by decide) ?_
      exact B70 1 _ (lv_sub hl [1, 2, 3, 4] rfl) _ _ hP hD hS hf
  have B20 : ∀ (ls : Array Slot), lv_has ls 5 [(0, .ref (a0 0)), (1, .int x1), (2, .int x2), (3, .int x3)] → ∀ (H : Heap) (locs : List Loc), va_P Z.1 vwCl (wX7 Z a0 o0) H → va_D A (wX7 Z a0 o0) → va_S A s.heap H locs → f_X7_ratio_b20 o0 x1 x2 x3 = some R → W p l e { frames := 2, cells := 0, slots := 0, locals := 43 } s m ([.ref (a0 0), .int x1, .int x2, .int x3] : List Value).toArray below meth c H locs 0 0 (MQ below (rwQ Z (some (.int R.1)) (fun _ => wX7 Z a0 R.2) A) ([.ref (a0 0), .int x1, .int x2, .int x3] : List Value).toArray s 0 0 A) (F0 m 20 ls []) := by
    intro ls hl H locs hP hD hS hf
    rw [f_X7_ratio_b20] at hf
    refine lv_iconst (pc := 20) (v := 0) hx hb dX7_ratio_20 (by decide) ?_
    exact B21 0 _ (lv_sub hl [0, 1, 2, 3] rfl) _ _ hP hD hS hf
  rw [f_X7_ratio] at hf
  refine lv_aload_n (pc := 0) hx hb dX7_ratio_0 rfl (lv_at hl 0 rfl) ?_
  refine lv_iload_n (pc := 1) hx hb dX7_ratio_1 rfl (lv_at hl 1 rfl) ?_
  obtain ⟨r2, h_2, hf⟩ := bd hf
  refine ro_V (pc := 2) (C := RX7) (As := [.int x1]) (rest := []) (st1 := [.int r2]) ⟨hx, hb, hml, hown, hts⟩ (c_X7_isStream Z l a0 o0 x1 r2 h_2) (cwV 1 hts gX7_ratio_X7_isStream rfl rfl rfl hv_X7_isStream ⟨Nat.le_of_ble_eq_true rfl, Nat.le_of_ble_eq_true rfl⟩) hK hE hP 7 rfl rfl rfl hl.1 rfl (lv_room (Nat.le_of_ble_eq_true rfl)) dX7_ratio_2 ⟨Nat.le_of_ble_eq_true rfl, Nat.le_of_ble_eq_true rfl⟩ rfl ?_
  refine lv_if_eq (pc := 5) (tgt := 20) hx hb dX7_ratio_5 (by decide) (fun c1 => ?_) (fun c1 => ?_)
  · have hf := (if_pos c1).symm.trans hf
    exact B20 _ (lv_sub hl [0, 1, 2, 3] rfl) _ _ hP hD hS hf
  · have hf := (if_neg c1).symm.trans hf
    refine lv_aload_n (pc := 8) hx hb dX7_ratio_8 rfl (lv_at hl 0 rfl) ?_
    refine lv_iload_n (pc := 9) hx hb dX7_ratio_9 rfl (lv_at hl 3 rfl) ?_
    obtain ⟨r10, h_10, hf⟩ := bd hf
    refine ro_V (pc := 10) (C := RX7) (As := [.int x3]) (rest := []) (st1 := [.int r10]) ⟨hx, hb, hml, hown, hts⟩ (c_X7_isUnit Z l a0 o0 x3 r10 h_10) (cwV 1 hts gX7_ratio_X7_isUnit rfl rfl rfl hv_X7_isUnit ⟨Nat.le_of_ble_eq_true rfl, Nat.le_of_ble_eq_true rfl⟩) hK hE hP 7 rfl rfl rfl hl.1 rfl (lv_room (Nat.le_of_ble_eq_true rfl)) dX7_ratio_10 ⟨Nat.le_of_ble_eq_true rfl, Nat.le_of_ble_eq_true rfl⟩ rfl ?_
    refine lv_if_eq (pc := 13) (tgt := 20) hx hb dX7_ratio_13 (by decide) (fun c2 => ?_) (fun c2 => ?_)
    · have hf := (if_pos c2).symm.trans hf
      exact B20 _ (lv_sub hl [0, 1, 2, 3] rfl) _ _ hP hD hS hf
    · have hf := (if_neg c2).symm.trans hf
      refine lv_iconst (pc := 16) (v := 1) hx hb dX7_ratio_16 (by decide) ?_
      refine lv_goto (pc := 17) (tgt := 21) hx hb dX7_ratio_17 (by decide) ?_
      exact B21 1 _ (lv_sub hl [0, 1, 2, 3] rfl) _ _ hP hD hS hf
def f_X7_isRatio (o0 : ObS) (x1 : Int32) : Option (Int32) :=
  if inb x1 6 then
  if (o0.1 28 (x1).toNatClampNeg) = (-1) then
    some ((0 : Int32))
  else
    some ((1 : Int32))
  else none
set_option maxHeartbeats 4000000 in
set_option maxRecDepth 100000 in
theorem c_X7_isRatio (Z : EnvT) (l : Launch) (a0 : Nat → Nat) (o0 : ObS) (x1 : Int32) (R : Int32) (hf : f_X7_isRatio o0 x1 = some R) : RO Z l yX7_isRatio wsX7_isRatio { frames := 0, cells := 0, slots := 0, locals := 0 } [.ref (a0 0), .int x1] (wX7 Z a0 o0) (some (.int R)) := by
  refine ro_of (cc := cX7_isRatio) (maxL := 2) (ret := (some .boolean)) (by decide) rfl (Nat.le_of_ble_eq_true rfl) ?_
  intro p e s m below meth c ls hx hb hr hml hts hown hlk hP hK hE hl
  have hown : s.vm.findClass RX7 = some m.cls := hown
  have hl : lv_has ls 2 [(0, .ref (a0 0)), (1, .int x1)] := hl
  have w0 := hts (.fieldLink RX7 81 "HeatTrainModel" "ratios" "[I") (by decide +kernel)
  have u7 : ∀ w ∈ wsX70, w ∈ wsX7_isRatio := by decide +kernel
  rw [f_X7_isRatio] at hf
  refine lv_aload_n (pc := 0) hx hb dX7_isRatio_0 rfl (lv_at hl 0 rfl) ?_
  refine va_get (pc := 1) (D := Z.1) (ci := 7) (v := .ref (a0 29)) (C := RX7) (T := TX7) (N := 41) hx hb hts u7 hown hK hP 0 rfl rfl 28 (by decide) w0 (fun _ h9 => h9) rfl dX7_isRatio_1 ?_
  refine lv_iload_n (pc := 4) hx hb dX7_isRatio_4 rfl (lv_at hl 1 rfl) ?_
  obtain ⟨g5, hf⟩ := gd hf
  refine va_iald (pc := 5) (D := Z.1) (n := 6) (f := o0.1 28) hx hb hK hP 24 0 rfl rfl (inb_in g5) dX7_isRatio_5 ?_
  refine lv_iconst (pc := 6) (v := (-1)) hx hb dX7_isRatio_6 (by decide) ?_
  refine lv_icmp_eq (pc := 7) (tgt := 14) hx hb dX7_isRatio_7 (by decide) (fun c1 => ?_) (fun c1 => ?_)
  · have hf := (if_pos c1).symm.trans hf
    refine lv_iconst (pc := 14) (v := 0) hx hb dX7_isRatio_14 (by decide) ?_
    exact ro_z hx hb hr hlk (Option.some.inj hf) rfl dX7_isRatio_15
  · have hf := (if_neg c1).symm.trans hf
    refine lv_iconst (pc := 10) (v := 1) hx hb dX7_isRatio_10 (by decide) ?_
    refine lv_goto (pc := 11) (tgt := 15) hx hb dX7_isRatio_11 (by decide) ?_
    exact ro_z hx hb hr hlk (Option.some.inj hf) rfl dX7_isRatio_15
def f_X7_feed_b63 (o0 : ObS) (x1 : Int32) (x2 : Int32) (x3 : Int32) (k63_0 : Int32) : Option (ObS) :=
  (f_X7_holds o0 k63_0).bind fun r63 =>
  if r63.1 = (0 : Int32) then
    some (r63.2)
  else
    if inb x1 6 then
    (some (oi r63.2 29 (x1).toNatClampNeg x2)).bind fun s75 =>
    if inb x1 6 then
    (some (oi s75 30 (x1).toNatClampNeg x3)).bind fun s82 =>
    some (s82)
    else none
    else none
def f_X7_feed_b21 (o0 : ObS) (x1 : Int32) (x2 : Int32) (x3 : Int32) (k21_0 : Int32) : Option (ObS) :=
  if k21_0 = (0 : Int32) then
    f_X7_feed_b63 o0 x1 x2 x3 1
  else
    if (f_X7_in x3 (-500) 500) = (0 : Int32) then
      f_X7_feed_b63 o0 x1 x2 x3 2
    else
      (f_X7_isRatio o0 x1).bind fun r52 =>
      if r52 = (0 : Int32) then
        f_X7_feed_b63 o0 x1 x2 x3 0
      else
        f_X7_feed_b63 o0 x1 x2 x3 3
def f_X7_feed_b20 (o0 : ObS) (x1 : Int32) (x2 : Int32) (x3 : Int32)  : Option (ObS) :=
  f_X7_feed_b21 o0 x1 x2 x3 0
def f_X7_feed (o0 : ObS) (x1 : Int32) (x2 : Int32) (x3 : Int32) : Option (ObS) :=
  (f_X7_isController o0 x1).bind fun r2 =>
  if r2 = (0 : Int32) then
    f_X7_feed_b20 o0 x1 x2 x3
  else
    (f_X7_isStream o0 x2).bind fun r10 =>
    if r10 = (0 : Int32) then
      f_X7_feed_b20 o0 x1 x2 x3
    else
      f_X7_feed_b21 o0 x1 x2 x3 1
set_option maxHeartbeats 4000000 in
set_option maxRecDepth 100000 in
theorem c_X7_feed (Z : EnvT) (l : Launch) (a0 : Nat → Nat) (o0 : ObS) (x1 : Int32) (x2 : Int32) (x3 : Int32) (R : ObS) (hf : f_X7_feed o0 x1 x2 x3 = some R) : RW Z l yX7_feed wsX7_feed { frames := 2, cells := 0, slots := 0, locals := 43 } [.ref (a0 0), .int x1, .int x2, .int x3] (wX7 Z a0 o0) none (fun _ => wX7 Z a0 R) 0 0 := by
  refine rw_of (cc := cX7_feed) (maxL := 5) (ret := none) (by decide) rfl (Nat.le_of_ble_eq_true rfl) ?_
  intro p e s m below meth c A ls hx hb hr hml hts hown hlk hin hP hK hE hD hA hS hl
  have hown : s.vm.findClass RX7 = some m.cls := hown
  have hl : lv_has ls 5 [(0, .ref (a0 0)), (1, .int x1), (2, .int x2), (3, .int x3)] := hl
  have w0 := hts (.fieldLink RX7 84 "HeatTrainModel" "feedFrom" "[I") (by decide +kernel)
  have w1 := hts (.fieldLink RX7 87 "HeatTrainModel" "feedBy" "[I") (by decide +kernel)
  have u7 : ∀ w ∈ wsX70, w ∈ wsX7_feed := by decide +kernel
  have B63 : ∀ (k63_0 : Int32) (ls : Array Slot), lv_has ls 5 [(0, .ref (a0 0)), (1, .int x1), (2, .int x2), (3, .int x3)] → ∀ (H : Heap) (locs : List Loc), va_P Z.1 vwCl (wX7 Z a0 o0) H → va_D A (wX7 Z a0 o0) → va_S A s.heap H locs → f_X7_feed_b63 o0 x1 x2 x3 k63_0 = some R → W p l e { frames := 2, cells := 0, slots := 0, locals := 43 } s m ([.ref (a0 0), .int x1, .int x2, .int x3] : List Value).toArray below meth c H locs 0 0 (MQ below (rwQ Z none (fun _ => wX7 Z a0 R) A) ([.ref (a0 0), .int x1, .int x2, .int x3] : List Value).toArray s 0 0 A) (F0 m 63 ls [.int k63_0, .ref (a0 0)]) := by
    intro k63_0 ls hl H locs hP hD hS hf
    rw [f_X7_feed_b63] at hf
    obtain ⟨r63, h_63, hf⟩ := bd hf
    refine rw_V (pc := 63) (C := RX7) (As := [.int k63_0]) (rest := []) (st1 := [.int r63.1]) (wn := fun _ => wX7 Z a0 r63.2) ⟨hx, hb, hml, hown, hts⟩ (c_X7_holds Z l a0 o0 k63_0 r63 h_63) (cwV 1 hts gX7_feed_X7_holds rfl rfl rfl hv_X7_holds ⟨Nat.le_of_ble_eq_true rfl, Nat.le_of_ble_eq_true rfl⟩) hK hE hP hD hS hA [0, 1, 2, 3, 4, 5, 6, 7, 8, 9, 10, 11, 12, 13, 14, 15, 16, 17, 18, 19, 20, 21, 22, 23, 24, 25, 26, 27, 28, 29, 30, 31, 32, 33, 34, 35] [] [0, 1, 2, 3, 4, 5, 6, 7, 8, 9, 10, 11, 12, 13, 14, 15, 16, 17, 18, 19, 20, 21, 22, 23, 24, 25, 26, 27, 28, 29, 30, 31, 32, 33, 34, 35] rfl rfl rfl (fun _ => rfl) 7 rfl rfl rfl hl.1 rfl (lv_room (Nat.le_of_ble_eq_true rfl)) dX7_feed_63 ⟨Nat.le_of_ble_eq_true rfl, Nat.le_of_ble_eq_true rfl⟩ rfl (fun _ H locs hP hD hS => ?_)
    refine lv_if_eq (pc := 66) (tgt := 83) hx hb dX7_feed_66 (by decide) (fun c1 => ?_) (fun c1 => ?_)
    · have hf := (if_pos c1).symm.trans hf
      have hf := (Option.some.inj hf)
      subst hf
      exact rw_v (fun _ => 0) hx hb hr hlk hP hD hS dX7_feed_83
    · have hf := (if_neg c1).symm.trans hf
      refine lv_aload_n (pc := 69) hx hb dX7_feed_69 rfl (lv_at hl 0 rfl) ?_
      refine va_get (pc := 70) (D := Z.1) (ci := 7) (v := .ref (a0 30)) (C := RX7) (T := TX7) (N := 41) hx hb hts u7 hown hK hP 0 rfl rfl 29 (by decide) w0 (fun _ h9 => h9) rfl dX7_feed_70 ?_
      refine lv_iload_n (pc := 73) hx hb dX7_feed_73 rfl (lv_at hl 1 rfl) ?_
      refine lv_iload_n (pc := 74) hx hb dX7_feed_74 rfl (lv_at hl 2 rfl) ?_
      obtain ⟨g75, hf⟩ := gd hf
      refine va_iast (pc := 75) (D := Z.1) (n := 6) (f := r63.2.1 29) hx hb hK hP hD hS 25 0 rfl rfl (inb_in g75) dX7_feed_75 (fun H locs hP hD hS => ?_)
      obtain ⟨s75, h_75, hf⟩ := bd hf
      have hP : va_P Z.1 vwCl (wX7 Z a0 s75) H := st_P (f := fun z => wX7 Z a0 z) h_75 hP
      have hD : va_D A (wX7 Z a0 s75) := st_D (f := fun z => wX7 Z a0 z) h_75 hD
      refine lv_aload_n (pc := 76) hx hb dX7_feed_76 rfl (lv_at hl 0 rfl) ?_
      refine va_get (pc := 77) (D := Z.1) (ci := 7) (v := .ref (a0 31)) (C := RX7) (T := TX7) (N := 41) hx hb hts u7 hown hK hP 0 rfl rfl 30 (by decide) w1 (fun _ h9 => h9) rfl dX7_feed_77 ?_
      refine lv_iload_n (pc := 80) hx hb dX7_feed_80 rfl (lv_at hl 1 rfl) ?_
      refine lv_iload_n (pc := 81) hx hb dX7_feed_81 rfl (lv_at hl 3 rfl) ?_
      obtain ⟨g82, hf⟩ := gd hf
      refine va_iast (pc := 82) (D := Z.1) (n := 6) (f := s75.1 30) hx hb hK hP hD hS 26 0 rfl rfl (inb_in g82) dX7_feed_82 (fun H locs hP hD hS => ?_)
      obtain ⟨s82, h_82, hf⟩ := bd hf
      have hP : va_P Z.1 vwCl (wX7 Z a0 s82) H := st_P (f := fun z => wX7 Z a0 z) h_82 hP
      have hD : va_D A (wX7 Z a0 s82) := st_D (f := fun z => wX7 Z a0 z) h_82 hD
      have hf := (Option.some.inj hf)
      subst hf
      exact rw_v (fun _ => 0) hx hb hr hlk hP hD hS dX7_feed_83
  have B21 : ∀ (k21_0 : Int32) (ls : Array Slot), lv_has ls 5 [(0, .ref (a0 0)), (1, .int x1), (2, .int x2), (3, .int x3)] → ∀ (H : Heap) (locs : List Loc), va_P Z.1 vwCl (wX7 Z a0 o0) H → va_D A (wX7 Z a0 o0) → va_S A s.heap H locs → f_X7_feed_b21 o0 x1 x2 x3 k21_0 = some R → W p l e { frames := 2, cells := 0, slots := 0, locals := 43 } s m ([.ref (a0 0), .int x1, .int x2, .int x3] : List Value).toArray below meth c H locs 0 0 (MQ below (rwQ Z none (fun _ => wX7 Z a0 R) A) ([.ref (a0 0), .int x1, .int x2, .int x3] : List Value).toArray s 0 0 A) (F0 m 21 ls [.int k21_0]) := by
    intro k21_0 ls hl H locs hP hD hS hf
    rw [f_X7_feed_b21] at hf
    refine lv_istore (pc := 21) (lv' := [(4, .int k21_0), (0, .ref (a0 0)), (1, .int x1), (2, .int x2), (3, .int x3)]) hx hb dX7_feed_21 hl (by decide) rfl (fun ls hl => ?_)
    refine lv_aload_n (pc := 23) hx hb dX7_feed_23 rfl (lv_at hl 1 rfl) ?_
    refine lv_iload (pc := 24) hx hb dX7_feed_24 (lv_at hl 0 rfl) ?_
    refine lv_if_ne (pc := 26) (tgt := 33) hx hb dX7_feed_26 (by decide) (fun c1 => ?_) (fun c1 => ?_)
    · have hf := (if_neg c1).symm.trans hf
      refine lv_iload_n (pc := 33) hx hb dX7_feed_33 rfl (lv_at hl 4 rfl) ?_
      refine lv_sipush (pc := 34) (v := (-500)) hx hb dX7_feed_34 (by decide) ?_
      refine lv_sipush (pc := 37) (v := 500) hx hb dX7_feed_37 (by decide) ?_
      refine ro_S (pc := 40) (As := [.int x3, .int (-500), .int 500]) (rest := [.ref (a0 0)]) (st1 := [.int (f_X7_in x3 (-500) 500), .ref (a0 0)]) ⟨hx, hb, hml, hown, hts⟩ (c_X7_in Z l x3 (-500) 500 _ rfl) (va_cwS 3 hts gX7_feed_X7_in rfl rfl rfl hs_X7_in ⟨Nat.le_of_ble_eq_true rfl, Nat.le_of_ble_eq_true rfl⟩) hK hE (hP.sub (ws' := []) [] rfl) rfl hl.1 rfl (lv_room (Nat.le_of_ble_eq_true rfl)) dX7_feed_40 ⟨Nat.le_of_ble_eq_true rfl, Nat.le_of_ble_eq_true rfl⟩ rfl ?_
      refine lv_if_ne (pc := 43) (tgt := 50) hx hb dX7_feed_43 (by decide) (fun c2 => ?_) (fun c2 => ?_)
      · have hf := (if_neg c2).symm.trans hf
        refine lv_aload_n (pc := 50) hx hb dX7_feed_50 rfl (lv_at hl 1 rfl) ?_
        refine lv_iload_n (pc := 51) hx hb dX7_feed_51 rfl (lv_at hl 2 rfl) ?_
        obtain ⟨r52, h_52, hf⟩ := bd hf
        refine ro_V (pc := 52) (C := RX7) (As := [.int x1]) (rest := [.ref (a0 0)]) (st1 := [.int r52, .ref (a0 0)]) ⟨hx, hb, hml, hown, hts⟩ (c_X7_isRatio Z l a0 o0 x1 r52 h_52) (cwV 1 hts gX7_feed_X7_isRatio rfl rfl rfl hv_X7_isRatio ⟨Nat.le_of_ble_eq_true rfl, Nat.le_of_ble_eq_true rfl⟩) hK hE hP 7 rfl rfl rfl hl.1 rfl (lv_room (Nat.le_of_ble_eq_true rfl)) dX7_feed_52 ⟨Nat.le_of_ble_eq_true rfl, Nat.le_of_ble_eq_true rfl⟩ rfl ?_
        refine lv_if_eq (pc := 55) (tgt := 62) hx hb dX7_feed_55 (by decide) (fun c3 => ?_) (fun c3 => ?_)
        · have hf := (if_pos c3).symm.trans hf
          refine lv_iconst (pc := 62) (v := 0) hx hb dX7_feed_62 (by decide) ?_
          exact B63 0 _ (lv_sub hl [1, 2, 3, 4] rfl) _ _ hP hD hS hf
        · have hf := (if_neg c3).symm.trans hf
          refine lv_iconst (pc := 58) (v := 3) hx hb dX7_feed_58 (by decide) ?_
          refine lv_goto (pc := 59) (tgt := 63) hx hb dX7_feed_59 (by decide) ?_
          exact B63 3 _ (lv_sub hl [1, 2, 3, 4] rfl) _ _ hP hD hS hf
      · have hf := (if_pos c2).symm.trans hf
        refine lv_iconst (pc := 46) (v := 2) hx hb dX7_feed_46 (by decide) ?_
        refine lv_goto (pc := 47) (tgt := 63) hx hb dX7_feed_47 (by decide) ?_
        exact B63 2 _ (lv_sub hl [1, 2, 3, 4] rfl) _ _ hP hD hS hf
    · have hf := (if_pos c1).symm.trans hf
      refine lv_iconst (pc := 29) (v := 1) hx hb dX7_feed_29 (by decide) ?_
      refine lv_goto (pc := 30) (tgt := 63) hx hb dX7_feed_30 (by decide) ?_
      exact B63 1 _ (lv_sub hl [1, 2, 3, 4] rfl) _ _ hP hD hS hf
  have B20 : ∀ (ls : Array Slot), lv_has ls 5 [(0, .ref (a0 0)), (1, .int x1), (2, .int x2), (3, .int x3)] → ∀ (H : Heap) (locs : List Loc), va_P Z.1 vwCl (wX7 Z a0 o0) H → va_D A (wX7 Z a0 o0) → va_S A s.heap H locs → f_X7_feed_b20 o0 x1 x2 x3 = some R → W p l e { frames := 2, cells := 0, slots := 0, locals := 43 } s m ([.ref (a0 0), .int x1, .int x2, .int x3] : List Value).toArray below meth c H locs 0 0 (MQ below (rwQ Z none (fun _ => wX7 Z a0 R) A) ([.ref (a0 0), .int x1, .int x2, .int x3] : List Value).toArray s 0 0 A) (F0 m 20 ls []) := by
    intro ls hl H locs hP hD hS hf
    rw [f_X7_feed_b20] at hf
    refine lv_iconst (pc := 20) (v := 0) hx hb dX7_feed_20 (by decide) ?_
    exact B21 0 _ (lv_sub hl [0, 1, 2, 3] rfl) _ _ hP hD hS hf
  rw [f_X7_feed] at hf
  refine lv_aload_n (pc := 0) hx hb dX7_feed_0 rfl (lv_at hl 0 rfl) ?_
  refine lv_iload_n (pc := 1) hx hb dX7_feed_1 rfl (lv_at hl 1 rfl) ?_
  obtain ⟨r2, h_2, hf⟩ := bd hf
  refine ro_V (pc := 2) (C := RX7) (As := [.int x1]) (rest := []) (st1 := [.int r2]) ⟨hx, hb, hml, hown, hts⟩ (c_X7_isController Z l a0 o0 x1 r2 h_2) (cwV 1 hts gX7_feed_X7_isController rfl rfl rfl hv_X7_isController ⟨Nat.le_of_ble_eq_true rfl, Nat.le_of_ble_eq_true rfl⟩) hK hE hP 7 rfl rfl rfl hl.1 rfl (lv_room (Nat.le_of_ble_eq_true rfl)) dX7_feed_2 ⟨Nat.le_of_ble_eq_true rfl, Nat.le_of_ble_eq_true rfl⟩ rfl ?_
  refine lv_if_eq (pc := 5) (tgt := 20) hx hb dX7_feed_5 (by decide) (fun c1 => ?_) (fun c1 => ?_)
  · have hf := (if_pos c1).symm.trans hf
    exact B20 _ (lv_sub hl [0, 1, 2, 3] rfl) _ _ hP hD hS hf
  · have hf := (if_neg c1).symm.trans hf
    refine lv_aload_n (pc := 8) hx hb dX7_feed_8 rfl (lv_at hl 0 rfl) ?_
    refine lv_iload_n (pc := 9) hx hb dX7_feed_9 rfl (lv_at hl 2 rfl) ?_
    obtain ⟨r10, h_10, hf⟩ := bd hf
    refine ro_V (pc := 10) (C := RX7) (As := [.int x2]) (rest := []) (st1 := [.int r10]) ⟨hx, hb, hml, hown, hts⟩ (c_X7_isStream Z l a0 o0 x2 r10 h_10) (cwV 1 hts gX7_feed_X7_isStream rfl rfl rfl hv_X7_isStream ⟨Nat.le_of_ble_eq_true rfl, Nat.le_of_ble_eq_true rfl⟩) hK hE hP 7 rfl rfl rfl hl.1 rfl (lv_room (Nat.le_of_ble_eq_true rfl)) dX7_feed_10 ⟨Nat.le_of_ble_eq_true rfl, Nat.le_of_ble_eq_true rfl⟩ rfl ?_
    refine lv_if_eq (pc := 13) (tgt := 20) hx hb dX7_feed_13 (by decide) (fun c2 => ?_) (fun c2 => ?_)
    · have hf := (if_pos c2).symm.trans hf
      exact B20 _ (lv_sub hl [0, 1, 2, 3] rfl) _ _ hP hD hS hf
    · have hf := (if_neg c2).symm.trans hf
      refine lv_iconst (pc := 16) (v := 1) hx hb dX7_feed_16 (by decide) ?_
      refine lv_goto (pc := 17) (tgt := 21) hx hb dX7_feed_17 (by decide) ?_
      exact B21 1 _ (lv_sub hl [0, 1, 2, 3] rfl) _ _ hP hD hS hf
def f_X7_aim_b68 (o0 : ObS) (x1 : Int32) (x2 : Int32) (x3 : Int32) (k68_0 : Int32) : Option (Int32 × ObS) :=
  (f_X7_holds o0 k68_0).bind fun r68 =>
  if r68.1 = (0 : Int32) then
    some ((0 : Int32), r68.2)
  else
    if inb x1 6 then
    if inb x1 6 then
    (some (oi r68.2 24 (x1).toNatClampNeg x2)).bind fun s90 =>
    if inb x1 6 then
    (some (oi s90 31 (x1).toNatClampNeg x3)).bind fun s97 =>
    some (r68.2.1 24 (x1).toNatClampNeg, s97)
    else none
    else none
    else none
def f_X7_aim_b34 (o0 : ObS) (x1 : Int32) (x2 : Int32) (x3 : Int32) (r2 : Int32) (k34_0 : Int32) : Option (Int32 × ObS) :=
  if r2 = (0 : Int32) then
    f_X7_aim_b68 o0 x1 x2 x3 1
  else
    if k34_0 = (0 : Int32) then
      f_X7_aim_b68 o0 x1 x2 x3 2
    else
      (f_X7_isRatio o0 x1).bind fun r57 =>
      if r57 = (0 : Int32) then
        f_X7_aim_b68 o0 x1 x2 x3 0
      else
        f_X7_aim_b68 o0 x1 x2 x3 3
def f_X7_aim_b33 (o0 : ObS) (x1 : Int32) (x2 : Int32) (x3 : Int32) (r2 : Int32)  : Option (Int32 × ObS) :=
  f_X7_aim_b34 o0 x1 x2 x3 r2 0
def f_X7_aim (o0 : ObS) (x1 : Int32) (x2 : Int32) (x3 : Int32) : Option (Int32 × ObS) :=
  (f_X7_isController o0 x1).bind fun r2 =>
  if (f_X7_in x2 0 3000) = (0 : Int32) then
    f_X7_aim_b33 o0 x1 x2 x3 r2
  else
    if (f_X7_in x3 0 3000) = (0 : Int32) then
      f_X7_aim_b33 o0 x1 x2 x3 r2
    else
      f_X7_aim_b34 o0 x1 x2 x3 r2 1
set_option maxHeartbeats 4000000 in
set_option maxRecDepth 100000 in
theorem c_X7_aim (Z : EnvT) (l : Launch) (a0 : Nat → Nat) (o0 : ObS) (x1 : Int32) (x2 : Int32) (x3 : Int32) (R : Int32 × ObS) (hf : f_X7_aim o0 x1 x2 x3 = some R) : RW Z l yX7_aim wsX7_aim { frames := 2, cells := 0, slots := 0, locals := 43 } [.ref (a0 0), .int x1, .int x2, .int x3] (wX7 Z a0 o0) (some (.int R.1)) (fun _ => wX7 Z a0 R.2) 0 0 := by
  refine rw_of (cc := cX7_aim) (maxL := 7) (ret := (some .int)) (by decide) rfl (Nat.le_of_ble_eq_true rfl) ?_
  intro p e s m below meth c A ls hx hb hr hml hts hown hlk hin hP hK hE hD hA hS hl
  have hown : s.vm.findClass RX7 = some m.cls := hown
  have hl : lv_has ls 7 [(0, .ref (a0 0)), (1, .int x1), (2, .int x2), (3, .int x3)] := hl
  have w0 := hts (.fieldLink RX7 69 "HeatTrainModel" "goals" "[I") (by decide +kernel)
  have w1 := hts (.fieldLink RX7 90 "HeatTrainModel" "limits" "[I") (by decide +kernel)
  have u7 : ∀ w ∈ wsX70, w ∈ wsX7_aim := by decide +kernel
  have B68 : ∀ (k68_0 : Int32) (ls : Array Slot), lv_has ls 7 [(0, .ref (a0 0)), (1, .int x1), (2, .int x2), (3, .int x3)] → ∀ (H : Heap) (locs : List Loc), va_P Z.1 vwCl (wX7 Z a0 o0) H → va_D A (wX7 Z a0 o0) → va_S A s.heap H locs → f_X7_aim_b68 o0 x1 x2 x3 k68_0 = some R → W p l e { frames := 2, cells := 0, slots := 0, locals := 43 } s m ([.ref (a0 0), .int x1, .int x2, .int x3] : List Value).toArray below meth c H locs 0 0 (MQ below (rwQ Z (some (.int R.1)) (fun _ => wX7 Z a0 R.2) A) ([.ref (a0 0), .int x1, .int x2, .int x3] : List Value).toArray s 0 0 A) (F0 m 68 ls [.int k68_0, .ref (a0 0)]) := by
    intro k68_0 ls hl H locs hP hD hS hf
    rw [f_X7_aim_b68] at hf
    obtain ⟨r68, h_68, hf⟩ := bd hf
    refine rw_V (pc := 68) (C := RX7) (As := [.int k68_0]) (rest := []) (st1 := [.int r68.1]) (wn := fun _ => wX7 Z a0 r68.2) ⟨hx, hb, hml, hown, hts⟩ (c_X7_holds Z l a0 o0 k68_0 r68 h_68) (cwV 1 hts gX7_aim_X7_holds rfl rfl rfl hv_X7_holds ⟨Nat.le_of_ble_eq_true rfl, Nat.le_of_ble_eq_true rfl⟩) hK hE hP hD hS hA [0, 1, 2, 3, 4, 5, 6, 7, 8, 9, 10, 11, 12, 13, 14, 15, 16, 17, 18, 19, 20, 21, 22, 23, 24, 25, 26, 27, 28, 29, 30, 31, 32, 33, 34, 35] [] [0, 1, 2, 3, 4, 5, 6, 7, 8, 9, 10, 11, 12, 13, 14, 15, 16, 17, 18, 19, 20, 21, 22, 23, 24, 25, 26, 27, 28, 29, 30, 31, 32, 33, 34, 35] rfl rfl rfl (fun _ => rfl) 7 rfl rfl rfl hl.1 rfl (lv_room (Nat.le_of_ble_eq_true rfl)) dX7_aim_68 ⟨Nat.le_of_ble_eq_true rfl, Nat.le_of_ble_eq_true rfl⟩ rfl (fun _ H locs hP hD hS => ?_)
    refine lv_if_ne (pc := 71) (tgt := 76) hx hb dX7_aim_71 (by decide) (fun c1 => ?_) (fun c1 => ?_)
    · have hf := (if_neg c1).symm.trans hf
      refine lv_aload_n (pc := 76) hx hb dX7_aim_76 rfl (lv_at hl 0 rfl) ?_
      refine va_get (pc := 77) (D := Z.1) (ci := 7) (v := .ref (a0 25)) (C := RX7) (T := TX7) (N := 41) hx hb hts u7 hown hK hP 0 rfl rfl 24 (by decide) w0 (fun _ h9 => h9) rfl dX7_aim_77 ?_
      refine lv_iload_n (pc := 80) hx hb dX7_aim_80 rfl (lv_at hl 1 rfl) ?_
      obtain ⟨g81, hf⟩ := gd hf
      refine va_iald (pc := 81) (D := Z.1) (n := 6) (f := r68.2.1 24) hx hb hK hP 20 0 rfl rfl (inb_in g81) dX7_aim_81 ?_
      refine lv_istore (pc := 82) (lv' := [(6, .int (r68.2.1 24 (x1).toNatClampNeg)), (0, .ref (a0 0)), (1, .int x1), (2, .int x2), (3, .int x3)]) hx hb dX7_aim_82 hl (by decide) rfl (fun ls hl => ?_)
      refine lv_aload_n (pc := 84) hx hb dX7_aim_84 rfl (lv_at hl 1 rfl) ?_
      refine va_get (pc := 85) (D := Z.1) (ci := 7) (v := .ref (a0 25)) (C := RX7) (T := TX7) (N := 41) hx hb hts u7 hown hK hP 0 rfl rfl 24 (by decide) w0 (fun _ h9 => h9) rfl dX7_aim_85 ?_
      refine lv_iload_n (pc := 88) hx hb dX7_aim_88 rfl (lv_at hl 2 rfl) ?_
      refine lv_iload_n (pc := 89) hx hb dX7_aim_89 rfl (lv_at hl 3 rfl) ?_
      obtain ⟨g90, hf⟩ := gd hf
      refine va_iast (pc := 90) (D := Z.1) (n := 6) (f := r68.2.1 24) hx hb hK hP hD hS 20 0 rfl rfl (inb_in g90) dX7_aim_90 (fun H locs hP hD hS => ?_)
      obtain ⟨s90, h_90, hf⟩ := bd hf
      have hP : va_P Z.1 vwCl (wX7 Z a0 s90) H := st_P (f := fun z => wX7 Z a0 z) h_90 hP
      have hD : va_D A (wX7 Z a0 s90) := st_D (f := fun z => wX7 Z a0 z) h_90 hD
      refine lv_aload_n (pc := 91) hx hb dX7_aim_91 rfl (lv_at hl 1 rfl) ?_
      refine va_get (pc := 92) (D := Z.1) (ci := 7) (v := .ref (a0 32)) (C := RX7) (T := TX7) (N := 41) hx hb hts u7 hown hK hP 0 rfl rfl 31 (by decide) w1 (fun _ h9 => h9) rfl dX7_aim_92 ?_
      refine lv_iload_n (pc := 95) hx hb dX7_aim_95 rfl (lv_at hl 2 rfl) ?_
      refine lv_iload_n (pc := 96) hx hb dX7_aim_96 rfl (lv_at hl 4 rfl) ?_
      obtain ⟨g97, hf⟩ := gd hf
      refine va_iast (pc := 97) (D := Z.1) (n := 6) (f := s90.1 31) hx hb hK hP hD hS 27 0 rfl rfl (inb_in g97) dX7_aim_97 (fun H locs hP hD hS => ?_)
      obtain ⟨s97, h_97, hf⟩ := bd hf
      have hP : va_P Z.1 vwCl (wX7 Z a0 s97) H := st_P (f := fun z => wX7 Z a0 z) h_97 hP
      have hD : va_D A (wX7 Z a0 s97) := st_D (f := fun z => wX7 Z a0 z) h_97 hD
      refine lv_iload (pc := 98) hx hb dX7_aim_98 (lv_at hl 0 rfl) ?_
      have hf := (Option.some.inj hf)
      subst hf
      exact rw_i (fun _ => 0) hx hb hr hlk rfl hP hD hS dX7_aim_100
    · have hf := (if_pos c1).symm.trans hf
      refine lv_iconst (pc := 74) (v := 0) hx hb dX7_aim_74 (by decide) ?_
      have hf := (Option.some.inj hf)
      subst hf
      exact rw_i (fun _ => 0) hx hb hr hlk rfl hP hD hS dX7_aim_75
  have B34 : ∀ (r2 : Int32), ∀ (k34_0 : Int32) (ls : Array Slot), lv_has ls 7 [(0, .ref (a0 0)), (1, .int x1), (2, .int x2), (3, .int x3), (4, .int r2)] → ∀ (H : Heap) (locs : List Loc), va_P Z.1 vwCl (wX7 Z a0 o0) H → va_D A (wX7 Z a0 o0) → va_S A s.heap H locs → f_X7_aim_b34 o0 x1 x2 x3 r2 k34_0 = some R → W p l e { frames := 2, cells := 0, slots := 0, locals := 43 } s m ([.ref (a0 0), .int x1, .int x2, .int x3] : List Value).toArray below meth c H locs 0 0 (MQ below (rwQ Z (some (.int R.1)) (fun _ => wX7 Z a0 R.2) A) ([.ref (a0 0), .int x1, .int x2, .int x3] : List Value).toArray s 0 0 A) (F0 m 34 ls [.int k34_0]) := by
    intro r2 k34_0 ls hl H locs hP hD hS hf
    rw [f_X7_aim_b34] at hf
    refine lv_istore (pc := 34) (lv' := [(5, .int k34_0), (0, .ref (a0 0)), (1, .int x1), (2, .int x2), (3, .int x3), (4, .int r2)]) hx hb dX7_aim_34 hl (by decide) rfl (fun ls hl => ?_)
    refine lv_aload_n (pc := 36) hx hb dX7_aim_36 rfl (lv_at hl 1 rfl) ?_
    refine lv_iload (pc := 37) hx hb dX7_aim_37 (lv_at hl 5 rfl) ?_
    refine lv_if_ne (pc := 39) (tgt := 46) hx hb dX7_aim_39 (by decide) (fun c1 => ?_) (fun c1 => ?_)
    · have hf := (if_neg c1).symm.trans hf
      refine lv_iload (pc := 46) hx hb dX7_aim_46 (lv_at hl 0 rfl) ?_
      refine lv_if_ne (pc := 48) (tgt := 55) hx hb dX7_aim_48 (by decide) (fun c2 => ?_) (fun c2 => ?_)
      · have hf := (if_neg c2).symm.trans hf
        refine lv_aload_n (pc := 55) hx hb dX7_aim_55 rfl (lv_at hl 1 rfl) ?_
        refine lv_iload_n (pc := 56) hx hb dX7_aim_56 rfl (lv_at hl 2 rfl) ?_
        obtain ⟨r57, h_57, hf⟩ := bd hf
        refine ro_V (pc := 57) (C := RX7) (As := [.int x1]) (rest := [.ref (a0 0)]) (st1 := [.int r57, .ref (a0 0)]) ⟨hx, hb, hml, hown, hts⟩ (c_X7_isRatio Z l a0 o0 x1 r57 h_57) (cwV 1 hts gX7_aim_X7_isRatio rfl rfl rfl hv_X7_isRatio ⟨Nat.le_of_ble_eq_true rfl, Nat.le_of_ble_eq_true rfl⟩) hK hE hP 7 rfl rfl rfl hl.1 rfl (lv_room (Nat.le_of_ble_eq_true rfl)) dX7_aim_57 ⟨Nat.le_of_ble_eq_true rfl, Nat.le_of_ble_eq_true rfl⟩ rfl ?_
        refine lv_if_eq (pc := 60) (tgt := 67) hx hb dX7_aim_60 (by decide) (fun c3 => ?_) (fun c3 => ?_)
        · have hf := (if_pos c3).symm.trans hf
          refine lv_iconst (pc := 67) (v := 0) hx hb dX7_aim_67 (by decide) ?_
          exact B68 0 _ (lv_sub hl [1, 2, 3, 4] rfl) _ _ hP hD hS hf
        · have hf := (if_neg c3).symm.trans hf
          refine lv_iconst (pc := 63) (v := 3) hx hb dX7_aim_63 (by decide) ?_
          refine lv_goto (pc := 64) (tgt := 68) hx hb dX7_aim_64 (by decide) ?_
          exact B68 3 _ (lv_sub hl [1, 2, 3, 4] rfl) _ _ hP hD hS hf
      · have hf := (if_pos c2).symm.trans hf
        refine lv_iconst (pc := 51) (v := 2) hx hb dX7_aim_51 (by decide) ?_
        refine lv_goto (pc := 52) (tgt := 68) hx hb dX7_aim_52 (by decide) ?_
        exact B68 2 _ (lv_sub hl [1, 2, 3, 4] rfl) _ _ hP hD hS hf
    · have hf := (if_pos c1).symm.trans hf
      refine lv_iconst (pc := 42) (v := 1) hx hb dX7_aim_42 (by decide) ?_
      refine lv_goto (pc := 43) (tgt := 68) hx hb dX7_aim_43 (by decide) ?_
      exact B68 1 _ (lv_sub hl [1, 2, 3, 4] rfl) _ _ hP hD hS hf
  have B33 : ∀ (r2 : Int32), ∀ (ls : Array Slot), lv_has ls 7 [(0, .ref (a0 0)), (1, .int x1), (2, .int x2), (3, .int x3), (4, .int r2)] → ∀ (H : Heap) (locs : List Loc), va_P Z.1 vwCl (wX7 Z a0 o0) H → va_D A (wX7 Z a0 o0) → va_S A s.heap H locs → f_X7_aim_b33 o0 x1 x2 x3 r2 = some R → W p l e { frames := 2, cells := 0, slots := 0, locals := 43 } s m ([.ref (a0 0), .int x1, .int x2, .int x3] : List Value).toArray below meth c H locs 0 0 (MQ below (rwQ Z (some (.int R.1)) (fun _ => wX7 Z a0 R.2) A) ([.ref (a0 0), .int x1, .int x2, .int x3] : List Value).toArray s 0 0 A) (F0 m 33 ls []) := by
    intro r2 ls hl H locs hP hD hS hf
    rw [f_X7_aim_b33] at hf
    refine lv_iconst (pc := 33) (v := 0) hx hb dX7_aim_33 (by decide) ?_
    exact B34 r2 0 _ (lv_sub hl [0, 1, 2, 3, 4] rfl) _ _ hP hD hS hf
  rw [f_X7_aim] at hf
  refine lv_aload_n (pc := 0) hx hb dX7_aim_0 rfl (lv_at hl 0 rfl) ?_
  refine lv_iload_n (pc := 1) hx hb dX7_aim_1 rfl (lv_at hl 1 rfl) ?_
  obtain ⟨r2, h_2, hf⟩ := bd hf
  refine ro_V (pc := 2) (C := RX7) (As := [.int x1]) (rest := []) (st1 := [.int r2]) ⟨hx, hb, hml, hown, hts⟩ (c_X7_isController Z l a0 o0 x1 r2 h_2) (cwV 1 hts gX7_aim_X7_isController rfl rfl rfl hv_X7_isController ⟨Nat.le_of_ble_eq_true rfl, Nat.le_of_ble_eq_true rfl⟩) hK hE hP 7 rfl rfl rfl hl.1 rfl (lv_room (Nat.le_of_ble_eq_true rfl)) dX7_aim_2 ⟨Nat.le_of_ble_eq_true rfl, Nat.le_of_ble_eq_true rfl⟩ rfl ?_
  refine lv_istore (pc := 5) (lv' := [(4, .int r2), (0, .ref (a0 0)), (1, .int x1), (2, .int x2), (3, .int x3)]) hx hb dX7_aim_5 hl (by decide) rfl (fun ls hl => ?_)
  refine lv_iload_n (pc := 7) hx hb dX7_aim_7 rfl (lv_at hl 3 rfl) ?_
  refine lv_iconst (pc := 8) (v := 0) hx hb dX7_aim_8 (by decide) ?_
  refine lv_sipush (pc := 9) (v := 3000) hx hb dX7_aim_9 (by decide) ?_
  refine ro_S (pc := 12) (As := [.int x2, .int 0, .int 3000]) (rest := []) (st1 := [.int (f_X7_in x2 0 3000)]) ⟨hx, hb, hml, hown, hts⟩ (c_X7_in Z l x2 0 3000 _ rfl) (va_cwS 3 hts gX7_aim_X7_in rfl rfl rfl hs_X7_in ⟨Nat.le_of_ble_eq_true rfl, Nat.le_of_ble_eq_true rfl⟩) hK hE (hP.sub (ws' := []) [] rfl) rfl hl.1 rfl (lv_room (Nat.le_of_ble_eq_true rfl)) dX7_aim_12 ⟨Nat.le_of_ble_eq_true rfl, Nat.le_of_ble_eq_true rfl⟩ rfl ?_
  refine lv_if_eq (pc := 15) (tgt := 33) hx hb dX7_aim_15 (by decide) (fun c1 => ?_) (fun c1 => ?_)
  · have hf := (if_pos c1).symm.trans hf
    exact B33 r2 _ (lv_sub hl [1, 2, 3, 4, 0] rfl) _ _ hP hD hS hf
  · have hf := (if_neg c1).symm.trans hf
    refine lv_iload_n (pc := 18) hx hb dX7_aim_18 rfl (lv_at hl 4 rfl) ?_
    refine lv_iconst (pc := 19) (v := 0) hx hb dX7_aim_19 (by decide) ?_
    refine lv_sipush (pc := 20) (v := 3000) hx hb dX7_aim_20 (by decide) ?_
    refine ro_S (pc := 23) (As := [.int x3, .int 0, .int 3000]) (rest := []) (st1 := [.int (f_X7_in x3 0 3000)]) ⟨hx, hb, hml, hown, hts⟩ (c_X7_in Z l x3 0 3000 _ rfl) (va_cwS 3 hts gX7_aim_X7_in rfl rfl rfl hs_X7_in ⟨Nat.le_of_ble_eq_true rfl, Nat.le_of_ble_eq_true rfl⟩) hK hE (hP.sub (ws' := []) [] rfl) rfl hl.1 rfl (lv_room (Nat.le_of_ble_eq_true rfl)) dX7_aim_23 ⟨Nat.le_of_ble_eq_true rfl, Nat.le_of_ble_eq_true rfl⟩ rfl ?_
    refine lv_if_eq (pc := 26) (tgt := 33) hx hb dX7_aim_26 (by decide) (fun c2 => ?_) (fun c2 => ?_)
    · have hf := (if_pos c2).symm.trans hf
      exact B33 r2 _ (lv_sub hl [1, 2, 3, 4, 0] rfl) _ _ hP hD hS hf
    · have hf := (if_neg c2).symm.trans hf
      refine lv_iconst (pc := 29) (v := 1) hx hb dX7_aim_29 (by decide) ?_
      refine lv_goto (pc := 30) (tgt := 34) hx hb dX7_aim_30 (by decide) ?_
      exact B34 r2 1 _ (lv_sub hl [1, 2, 3, 4, 0] rfl) _ _ hP hD hS hf
def f_X7_select_b14 (o0 : ObS) (x1 : Int32) (k14_0 : Int32) : Option (Int32 × ObS) :=
  (f_X7_holds o0 k14_0).bind fun r14 =>
  if r14.1 = (0 : Int32) then
    some ((0 : Int32), r14.2)
  else
    if inb x1 12 then
    if (r14.2.1 9 (x1).toNatClampNeg) = (0 : Int32) then
      if inb x1 12 then
      (some (oi r14.2 9 (x1).toNatClampNeg (vp_nar .boolean 1))).bind fun s41 =>
      if inb x1 12 then
      if isb (s41.1 9 (x1).toNatClampNeg) then
      some (s41.1 9 (x1).toNatClampNeg, s41)
      else none
      else none
      else none
    else
      if inb x1 12 then
      (some (oi r14.2 9 (x1).toNatClampNeg (vp_nar .boolean 0))).bind fun s41 =>
      if inb x1 12 then
      if isb (s41.1 9 (x1).toNatClampNeg) then
      some (s41.1 9 (x1).toNatClampNeg, s41)
      else none
      else none
      else none
    else none
def f_X7_select (o0 : ObS) (x1 : Int32) : Option (Int32 × ObS) :=
  (f_X7_isUnit o0 x1).bind fun r3 =>
  if r3 = (0 : Int32) then
    f_X7_select_b14 o0 x1 1
  else
    f_X7_select_b14 o0 x1 0
set_option maxHeartbeats 4000000 in
set_option maxRecDepth 100000 in
theorem c_X7_select (Z : EnvT) (l : Launch) (a0 : Nat → Nat) (o0 : ObS) (x1 : Int32) (R : Int32 × ObS) (hf : f_X7_select o0 x1 = some R) : RW Z l yX7_select wsX7_select { frames := 2, cells := 0, slots := 0, locals := 43 } [.ref (a0 0), .int x1] (wX7 Z a0 o0) (some (.int R.1)) (fun _ => wX7 Z a0 R.2) 0 0 := by
  refine rw_of (cc := cX7_select) (maxL := 2) (ret := (some .boolean)) (by decide) rfl (Nat.le_of_ble_eq_true rfl) ?_
  intro p e s m below meth c A ls hx hb hr hml hts hown hlk hin hP hK hE hD hA hS hl
  have hown : s.vm.findClass RX7 = some m.cls := hown
  have hl : lv_has ls 2 [(0, .ref (a0 0)), (1, .int x1)] := hl
  have w0 := hts (.fieldLink RX7 28 "HeatTrainModel" "areGreatest" "[Z") (by decide +kernel)
  have u7 : ∀ w ∈ wsX70, w ∈ wsX7_select := by decide +kernel
  have B14 : ∀ (k14_0 : Int32) (ls : Array Slot), lv_has ls 2 [(0, .ref (a0 0)), (1, .int x1)] → ∀ (H : Heap) (locs : List Loc), va_P Z.1 vwCl (wX7 Z a0 o0) H → va_D A (wX7 Z a0 o0) → va_S A s.heap H locs → f_X7_select_b14 o0 x1 k14_0 = some R → W p l e { frames := 2, cells := 0, slots := 0, locals := 43 } s m ([.ref (a0 0), .int x1] : List Value).toArray below meth c H locs 0 0 (MQ below (rwQ Z (some (.int R.1)) (fun _ => wX7 Z a0 R.2) A) ([.ref (a0 0), .int x1] : List Value).toArray s 0 0 A) (F0 m 14 ls [.int k14_0, .ref (a0 0)]) := by
    intro k14_0 ls hl H locs hP hD hS hf
    rw [f_X7_select_b14] at hf
    obtain ⟨r14, h_14, hf⟩ := bd hf
    refine rw_V (pc := 14) (C := RX7) (As := [.int k14_0]) (rest := []) (st1 := [.int r14.1]) (wn := fun _ => wX7 Z a0 r14.2) ⟨hx, hb, hml, hown, hts⟩ (c_X7_holds Z l a0 o0 k14_0 r14 h_14) (cwV 1 hts gX7_select_X7_holds rfl rfl rfl hv_X7_holds ⟨Nat.le_of_ble_eq_true rfl, Nat.le_of_ble_eq_true rfl⟩) hK hE hP hD hS hA [0, 1, 2, 3, 4, 5, 6, 7, 8, 9, 10, 11, 12, 13, 14, 15, 16, 17, 18, 19, 20, 21, 22, 23, 24, 25, 26, 27, 28, 29, 30, 31, 32, 33, 34, 35] [] [0, 1, 2, 3, 4, 5, 6, 7, 8, 9, 10, 11, 12, 13, 14, 15, 16, 17, 18, 19, 20, 21, 22, 23, 24, 25, 26, 27, 28, 29, 30, 31, 32, 33, 34, 35] rfl rfl rfl (fun _ => rfl) 7 rfl rfl rfl hl.1 rfl (lv_room (Nat.le_of_ble_eq_true rfl)) dX7_select_14 ⟨Nat.le_of_ble_eq_true rfl, Nat.le_of_ble_eq_true rfl⟩ rfl (fun _ H locs hP hD hS => ?_)
    refine lv_if_ne (pc := 17) (tgt := 22) hx hb dX7_select_17 (by decide) (fun c1 => ?_) (fun c1 => ?_)
    · have hf := (if_neg c1).symm.trans hf
      refine lv_aload_n (pc := 22) hx hb dX7_select_22 rfl (lv_at hl 0 rfl) ?_
      refine va_get (pc := 23) (D := Z.1) (ci := 7) (v := .ref (a0 10)) (C := RX7) (T := TX7) (N := 41) hx hb hts u7 hown hK hP 0 rfl rfl 9 (by decide) w0 (fun _ h9 => h9) rfl dX7_select_23 ?_
      refine lv_iload_n (pc := 26) hx hb dX7_select_26 rfl (lv_at hl 1 rfl) ?_
      refine lv_aload_n (pc := 27) hx hb dX7_select_27 rfl (lv_at hl 0 rfl) ?_
      refine va_get (pc := 28) (D := Z.1) (ci := 7) (v := .ref (a0 10)) (C := RX7) (T := TX7) (N := 41) hx hb hts u7 hown hK hP 0 rfl rfl 9 (by decide) w0 (fun _ h9 => h9) rfl dX7_select_28 ?_
      refine lv_iload_n (pc := 31) hx hb dX7_select_31 rfl (lv_at hl 1 rfl) ?_
      obtain ⟨g32, hf⟩ := gd hf
      refine va_zald (pc := 32) (D := Z.1) (n := 12) (f := r14.2.1 9) hx hb hK hP 7 2 rfl rfl (inb_in g32) dX7_select_32 ?_
      refine lv_if_ne (pc := 33) (tgt := 40) hx hb dX7_select_33 (by decide) (fun c2 => ?_) (fun c2 => ?_)
      · have hf := (if_neg c2).symm.trans hf
        refine lv_iconst (pc := 40) (v := 0) hx hb dX7_select_40 (by decide) ?_
        obtain ⟨g41, hf⟩ := gd hf
        refine va_zast (pc := 41) (D := Z.1) (n := 12) (f := r14.2.1 9) hx hb hK hP hD hS 7 2 rfl rfl (inb_in g41) dX7_select_41 (fun H locs hP hD hS => ?_)
        obtain ⟨s41, h_41, hf⟩ := bd hf
        have hP : va_P Z.1 vwCl (wX7 Z a0 s41) H := st_P (f := fun z => wX7 Z a0 z) h_41 hP
        have hD : va_D A (wX7 Z a0 s41) := st_D (f := fun z => wX7 Z a0 z) h_41 hD
        refine lv_aload_n (pc := 42) hx hb dX7_select_42 rfl (lv_at hl 0 rfl) ?_
        refine va_get (pc := 43) (D := Z.1) (ci := 7) (v := .ref (a0 10)) (C := RX7) (T := TX7) (N := 41) hx hb hts u7 hown hK hP 0 rfl rfl 9 (by decide) w0 (fun _ h9 => h9) rfl dX7_select_43 ?_
        refine lv_iload_n (pc := 46) hx hb dX7_select_46 rfl (lv_at hl 1 rfl) ?_
        obtain ⟨g47, hf⟩ := gd hf
        refine va_zald (pc := 47) (D := Z.1) (n := 12) (f := s41.1 9) hx hb hK hP 7 2 rfl rfl (inb_in g47) dX7_select_47 ?_
        obtain ⟨gz, hf⟩ := gd hf
        have hf := (Option.some.inj hf)
        subst hf
        exact rw_z (fun _ => 0) hx hb hr hlk rfl (isb_n gz) hP hD hS dX7_select_48
      · have hf := (if_pos c2).symm.trans hf
        refine lv_iconst (pc := 36) (v := 1) hx hb dX7_select_36 (by decide) ?_
        refine lv_goto (pc := 37) (tgt := 41) hx hb dX7_select_37 (by decide) ?_
        obtain ⟨g41, hf⟩ := gd hf
        refine va_zast (pc := 41) (D := Z.1) (n := 12) (f := r14.2.1 9) hx hb hK hP hD hS 7 2 rfl rfl (inb_in g41) dX7_select_41 (fun H locs hP hD hS => ?_)
        obtain ⟨s41, h_41, hf⟩ := bd hf
        have hP : va_P Z.1 vwCl (wX7 Z a0 s41) H := st_P (f := fun z => wX7 Z a0 z) h_41 hP
        have hD : va_D A (wX7 Z a0 s41) := st_D (f := fun z => wX7 Z a0 z) h_41 hD
        refine lv_aload_n (pc := 42) hx hb dX7_select_42 rfl (lv_at hl 0 rfl) ?_
        refine va_get (pc := 43) (D := Z.1) (ci := 7) (v := .ref (a0 10)) (C := RX7) (T := TX7) (N := 41) hx hb hts u7 hown hK hP 0 rfl rfl 9 (by decide) w0 (fun _ h9 => h9) rfl dX7_select_43 ?_
        refine lv_iload_n (pc := 46) hx hb dX7_select_46 rfl (lv_at hl 1 rfl) ?_
        obtain ⟨g47, hf⟩ := gd hf
        refine va_zald (pc := 47) (D := Z.1) (n := 12) (f := s41.1 9) hx hb hK hP 7 2 rfl rfl (inb_in g47) dX7_select_47 ?_
        obtain ⟨gz, hf⟩ := gd hf
        have hf := (Option.some.inj hf)
        subst hf
        exact rw_z (fun _ => 0) hx hb hr hlk rfl (isb_n gz) hP hD hS dX7_select_48
    · have hf := (if_pos c1).symm.trans hf
      refine lv_iconst (pc := 20) (v := 0) hx hb dX7_select_20 (by decide) ?_
      have hf := (Option.some.inj hf)
      subst hf
      exact rw_z (fun _ => 0) hx hb hr hlk rfl rfl hP hD hS dX7_select_21
  rw [f_X7_select] at hf
  refine lv_aload_n (pc := 0) hx hb dX7_select_0 rfl (lv_at hl 0 rfl) ?_
  refine lv_aload_n (pc := 1) hx hb dX7_select_1 rfl (lv_at hl 0 rfl) ?_
  refine lv_iload_n (pc := 2) hx hb dX7_select_2 rfl (lv_at hl 1 rfl) ?_
  obtain ⟨r3, h_3, hf⟩ := bd hf
  refine ro_V (pc := 3) (C := RX7) (As := [.int x1]) (rest := [.ref (a0 0)]) (st1 := [.int r3, .ref (a0 0)]) ⟨hx, hb, hml, hown, hts⟩ (c_X7_isUnit Z l a0 o0 x1 r3 h_3) (cwV 1 hts gX7_select_X7_isUnit rfl rfl rfl hv_X7_isUnit ⟨Nat.le_of_ble_eq_true rfl, Nat.le_of_ble_eq_true rfl⟩) hK hE hP 7 rfl rfl rfl hl.1 rfl (lv_room (Nat.le_of_ble_eq_true rfl)) dX7_select_3 ⟨Nat.le_of_ble_eq_true rfl, Nat.le_of_ble_eq_true rfl⟩ rfl ?_
  refine lv_if_eq (pc := 6) (tgt := 13) hx hb dX7_select_6 (by decide) (fun c1 => ?_) (fun c1 => ?_)
  · have hf := (if_pos c1).symm.trans hf
    refine lv_iconst (pc := 13) (v := 1) hx hb dX7_select_13 (by decide) ?_
    exact B14 1 _ (lv_sub hl [0, 1] rfl) _ _ hP hD hS hf
  · have hf := (if_neg c1).symm.trans hf
    refine lv_iconst (pc := 9) (v := 0) hx hb dX7_select_9 (by decide) ?_
    refine lv_goto (pc := 10) (tgt := 14) hx hb dX7_select_10 (by decide) ?_
    exact B14 0 _ (lv_sub hl [0, 1] rfl) _ _ hP hD hS hf
