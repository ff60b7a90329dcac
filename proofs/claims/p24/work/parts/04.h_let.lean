def f_X6_letOneTickGoBy (h : Nat → ObS) : Option ((Nat → ObS)) :=
  (some (oi (h 0) 7 0 (((h 0).1 7 0) + 1))).bind fun s7 =>
  (f_X5_heatHeldOver (h 3) (h 1)).bind fun r19 =>
  (some (oj s7 8 0 r19)).bind fun s22 =>
  (f_X2_playInto (h 6) (h 3) (s22.1 7 0)).bind fun r37 =>
  (f_X1_work (h 4) (h 1) (h 5)).bind fun r52 =>
  (f_X6_setDrivenUnits (hu (hu (hu (hu (hu h 0 s22) 3 r37.2) 4 r52.1) 5 r52.2) 6 r37.1)).bind fun r56 =>
  (f_X5_giveAll (r56 3) (r56 1)).bind fun r67 =>
  (f_X4_keep (r56 7) r67.2 ((r56 0).1 7 0)).bind fun r82 =>
  some ((hu (hu (hu r56 1 r67.2) 3 r67.1) 7 r82))
set_option maxHeartbeats 4000000 in
set_option maxRecDepth 100000 in
theorem c_X6_letOneTickGoBy_new (Z : EnvT) (l : Launch) (b : Nat → Nat → Nat) (h : Nat → ObS) (R : (Nat → ObS)) (hf : f_X6_letOneTickGoBy h = some R) (hc : tnz (h 7)) : RW Z l yX6_letOneTickGoBy wsX6_letOneTickGoBy { frames := 5, cells := 1, slots := 7200, locals := 129 } [.ref (b 0 0)] (wH Z b h) none (fun q => wH Z (bu b 7 (ad1 (b 7) q)) R) 1 7200 := by
  refine rw_of (cc := cX6_letOneTickGoBy) (maxL := 1) (ret := none) (by decide) rfl (Nat.le_of_ble_eq_true rfl) ?_
  intro p e s m below meth c A ls hx hb hr hml hts hown hlk hin hP hK hE hD hA hS hl
  have hown : s.vm.findClass RX6 = some m.cls := hown
  have hl : lv_has ls 1 [(0, .ref (b 0 0))] := hl
  have w0 := hts (.fieldLink RX6 54 "HeatTrain" "ticksGone" "I") (by decide +kernel)
  have w1 := hts (.fieldLink RX6 22 "HeatTrain" "units" "LHeatTrain$Units;") (by decide +kernel)
  have w2 := hts (.fieldLink RX6 12 "HeatTrain" "streams" "LHeatTrain$Streams;") (by decide +kernel)
  have w3 := hts (.fieldLink RX6 58 "HeatTrain" "heldOverAhead" "J") (by decide +kernel)
  have w4 := hts (.fieldLink RX6 43 "HeatTrain" "script" "LHeatTrain$Script;") (by decide +kernel)
  have w5 := hts (.fieldLink RX6 29 "HeatTrain" "controllers" "LHeatTrain$Controllers;") (by decide +kernel)
  have w6 := hts (.fieldLink RX6 36 "HeatTrain" "raised" "LHeatTrain$Alarms;") (by decide +kernel)
  have w7 := hts (.fieldLink RX6 50 "HeatTrain" "trends" "LHeatTrain$Trends;") (by decide +kernel)
  have u6 : ∀ w ∈ wsX60, w ∈ wsX6_letOneTickGoBy := by decide +kernel
  rw [f_X6_letOneTickGoBy] at hf
  refine lv_aload_n (pc := 0) hx hb dX6_letOneTickGoBy_0 rfl (lv_at hl 0 rfl) ?_
  refine lv_dup (pc := 1) hx hb dX6_letOneTickGoBy_1 rfl ?_
  refine va_get (pc := 2) (D := Z.1) (ci := 6) (v := .int ((h 0).1 7 0)) (C := RX6) (T := TX6) (N := 9) hx hb hts u6 hown hK hP 0 rfl rfl 7 (by decide) w0 (fun _ h9 => h9) rfl dX6_letOneTickGoBy_2 ?_
  refine lv_iconst (pc := 5) (v := 1) hx hb dX6_letOneTickGoBy_5 (by decide) ?_
  refine lv_iadd (pc := 6) hx hb dX6_letOneTickGoBy_6 ?_
  refine va_put (pc := 7) (D := Z.1) (ci := 6) (v := .int (((h 0).1 7 0) + 1)) (ty := .int) (C := RX6) (T := TX6) (N := 9) hx hb hts u6 tyX6 tyX6_ok nmX6 hown hK hP hD hS 0 rfl rfl 7 (by decide) w0 (fun _ h9 => h9) rfl (by decide +kernel) rfl rfl (Nat.le_of_ble_eq_true rfl) dX6_letOneTickGoBy_7 (fun H locs hP hD hS => ?_)
  obtain ⟨s7, h_7, hf⟩ := bd hf
  have hP : va_P Z.1 vwCl (wH Z b (hu h 0 s7)) H := st_P (f := fun z => wH Z b (hu h 0 z)) h_7 hP
  have hD : va_D A (wH Z b (hu h 0 s7)) := st_D (f := fun z => wH Z b (hu h 0 z)) h_7 hD
  refine lv_aload_n (pc := 10) hx hb dX6_letOneTickGoBy_10 rfl (lv_at hl 0 rfl) ?_
  refine lv_aload_n (pc := 11) hx hb dX6_letOneTickGoBy_11 rfl (lv_at hl 0 rfl) ?_
  refine va_get (pc := 12) (D := Z.1) (ci := 6) (v := .ref (b 3 0)) (C := RX6) (T := TX6) (N := 9) hx hb hts u6 hown hK hP 0 rfl rfl 2 (by decide) w1 (fun _ h9 => h9) rfl dX6_letOneTickGoBy_12 ?_
  refine lv_aload_n (pc := 15) hx hb dX6_letOneTickGoBy_15 rfl (lv_at hl 0 rfl) ?_
  refine va_get (pc := 16) (D := Z.1) (ci := 6) (v := .ref (b 1 0)) (C := RX6) (T := TX6) (N := 9) hx hb hts u6 hown hK hP 0 rfl rfl 0 (by decide) w2 (fun _ h9 => h9) rfl dX6_letOneTickGoBy_16 ?_
  obtain ⟨r19, h_19, hf⟩ := bd hf
  refine ro_V (pc := 19) (C := RX5) (As := [.ref (b 1 0)]) (rest := [.ref (b 0 0)]) (st1 := [.long r19, .ref (b 0 0)]) ⟨hx, hb, hml, hown, hts⟩ (c_X5_heatHeldOver Z l (b 3) (h 3) (b 1) (h 1) r19 h_19) (cwV 1 hts gX6_letOneTickGoBy_X5_heatHeldOver rfl rfl rfl hv_X5_heatHeldOver ⟨Nat.le_of_ble_eq_true rfl, Nat.le_of_ble_eq_true rfl⟩) hK hE (hP.sub (ws' := wX5 Z (b 3) (h 3) ++ wX3 Z (b 1) (h 1)) [7, 8, 9, 10, 11, 12, 13, 14, 15, 1, 2, 3] rfl) 5 rfl rfl rfl hl.1 rfl (lv_room (Nat.le_of_ble_eq_true rfl)) dX6_letOneTickGoBy_19 ⟨Nat.le_of_ble_eq_true rfl, Nat.le_of_ble_eq_true rfl⟩ rfl ?_
  refine va_put (pc := 22) (D := Z.1) (ci := 6) (v := .long r19) (ty := .long) (C := RX6) (T := TX6) (N := 9) hx hb hts u6 tyX6 tyX6_ok nmX6 hown hK hP hD hS 0 rfl rfl 8 (by decide) w3 (fun _ h9 => h9) rfl (by decide +kernel) rfl rfl (Nat.le_of_ble_eq_true rfl) dX6_letOneTickGoBy_22 (fun H locs hP hD hS => ?_)
  obtain ⟨s22, h_22, hf⟩ := bd hf
  have hP : va_P Z.1 vwCl (wH Z b (hu h 0 s22)) H := st_P (f := fun z => wH Z b (hu h 0 z)) h_22 hP
  have hD : va_D A (wH Z b (hu h 0 s22)) := st_D (f := fun z => wH Z b (hu h 0 z)) h_22 hD
  refine lv_aload_n (pc := 25) hx hb dX6_letOneTickGoBy_25 rfl (lv_at hl 0 rfl) ?_
  refine va_get (pc := 26) (D := Z.1) (ci := 6) (v := .ref (b 6 0)) (C := RX6) (T := TX6) (N := 9) hx hb hts u6 hown hK hP 0 rfl rfl 5 (by decide) w4 (fun _ h9 => h9) rfl dX6_letOneTickGoBy_26 ?_
  refine lv_aload_n (pc := 29) hx hb dX6_letOneTickGoBy_29 rfl (lv_at hl 0 rfl) ?_
  refine va_get (pc := 30) (D := Z.1) (ci := 6) (v := .ref (b 3 0)) (C := RX6) (T := TX6) (N := 9) hx hb hts u6 hown hK hP 0 rfl rfl 2 (by decide) w1 (fun _ h9 => h9) rfl dX6_letOneTickGoBy_30 ?_
  refine lv_aload_n (pc := 33) hx hb dX6_letOneTickGoBy_33 rfl (lv_at hl 0 rfl) ?_
  refine va_get (pc := 34) (D := Z.1) (ci := 6) (v := .int (s22.1 7 0)) (C := RX6) (T := TX6) (N := 9) hx hb hts u6 hown hK hP 0 rfl rfl 7 (by decide) w0 (fun _ h9 => h9) rfl dX6_letOneTickGoBy_34 ?_
  obtain ⟨r37, h_37, hf⟩ := bd hf
  refine rw_V (pc := 37) (C := RX2) (As := [.ref (b 3 0), .int (s22.1 7 0)]) (rest := []) (st1 := []) (wn := fun _ => wH Z b (hu (hu (hu h 0 s22) 3 r37.2) 6 r37.1)) ⟨hx, hb, hml, hown, hts⟩ (c_X2_playInto Z l (b 6) (h 6) (b 3) (h 3) (s22.1 7 0) r37 h_37) (cwV 2 hts gX6_letOneTickGoBy_X2_playInto rfl rfl rfl hv_X2_playInto ⟨Nat.le_of_ble_eq_true rfl, Nat.le_of_ble_eq_true rfl⟩) hK hE hP hD hS hA [34, 35, 36, 37, 7, 8, 9, 10, 11, 12, 13, 14, 15] [0, 1, 2, 3, 4, 5, 6, 16, 17, 18, 19, 20, 21, 22, 23, 24, 25, 26, 27, 28, 29, 30, 31, 32, 33, 38, 39] [0, 1, 2, 3, 4, 5, 6, 31, 32, 33, 34, 35, 36, 37, 38, 39, 7, 8, 9, 10, 11, 12, 13, 14, 15, 16, 17, 18, 19, 20, 21, 22, 23, 24, 27, 28, 29, 30, 25, 26] rfl rfl rfl (fun _ => rfl) 2 rfl rfl rfl hl.1 rfl (lv_room (Nat.le_of_ble_eq_true rfl)) dX6_letOneTickGoBy_37 ⟨Nat.le_of_ble_eq_true rfl, Nat.le_of_ble_eq_true rfl⟩ rfl (fun _ H locs hP hD hS => ?_)
  refine lv_aload_n (pc := 40) hx hb dX6_letOneTickGoBy_40 rfl (lv_at hl 0 rfl) ?_
  refine va_get (pc := 41) (D := Z.1) (ci := 6) (v := .ref (b 4 0)) (C := RX6) (T := TX6) (N := 9) hx hb hts u6 hown hK hP 0 rfl rfl 3 (by decide) w5 (fun _ h9 => h9) rfl dX6_letOneTickGoBy_41 ?_
  refine lv_aload_n (pc := 44) hx hb dX6_letOneTickGoBy_44 rfl (lv_at hl 0 rfl) ?_
  refine va_get (pc := 45) (D := Z.1) (ci := 6) (v := .ref (b 1 0)) (C := RX6) (T := TX6) (N := 9) hx hb hts u6 hown hK hP 0 rfl rfl 0 (by decide) w2 (fun _ h9 => h9) rfl dX6_letOneTickGoBy_45 ?_
  refine lv_aload_n (pc := 48) hx hb dX6_letOneTickGoBy_48 rfl (lv_at hl 0 rfl) ?_
  refine va_get (pc := 49) (D := Z.1) (ci := 6) (v := .ref (b 5 0)) (C := RX6) (T := TX6) (N := 9) hx hb hts u6 hown hK hP 0 rfl rfl 4 (by decide) w6 (fun _ h9 => h9) rfl dX6_letOneTickGoBy_49 ?_
  obtain ⟨r52, h_52, hf⟩ := bd hf
  refine rw_V (pc := 52) (C := RX1) (As := [.ref (b 1 0), .ref (b 5 0)]) (rest := []) (st1 := []) (wn := fun _ => wH Z b (hu (hu (hu (hu (hu h 0 s22) 3 r37.2) 4 r52.1) 5 r52.2) 6 r37.1)) ⟨hx, hb, hml, hown, hts⟩ (c_X1_work Z l (b 4) (h 4) (b 1) (h 1) (b 5) (h 5) r52 h_52) (cwV 2 hts gX6_letOneTickGoBy_X1_work rfl rfl rfl hv_X1_work ⟨Nat.le_of_ble_eq_true rfl, Nat.le_of_ble_eq_true rfl⟩) hK hE hP hD hS hA [16, 17, 18, 19, 20, 21, 22, 23, 24, 25, 26, 27, 28, 29, 30, 1, 2, 3, 31, 32, 33] [0, 4, 5, 6, 7, 8, 9, 10, 11, 12, 13, 14, 15, 34, 35, 36, 37, 38, 39] [0, 34, 35, 36, 1, 2, 3, 4, 5, 6, 7, 8, 9, 10, 11, 12, 19, 20, 21, 22, 23, 24, 25, 26, 27, 28, 29, 30, 31, 32, 33, 37, 38, 39, 13, 14, 15, 16, 17, 18] rfl rfl rfl (fun _ => rfl) 1 rfl rfl rfl hl.1 rfl (lv_room (Nat.le_of_ble_eq_true rfl)) dX6_letOneTickGoBy_52 ⟨Nat.le_of_ble_eq_true rfl, Nat.le_of_ble_eq_true rfl⟩ rfl (fun _ H locs hP hD hS => ?_)
  refine lv_aload_n (pc := 55) hx hb dX6_letOneTickGoBy_55 rfl (lv_at hl 0 rfl) ?_
  obtain ⟨r56, h_56, hf⟩ := bd hf
  refine rw_V (pc := 56) (C := RX6) (As := []) (rest := []) (st1 := []) (wn := fun _ => wH Z b r56) ⟨hx, hb, hml, hown, hts⟩ (c_X6_setDrivenUnits Z l b (hu (hu (hu (hu (hu h 0 s22) 3 r37.2) 4 r52.1) 5 r52.2) 6 r37.1) r56 h_56) (cwV 0 hts gX6_letOneTickGoBy_X6_setDrivenUnits rfl rfl rfl hv_X6_setDrivenUnits ⟨Nat.le_of_ble_eq_true rfl, Nat.le_of_ble_eq_true rfl⟩) hK hE hP hD hS hA [0, 1, 2, 3, 4, 5, 6, 7, 8, 9, 10, 11, 12, 13, 14, 15, 16, 17, 18, 19, 20, 21, 22, 23, 24, 25, 26, 27, 28, 29, 30, 31, 32, 33, 34, 35, 36, 37, 38, 39] [] [0, 1, 2, 3, 4, 5, 6, 7, 8, 9, 10, 11, 12, 13, 14, 15, 16, 17, 18, 19, 20, 21, 22, 23, 24, 25, 26, 27, 28, 29, 30, 31, 32, 33, 34, 35, 36, 37, 38, 39] rfl rfl rfl (fun _ => rfl) 6 rfl rfl rfl hl.1 rfl (lv_room (Nat.le_of_ble_eq_true rfl)) dX6_letOneTickGoBy_56 ⟨Nat.le_of_ble_eq_true rfl, Nat.le_of_ble_eq_true rfl⟩ rfl (fun _ H locs hP hD hS => ?_)
  refine lv_aload_n (pc := 59) hx hb dX6_letOneTickGoBy_59 rfl (lv_at hl 0 rfl) ?_
  refine va_get (pc := 60) (D := Z.1) (ci := 6) (v := .ref (b 3 0)) (C := RX6) (T := TX6) (N := 9) hx hb hts u6 hown hK hP 0 rfl rfl 2 (by decide) w1 (fun _ h9 => h9) rfl dX6_letOneTickGoBy_60 ?_
  refine lv_aload_n (pc := 63) hx hb dX6_letOneTickGoBy_63 rfl (lv_at hl 0 rfl) ?_
  refine va_get (pc := 64) (D := Z.1) (ci := 6) (v := .ref (b 1 0)) (C := RX6) (T := TX6) (N := 9) hx hb hts u6 hown hK hP 0 rfl rfl 0 (by decide) w2 (fun _ h9 => h9) rfl dX6_letOneTickGoBy_64 ?_
  obtain ⟨r67, h_67, hf⟩ := bd hf
  refine rw_V (pc := 67) (C := RX5) (As := [.ref (b 1 0)]) (rest := []) (st1 := []) (wn := fun _ => wH Z b (hu (hu r56 1 r67.2) 3 r67.1)) ⟨hx, hb, hml, hown, hts⟩ (c_X5_giveAll Z l (b 3) (r56 3) (b 1) (r56 1) r67 h_67) (cwV 1 hts gX6_letOneTickGoBy_X5_giveAll rfl rfl rfl hv_X5_giveAll ⟨Nat.le_of_ble_eq_true rfl, Nat.le_of_ble_eq_true rfl⟩) hK hE hP hD hS hA [7, 8, 9, 10, 11, 12, 13, 14, 15, 1, 2, 3] [0, 4, 5, 6, 16, 17, 18, 19, 20, 21, 22, 23, 24, 25, 26, 27, 28, 29, 30, 31, 32, 33, 34, 35, 36, 37, 38, 39] [0, 37, 38, 39, 1, 2, 3, 28, 29, 30, 31, 32, 33, 34, 35, 36, 4, 5, 6, 7, 8, 9, 10, 11, 12, 13, 14, 15, 16, 17, 18, 19, 20, 21, 22, 23, 24, 25, 26, 27] rfl rfl rfl (fun _ => rfl) 5 rfl rfl rfl hl.1 rfl (lv_room (Nat.le_of_ble_eq_true rfl)) dX6_letOneTickGoBy_67 ⟨Nat.le_of_ble_eq_true rfl, Nat.le_of_ble_eq_true rfl⟩ rfl (fun _ H locs hP hD hS => ?_)
  refine lv_aload_n (pc := 70) hx hb dX6_letOneTickGoBy_70 rfl (lv_at hl 0 rfl) ?_
  refine va_get (pc := 71) (D := Z.1) (ci := 6) (v := .ref (b 7 0)) (C := RX6) (T := TX6) (N := 9) hx hb hts u6 hown hK hP 0 rfl rfl 6 (by decide) w7 (fun _ h9 => h9) rfl dX6_letOneTickGoBy_71 ?_
  refine lv_aload_n (pc := 74) hx hb dX6_letOneTickGoBy_74 rfl (lv_at hl 0 rfl) ?_
  refine va_get (pc := 75) (D := Z.1) (ci := 6) (v := .ref (b 1 0)) (C := RX6) (T := TX6) (N := 9) hx hb hts u6 hown hK hP 0 rfl rfl 0 (by decide) w2 (fun _ h9 => h9) rfl dX6_letOneTickGoBy_75 ?_
  refine lv_aload_n (pc := 78) hx hb dX6_letOneTickGoBy_78 rfl (lv_at hl 0 rfl) ?_
  refine va_get (pc := 79) (D := Z.1) (ci := 6) (v := .int ((r56 0).1 7 0)) (C := RX6) (T := TX6) (N := 9) hx hb hts u6 hown hK hP 0 rfl rfl 7 (by decide) w0 (fun _ h9 => h9) rfl dX6_letOneTickGoBy_79 ?_
  obtain ⟨r82, h_82, hf⟩ := bd hf
  have hc := (congrArg (fun z => tnz z) (sdu7 (h0 := h) h_56)).mpr hc
  refine rw_V (pc := 82) (C := RX4) (As := [.ref (b 1 0), .int ((r56 0).1 7 0)]) (rest := []) (st1 := []) (wn := fun q => wH Z (bu b 7 (ad1 (b 7) q)) (hu (hu (hu r56 1 r67.2) 3 r67.1) 7 r82)) ⟨hx, hb, hml, hown, hts⟩ (c_X4_keep_new Z l (b 7) (r56 7) (b 1) r67.2 ((r56 0).1 7 0) r82 h_82 hc) (cwV 2 hts gX6_letOneTickGoBy_X4_keep rfl rfl rfl hv_X4_keep ⟨Nat.le_of_ble_eq_true rfl, Nat.le_of_ble_eq_true rfl⟩) hK hE hP hD hS hA [38, 39, 1, 2, 3] [0, 4, 5, 6, 7, 8, 9, 10, 11, 12, 13, 14, 15, 16, 17, 18, 19, 20, 21, 22, 23, 24, 25, 26, 27, 28, 29, 30, 31, 32, 33, 34, 35, 36, 37] [0, 37, 38, 39, 1, 2, 3, 4, 5, 6, 7, 8, 9, 10, 11, 12, 13, 14, 15, 16, 17, 18, 19, 20, 21, 22, 23, 24, 25, 26, 27, 28, 29, 30, 31, 32, 33, 34, 35, 36] rfl rfl rfl (fun _ => rfl) 4 rfl rfl rfl hl.1 rfl (lv_room (Nat.le_of_ble_eq_true rfl)) dX6_letOneTickGoBy_82 ⟨Nat.le_of_ble_eq_true rfl, Nat.le_of_ble_eq_true rfl⟩ rfl (fun q82 H locs hP hD hS => ?_)
  have hf := (Option.some.inj hf)
  subst hf
  exact rw_v q82 hx hb hr hlk hP hD hS dX6_letOneTickGoBy_85
set_option maxHeartbeats 4000000 in
set_option maxRecDepth 100000 in
theorem c_X6_letOneTickGoBy_old (Z : EnvT) (l : Launch) (b : Nat → Nat → Nat) (h : Nat → ObS) (R : (Nat → ObS)) (hf : f_X6_letOneTickGoBy h = some R) (hc : ¬ tnz (h 7)) : RW Z l yX6_letOneTickGoBy wsX6_letOneTickGoBy { frames := 5, cells := 0, slots := 0, locals := 129 } [.ref (b 0 0)] (wH Z b h) none (fun q => wH Z (bu b 7 (ad1 (b 7) q)) R) 0 0 := by
  refine rw_of (cc := cX6_letOneTickGoBy) (maxL := 1) (ret := none) (by decide) rfl (Nat.le_of_ble_eq_true rfl) ?_
  intro p e s m below meth c A ls hx hb hr hml hts hown hlk hin hP hK hE hD hA hS hl
  have hown : s.vm.findClass RX6 = some m.cls := hown
  have hl : lv_has ls 1 [(0, .ref (b 0 0))] := hl
  have w0 := hts (.fieldLink RX6 54 "HeatTrain" "ticksGone" "I") (by decide +kernel)
  have w1 := hts (.fieldLink RX6 22 "HeatTrain" "units" "LHeatTrain$Units;") (by decide +kernel)
  have w2 := hts (.fieldLink RX6 12 "HeatTrain" "streams" "LHeatTrain$Streams;") (by decide +kernel)
  have w3 := hts (.fieldLink RX6 58 "HeatTrain" "heldOverAhead" "J") (by decide +kernel)
  have w4 := hts (.fieldLink RX6 43 "HeatTrain" "script" "LHeatTrain$Script;") (by decide +kernel)
  have w5 := hts (.fieldLink RX6 29 "HeatTrain" "controllers" "LHeatTrain$Controllers;") (by decide +kernel)
  have w6 := hts (.fieldLink RX6 36 "HeatTrain" "raised" "LHeatTrain$Alarms;") (by decide +kernel)
  have w7 := hts (.fieldLink RX6 50 "HeatTrain" "trends" "LHeatTrain$Trends;") (by decide +kernel)
  have u6 : ∀ w ∈ wsX60, w ∈ wsX6_letOneTickGoBy := by decide +kernel
  rw [f_X6_letOneTickGoBy] at hf
  refine lv_aload_n (pc := 0) hx hb dX6_letOneTickGoBy_0 rfl (lv_at hl 0 rfl) ?_
  refine lv_dup (pc := 1) hx hb dX6_letOneTickGoBy_1 rfl ?_
  refine va_get (pc := 2) (D := Z.1) (ci := 6) (v := .int ((h 0).1 7 0)) (C := RX6) (T := TX6) (N := 9) hx hb hts u6 hown hK hP 0 rfl rfl 7 (by decide) w0 (fun _ h9 => h9) rfl dX6_letOneTickGoBy_2 ?_
  refine lv_iconst (pc := 5) (v := 1) hx hb dX6_letOneTickGoBy_5 (by decide) ?_
  refine lv_iadd (pc := 6) hx hb dX6_letOneTickGoBy_6 ?_
  refine va_put (pc := 7) (D := Z.1) (ci := 6) (v := .int (((h 0).1 7 0) + 1)) (ty := .int) (C := RX6) (T := TX6) (N := 9) hx hb hts u6 tyX6 tyX6_ok nmX6 hown hK hP hD hS 0 rfl rfl 7 (by decide) w0 (fun _ h9 => h9) rfl (by decide +kernel) rfl rfl (Nat.le_of_ble_eq_true rfl) dX6_letOneTickGoBy_7 (fun H locs hP hD hS => ?_)
  obtain ⟨s7, h_7, hf⟩ := bd hf
  have hP : va_P Z.1 vwCl (wH Z b (hu h 0 s7)) H := st_P (f := fun z => wH Z b (hu h 0 z)) h_7 hP
  have hD : va_D A (wH Z b (hu h 0 s7)) := st_D (f := fun z => wH Z b (hu h 0 z)) h_7 hD
  refine lv_aload_n (pc := 10) hx hb dX6_letOneTickGoBy_10 rfl (lv_at hl 0 rfl) ?_
  refine lv_aload_n (pc := 11) hx hb dX6_letOneTickGoBy_11 rfl (lv_at hl 0 rfl) ?_
  refine va_get (pc := 12) (D := Z.1) (ci := 6) (v := .ref (b 3 0)) (C := RX6) (T := TX6) (N := 9) hx hb hts u6 hown hK hP 0 rfl rfl 2 (by decide) w1 (fun _ h9 => h9) rfl dX6_letOneTickGoBy_12 ?_
  refine lv_aload_n (pc := 15) hx hb dX6_letOneTickGoBy_15 rfl (lv_at hl 0 rfl) ?_
  refine va_get (pc := 16) (D := Z.1) (ci := 6) (v := .ref (b 1 0)) (C := RX6) (T := TX6) (N := 9) hx hb hts u6 hown hK hP 0 rfl rfl 0 (by decide) w2 (fun _ h9 => h9) rfl dX6_letOneTickGoBy_16 ?_
  obtain ⟨r19, h_19, hf⟩ := bd hf
  refine ro_V (pc := 19) (C := RX5) (As := [.ref (b 1 0)]) (rest := [.ref (b 0 0)]) (st1 := [.long r19, .ref (b 0 0)]) ⟨hx, hb, hml, hown, hts⟩ (c_X5_heatHeldOver Z l (b 3) (h 3) (b 1) (h 1) r19 h_19) (cwV 1 hts gX6_letOneTickGoBy_X5_heatHeldOver rfl rfl rfl hv_X5_heatHeldOver ⟨Nat.le_of_ble_eq_true rfl, Nat.le_of_ble_eq_true rfl⟩) hK hE (hP.sub (ws' := wX5 Z (b 3) (h 3) ++ wX3 Z (b 1) (h 1)) [7, 8, 9, 10, 11, 12, 13, 14, 15, 1, 2, 3] rfl) 5 rfl rfl rfl hl.1 rfl (lv_room (Nat.le_of_ble_eq_true rfl)) dX6_letOneTickGoBy_19 ⟨Nat.le_of_ble_eq_true rfl, Nat.le_of_ble_eq_true rfl⟩ rfl ?_
  refine va_put (pc := 22) (D := Z.1) (ci := 6) (v := .long r19) (ty := .long) (C := RX6) (T := TX6) (N := 9) hx hb hts u6 tyX6 tyX6_ok nmX6 hown hK hP hD hS 0 rfl rfl 8 (by decide) w3 (fun _ h9 => h9) rfl (by decide +kernel) rfl rfl (Nat.le_of_ble_eq_true rfl) dX6_letOneTickGoBy_22 (fun H locs hP hD hS => ?_)
  obtain ⟨s22, h_22, hf⟩ := bd hf
  have hP : va_P Z.1 vwCl (wH Z b (hu h 0 s22)) H := st_P (f := fun z => wH Z b (hu h 0 z)) h_22 hP
  have hD : va_D A (wH Z b (hu h 0 s22)) := st_D (f := fun z => wH Z b (hu h 0 z)) h_22 hD
  refine lv_aload_n (pc := 25) hx hb dX6_letOneTickGoBy_25 rfl (lv_at hl 0 rfl) ?_
  refine va_get (pc := 26) (D := Z.1) (ci := 6) (v := .ref (b 6 0)) (C := RX6) (T := TX6) (N := 9) hx hb hts u6 hown hK hP 0 rfl rfl 5 (by decide) w4 (fun _ h9 => h9) rfl dX6_letOneTickGoBy_26 ?_
  refine lv_aload_n (pc := 29) hx hb dX6_letOneTickGoBy_29 rfl (lv_at hl 0 rfl) ?_
  refine va_get (pc := 30) (D := Z.1) (ci := 6) (v := .ref (b 3 0)) (C := RX6) (T := TX6) (N := 9) hx hb hts u6 hown hK hP 0 rfl rfl 2 (by decide) w1 (fun _ h9 => h9) rfl dX6_letOneTickGoBy_30 ?_
  refine lv_aload_n (pc := 33) hx hb dX6_letOneTickGoBy_33 rfl (lv_at hl 0 rfl) ?_
  refine va_get (pc := 34) (D := Z.1) (ci := 6) (v := .int (s22.1 7 0)) (C := RX6) (T := TX6) (N := 9) hx hb hts u6 hown hK hP 0 rfl rfl 7 (by decide) w0 (fun _ h9 => h9) rfl dX6_letOneTickGoBy_34 ?_
  obtain ⟨r37, h_37, hf⟩ := bd hf
  refine rw_V (pc := 37) (C := RX2) (As := [.ref (b 3 0), .int (s22.1 7 0)]) (rest := []) (st1 := []) (wn := fun _ => wH Z b (hu (hu (hu h 0 s22) 3 r37.2) 6 r37.1)) ⟨hx, hb, hml, hown, hts⟩ (c_X2_playInto Z l (b 6) (h 6) (b 3) (h 3) (s22.1 7 0) r37 h_37) (cwV 2 hts gX6_letOneTickGoBy_X2_playInto rfl rfl rfl hv_X2_playInto ⟨Nat.le_of_ble_eq_true rfl, Nat.le_of_ble_eq_true rfl⟩) hK hE hP hD hS hA [34, 35, 36, 37, 7, 8, 9, 10, 11, 12, 13, 14, 15] [0, 1, 2, 3, 4, 5, 6, 16, 17, 18, 19, 20, 21, 22, 23, 24, 25, 26, 27, 28, 29, 30, 31, 32, 33, 38, 39] [0, 1, 2, 3, 4, 5, 6, 31, 32, 33, 34, 35, 36, 37, 38, 39, 7, 8, 9, 10, 11, 12, 13, 14, 15, 16, 17, 18, 19, 20, 21, 22, 23, 24, 27, 28, 29, 30, 25, 26] rfl rfl rfl (fun _ => rfl) 2 rfl rfl rfl hl.1 rfl (lv_room (Nat.le_of_ble_eq_true rfl)) dX6_letOneTickGoBy_37 ⟨Nat.le_of_ble_eq_true rfl, Nat.le_of_ble_eq_true rfl⟩ rfl (fun _ H locs hP hD hS => ?_)
  refine lv_aload_n (pc := 40) hx hb dX6_letOneTickGoBy_40 rfl (lv_at hl 0 rfl) ?_
  refine va_get (pc := 41) (D := Z.1) (ci := 6) (v := .ref (b 4 0)) (C := RX6) (T := TX6) (N := 9) hx hb hts u6 hown hK hP 0 rfl rfl 3 (by decide) w5 (fun _ h9 => h9) rfl dX6_letOneTickGoBy_41 ?_
  refine lv_aload_n (pc := 44) hx hb dX6_letOneTickGoBy_44 rfl (lv_at hl 0 rfl) ?_
  refine va_get (pc := 45) (D := Z.1) (ci := 6) (v := .ref (b 1 0)) (C := RX6) (T := TX6) (N := 9) hx hb hts u6 hown hK hP 0 rfl rfl 0 (by decide) w2 (fun _ h9 => h9) rfl dX6_letOneTickGoBy_45 ?_
  refine lv_aload_n (pc := 48) hx hb dX6_letOneTickGoBy_48 rfl (lv_at hl 0 rfl) ?_
  refine va_get (pc := 49) (D := Z.1) (ci := 6) (v := .ref (b 5 0)) (C := RX6) (T := TX6) (N := 9) hx hb hts u6 hown hK hP 0 rfl rfl 4 (by decide) w6 (fun _ h9 => h9) rfl dX6_letOneTickGoBy_49 ?_
  obtain ⟨r52, h_52, hf⟩ := bd hf
  refine rw_V (pc := 52) (C := RX1) (As := [.ref (b 1 0), .ref (b 5 0)]) (rest := []) (st1 := []) (wn := fun _ => wH Z b (hu (hu (hu (hu (hu h 0 s22) 3 r37.2) 4 r52.1) 5 r52.2) 6 r37.1)) ⟨hx, hb, hml, hown, hts⟩ (c_X1_work Z l (b 4) (h 4) (b 1) (h 1) (b 5) (h 5) r52 h_52) (cwV 2 hts gX6_letOneTickGoBy_X1_work rfl rfl rfl hv_X1_work ⟨Nat.le_of_ble_eq_true rfl, Nat.le_of_ble_eq_true rfl⟩) hK hE hP hD hS hA [16, 17, 18, 19, 20, 21, 22, 23, 24, 25, 26, 27, 28, 29, 30, 1, 2, 3, 31, 32, 33] [0, 4, 5, 6, 7, 8, 9, 10, 11, 12, 13, 14, 15, 34, 35, 36, 37, 38, 39] [0, 34, 35, 36, 1, 2, 3, 4, 5, 6, 7, 8, 9, 10, 11, 12, 19, 20, 21, 22, 23, 24, 25, 26, 27, 28, 29, 30, 31, 32, 33, 37, 38, 39, 13, 14, 15, 16, 17, 18] rfl rfl rfl (fun _ => rfl) 1 rfl rfl rfl hl.1 rfl (lv_room (Nat.le_of_ble_eq_true rfl)) dX6_letOneTickGoBy_52 ⟨Nat.le_of_ble_eq_true rfl, Nat.le_of_ble_eq_true rfl⟩ rfl (fun _ H locs hP hD hS => ?_)
  refine lv_aload_n (pc := 55) hx hb dX6_letOneTickGoBy_55 rfl (lv_at hl 0 rfl) ?_
  obtain ⟨r56, h_56, hf⟩ := bd hf
  refine rw_V (pc := 56) (C := RX6) (As := []) (rest := []) (st1 := []) (wn := fun _ => wH Z b r56) ⟨hx, hb, hml, hown, hts⟩ (c_X6_setDrivenUnits Z l b (hu (hu (hu (hu (hu h 0 s22) 3 r37.2) 4 r52.1) 5 r52.2) 6 r37.1) r56 h_56) (cwV 0 hts gX6_letOneTickGoBy_X6_setDrivenUnits rfl rfl rfl hv_X6_setDrivenUnits ⟨Nat.le_of_ble_eq_true rfl, Nat.le_of_ble_eq_true rfl⟩) hK hE hP hD hS hA [0, 1, 2, 3, 4, 5, 6, 7, 8, 9, 10, 11, 12, 13, 14, 15, 16, 17, 18, 19, 20, 21, 22, 23, 24, 25, 26, 27, 28, 29, 30, 31, 32, 33, 34, 35, 36, 37, 38, 39] [] [0, 1, 2, 3, 4, 5, 6, 7, 8, 9, 10, 11, 12, 13, 14, 15, 16, 17, 18, 19, 20, 21, 22, 23, 24, 25, 26, 27, 28, 29, 30, 31, 32, 33, 34, 35, 36, 37, 38, 39] rfl rfl rfl (fun _ => rfl) 6 rfl rfl rfl hl.1 rfl (lv_room (Nat.le_of_ble_eq_true rfl)) dX6_letOneTickGoBy_56 ⟨Nat.le_of_ble_eq_true rfl, Nat.le_of_ble_eq_true rfl⟩ rfl (fun _ H locs hP hD hS => ?_)
  refine lv_aload_n (pc := 59) hx hb dX6_letOneTickGoBy_59 rfl (lv_at hl 0 rfl) ?_
  refine va_get (pc := 60) (D := Z.1) (ci := 6) (v := .ref (b 3 0)) (C := RX6) (T := TX6) (N := 9) hx hb hts u6 hown hK hP 0 rfl rfl 2 (by decide) w1 (fun _ h9 => h9) rfl dX6_letOneTickGoBy_60 ?_
  refine lv_aload_n (pc := 63) hx hb dX6_letOneTickGoBy_63 rfl (lv_at hl 0 rfl) ?_
  refine va_get (pc := 64) (D := Z.1) (ci := 6) (v := .ref (b 1 0)) (C := RX6) (T := TX6) (N := 9) hx hb hts u6 hown hK hP 0 rfl rfl 0 (by decide) w2 (fun _ h9 => h9) rfl dX6_letOneTickGoBy_64 ?_
  obtain ⟨r67, h_67, hf⟩ := bd hf
  refine rw_V (pc := 67) (C := RX5) (As := [.ref (b 1 0)]) (rest := []) (st1 := []) (wn := fun _ => wH Z b (hu (hu r56 1 r67.2) 3 r67.1)) ⟨hx, hb, hml, hown, hts⟩ (c_X5_giveAll Z l (b 3) (r56 3) (b 1) (r56 1) r67 h_67) (cwV 1 hts gX6_letOneTickGoBy_X5_giveAll rfl rfl rfl hv_X5_giveAll ⟨Nat.le_of_ble_eq_true rfl, Nat.le_of_ble_eq_true rfl⟩) hK hE hP hD hS hA [7, 8, 9, 10, 11, 12, 13, 14, 15, 1, 2, 3] [0, 4, 5, 6, 16, 17, 18, 19, 20, 21, 22, 23, 24, 25, 26, 27, 28, 29, 30, 31, 32, 33, 34, 35, 36, 37, 38, 39] [0, 37, 38, 39, 1, 2, 3, 28, 29, 30, 31, 32, 33, 34, 35, 36, 4, 5, 6, 7, 8, 9, 10, 11, 12, 13, 14, 15, 16, 17, 18, 19, 20, 21, 22, 23, 24, 25, 26, 27] rfl rfl rfl (fun _ => rfl) 5 rfl rfl rfl hl.1 rfl (lv_room (Nat.le_of_ble_eq_true rfl)) dX6_letOneTickGoBy_67 ⟨Nat.le_of_ble_eq_true rfl, Nat.le_of_ble_eq_true rfl⟩ rfl (fun _ H locs hP hD hS => ?_)
  refine lv_aload_n (pc := 70) hx hb dX6_letOneTickGoBy_70 rfl (lv_at hl 0 rfl) ?_
  refine va_get (pc := 71) (D := Z.1) (ci := 6) (v := .ref (b 7 0)) (C := RX6) (T := TX6) (N := 9) hx hb hts u6 hown hK hP 0 rfl rfl 6 (by decide) w7 (fun _ h9 => h9) rfl dX6_letOneTickGoBy_71 ?_
  refine lv_aload_n (pc := 74) hx hb dX6_letOneTickGoBy_74 rfl (lv_at hl 0 rfl) ?_
  refine va_get (pc := 75) (D := Z.1) (ci := 6) (v := .ref (b 1 0)) (C := RX6) (T := TX6) (N := 9) hx hb hts u6 hown hK hP 0 rfl rfl 0 (by decide) w2 (fun _ h9 => h9) rfl dX6_letOneTickGoBy_75 ?_
  refine lv_aload_n (pc := 78) hx hb dX6_letOneTickGoBy_78 rfl (lv_at hl 0 rfl) ?_
  refine va_get (pc := 79) (D := Z.1) (ci := 6) (v := .int ((r56 0).1 7 0)) (C := RX6) (T := TX6) (N := 9) hx hb hts u6 hown hK hP 0 rfl rfl 7 (by decide) w0 (fun _ h9 => h9) rfl dX6_letOneTickGoBy_79 ?_
  obtain ⟨r82, h_82, hf⟩ := bd hf
  have hc := (congrArg (fun z => ¬ tnz z) (sdu7 (h0 := h) h_56)).mpr hc
  refine rw_V (pc := 82) (C := RX4) (As := [.ref (b 1 0), .int ((r56 0).1 7 0)]) (rest := []) (st1 := []) (wn := fun q => wH Z (bu b 7 (ad1 (b 7) q)) (hu (hu (hu r56 1 r67.2) 3 r67.1) 7 r82)) ⟨hx, hb, hml, hown, hts⟩ (c_X4_keep_old Z l (b 7) (r56 7) (b 1) r67.2 ((r56 0).1 7 0) r82 h_82 hc) (cwV 2 hts gX6_letOneTickGoBy_X4_keep rfl rfl rfl hv_X4_keep ⟨Nat.le_of_ble_eq_true rfl, Nat.le_of_ble_eq_true rfl⟩) hK hE hP hD hS hA [38, 39, 1, 2, 3] [0, 4, 5, 6, 7, 8, 9, 10, 11, 12, 13, 14, 15, 16, 17, 18, 19, 20, 21, 22, 23, 24, 25, 26, 27, 28, 29, 30, 31, 32, 33, 34, 35, 36, 37] [0, 37, 38, 39, 1, 2, 3, 4, 5, 6, 7, 8, 9, 10, 11, 12, 13, 14, 15, 16, 17, 18, 19, 20, 21, 22, 23, 24, 25, 26, 27, 28, 29, 30, 31, 32, 33, 34, 35, 36] rfl rfl rfl (fun _ => rfl) 4 rfl rfl rfl hl.1 rfl (lv_room (Nat.le_of_ble_eq_true rfl)) dX6_letOneTickGoBy_82 ⟨Nat.le_of_ble_eq_true rfl, Nat.le_of_ble_eq_true rfl⟩ rfl (fun q82 H locs hP hD hS => ?_)
  have hf := (Option.some.inj hf)
  subst hf
  exact rw_v q82 hx hb hr hlk hP hD hS dX6_letOneTickGoBy_85
