def f_X6_setDrivenUnits_b2  : Nat → Int32 → (Nat → ObS) → Option ((Nat → ObS))
  | 0, _, _ => none
  | n + 1, v2_1, h2 =>
  if (f_X5_count (h2 3)) ≤ v2_1 then
    some (h2)
  else
    (f_X5_takesGreatest (h2 3) v2_1).bind fun r23 =>
    (f_X1_chosenFor (h2 4) v2_1 r23).bind fun r26 =>
    if r26 = (-1) then
      f_X6_setDrivenUnits_b2 n (v2_1 + 1) h2
    else
      (f_X1_outputOf (h2 4) r26).bind fun r40 =>
      (f_X1_letFollow (h2 4) v2_1 r40).bind fun r50 =>
      (f_X5_kindOf (h2 3) v2_1).bind fun r65 =>
      (f_X5_putNumber (h2 3) v2_1 ((f_X6_held r40 0 (((f_X6_mostOf r65)).toInt64)).toInt32)).bind fun r76 =>
      f_X6_setDrivenUnits_b2 n (v2_1 + 1) (hu (hu h2 3 r76) 4 r50)
def f_X6_setDrivenUnits (h : Nat → ObS) : Option ((Nat → ObS)) :=
  f_X6_setDrivenUnits_b2 64 0 h
set_option maxHeartbeats 4000000 in
set_option maxRecDepth 100000 in
theorem c_X6_setDrivenUnits (Z : EnvT) (l : Launch) (b : Nat → Nat → Nat) (h : Nat → ObS) (R : (Nat → ObS)) (hf : f_X6_setDrivenUnits h = some R) : RW Z l yX6_setDrivenUnits wsX6_setDrivenUnits { frames := 3, cells := 0, slots := 0, locals := 70 } [.ref (b 0 0)] (wH Z b h) none (fun _ => wH Z b R) 0 0 := by
  refine rw_of (cc := cX6_setDrivenUnits) (maxL := 5) (ret := none) (by decide) rfl (Nat.le_of_ble_eq_true rfl) ?_
  intro p e s m below meth c A ls hx hb hr hml hts hown hlk hin hP hK hE hD hA hS hl
  have hown : s.vm.findClass RX6 = some m.cls := hown
  have hl : lv_has ls 5 [(0, .ref (b 0 0))] := hl
  have w0 := hts (.fieldLink RX6 22 "HeatTrain" "units" "LHeatTrain$Units;") (by decide +kernel)
  have w1 := hts (.fieldLink RX6 29 "HeatTrain" "controllers" "LHeatTrain$Controllers;") (by decide +kernel)
  have u6 : ∀ w ∈ wsX60, w ∈ wsX6_setDrivenUnits := by decide +kernel
  have B2 : ∀ (n : Nat), ∀ (v2_1 : Int32) (h2 : Nat → ObS) (ls : Array Slot), lv_has ls 5 [(0, .ref (b 0 0)), (1, .int v2_1)] → ∀ (H : Heap) (locs : List Loc), va_P Z.1 vwCl (wH Z b h2) H → va_D A (wH Z b h2) → va_S A s.heap H locs → f_X6_setDrivenUnits_b2 n v2_1 h2 = some R → W p l e { frames := 3, cells := 0, slots := 0, locals := 70 } s m ([.ref (b 0 0)] : List Value).toArray below meth c H locs 0 0 (MQ below (rwQ Z none (fun _ => wH Z b R) A) ([.ref (b 0 0)] : List Value).toArray s 0 0 A) (F0 m 2 ls []) := by
    intro n
    induction n with
    | zero => intro v2_1 h2 ls hl H locs hP hD hS hf; rw [f_X6_setDrivenUnits_b2] at hf; exact nomatch hf
    | succ n ih =>
      intro v2_1 h2 ls hl H locs hP hD hS hf
      rw [f_X6_setDrivenUnits_b2] at hf
      refine lv_iload_n (pc := 2) hx hb dX6_setDrivenUnits_2 rfl (lv_at hl 1 rfl) ?_
      refine lv_aload_n (pc := 3) hx hb dX6_setDrivenUnits_3 rfl (lv_at hl 0 rfl) ?_
      refine va_get (pc := 4) (D := Z.1) (ci := 6) (v := .ref (b 3 0)) (C := RX6) (T := TX6) (N := 9) hx hb hts u6 hown hK hP 0 rfl rfl 2 (by decide) w0 (fun _ h9 => h9) rfl dX6_setDrivenUnits_4 ?_
      refine ro_V (pc := 7) (C := RX5) (As := []) (rest := [.int v2_1]) (st1 := [.int (f_X5_count (h2 3)), .int v2_1]) ⟨hx, hb, hml, hown, hts⟩ (c_X5_count Z l (b 3) (h2 3) _ rfl) (cwV 0 hts gX6_setDrivenUnits_X5_count rfl rfl rfl hv_X5_count ⟨Nat.le_of_ble_eq_true rfl, Nat.le_of_ble_eq_true rfl⟩) hK hE (hP.sub (ws' := wX5 Z (b 3) (h2 3)) [7, 8, 9, 10, 11, 12, 13, 14, 15] rfl) 5 rfl rfl rfl hl.1 rfl (lv_room (Nat.le_of_ble_eq_true rfl)) dX6_setDrivenUnits_7 ⟨Nat.le_of_ble_eq_true rfl, Nat.le_of_ble_eq_true rfl⟩ rfl ?_
      refine lv_icmp_ge (pc := 10) (tgt := 85) hx hb dX6_setDrivenUnits_10 (by decide) (fun c1 => ?_) (fun c1 => ?_)
      · have hf := (if_pos c1).symm.trans hf
        have hf := (Option.some.inj hf)
        subst hf
        exact rw_v (fun _ => 0) hx hb hr hlk hP hD hS dX6_setDrivenUnits_85
      · have hf := (if_neg c1).symm.trans hf
        refine lv_aload_n (pc := 13) hx hb dX6_setDrivenUnits_13 rfl (lv_at hl 0 rfl) ?_
        refine va_get (pc := 14) (D := Z.1) (ci := 6) (v := .ref (b 4 0)) (C := RX6) (T := TX6) (N := 9) hx hb hts u6 hown hK hP 0 rfl rfl 3 (by decide) w1 (fun _ h9 => h9) rfl dX6_setDrivenUnits_14 ?_
        refine lv_iload_n (pc := 17) hx hb dX6_setDrivenUnits_17 rfl (lv_at hl 1 rfl) ?_
        refine lv_aload_n (pc := 18) hx hb dX6_setDrivenUnits_18 rfl (lv_at hl 0 rfl) ?_
        refine va_get (pc := 19) (D := Z.1) (ci := 6) (v := .ref (b 3 0)) (C := RX6) (T := TX6) (N := 9) hx hb hts u6 hown hK hP 0 rfl rfl 2 (by decide) w0 (fun _ h9 => h9) rfl dX6_setDrivenUnits_19 ?_
        refine lv_iload_n (pc := 22) hx hb dX6_setDrivenUnits_22 rfl (lv_at hl 1 rfl) ?_
        obtain ⟨r23, h_23, hf⟩ := bd hf
        refine ro_V (pc := 23) (C := RX5) (As := [.int v2_1]) (rest := [.int v2_1, .ref (b 4 0)]) (st1 := [.int r23, .int v2_1, .ref (b 4 0)]) ⟨hx, hb, hml, hown, hts⟩ (c_X5_takesGreatest Z l (b 3) (h2 3) v2_1 r23 h_23) (cwV 1 hts gX6_setDrivenUnits_X5_takesGreatest rfl rfl rfl hv_X5_takesGreatest ⟨Nat.le_of_ble_eq_true rfl, Nat.le_of_ble_eq_true rfl⟩) hK hE (hP.sub (ws' := wX5 Z (b 3) (h2 3)) [7, 8, 9, 10, 11, 12, 13, 14, 15] rfl) 5 rfl rfl rfl hl.1 rfl (lv_room (Nat.le_of_ble_eq_true rfl)) dX6_setDrivenUnits_23 ⟨Nat.le_of_ble_eq_true rfl, Nat.le_of_ble_eq_true rfl⟩ rfl ?_
        obtain ⟨r26, h_26, hf⟩ := bd hf
        refine ro_V (pc := 26) (C := RX1) (As := [.int v2_1, .int r23]) (rest := []) (st1 := [.int r26]) ⟨hx, hb, hml, hown, hts⟩ (c_X1_chosenFor Z l (b 4) (h2 4) v2_1 r23 r26 h_26) (cwV 2 hts gX6_setDrivenUnits_X1_chosenFor rfl rfl rfl hv_X1_chosenFor ⟨Nat.le_of_ble_eq_true rfl, Nat.le_of_ble_eq_true rfl⟩) hK hE (hP.sub (ws' := wX1 Z (b 4) (h2 4)) [16, 17, 18, 19, 20, 21, 22, 23, 24, 25, 26, 27, 28, 29, 30] rfl) 1 rfl rfl rfl hl.1 rfl (lv_room (Nat.le_of_ble_eq_true rfl)) dX6_setDrivenUnits_26 ⟨Nat.le_of_ble_eq_true rfl, Nat.le_of_ble_eq_true rfl⟩ rfl ?_
        refine lv_istore_n (pc := 29) (lv' := [(2, .int r26), (0, .ref (b 0 0)), (1, .int v2_1)]) hx hb dX6_setDrivenUnits_29 rfl hl (by decide) rfl (fun ls hl => ?_)
        refine lv_iload_n (pc := 30) hx hb dX6_setDrivenUnits_30 rfl (lv_at hl 0 rfl) ?_
        refine lv_iconst (pc := 31) (v := (-1)) hx hb dX6_setDrivenUnits_31 (by decide) ?_
        refine lv_icmp_eq (pc := 32) (tgt := 79) hx hb dX6_setDrivenUnits_32 (by decide) (fun c2 => ?_) (fun c2 => ?_)
        · have hf := (if_pos c2).symm.trans hf
          refine lv_iinc (pc := 79) (v := v2_1 + 1) (lv' := [(1, .int (v2_1 + 1)), (2, .int r26), (0, .ref (b 0 0))]) hx hb dX6_setDrivenUnits_79 hl (k := 2) rfl rfl (by decide) rfl (fun ls hl => ?_)
          refine lv_goto (pc := 82) (tgt := 2) hx hb dX6_setDrivenUnits_82 (by decide) ?_
          exact ih (v2_1 + 1) h2 _ (lv_sub hl [2, 0] rfl) _ _ hP hD hS hf
        · have hf := (if_neg c2).symm.trans hf
          refine lv_aload_n (pc := 35) hx hb dX6_setDrivenUnits_35 rfl (lv_at hl 1 rfl) ?_
          refine va_get (pc := 36) (D := Z.1) (ci := 6) (v := .ref (b 4 0)) (C := RX6) (T := TX6) (N := 9) hx hb hts u6 hown hK hP 0 rfl rfl 3 (by decide) w1 (fun _ h9 => h9) rfl dX6_setDrivenUnits_36 ?_
          refine lv_iload_n (pc := 39) hx hb dX6_setDrivenUnits_39 rfl (lv_at hl 0 rfl) ?_
          obtain ⟨r40, h_40, hf⟩ := bd hf
          refine ro_V (pc := 40) (C := RX1) (As := [.int r26]) (rest := []) (st1 := [.long r40]) ⟨hx, hb, hml, hown, hts⟩ (c_X1_outputOf Z l (b 4) (h2 4) r26 r40 h_40) (cwV 1 hts gX6_setDrivenUnits_X1_outputOf rfl rfl rfl hv_X1_outputOf ⟨Nat.le_of_ble_eq_true rfl, Nat.le_of_ble_eq_true rfl⟩) hK hE (hP.sub (ws' := wX1 Z (b 4) (h2 4)) [16, 17, 18, 19, 20, 21, 22, 23, 24, 25, 26, 27, 28, 29, 30] rfl) 1 rfl rfl rfl hl.1 rfl (lv_room (Nat.le_of_ble_eq_true rfl)) dX6_setDrivenUnits_40 ⟨Nat.le_of_ble_eq_true rfl, Nat.le_of_ble_eq_true rfl⟩ rfl ?_
          refine lv_lstore_n (pc := 43) (lv' := [(3, .long r40), (2, .int r26), (0, .ref (b 0 0)), (1, .int v2_1)]) hx hb dX6_setDrivenUnits_43 rfl hl (by decide) rfl (fun ls hl => ?_)
          refine lv_aload_n (pc := 44) hx hb dX6_setDrivenUnits_44 rfl (lv_at hl 2 rfl) ?_
          refine va_get (pc := 45) (D := Z.1) (ci := 6) (v := .ref (b 4 0)) (C := RX6) (T := TX6) (N := 9) hx hb hts u6 hown hK hP 0 rfl rfl 3 (by decide) w1 (fun _ h9 => h9) rfl dX6_setDrivenUnits_45 ?_
          refine lv_iload_n (pc := 48) hx hb dX6_setDrivenUnits_48 rfl (lv_at hl 3 rfl) ?_
          refine lv_lload_n (pc := 49) hx hb dX6_setDrivenUnits_49 rfl (lv_at hl 0 rfl) ?_
          obtain ⟨r50, h_50, hf⟩ := bd hf
          refine rw_V (pc := 50) (C := RX1) (As := [.int v2_1, .long r40]) (rest := []) (st1 := []) (wn := fun _ => wH Z b (hu h2 4 r50)) ⟨hx, hb, hml, hown, hts⟩ (c_X1_letFollow Z l (b 4) (h2 4) v2_1 r40 r50 h_50) (cwV 2 hts gX6_setDrivenUnits_X1_letFollow rfl rfl rfl hv_X1_letFollow ⟨Nat.le_of_ble_eq_true rfl, Nat.le_of_ble_eq_true rfl⟩) hK hE hP hD hS hA [16, 17, 18, 19, 20, 21, 22, 23, 24, 25, 26, 27, 28, 29, 30] [0, 1, 2, 3, 4, 5, 6, 7, 8, 9, 10, 11, 12, 13, 14, 15, 31, 32, 33, 34, 35, 36, 37, 38, 39] [0, 1, 2, 3, 4, 5, 6, 7, 8, 9, 10, 11, 12, 13, 14, 15, 25, 26, 27, 28, 29, 30, 31, 32, 33, 34, 35, 36, 37, 38, 39, 16, 17, 18, 19, 20, 21, 22, 23, 24] rfl rfl rfl (fun _ => rfl) 1 rfl rfl rfl hl.1 rfl (lv_room (Nat.le_of_ble_eq_true rfl)) dX6_setDrivenUnits_50 ⟨Nat.le_of_ble_eq_true rfl, Nat.le_of_ble_eq_true rfl⟩ rfl (fun _ H locs hP hD hS => ?_)
          refine lv_aload_n (pc := 53) hx hb dX6_setDrivenUnits_53 rfl (lv_at hl 2 rfl) ?_
          refine va_get (pc := 54) (D := Z.1) (ci := 6) (v := .ref (b 3 0)) (C := RX6) (T := TX6) (N := 9) hx hb hts u6 hown hK hP 0 rfl rfl 2 (by decide) w0 (fun _ h9 => h9) rfl dX6_setDrivenUnits_54 ?_
          refine lv_iload_n (pc := 57) hx hb dX6_setDrivenUnits_57 rfl (lv_at hl 3 rfl) ?_
          refine lv_lload_n (pc := 58) hx hb dX6_setDrivenUnits_58 rfl (lv_at hl 0 rfl) ?_
          refine lv_lconst (pc := 59) (v := 0) hx hb dX6_setDrivenUnits_59 (by decide) ?_
          refine lv_aload_n (pc := 60) hx hb dX6_setDrivenUnits_60 rfl (lv_at hl 2 rfl) ?_
          refine va_get (pc := 61) (D := Z.1) (ci := 6) (v := .ref (b 3 0)) (C := RX6) (T := TX6) (N := 9) hx hb hts u6 hown hK hP 0 rfl rfl 2 (by decide) w0 (fun _ h9 => h9) rfl dX6_setDrivenUnits_61 ?_
          refine lv_iload_n (pc := 64) hx hb dX6_setDrivenUnits_64 rfl (lv_at hl 3 rfl) ?_
          obtain ⟨r65, h_65, hf⟩ := bd hf
          refine ro_V (pc := 65) (C := RX5) (As := [.int v2_1]) (rest := [.long 0, .long r40, .int v2_1, .ref (b 3 0)]) (st1 := [.int r65, .long 0, .long r40, .int v2_1, .ref (b 3 0)]) ⟨hx, hb, hml, hown, hts⟩ (c_X5_kindOf Z l (b 3) (h2 3) v2_1 r65 h_65) (cwV 1 hts gX6_setDrivenUnits_X5_kindOf rfl rfl rfl hv_X5_kindOf ⟨Nat.le_of_ble_eq_true rfl, Nat.le_of_ble_eq_true rfl⟩) hK hE (hP.sub (ws' := wX5 Z (b 3) (h2 3)) [7, 8, 9, 10, 11, 12, 13, 14, 15] rfl) 5 rfl rfl rfl hl.1 rfl (lv_room (Nat.le_of_ble_eq_true rfl)) dX6_setDrivenUnits_65 ⟨Nat.le_of_ble_eq_true rfl, Nat.le_of_ble_eq_true rfl⟩ rfl ?_
          refine ro_S (pc := 68) (As := [.int r65]) (rest := [.long 0, .long r40, .int v2_1, .ref (b 3 0)]) (st1 := [.int (f_X6_mostOf r65), .long 0, .long r40, .int v2_1, .ref (b 3 0)]) ⟨hx, hb, hml, hown, hts⟩ (c_X6_mostOf Z l r65 _ rfl) (va_cwS 1 hts gX6_setDrivenUnits_X6_mostOf rfl rfl rfl hs_X6_mostOf ⟨Nat.le_of_ble_eq_true rfl, Nat.le_of_ble_eq_true rfl⟩) hK hE (hP.sub (ws' := []) [] rfl) rfl hl.1 rfl (lv_room (Nat.le_of_ble_eq_true rfl)) dX6_setDrivenUnits_68 ⟨Nat.le_of_ble_eq_true rfl, Nat.le_of_ble_eq_true rfl⟩ rfl ?_
          refine lv_i2l (pc := 71) (v := ((f_X6_mostOf r65)).toInt64) hx hb dX6_setDrivenUnits_71 rfl ?_
          refine ro_S (pc := 72) (As := [.long r40, .long 0, .long (((f_X6_mostOf r65)).toInt64)]) (rest := [.int v2_1, .ref (b 3 0)]) (st1 := [.long (f_X6_held r40 0 (((f_X6_mostOf r65)).toInt64)), .int v2_1, .ref (b 3 0)]) ⟨hx, hb, hml, hown, hts⟩ (c_X6_held Z l r40 0 (((f_X6_mostOf r65)).toInt64) _ rfl) (va_cwS 3 hts gX6_setDrivenUnits_X6_held rfl rfl rfl hs_X6_held ⟨Nat.le_of_ble_eq_true rfl, Nat.le_of_ble_eq_true rfl⟩) hK hE (hP.sub (ws' := []) [] rfl) rfl hl.1 rfl (lv_room (Nat.le_of_ble_eq_true rfl)) dX6_setDrivenUnits_72 ⟨Nat.le_of_ble_eq_true rfl, Nat.le_of_ble_eq_true rfl⟩ rfl ?_
          refine lv_l2i (pc := 75) (v := (f_X6_held r40 0 (((f_X6_mostOf r65)).toInt64)).toInt32) hx hb dX6_setDrivenUnits_75 rfl ?_
          obtain ⟨r76, h_76, hf⟩ := bd hf
          refine rw_V (pc := 76) (C := RX5) (As := [.int v2_1, .int ((f_X6_held r40 0 (((f_X6_mostOf r65)).toInt64)).toInt32)]) (rest := []) (st1 := []) (wn := fun _ => wH Z b (hu (hu h2 3 r76) 4 r50)) ⟨hx, hb, hml, hown, hts⟩ (c_X5_putNumber Z l (b 3) (h2 3) v2_1 ((f_X6_held r40 0 (((f_X6_mostOf r65)).toInt64)).toInt32) r76 h_76) (cwV 2 hts gX6_setDrivenUnits_X5_putNumber rfl rfl rfl hv_X5_putNumber ⟨Nat.le_of_ble_eq_true rfl, Nat.le_of_ble_eq_true rfl⟩) hK hE hP hD hS hA [7, 8, 9, 10, 11, 12, 13, 14, 15] [0, 1, 2, 3, 4, 5, 6, 16, 17, 18, 19, 20, 21, 22, 23, 24, 25, 26, 27, 28, 29, 30, 31, 32, 33, 34, 35, 36, 37, 38, 39] [0, 1, 2, 3, 4, 5, 6, 31, 32, 33, 34, 35, 36, 37, 38, 39, 7, 8, 9, 10, 11, 12, 13, 14, 15, 16, 17, 18, 19, 20, 21, 22, 23, 24, 25, 26, 27, 28, 29, 30] rfl rfl rfl (fun _ => rfl) 5 rfl rfl rfl hl.1 rfl (lv_room (Nat.le_of_ble_eq_true rfl)) dX6_setDrivenUnits_76 ⟨Nat.le_of_ble_eq_true rfl, Nat.le_of_ble_eq_true rfl⟩ rfl (fun _ H locs hP hD hS => ?_)
          refine lv_iinc (pc := 79) (v := v2_1 + 1) (lv' := [(1, .int (v2_1 + 1)), (3, .long r40), (2, .int r26), (0, .ref (b 0 0))]) hx hb dX6_setDrivenUnits_79 hl (k := 3) rfl rfl (by decide) rfl (fun ls hl => ?_)
          refine lv_goto (pc := 82) (tgt := 2) hx hb dX6_setDrivenUnits_82 (by decide) ?_
          exact ih (v2_1 + 1) (hu (hu h2 3 r76) 4 r50) _ (lv_sub hl [3, 0] rfl) _ _ hP hD hS hf
  rw [f_X6_setDrivenUnits] at hf
  refine lv_iconst (pc := 0) (v := 0) hx hb dX6_setDrivenUnits_0 (by decide) ?_
  refine lv_istore_n (pc := 1) (lv' := [(1, .int 0), (0, .ref (b 0 0))]) hx hb dX6_setDrivenUnits_1 rfl hl (by decide) rfl (fun ls hl => ?_)
  exact B2 64 0 h _ (lv_sub hl [1, 0] rfl) _ _ hP hD hS hf
def f_X6_warmthLater_b24 (k : Int32 → (Nat → ObS) → Option (Int64 × (Nat → ObS))) (x2 : Int32) (x3 : Int32) (v14_4 : Int32) : Nat → Int32 → (Nat → ObS) → Option (Int64 × (Nat → ObS))
  | 0, _, _ => none
  | n + 1, v24_5, h24 =>
  if (f_X5_count (h24 3)) ≤ v24_5 then
    k (v14_4 + 1) h24
  else
    if v24_5 = x2 then
      (f_X5_give (h24 3) (h24 2) v24_5 x3).bind fun r65 =>
      f_X6_warmthLater_b24 k x2 x3 v14_4 n (v24_5 + 1) (hu h24 2 r65.2)
    else
      (f_X5_numberOf (h24 3) v24_5).bind fun r62 =>
      (f_X5_give (h24 3) (h24 2) v24_5 r62).bind fun r65 =>
      f_X6_warmthLater_b24 k x2 x3 v14_4 n (v24_5 + 1) (hu h24 2 r65.2)
def f_X6_warmthLater_b14 (x1 : Int32) (x2 : Int32) (x3 : Int32) : Nat → Int32 → (Nat → ObS) → Option (Int64 × (Nat → ObS))
  | 0, _, _ => none
  | n + 1, v14_4, h14 =>
  if 12 ≤ v14_4 then
    (f_X3_warmthOf (h14 2) x1).bind fun r86 =>
    some (r86, h14)
  else
    f_X6_warmthLater_b24 (f_X6_warmthLater_b14 x1 x2 x3 n) x2 x3 v14_4 64 0 h14
def f_X6_warmthLater (h : Nat → ObS) (x1 : Int32) (x2 : Int32) (x3 : Int32) : Option (Int64 × (Nat → ObS)) :=
  (f_X3_copyFrom (h 2) (h 1)).bind fun r8 =>
  f_X6_warmthLater_b14 x1 x2 x3 64 0 (hu h 2 r8)
set_option maxHeartbeats 4000000 in
set_option maxRecDepth 100000 in
theorem c_X6_warmthLater (Z : EnvT) (l : Launch) (b : Nat → Nat → Nat) (h : Nat → ObS) (x1 : Int32) (x2 : Int32) (x3 : Int32) (R : Int64 × (Nat → ObS)) (hf : f_X6_warmthLater h x1 x2 x3 = some R) : RW Z l yX6_warmthLater wsX6_warmthLater { frames := 4, cells := 0, slots := 0, locals := 107 } [.ref (b 0 0), .int x1, .int x2, .int x3] (wH Z b h) (some (.long R.1)) (fun _ => wH Z b R.2) 0 0 := by
  refine rw_of (cc := cX6_warmthLater) (maxL := 6) (ret := (some .long)) (by decide) rfl (Nat.le_of_ble_eq_true rfl) ?_
  intro p e s m below meth c A ls hx hb hr hml hts hown hlk hin hP hK hE hD hA hS hl
  have hown : s.vm.findClass RX6 = some m.cls := hown
  have hl : lv_has ls 6 [(0, .ref (b 0 0)), (1, .int x1), (2, .int x2), (3, .int x3)] := hl
  have w0 := hts (.fieldLink RX6 16 "HeatTrain" "trial" "LHeatTrain$Streams;") (by decide +kernel)
  have w1 := hts (.fieldLink RX6 12 "HeatTrain" "streams" "LHeatTrain$Streams;") (by decide +kernel)
  have w2 := hts (.fieldLink RX6 22 "HeatTrain" "units" "LHeatTrain$Units;") (by decide +kernel)
  have u6 : ∀ w ∈ wsX60, w ∈ wsX6_warmthLater := by decide +kernel
  have B24 : ∀ (v14_4 : Int32) (k : Int32 → (Nat → ObS) → Option (Int64 × (Nat → ObS))) (hk : ∀ (v14_4 : Int32) (h14 : Nat → ObS) (ls : Array Slot), lv_has ls 6 [(0, .ref (b 0 0)), (1, .int x1), (2, .int x2), (3, .int x3), (4, .int v14_4)] → ∀ (H : Heap) (locs : List Loc), va_P Z.1 vwCl (wH Z b h14) H → va_D A (wH Z b h14) → va_S A s.heap H locs → k v14_4 h14 = some R → W p l e { frames := 4, cells := 0, slots := 0, locals := 107 } s m ([.ref (b 0 0), .int x1, .int x2, .int x3] : List Value).toArray below meth c H locs 0 0 (MQ below (rwQ Z (some (.long R.1)) (fun _ => wH Z b R.2) A) ([.ref (b 0 0), .int x1, .int x2, .int x3] : List Value).toArray s 0 0 A) (F0 m 14 ls [])) (n : Nat), ∀ (v24_5 : Int32) (h24 : Nat → ObS) (ls : Array Slot), lv_has ls 6 [(0, .ref (b 0 0)), (1, .int x1), (2, .int x2), (3, .int x3), (4, .int v14_4), (5, .int v24_5)] → ∀ (H : Heap) (locs : List Loc), va_P Z.1 vwCl (wH Z b h24) H → va_D A (wH Z b h24) → va_S A s.heap H locs → f_X6_warmthLater_b24 k x2 x3 v14_4 n v24_5 h24 = some R → W p l e { frames := 4, cells := 0, slots := 0, locals := 107 } s m ([.ref (b 0 0), .int x1, .int x2, .int x3] : List Value).toArray below meth c H locs 0 0 (MQ below (rwQ Z (some (.long R.1)) (fun _ => wH Z b R.2) A) ([.ref (b 0 0), .int x1, .int x2, .int x3] : List Value).toArray s 0 0 A) (F0 m 24 ls []) := by
    intro v14_4 k hk n
    induction n with
    | zero => intro v24_5 h24 ls hl H locs hP hD hS hf; rw [f_X6_warmthLater_b24] at hf; exact nomatch hf
    | succ n ih =>
      intro v24_5 h24 ls hl H locs hP hD hS hf
      rw [f_X6_warmthLater_b24] at hf
      refine lv_iload (pc := 24) hx hb dX6_warmthLater_24 (lv_at hl 5 rfl) ?_
      refine lv_aload_n (pc := 26) hx hb dX6_warmthLater_26 rfl (lv_at hl 0 rfl) ?_
      refine va_get (pc := 27) (D := Z.1) (ci := 6) (v := .ref (b 3 0)) (C := RX6) (T := TX6) (N := 9) hx hb hts u6 hown hK hP 0 rfl rfl 2 (by decide) w2 (fun _ h9 => h9) rfl dX6_warmthLater_27 ?_
      refine ro_V (pc := 30) (C := RX5) (As := []) (rest := [.int v24_5]) (st1 := [.int (f_X5_count (h24 3)), .int v24_5]) ⟨hx, hb, hml, hown, hts⟩ (c_X5_count Z l (b 3) (h24 3) _ rfl) (cwV 0 hts gX6_warmthLater_X5_count rfl rfl rfl hv_X5_count ⟨Nat.le_of_ble_eq_true rfl, Nat.le_of_ble_eq_true rfl⟩) hK hE (hP.sub (ws' := wX5 Z (b 3) (h24 3)) [7, 8, 9, 10, 11, 12, 13, 14, 15] rfl) 5 rfl rfl rfl hl.1 rfl (lv_room (Nat.le_of_ble_eq_true rfl)) dX6_warmthLater_30 ⟨Nat.le_of_ble_eq_true rfl, Nat.le_of_ble_eq_true rfl⟩ rfl ?_
      refine lv_icmp_ge (pc := 33) (tgt := 75) hx hb dX6_warmthLater_33 (by decide) (fun c1 => ?_) (fun c1 => ?_)
      · have hf := (if_pos c1).symm.trans hf
        refine lv_iinc (pc := 75) (v := v14_4 + 1) (lv' := [(4, .int (v14_4 + 1)), (0, .ref (b 0 0)), (1, .int x1), (2, .int x2), (3, .int x3), (5, .int v24_5)]) hx hb dX6_warmthLater_75 hl (k := 4) rfl rfl (by decide) rfl (fun ls hl => ?_)
        refine lv_goto (pc := 78) (tgt := 14) hx hb dX6_warmthLater_78 (by decide) ?_
        exact hk (v14_4 + 1) h24 _ (lv_sub hl [1, 2, 3, 4, 0] rfl) _ _ hP hD hS hf
      · have hf := (if_neg c1).symm.trans hf
        refine lv_aload_n (pc := 36) hx hb dX6_warmthLater_36 rfl (lv_at hl 0 rfl) ?_
        refine va_get (pc := 37) (D := Z.1) (ci := 6) (v := .ref (b 3 0)) (C := RX6) (T := TX6) (N := 9) hx hb hts u6 hown hK hP 0 rfl rfl 2 (by decide) w2 (fun _ h9 => h9) rfl dX6_warmthLater_37 ?_
        refine lv_aload_n (pc := 40) hx hb dX6_warmthLater_40 rfl (lv_at hl 0 rfl) ?_
        refine va_get (pc := 41) (D := Z.1) (ci := 6) (v := .ref (b 2 0)) (C := RX6) (T := TX6) (N := 9) hx hb hts u6 hown hK hP 0 rfl rfl 1 (by decide) w0 (fun _ h9 => h9) rfl dX6_warmthLater_41 ?_
        refine lv_iload (pc := 44) hx hb dX6_warmthLater_44 (lv_at hl 5 rfl) ?_
        refine lv_iload (pc := 46) hx hb dX6_warmthLater_46 (lv_at hl 5 rfl) ?_
        refine lv_iload_n (pc := 48) hx hb dX6_warmthLater_48 rfl (lv_at hl 2 rfl) ?_
        refine lv_icmp_ne (pc := 49) (tgt := 56) hx hb dX6_warmthLater_49 (by decide) (fun c2 => ?_) (fun c2 => ?_)
        · have hf := (if_neg c2).symm.trans hf
          refine lv_aload_n (pc := 56) hx hb dX6_warmthLater_56 rfl (lv_at hl 0 rfl) ?_
          refine va_get (pc := 57) (D := Z.1) (ci := 6) (v := .ref (b 3 0)) (C := RX6) (T := TX6) (N := 9) hx hb hts u6 hown hK hP 0 rfl rfl 2 (by decide) w2 (fun _ h9 => h9) rfl dX6_warmthLater_57 ?_
          refine lv_iload (pc := 60) hx hb dX6_warmthLater_60 (lv_at hl 5 rfl) ?_
          obtain ⟨r62, h_62, hf⟩ := bd hf
          refine ro_V (pc := 62) (C := RX5) (As := [.int v24_5]) (rest := [.int v24_5, .ref (b 2 0), .ref (b 3 0)]) (st1 := [.int r62, .int v24_5, .ref (b 2 0), .ref (b 3 0)]) ⟨hx, hb, hml, hown, hts⟩ (c_X5_numberOf Z l (b 3) (h24 3) v24_5 r62 h_62) (cwV 1 hts gX6_warmthLater_X5_numberOf rfl rfl rfl hv_X5_numberOf ⟨Nat.le_of_ble_eq_true rfl, Nat.le_of_ble_eq_true rfl⟩) hK hE (hP.sub (ws' := wX5 Z (b 3) (h24 3)) [7, 8, 9, 10, 11, 12, 13, 14, 15] rfl) 5 rfl rfl rfl hl.1 rfl (lv_room (Nat.le_of_ble_eq_true rfl)) dX6_warmthLater_62 ⟨Nat.le_of_ble_eq_true rfl, Nat.le_of_ble_eq_true rfl⟩ rfl ?_
          obtain ⟨r65, h_65, hf⟩ := bd hf
          refine rw_V (pc := 65) (C := RX5) (As := [.ref (b 2 0), .int v24_5, .int r62]) (rest := []) (st1 := [.long r65.1]) (wn := fun _ => wH Z b (hu h24 2 r65.2)) ⟨hx, hb, hml, hown, hts⟩ (c_X5_give Z l (b 3) (h24 3) (b 2) (h24 2) v24_5 r62 r65 h_65) (cwV 3 hts gX6_warmthLater_X5_give rfl rfl rfl hv_X5_give ⟨Nat.le_of_ble_eq_true rfl, Nat.le_of_ble_eq_true rfl⟩) hK hE hP hD hS hA [7, 8, 9, 10, 11, 12, 13, 14, 15, 4, 5, 6] [0, 1, 2, 3, 16, 17, 18, 19, 20, 21, 22, 23, 24, 25, 26, 27, 28, 29, 30, 31, 32, 33, 34, 35, 36, 37, 38, 39] [0, 1, 2, 3, 37, 38, 39, 28, 29, 30, 31, 32, 33, 34, 35, 36, 4, 5, 6, 7, 8, 9, 10, 11, 12, 13, 14, 15, 16, 17, 18, 19, 20, 21, 22, 23, 24, 25, 26, 27] rfl rfl rfl (fun _ => rfl) 5 rfl rfl rfl hl.1 rfl (lv_room (Nat.le_of_ble_eq_true rfl)) dX6_warmthLater_65 ⟨Nat.le_of_ble_eq_true rfl, Nat.le_of_ble_eq_true rfl⟩ rfl (fun _ H locs hP hD hS => ?_)
          refine lv_pop2_2 (pc := 68) hx hb dX6_warmthLater_68 rfl ?_
          refine lv_iinc (pc := 69) (v := v24_5 + 1) (lv' := [(5, .int (v24_5 + 1)), (0, .ref (b 0 0)), (1, .int x1), (2, .int x2), (3, .int x3), (4, .int v14_4)]) hx hb dX6_warmthLater_69 hl (k := 5) rfl rfl (by decide) rfl (fun ls hl => ?_)
          refine lv_goto (pc := 72) (tgt := 24) hx hb dX6_warmthLater_72 (by decide) ?_
          exact ih (v24_5 + 1) (hu h24 2 r65.2) _ (lv_sub hl [1, 2, 3, 4, 5, 0] rfl) _ _ hP hD hS hf
        · have hf := (if_pos c2).symm.trans hf
          refine lv_iload_n (pc := 52) hx hb dX6_warmthLater_52 rfl (lv_at hl 3 rfl) ?_
          refine lv_goto (pc := 53) (tgt := 65) hx hb dX6_warmthLater_53 (by decide) ?_
          obtain ⟨r65, h_65, hf⟩ := bd hf
          refine rw_V (pc := 65) (C := RX5) (As := [.ref (b 2 0), .int v24_5, .int x3]) (rest := []) (st1 := [.long r65.1]) (wn := fun _ => wH Z b (hu h24 2 r65.2)) ⟨hx, hb, hml, hown, hts⟩ (c_X5_give Z l (b 3) (h24 3) (b 2) (h24 2) v24_5 x3 r65 h_65) (cwV 3 hts gX6_warmthLater_X5_give rfl rfl rfl hv_X5_give ⟨Nat.le_of_ble_eq_true rfl, Nat.le_of_ble_eq_true rfl⟩) hK hE hP hD hS hA [7, 8, 9, 10, 11, 12, 13, 14, 15, 4, 5, 6] [0, 1, 2, 3, 16, 17, 18, 19, 20, 21, 22, 23, 24, 25, 26, 27, 28, 29, 30, 31, 32, 33, 34, 35, 36, 37, 38, 39] [0, 1, 2, 3, 37, 38, 39, 28, 29, 30, 31, 32, 33, 34, 35, 36, 4, 5, 6, 7, 8, 9, 10, 11, 12, 13, 14, 15, 16, 17, 18, 19, 20, 21, 22, 23, 24, 25, 26, 27] rfl rfl rfl (fun _ => rfl) 5 rfl rfl rfl hl.1 rfl (lv_room (Nat.le_of_ble_eq_true rfl)) dX6_warmthLater_65 ⟨Nat.le_of_ble_eq_true rfl, Nat.le_of_ble_eq_true rfl⟩ rfl (fun _ H locs hP hD hS => ?_)
          refine lv_pop2_2 (pc := 68) hx hb dX6_warmthLater_68 rfl ?_
          refine lv_iinc (pc := 69) (v := v24_5 + 1) (lv' := [(5, .int (v24_5 + 1)), (0, .ref (b 0 0)), (1, .int x1), (2, .int x2), (3, .int x3), (4, .int v14_4)]) hx hb dX6_warmthLater_69 hl (k := 5) rfl rfl (by decide) rfl (fun ls hl => ?_)
          refine lv_goto (pc := 72) (tgt := 24) hx hb dX6_warmthLater_72 (by decide) ?_
          exact ih (v24_5 + 1) (hu h24 2 r65.2) _ (lv_sub hl [1, 2, 3, 4, 5, 0] rfl) _ _ hP hD hS hf
  have B14 : ∀ (n : Nat), ∀ (v14_4 : Int32) (h14 : Nat → ObS) (ls : Array Slot), lv_has ls 6 [(0, .ref (b 0 0)), (1, .int x1), (2, .int x2), (3, .int x3), (4, .int v14_4)] → ∀ (H : Heap) (locs : List Loc), va_P Z.1 vwCl (wH Z b h14) H → va_D A (wH Z b h14) → va_S A s.heap H locs → f_X6_warmthLater_b14 x1 x2 x3 n v14_4 h14 = some R → W p l e { frames := 4, cells := 0, slots := 0, locals := 107 } s m ([.ref (b 0 0), .int x1, .int x2, .int x3] : List Value).toArray below meth c H locs 0 0 (MQ below (rwQ Z (some (.long R.1)) (fun _ => wH Z b R.2) A) ([.ref (b 0 0), .int x1, .int x2, .int x3] : List Value).toArray s 0 0 A) (F0 m 14 ls []) := by
    intro n
    induction n with
    | zero => intro v14_4 h14 ls hl H locs hP hD hS hf; rw [f_X6_warmthLater_b14] at hf; exact nomatch hf
    | succ n ih =>
      intro v14_4 h14 ls hl H locs hP hD hS hf
      rw [f_X6_warmthLater_b14] at hf
      refine lv_iload (pc := 14) hx hb dX6_warmthLater_14 (lv_at hl 4 rfl) ?_
      refine lv_bipush (pc := 16) (v := 12) hx hb dX6_warmthLater_16 (by decide) ?_
      refine lv_icmp_ge (pc := 18) (tgt := 81) hx hb dX6_warmthLater_18 (by decide) (fun c1 => ?_) (fun c1 => ?_)
      · have hf := (if_pos c1).symm.trans hf
        refine lv_aload_n (pc := 81) hx hb dX6_warmthLater_81 rfl (lv_at hl 0 rfl) ?_
        refine va_get (pc := 82) (D := Z.1) (ci := 6) (v := .ref (b 2 0)) (C := RX6) (T := TX6) (N := 9) hx hb hts u6 hown hK hP 0 rfl rfl 1 (by decide) w0 (fun _ h9 => h9) rfl dX6_warmthLater_82 ?_
        refine lv_iload_n (pc := 85) hx hb dX6_warmthLater_85 rfl (lv_at hl 1 rfl) ?_
        obtain ⟨r86, h_86, hf⟩ := bd hf
        refine ro_V (pc := 86) (C := RX3) (As := [.int x1]) (rest := []) (st1 := [.long r86]) ⟨hx, hb, hml, hown, hts⟩ (c_X3_warmthOf Z l (b 2) (h14 2) x1 r86 h_86) (cwV 1 hts gX6_warmthLater_X3_warmthOf rfl rfl rfl hv_X3_warmthOf ⟨Nat.le_of_ble_eq_true rfl, Nat.le_of_ble_eq_true rfl⟩) hK hE (hP.sub (ws' := wX3 Z (b 2) (h14 2)) [4, 5, 6] rfl) 3 rfl rfl rfl hl.1 rfl (lv_room (Nat.le_of_ble_eq_true rfl)) dX6_warmthLater_86 ⟨Nat.le_of_ble_eq_true rfl, Nat.le_of_ble_eq_true rfl⟩ rfl ?_
        have hf := (Option.some.inj hf)
        subst hf
        exact rw_l (fun _ => 0) hx hb hr hlk rfl hP hD hS dX6_warmthLater_89
      · have hf := (if_neg c1).symm.trans hf
        refine lv_iconst (pc := 21) (v := 0) hx hb dX6_warmthLater_21 (by decide) ?_
        refine lv_istore (pc := 22) (lv' := [(5, .int 0), (0, .ref (b 0 0)), (1, .int x1), (2, .int x2), (3, .int x3), (4, .int v14_4)]) hx hb dX6_warmthLater_22 hl (by decide) rfl (fun ls hl => ?_)
        exact B24 v14_4 (f_X6_warmthLater_b14 x1 x2 x3 n) ih 64 0 h14 _ (lv_sub hl [1, 2, 3, 4, 5, 0] rfl) _ _ hP hD hS hf
  rw [f_X6_warmthLater] at hf
  refine lv_aload_n (pc := 0) hx hb dX6_warmthLater_0 rfl (lv_at hl 0 rfl) ?_
  refine va_get (pc := 1) (D := Z.1) (ci := 6) (v := .ref (b 2 0)) (C := RX6) (T := TX6) (N := 9) hx hb hts u6 hown hK hP 0 rfl rfl 1 (by decide) w0 (fun _ h9 => h9) rfl dX6_warmthLater_1 ?_
  refine lv_aload_n (pc := 4) hx hb dX6_warmthLater_4 rfl (lv_at hl 0 rfl) ?_
  refine va_get (pc := 5) (D := Z.1) (ci := 6) (v := .ref (b 1 0)) (C := RX6) (T := TX6) (N := 9) hx hb hts u6 hown hK hP 0 rfl rfl 0 (by decide) w1 (fun _ h9 => h9) rfl dX6_warmthLater_5 ?_
  obtain ⟨r8, h_8, hf⟩ := bd hf
  refine rw_V (pc := 8) (C := RX3) (As := [.ref (b 1 0)]) (rest := []) (st1 := []) (wn := fun _ => wH Z b (hu h 2 r8)) ⟨hx, hb, hml, hown, hts⟩ (c_X3_copyFrom Z l (b 2) (h 2) (b 1) (h 1) r8 h_8) (cwV 1 hts gX6_warmthLater_X3_copyFrom rfl rfl rfl hv_X3_copyFrom ⟨Nat.le_of_ble_eq_true rfl, Nat.le_of_ble_eq_true rfl⟩) hK hE hP hD hS hA [4, 5, 6, 1, 2, 3] [0, 7, 8, 9, 10, 11, 12, 13, 14, 15, 16, 17, 18, 19, 20, 21, 22, 23, 24, 25, 26, 27, 28, 29, 30, 31, 32, 33, 34, 35, 36, 37, 38, 39] [0, 37, 38, 39, 34, 35, 36, 1, 2, 3, 4, 5, 6, 7, 8, 9, 10, 11, 12, 13, 14, 15, 16, 17, 18, 19, 20, 21, 22, 23, 24, 25, 26, 27, 28, 29, 30, 31, 32, 33] rfl rfl rfl (fun _ => rfl) 3 rfl rfl rfl hl.1 rfl (lv_room (Nat.le_of_ble_eq_true rfl)) dX6_warmthLater_8 ⟨Nat.le_of_ble_eq_true rfl, Nat.le_of_ble_eq_true rfl⟩ rfl (fun _ H locs hP hD hS => ?_)
  refine lv_iconst (pc := 11) (v := 0) hx hb dX6_warmthLater_11 (by decide) ?_
  refine lv_istore (pc := 12) (lv' := [(4, .int 0), (0, .ref (b 0 0)), (1, .int x1), (2, .int x2), (3, .int x3)]) hx hb dX6_warmthLater_12 hl (by decide) rfl (fun ls hl => ?_)
  exact B14 64 0 (hu h 2 r8) _ (lv_sub hl [1, 2, 3, 4, 0] rfl) _ _ hP hD hS hf
def f_X6_gainOf_b31 (h : Nat → ObS) (x1 : Int32) (x2 : Int32) (r5 : Int32) (k31_0 : Int32) : Option (Int64 × (Nat → ObS)) :=
  (f_X6_warmthLater h x2 x1 k31_0).bind fun r38 =>
  (f_X6_warmthLater r38.2 x2 x1 r5).bind fun r45 =>
  some (r38.1 - r45.1, r45.2)
def f_X6_gainOf (h : Nat → ObS) (x1 : Int32) (x2 : Int32) : Option (Int64 × (Nat → ObS)) :=
  (f_X5_numberOf (h 3) x1).bind fun r5 =>
  (f_X5_kindOf (h 3) x1).bind fun r15 =>
  if (f_X6_mostOf r15) ≤ r5 then
    f_X6_gainOf_b31 h x1 x2 r5 r5
  else
    f_X6_gainOf_b31 h x1 x2 r5 (r5 + 1)
set_option maxHeartbeats 4000000 in
set_option maxRecDepth 100000 in
theorem c_X6_gainOf (Z : EnvT) (l : Launch) (b : Nat → Nat → Nat) (h : Nat → ObS) (x1 : Int32) (x2 : Int32) (R : Int64 × (Nat → ObS)) (hf : f_X6_gainOf h x1 x2 = some R) : RW Z l yX6_gainOf wsX6_gainOf { frames := 5, cells := 0, slots := 0, locals := 132 } [.ref (b 0 0), .int x1, .int x2] (wH Z b h) (some (.long R.1)) (fun _ => wH Z b R.2) 0 0 := by
  refine rw_of (cc := cX6_gainOf) (maxL := 5) (ret := (some .long)) (by decide) rfl (Nat.le_of_ble_eq_true rfl) ?_
  intro p e s m below meth c A ls hx hb hr hml hts hown hlk hin hP hK hE hD hA hS hl
  have hown : s.vm.findClass RX6 = some m.cls := hown
  have hl : lv_has ls 5 [(0, .ref (b 0 0)), (1, .int x1), (2, .int x2)] := hl
  have w0 := hts (.fieldLink RX6 22 "HeatTrain" "units" "LHeatTrain$Units;") (by decide +kernel)
  have u6 : ∀ w ∈ wsX60, w ∈ wsX6_gainOf := by decide +kernel
  have B31 : ∀ (r5 : Int32), ∀ (k31_0 : Int32) (ls : Array Slot), lv_has ls 5 [(0, .ref (b 0 0)), (1, .int x1), (2, .int x2), (3, .int r5)] → ∀ (H : Heap) (locs : List Loc), va_P Z.1 vwCl (wH Z b h) H → va_D A (wH Z b h) → va_S A s.heap H locs → f_X6_gainOf_b31 h x1 x2 r5 k31_0 = some R → W p l e { frames := 5, cells := 0, slots := 0, locals := 132 } s m ([.ref (b 0 0), .int x1, .int x2] : List Value).toArray below meth c H locs 0 0 (MQ below (rwQ Z (some (.long R.1)) (fun _ => wH Z b R.2) A) ([.ref (b 0 0), .int x1, .int x2] : List Value).toArray s 0 0 A) (F0 m 31 ls [.int k31_0]) := by
    intro r5 k31_0 ls hl H locs hP hD hS hf
    rw [f_X6_gainOf_b31] at hf
    refine lv_istore (pc := 31) (lv' := [(4, .int k31_0), (0, .ref (b 0 0)), (1, .int x1), (2, .int x2), (3, .int r5)]) hx hb dX6_gainOf_31 hl (by decide) rfl (fun ls hl => ?_)
    refine lv_aload_n (pc := 33) hx hb dX6_gainOf_33 rfl (lv_at hl 1 rfl) ?_
    refine lv_iload_n (pc := 34) hx hb dX6_gainOf_34 rfl (lv_at hl 3 rfl) ?_
    refine lv_iload_n (pc := 35) hx hb dX6_gainOf_35 rfl (lv_at hl 2 rfl) ?_
    refine lv_iload (pc := 36) hx hb dX6_gainOf_36 (lv_at hl 0 rfl) ?_
    obtain ⟨r38, h_38, hf⟩ := bd hf
    refine rw_V (pc := 38) (C := RX6) (As := [.int x2, .int x1, .int k31_0]) (rest := []) (st1 := [.long r38.1]) (wn := fun _ => wH Z b r38.2) ⟨hx, hb, hml, hown, hts⟩ (c_X6_warmthLater Z l b h x2 x1 k31_0 r38 h_38) (cwV 3 hts gX6_gainOf_X6_warmthLater rfl rfl rfl hv_X6_warmthLater ⟨Nat.le_of_ble_eq_true rfl, Nat.le_of_ble_eq_true rfl⟩) hK hE hP hD hS hA [0, 1, 2, 3, 4, 5, 6, 7, 8, 9, 10, 11, 12, 13, 14, 15, 16, 17, 18, 19, 20, 21, 22, 23, 24, 25, 26, 27, 28, 29, 30, 31, 32, 33, 34, 35, 36, 37, 38, 39] [] [0, 1, 2, 3, 4, 5, 6, 7, 8, 9, 10, 11, 12, 13, 14, 15, 16, 17, 18, 19, 20, 21, 22, 23, 24, 25, 26, 27, 28, 29, 30, 31, 32, 33, 34, 35, 36, 37, 38, 39] rfl rfl rfl (fun _ => rfl) 6 rfl rfl rfl hl.1 rfl (lv_room (Nat.le_of_ble_eq_true rfl)) dX6_gainOf_38 ⟨Nat.le_of_ble_eq_true rfl, Nat.le_of_ble_eq_true rfl⟩ rfl (fun _ H locs hP hD hS => ?_)
    refine lv_aload_n (pc := 41) hx hb dX6_gainOf_41 rfl (lv_at hl 1 rfl) ?_
    refine lv_iload_n (pc := 42) hx hb dX6_gainOf_42 rfl (lv_at hl 3 rfl) ?_
    refine lv_iload_n (pc := 43) hx hb dX6_gainOf_43 rfl (lv_at hl 2 rfl) ?_
    refine lv_iload_n (pc := 44) hx hb dX6_gainOf_44 rfl (lv_at hl 4 rfl) ?_
    obtain ⟨r45, h_45, hf⟩ := bd hf
    refine rw_V (pc := 45) (C := RX6) (As := [.int x2, .int x1, .int r5]) (rest := [.long r38.1]) (st1 := [.long r45.1, .long r38.1]) (wn := fun _ => wH Z b r45.2) ⟨hx, hb, hml, hown, hts⟩ (c_X6_warmthLater Z l b r38.2 x2 x1 r5 r45 h_45) (cwV 3 hts gX6_gainOf_X6_warmthLater rfl rfl rfl hv_X6_warmthLater ⟨Nat.le_of_ble_eq_true rfl, Nat.le_of_ble_eq_true rfl⟩) hK hE hP hD hS hA [0, 1, 2, 3, 4, 5, 6, 7, 8, 9, 10, 11, 12, 13, 14, 15, 16, 17, 18, 19, 20, 21, 22, 23, 24, 25, 26, 27, 28, 29, 30, 31, 32, 33, 34, 35, 36, 37, 38, 39] [] [0, 1, 2, 3, 4, 5, 6, 7, 8, 9, 10, 11, 12, 13, 14, 15, 16, 17, 18, 19, 20, 21, 22, 23, 24, 25, 26, 27, 28, 29, 30, 31, 32, 33, 34, 35, 36, 37, 38, 39] rfl rfl rfl (fun _ => rfl) 6 rfl rfl rfl hl.1 rfl (lv_room (Nat.le_of_ble_eq_true rfl)) dX6_gainOf_45 ⟨Nat.le_of_ble_eq_true rfl, Nat.le_of_ble_eq_true rfl⟩ rfl (fun _ H locs hP hD hS => ?_)
    refine lv_lsub (pc := 48) hx hb dX6_gainOf_48 ?_
    have hf := (Option.some.inj hf)
    subst hf
    exact rw_l (fun _ => 0) hx hb hr hlk rfl hP hD hS dX6_gainOf_49
  rw [f_X6_gainOf] at hf
  refine lv_aload_n (pc := 0) hx hb dX6_gainOf_0 rfl (lv_at hl 0 rfl) ?_
  refine va_get (pc := 1) (D := Z.1) (ci := 6) (v := .ref (b 3 0)) (C := RX6) (T := TX6) (N := 9) hx hb hts u6 hown hK hP 0 rfl rfl 2 (by decide) w0 (fun _ h9 => h9) rfl dX6_gainOf_1 ?_
  refine lv_iload_n (pc := 4) hx hb dX6_gainOf_4 rfl (lv_at hl 1 rfl) ?_
  obtain ⟨r5, h_5, hf⟩ := bd hf
  refine ro_V (pc := 5) (C := RX5) (As := [.int x1]) (rest := []) (st1 := [.int r5]) ⟨hx, hb, hml, hown, hts⟩ (c_X5_numberOf Z l (b 3) (h 3) x1 r5 h_5) (cwV 1 hts gX6_gainOf_X5_numberOf rfl rfl rfl hv_X5_numberOf ⟨Nat.le_of_ble_eq_true rfl, Nat.le_of_ble_eq_true rfl⟩) hK hE (hP.sub (ws' := wX5 Z (b 3) (h 3)) [7, 8, 9, 10, 11, 12, 13, 14, 15] rfl) 5 rfl rfl rfl hl.1 rfl (lv_room (Nat.le_of_ble_eq_true rfl)) dX6_gainOf_5 ⟨Nat.le_of_ble_eq_true rfl, Nat.le_of_ble_eq_true rfl⟩ rfl ?_
  refine lv_istore_n (pc := 8) (lv' := [(3, .int r5), (0, .ref (b 0 0)), (1, .int x1), (2, .int x2)]) hx hb dX6_gainOf_8 rfl hl (by decide) rfl (fun ls hl => ?_)
  refine lv_iload_n (pc := 9) hx hb dX6_gainOf_9 rfl (lv_at hl 0 rfl) ?_
  refine lv_aload_n (pc := 10) hx hb dX6_gainOf_10 rfl (lv_at hl 1 rfl) ?_
  refine va_get (pc := 11) (D := Z.1) (ci := 6) (v := .ref (b 3 0)) (C := RX6) (T := TX6) (N := 9) hx hb hts u6 hown hK hP 0 rfl rfl 2 (by decide) w0 (fun _ h9 => h9) rfl dX6_gainOf_11 ?_
  refine lv_iload_n (pc := 14) hx hb dX6_gainOf_14 rfl (lv_at hl 2 rfl) ?_
  obtain ⟨r15, h_15, hf⟩ := bd hf
  refine ro_V (pc := 15) (C := RX5) (As := [.int x1]) (rest := [.int r5]) (st1 := [.int r15, .int r5]) ⟨hx, hb, hml, hown, hts⟩ (c_X5_kindOf Z l (b 3) (h 3) x1 r15 h_15) (cwV 1 hts gX6_gainOf_X5_kindOf rfl rfl rfl hv_X5_kindOf ⟨Nat.le_of_ble_eq_true rfl, Nat.le_of_ble_eq_true rfl⟩) hK hE (hP.sub (ws' := wX5 Z (b 3) (h 3)) [7, 8, 9, 10, 11, 12, 13, 14, 15] rfl) 5 rfl rfl rfl hl.1 rfl (lv_room (Nat.le_of_ble_eq_true rfl)) dX6_gainOf_15 ⟨Nat.le_of_ble_eq_true rfl, Nat.le_of_ble_eq_true rfl⟩ rfl ?_
  refine ro_S (pc := 18) (As := [.int r15]) (rest := [.int r5]) (st1 := [.int (f_X6_mostOf r15), .int r5]) ⟨hx, hb, hml, hown, hts⟩ (c_X6_mostOf Z l r15 _ rfl) (va_cwS 1 hts gX6_gainOf_X6_mostOf rfl rfl rfl hs_X6_mostOf ⟨Nat.le_of_ble_eq_true rfl, Nat.le_of_ble_eq_true rfl⟩) hK hE (hP.sub (ws' := []) [] rfl) rfl hl.1 rfl (lv_room (Nat.le_of_ble_eq_true rfl)) dX6_gainOf_18 ⟨Nat.le_of_ble_eq_true rfl, Nat.le_of_ble_eq_true rfl⟩ rfl ?_
  refine lv_icmp_ge (pc := 21) (tgt := 30) hx hb dX6_gainOf_21 (by decide) (fun c1 => ?_) (fun c1 => ?_)
  · have hf := (if_pos c1).symm.trans hf
    refine lv_iload_n (pc := 30) hx hb dX6_gainOf_30 rfl (lv_at hl 0 rfl) ?_
    exact B31 r5 r5 _ (lv_sub hl [1, 2, 3, 0] rfl) _ _ hP hD hS hf
  · have hf := (if_neg c1).symm.trans hf
    refine lv_iload_n (pc := 24) hx hb dX6_gainOf_24 rfl (lv_at hl 0 rfl) ?_
    refine lv_iconst (pc := 25) (v := 1) hx hb dX6_gainOf_25 (by decide) ?_
    refine lv_iadd (pc := 26) hx hb dX6_gainOf_26 ?_
    refine lv_goto (pc := 27) (tgt := 31) hx hb dX6_gainOf_27 (by decide) ?_
    exact B31 r5 (r5 + 1) _ (lv_sub hl [1, 2, 3, 0] rfl) _ _ hP hD hS hf
def f_X6_gain (h : Nat → ObS) (x1 : Int32) (x2 : Int32) : Option (Nat ⊕ (Int32 × (Nat → ObS))) :=
  tb (f_X6_needUnit h x1) fun r2 =>
  tb (f_X6_needStream h x2) fun r7 =>
  (f_X6_gainOf h x1 x2).bind fun r13 =>
  some (.inr (r13.1.toInt32, r13.2))
set_option maxHeartbeats 4000000 in
set_option maxRecDepth 100000 in
theorem c_X6_gain (Z : EnvT) (l : Launch) (hst : l.stackTraces = false) (b : Nat → Nat → Nat) (h : Nat → ObS) (x1 : Int32) (x2 : Int32) (R : Nat ⊕ (Int32 × (Nat → ObS))) (hf : f_X6_gain h x1 x2 = some R) : TH Z l yX6_gain wsX6_gain { frames := 7, cells := 2, slots := 12, locals := 156 } [.ref (b 0 0), .int x1, .int x2] (wH Z b h) R (fun (r : Int32 × (Nat → ObS)) => (some (.int r.1))) (fun (r : Int32 × (Nat → ObS)) _ => wH Z b r.2) 2 12 := by
  refine th_of (cc := cX6_gain) (maxL := 3) (ret := (some .int)) (by decide) rfl (Nat.le_of_ble_eq_true rfl) ?_
  intro p e s m below meth c A ls hx hb hr hml hts hown hlk hno hP hK hE hD hA hS hZ hl
  have hown : s.vm.findClass RX6 = some m.cls := hown
  have hl : lv_has ls 3 [(0, .ref (b 0 0)), (1, .int x1), (2, .int x2)] := hl
  rw [f_X6_gain] at hf
  refine lv_aload_n (pc := 0) hx hb dX6_gain_0 rfl (lv_at hl 0 rfl) ?_
  refine lv_iload_n (pc := 1) hx hb dX6_gain_1 rfl (lv_at hl 1 rfl) ?_
  rcases tbd hf with ⟨k2, h_2, hf⟩ | ⟨r2, h_2, hf⟩
  · exact th_Vx (pc := 2) (C := RX6) (As := [.int x1]) (rest := []) ⟨hx, hb, hml, hown, hts⟩ (c_X6_needUnit Z l hst b h x1 (.inl k2) h_2) (cwV 1 hts gX6_gain_X6_needUnit rfl rfl rfl hv_X6_needUnit ⟨Nat.le_of_ble_eq_true rfl, Nat.le_of_ble_eq_true rfl⟩) hK hE hP hD hS hA hZ 6 rfl rfl rfl hl.1 rfl (lv_room (Nat.le_of_ble_eq_true rfl)) dX6_gain_2 ⟨Nat.le_of_ble_eq_true rfl, Nat.le_of_ble_eq_true rfl⟩ hno hlk (Nat.le_of_ble_eq_true rfl) (Nat.le_of_ble_eq_true rfl) hf
  · refine th_Vn (pc := 2) (C := RX6) (As := [.int x1]) (rest := []) (st1 := []) ⟨hx, hb, hml, hown, hts⟩ (c_X6_needUnit Z l hst b h x1 (.inr r2) h_2) (cwV 1 hts gX6_gain_X6_needUnit rfl rfl rfl hv_X6_needUnit ⟨Nat.le_of_ble_eq_true rfl, Nat.le_of_ble_eq_true rfl⟩) hK hE hP hD hS hA hZ 6 rfl rfl rfl hl.1 rfl (lv_room (Nat.le_of_ble_eq_true rfl)) dX6_gain_2 ⟨Nat.le_of_ble_eq_true rfl, Nat.le_of_ble_eq_true rfl⟩ rfl (fun _ H locs hP hD hS => ?_)
    refine lv_aload_n (pc := 5) hx hb dX6_gain_5 rfl (lv_at hl 0 rfl) ?_
    refine lv_iload_n (pc := 6) hx hb dX6_gain_6 rfl (lv_at hl 2 rfl) ?_
    rcases tbd hf with ⟨k7, h_7, hf⟩ | ⟨r7, h_7, hf⟩
    · exact th_Vx (pc := 7) (C := RX6) (As := [.int x2]) (rest := []) ⟨hx, hb, hml, hown, hts⟩ (c_X6_needStream Z l hst b h x2 (.inl k7) h_7) (cwV 1 hts gX6_gain_X6_needStream rfl rfl rfl hv_X6_needStream ⟨Nat.le_of_ble_eq_true rfl, Nat.le_of_ble_eq_true rfl⟩) hK hE hP hD hS hA hZ 6 rfl rfl rfl hl.1 rfl (lv_room (Nat.le_of_ble_eq_true rfl)) dX6_gain_7 ⟨Nat.le_of_ble_eq_true rfl, Nat.le_of_ble_eq_true rfl⟩ hno hlk (Nat.le_of_ble_eq_true rfl) (Nat.le_of_ble_eq_true rfl) hf
    · refine th_Vn (pc := 7) (C := RX6) (As := [.int x2]) (rest := []) (st1 := []) ⟨hx, hb, hml, hown, hts⟩ (c_X6_needStream Z l hst b h x2 (.inr r7) h_7) (cwV 1 hts gX6_gain_X6_needStream rfl rfl rfl hv_X6_needStream ⟨Nat.le_of_ble_eq_true rfl, Nat.le_of_ble_eq_true rfl⟩) hK hE hP hD hS hA hZ 6 rfl rfl rfl hl.1 rfl (lv_room (Nat.le_of_ble_eq_true rfl)) dX6_gain_7 ⟨Nat.le_of_ble_eq_true rfl, Nat.le_of_ble_eq_true rfl⟩ rfl (fun _ H locs hP hD hS => ?_)
      refine lv_aload_n (pc := 10) hx hb dX6_gain_10 rfl (lv_at hl 0 rfl) ?_
      refine lv_iload_n (pc := 11) hx hb dX6_gain_11 rfl (lv_at hl 1 rfl) ?_
      refine lv_iload_n (pc := 12) hx hb dX6_gain_12 rfl (lv_at hl 2 rfl) ?_
      obtain ⟨r13, h_13, hf⟩ := bd hf
      refine rw_V (pc := 13) (C := RX6) (As := [.int x1, .int x2]) (rest := []) (st1 := [.long r13.1]) (wn := fun _ => wH Z b r13.2) ⟨hx, hb, hml, hown, hts⟩ (c_X6_gainOf Z l b h x1 x2 r13 h_13) (cwV 2 hts gX6_gain_X6_gainOf rfl rfl rfl hv_X6_gainOf ⟨Nat.le_of_ble_eq_true rfl, Nat.le_of_ble_eq_true rfl⟩) hK hE hP hD hS hA [0, 1, 2, 3, 4, 5, 6, 7, 8, 9, 10, 11, 12, 13, 14, 15, 16, 17, 18, 19, 20, 21, 22, 23, 24, 25, 26, 27, 28, 29, 30, 31, 32, 33, 34, 35, 36, 37, 38, 39] [] [0, 1, 2, 3, 4, 5, 6, 7, 8, 9, 10, 11, 12, 13, 14, 15, 16, 17, 18, 19, 20, 21, 22, 23, 24, 25, 26, 27, 28, 29, 30, 31, 32, 33, 34, 35, 36, 37, 38, 39] rfl rfl rfl (fun _ => rfl) 6 rfl rfl rfl hl.1 rfl (lv_room (Nat.le_of_ble_eq_true rfl)) dX6_gain_13 ⟨Nat.le_of_ble_eq_true rfl, Nat.le_of_ble_eq_true rfl⟩ rfl (fun _ H locs hP hD hS => ?_)
      refine lv_l2i (pc := 16) (v := r13.1.toInt32) hx hb dX6_gain_16 rfl ?_
      have hf := (Option.some.inj hf).symm
      refine th_ret hf ?_
      exact rw_i (fun _ => 0) hx hb hr hlk rfl hP hD hS dX6_gain_17
def f_X6_relative (h : Nat → ObS) (x1 : Int32) (x2 : Int32) (x3 : Int32) (x4 : Int32) : Option (Nat ⊕ (Int32 × (Nat → ObS))) :=
  tb (f_X6_needUnit h x1) fun r2 =>
  tb (f_X6_needUnit h x2) fun r7 =>
  tb (f_X6_needStream h x3) fun r12 =>
  tb (f_X6_needStream h x4) fun r18 =>
  (f_X6_gainOf h x1 x3).bind fun r24 =>
  (f_X6_gainOf r24.2 x2 x4).bind fun r31 =>
  (f_X6_gainOf r31.2 x1 x4).bind fun r41 =>
  (f_X6_gainOf r41.2 x2 x3).bind fun r47 =>
  if (lg_cmp ((r24.1 * r31.1) - (r41.1 * r47.1)) 0) = (0 : Int32) then
    some (.inr ((-100000 : Int32), r47.2))
  else
    if decide (¬ ((r24.1 * r31.1) - (r41.1 * r47.1)) = (0 : Int64)) then
    some (.inr (((100 * (r24.1 * r31.1)) / ((r24.1 * r31.1) - (r41.1 * r47.1))).toInt32, r47.2))
    else none
set_option maxHeartbeats 4000000 in
set_option maxRecDepth 100000 in
theorem c_X6_relative (Z : EnvT) (l : Launch) (hst : l.stackTraces = false) (b : Nat → Nat → Nat) (h : Nat → ObS) (x1 : Int32) (x2 : Int32) (x3 : Int32) (x4 : Int32) (R : Nat ⊕ (Int32 × (Nat → ObS))) (hf : f_X6_relative h x1 x2 x3 x4 = some R) : TH Z l yX6_relative wsX6_relative { frames := 7, cells := 4, slots := 24, locals := 156 } [.ref (b 0 0), .int x1, .int x2, .int x3, .int x4] (wH Z b h) R (fun (r : Int32 × (Nat → ObS)) => (some (.int r.1))) (fun (r : Int32 × (Nat → ObS)) _ => wH Z b r.2) 4 24 := by
  refine th_of (cc := cX6_relative) (maxL := 11) (ret := (some .int)) (by decide) rfl (Nat.le_of_ble_eq_true rfl) ?_
  intro p e s m below meth c A ls hx hb hr hml hts hown hlk hno hP hK hE hD hA hS hZ hl
  have hown : s.vm.findClass RX6 = some m.cls := hown
  have hl : lv_has ls 11 [(0, .ref (b 0 0)), (1, .int x1), (2, .int x2), (3, .int x3), (4, .int x4)] := hl
  have w0 := hts (.constantLong RX6 251 (100)) (by decide +kernel)
  have w1 := hts (.constant RX6 250 (-100000)) (by decide +kernel)
  rw [f_X6_relative] at hf
  refine lv_aload_n (pc := 0) hx hb dX6_relative_0 rfl (lv_at hl 0 rfl) ?_
  refine lv_iload_n (pc := 1) hx hb dX6_relative_1 rfl (lv_at hl 1 rfl) ?_
  rcases tbd hf with ⟨k2, h_2, hf⟩ | ⟨r2, h_2, hf⟩
  · exact th_Vx (pc := 2) (C := RX6) (As := [.int x1]) (rest := []) ⟨hx, hb, hml, hown, hts⟩ (c_X6_needUnit Z l hst b h x1 (.inl k2) h_2) (cwV 1 hts gX6_relative_X6_needUnit rfl rfl rfl hv_X6_needUnit ⟨Nat.le_of_ble_eq_true rfl, Nat.le_of_ble_eq_true rfl⟩) hK hE hP hD hS hA hZ 6 rfl rfl rfl hl.1 rfl (lv_room (Nat.le_of_ble_eq_true rfl)) dX6_relative_2 ⟨Nat.le_of_ble_eq_true rfl, Nat.le_of_ble_eq_true rfl⟩ hno hlk (Nat.le_of_ble_eq_true rfl) (Nat.le_of_ble_eq_true rfl) hf
  · refine th_Vn (pc := 2) (C := RX6) (As := [.int x1]) (rest := []) (st1 := []) ⟨hx, hb, hml, hown, hts⟩ (c_X6_needUnit Z l hst b h x1 (.inr r2) h_2) (cwV 1 hts gX6_relative_X6_needUnit rfl rfl rfl hv_X6_needUnit ⟨Nat.le_of_ble_eq_true rfl, Nat.le_of_ble_eq_true rfl⟩) hK hE hP hD hS hA hZ 6 rfl rfl rfl hl.1 rfl (lv_room (Nat.le_of_ble_eq_true rfl)) dX6_relative_2 ⟨Nat.le_of_ble_eq_true rfl, Nat.le_of_ble_eq_true rfl⟩ rfl (fun _ H locs hP hD hS => ?_)
    refine lv_aload_n (pc := 5) hx hb dX6_relative_5 rfl (lv_at hl 0 rfl) ?_
    refine lv_iload_n (pc := 6) hx hb dX6_relative_6 rfl (lv_at hl 2 rfl) ?_
    rcases tbd hf with ⟨k7, h_7, hf⟩ | ⟨r7, h_7, hf⟩
    · exact th_Vx (pc := 7) (C := RX6) (As := [.int x2]) (rest := []) ⟨hx, hb, hml, hown, hts⟩ (c_X6_needUnit Z l hst b h x2 (.inl k7) h_7) (cwV 1 hts gX6_relative_X6_needUnit rfl rfl rfl hv_X6_needUnit ⟨Nat.le_of_ble_eq_true rfl, Nat.le_of_ble_eq_true rfl⟩) hK hE hP hD hS hA hZ 6 rfl rfl rfl hl.1 rfl (lv_room (Nat.le_of_ble_eq_true rfl)) dX6_relative_7 ⟨Nat.le_of_ble_eq_true rfl, Nat.le_of_ble_eq_true rfl⟩ hno hlk (Nat.le_of_ble_eq_true rfl) (Nat.le_of_ble_eq_true rfl) hf
    · refine th_Vn (pc := 7) (C := RX6) (As := [.int x2]) (rest := []) (st1 := []) ⟨hx, hb, hml, hown, hts⟩ (c_X6_needUnit Z l hst b h x2 (.inr r7) h_7) (cwV 1 hts gX6_relative_X6_needUnit rfl rfl rfl hv_X6_needUnit ⟨Nat.le_of_ble_eq_true rfl, Nat.le_of_ble_eq_true rfl⟩) hK hE hP hD hS hA hZ 6 rfl rfl rfl hl.1 rfl (lv_room (Nat.le_of_ble_eq_true rfl)) dX6_relative_7 ⟨Nat.le_of_ble_eq_true rfl, Nat.le_of_ble_eq_true rfl⟩ rfl (fun _ H locs hP hD hS => ?_)
      refine lv_aload_n (pc := 10) hx hb dX6_relative_10 rfl (lv_at hl 0 rfl) ?_
      refine lv_iload_n (pc := 11) hx hb dX6_relative_11 rfl (lv_at hl 3 rfl) ?_
      rcases tbd hf with ⟨k12, h_12, hf⟩ | ⟨r12, h_12, hf⟩
      · exact th_Vx (pc := 12) (C := RX6) (As := [.int x3]) (rest := []) ⟨hx, hb, hml, hown, hts⟩ (c_X6_needStream Z l hst b h x3 (.inl k12) h_12) (cwV 1 hts gX6_relative_X6_needStream rfl rfl rfl hv_X6_needStream ⟨Nat.le_of_ble_eq_true rfl, Nat.le_of_ble_eq_true rfl⟩) hK hE hP hD hS hA hZ 6 rfl rfl rfl hl.1 rfl (lv_room (Nat.le_of_ble_eq_true rfl)) dX6_relative_12 ⟨Nat.le_of_ble_eq_true rfl, Nat.le_of_ble_eq_true rfl⟩ hno hlk (Nat.le_of_ble_eq_true rfl) (Nat.le_of_ble_eq_true rfl) hf
      · refine th_Vn (pc := 12) (C := RX6) (As := [.int x3]) (rest := []) (st1 := []) ⟨hx, hb, hml, hown, hts⟩ (c_X6_needStream Z l hst b h x3 (.inr r12) h_12) (cwV 1 hts gX6_relative_X6_needStream rfl rfl rfl hv_X6_needStream ⟨Nat.le_of_ble_eq_true rfl, Nat.le_of_ble_eq_true rfl⟩) hK hE hP hD hS hA hZ 6 rfl rfl rfl hl.1 rfl (lv_room (Nat.le_of_ble_eq_true rfl)) dX6_relative_12 ⟨Nat.le_of_ble_eq_true rfl, Nat.le_of_ble_eq_true rfl⟩ rfl (fun _ H locs hP hD hS => ?_)
        refine lv_aload_n (pc := 15) hx hb dX6_relative_15 rfl (lv_at hl 0 rfl) ?_
        refine lv_iload (pc := 16) hx hb dX6_relative_16 (lv_at hl 4 rfl) ?_
        rcases tbd hf with ⟨k18, h_18, hf⟩ | ⟨r18, h_18, hf⟩
        · exact th_Vx (pc := 18) (C := RX6) (As := [.int x4]) (rest := []) ⟨hx, hb, hml, hown, hts⟩ (c_X6_needStream Z l hst b h x4 (.inl k18) h_18) (cwV 1 hts gX6_relative_X6_needStream rfl rfl rfl hv_X6_needStream ⟨Nat.le_of_ble_eq_true rfl, Nat.le_of_ble_eq_true rfl⟩) hK hE hP hD hS hA hZ 6 rfl rfl rfl hl.1 rfl (lv_room (Nat.le_of_ble_eq_true rfl)) dX6_relative_18 ⟨Nat.le_of_ble_eq_true rfl, Nat.le_of_ble_eq_true rfl⟩ hno hlk (Nat.le_of_ble_eq_true rfl) (Nat.le_of_ble_eq_true rfl) hf
        · refine th_Vn (pc := 18) (C := RX6) (As := [.int x4]) (rest := []) (st1 := []) ⟨hx, hb, hml, hown, hts⟩ (c_X6_needStream Z l hst b h x4 (.inr r18) h_18) (cwV 1 hts gX6_relative_X6_needStream rfl rfl rfl hv_X6_needStream ⟨Nat.le_of_ble_eq_true rfl, Nat.le_of_ble_eq_true rfl⟩) hK hE hP hD hS hA hZ 6 rfl rfl rfl hl.1 rfl (lv_room (Nat.le_of_ble_eq_true rfl)) dX6_relative_18 ⟨Nat.le_of_ble_eq_true rfl, Nat.le_of_ble_eq_true rfl⟩ rfl (fun _ H locs hP hD hS => ?_)
          refine lv_aload_n (pc := 21) hx hb dX6_relative_21 rfl (lv_at hl 0 rfl) ?_
          refine lv_iload_n (pc := 22) hx hb dX6_relative_22 rfl (lv_at hl 1 rfl) ?_
          refine lv_iload_n (pc := 23) hx hb dX6_relative_23 rfl (lv_at hl 3 rfl) ?_
          obtain ⟨r24, h_24, hf⟩ := bd hf
          refine rw_V (pc := 24) (C := RX6) (As := [.int x1, .int x3]) (rest := []) (st1 := [.long r24.1]) (wn := fun _ => wH Z b r24.2) ⟨hx, hb, hml, hown, hts⟩ (c_X6_gainOf Z l b h x1 x3 r24 h_24) (cwV 2 hts gX6_relative_X6_gainOf rfl rfl rfl hv_X6_gainOf ⟨Nat.le_of_ble_eq_true rfl, Nat.le_of_ble_eq_true rfl⟩) hK hE hP hD hS hA [0, 1, 2, 3, 4, 5, 6, 7, 8, 9, 10, 11, 12, 13, 14, 15, 16, 17, 18, 19, 20, 21, 22, 23, 24, 25, 26, 27, 28, 29, 30, 31, 32, 33, 34, 35, 36, 37, 38, 39] [] [0, 1, 2, 3, 4, 5, 6, 7, 8, 9, 10, 11, 12, 13, 14, 15, 16, 17, 18, 19, 20, 21, 22, 23, 24, 25, 26, 27, 28, 29, 30, 31, 32, 33, 34, 35, 36, 37, 38, 39] rfl rfl rfl (fun _ => rfl) 6 rfl rfl rfl hl.1 rfl (lv_room (Nat.le_of_ble_eq_true rfl)) dX6_relative_24 ⟨Nat.le_of_ble_eq_true rfl, Nat.le_of_ble_eq_true rfl⟩ rfl (fun _ H locs hP hD hS => ?_)
          refine lv_aload_n (pc := 27) hx hb dX6_relative_27 rfl (lv_at hl 0 rfl) ?_
          refine lv_iload_n (pc := 28) hx hb dX6_relative_28 rfl (lv_at hl 2 rfl) ?_
          refine lv_iload (pc := 29) hx hb dX6_relative_29 (lv_at hl 4 rfl) ?_
          obtain ⟨r31, h_31, hf⟩ := bd hf
          refine rw_V (pc := 31) (C := RX6) (As := [.int x2, .int x4]) (rest := [.long r24.1]) (st1 := [.long r31.1, .long r24.1]) (wn := fun _ => wH Z b r31.2) ⟨hx, hb, hml, hown, hts⟩ (c_X6_gainOf Z l b r24.2 x2 x4 r31 h_31) (cwV 2 hts gX6_relative_X6_gainOf rfl rfl rfl hv_X6_gainOf ⟨Nat.le_of_ble_eq_true rfl, Nat.le_of_ble_eq_true rfl⟩) hK hE hP hD hS hA [0, 1, 2, 3, 4, 5, 6, 7, 8, 9, 10, 11, 12, 13, 14, 15, 16, 17, 18, 19, 20, 21, 22, 23, 24, 25, 26, 27, 28, 29, 30, 31, 32, 33, 34, 35, 36, 37, 38, 39] [] [0, 1, 2, 3, 4, 5, 6, 7, 8, 9, 10, 11, 12, 13, 14, 15, 16, 17, 18, 19, 20, 21, 22, 23, 24, 25, 26, 27, 28, 29, 30, 31, 32, 33, 34, 35, 36, 37, 38, 39] rfl rfl rfl (fun _ => rfl) 6 rfl rfl rfl hl.1 rfl (lv_room (Nat.le_of_ble_eq_true rfl)) dX6_relative_31 ⟨Nat.le_of_ble_eq_true rfl, Nat.le_of_ble_eq_true rfl⟩ rfl (fun _ H locs hP hD hS => ?_)
          refine lv_lmul (pc := 34) hx hb dX6_relative_34 ?_
          refine lv_lstore (pc := 35) (lv' := [(5, .long (r24.1 * r31.1)), (0, .ref (b 0 0)), (1, .int x1), (2, .int x2), (3, .int x3), (4, .int x4)]) hx hb dX6_relative_35 hl (by decide) rfl (fun ls hl => ?_)
          refine lv_aload_n (pc := 37) hx hb dX6_relative_37 rfl (lv_at hl 1 rfl) ?_
          refine lv_iload_n (pc := 38) hx hb dX6_relative_38 rfl (lv_at hl 2 rfl) ?_
          refine lv_iload (pc := 39) hx hb dX6_relative_39 (lv_at hl 5 rfl) ?_
          obtain ⟨r41, h_41, hf⟩ := bd hf
          refine rw_V (pc := 41) (C := RX6) (As := [.int x1, .int x4]) (rest := []) (st1 := [.long r41.1]) (wn := fun _ => wH Z b r41.2) ⟨hx, hb, hml, hown, hts⟩ (c_X6_gainOf Z l b r31.2 x1 x4 r41 h_41) (cwV 2 hts gX6_relative_X6_gainOf rfl rfl rfl hv_X6_gainOf ⟨Nat.le_of_ble_eq_true rfl, Nat.le_of_ble_eq_true rfl⟩) hK hE hP hD hS hA [0, 1, 2, 3, 4, 5, 6, 7, 8, 9, 10, 11, 12, 13, 14, 15, 16, 17, 18, 19, 20, 21, 22, 23, 24, 25, 26, 27, 28, 29, 30, 31, 32, 33, 34, 35, 36, 37, 38, 39] [] [0, 1, 2, 3, 4, 5, 6, 7, 8, 9, 10, 11, 12, 13, 14, 15, 16, 17, 18, 19, 20, 21, 22, 23, 24, 25, 26, 27, 28, 29, 30, 31, 32, 33, 34, 35, 36, 37, 38, 39] rfl rfl rfl (fun _ => rfl) 6 rfl rfl rfl hl.1 rfl (lv_room (Nat.le_of_ble_eq_true rfl)) dX6_relative_41 ⟨Nat.le_of_ble_eq_true rfl, Nat.le_of_ble_eq_true rfl⟩ rfl (fun _ H locs hP hD hS => ?_)
          refine lv_aload_n (pc := 44) hx hb dX6_relative_44 rfl (lv_at hl 1 rfl) ?_
          refine lv_iload_n (pc := 45) hx hb dX6_relative_45 rfl (lv_at hl 3 rfl) ?_
          refine lv_iload_n (pc := 46) hx hb dX6_relative_46 rfl (lv_at hl 4 rfl) ?_
          obtain ⟨r47, h_47, hf⟩ := bd hf
          refine rw_V (pc := 47) (C := RX6) (As := [.int x2, .int x3]) (rest := [.long r41.1]) (st1 := [.long r47.1, .long r41.1]) (wn := fun _ => wH Z b r47.2) ⟨hx, hb, hml, hown, hts⟩ (c_X6_gainOf Z l b r41.2 x2 x3 r47 h_47) (cwV 2 hts gX6_relative_X6_gainOf rfl rfl rfl hv_X6_gainOf ⟨Nat.le_of_ble_eq_true rfl, Nat.le_of_ble_eq_true rfl⟩) hK hE hP hD hS hA [0, 1, 2, 3, 4, 5, 6, 7, 8, 9, 10, 11, 12, 13, 14, 15, 16, 17, 18, 19, 20, 21, 22, 23, 24, 25, 26, 27, 28, 29, 30, 31, 32, 33, 34, 35, 36, 37, 38, 39] [] [0, 1, 2, 3, 4, 5, 6, 7, 8, 9, 10, 11, 12, 13, 14, 15, 16, 17, 18, 19, 20, 21, 22, 23, 24, 25, 26, 27, 28, 29, 30, 31, 32, 33, 34, 35, 36, 37, 38, 39] rfl rfl rfl (fun _ => rfl) 6 rfl rfl rfl hl.1 rfl (lv_room (Nat.le_of_ble_eq_true rfl)) dX6_relative_47 ⟨Nat.le_of_ble_eq_true rfl, Nat.le_of_ble_eq_true rfl⟩ rfl (fun _ H locs hP hD hS => ?_)
          refine lv_lmul (pc := 50) hx hb dX6_relative_50 ?_
          refine lv_lstore (pc := 51) (lv' := [(7, .long (r41.1 * r47.1)), (5, .long (r24.1 * r31.1)), (0, .ref (b 0 0)), (1, .int x1), (2, .int x2), (3, .int x3), (4, .int x4)]) hx hb dX6_relative_51 hl (by decide) rfl (fun ls hl => ?_)
          refine lv_lload (pc := 53) hx hb dX6_relative_53 (lv_at hl 1 rfl) ?_
          refine lv_lload (pc := 55) hx hb dX6_relative_55 (lv_at hl 0 rfl) ?_
          refine lv_lsub (pc := 57) hx hb dX6_relative_57 ?_
          refine lv_lstore (pc := 58) (lv' := [(9, .long ((r24.1 * r31.1) - (r41.1 * r47.1))), (7, .long (r41.1 * r47.1)), (5, .long (r24.1 * r31.1)), (0, .ref (b 0 0)), (1, .int x1), (2, .int x2), (3, .int x3), (4, .int x4)]) hx hb dX6_relative_58 hl (by decide) rfl (fun ls hl => ?_)
          refine lv_lload (pc := 60) hx hb dX6_relative_60 (lv_at hl 0 rfl) ?_
          refine lv_lconst (pc := 62) (v := 0) hx hb dX6_relative_62 (by decide) ?_
          refine W.lcmp (pc := 63) hx hb dX6_relative_63 ?_
          refine lv_if_ne (pc := 64) (tgt := 72) hx hb dX6_relative_64 (by decide) (fun c1 => ?_) (fun c1 => ?_)
          · have hf := (if_neg c1).symm.trans hf
            refine lv_ldc2 (pc := 72) (v := 100) hx hb hown w0 dX6_relative_72 ?_
            refine lv_lload (pc := 75) hx hb dX6_relative_75 (lv_at hl 2 rfl) ?_
            refine lv_lmul (pc := 77) hx hb dX6_relative_77 ?_
            refine lv_lload (pc := 78) hx hb dX6_relative_78 (lv_at hl 0 rfl) ?_
            obtain ⟨g80, hf⟩ := gd hf
            refine lv_ldiv (pc := 80) hx hb dX6_relative_80 (of_decide_eq_true g80) ?_
            refine lv_l2i (pc := 81) (v := ((100 * (r24.1 * r31.1)) / ((r24.1 * r31.1) - (r41.1 * r47.1))).toInt32) hx hb dX6_relative_81 rfl ?_
            have hf := (Option.some.inj hf).symm
            refine th_ret hf ?_
            exact rw_i (fun _ => 0) hx hb hr hlk rfl hP hD hS dX6_relative_82
          · have hf := (if_pos c1).symm.trans hf
            refine lv_ldc (pc := 67) (v := (-100000)) hx hb hown w1 dX6_relative_67 ?_
            refine lv_goto (pc := 69) (tgt := 82) hx hb dX6_relative_69 (by decide) ?_
            have hf := (Option.some.inj hf).symm
            refine th_ret hf ?_
            exact rw_i (fun _ => 0) hx hb hr hlk rfl hP hD hS dX6_relative_82
