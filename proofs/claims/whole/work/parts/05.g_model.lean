def f_X7_ticks_b90  : Nat → Int32 → ObS → Option (ObS)
  | 0, _, _ => none
  | n + 1, v90_1, o90_0 =>
  if (2 * (o90_0.1 2 0)) ≤ v90_1 then
    some (o90_0)
  else
    (f_X7_warmthOf o90_0 v90_1).bind fun r117 =>
    if inb ((24 * ((o90_0.1 1 0) - 1)) + v90_1) 7200 then
    (some (oi o90_0 17 ((24 * ((o90_0.1 1 0) - 1)) + v90_1).toNatClampNeg r117)).bind fun s120 =>
    f_X7_ticks_b90 n (v90_1 + 1) s120
    else none
def f_X7_ticks_b62  : Nat → Int32 → ObS → Option (ObS)
  | 0, _, _ => none
  | n + 1, v62_1, o62_0 =>
  if (o62_0.1 2 0) ≤ v62_1 then
    f_X7_ticks_b90 64 0 o62_0
  else
    if inb v62_1 12 then
    (f_X7_runs o62_0 v62_1 ((o62_0.1 4 (v62_1).toNatClampNeg).toInt64)).bind fun r79 =>
    f_X7_ticks_b62 n (v62_1 + 1) r79
    else none
def f_X7_ticks_b37  : Nat → Int32 → ObS → Option (ObS)
  | 0, _, _ => none
  | n + 1, v37_1, o37_0 =>
  if (o37_0.1 2 0) ≤ v37_1 then
    (f_X7_ages o37_0).bind fun r57 =>
    f_X7_ticks_b62 64 0 r57
  else
    (f_X7_driven o37_0 v37_1).bind fun r47 =>
    f_X7_ticks_b37 n (v37_1 + 1) r47
def f_X7_ticks_b16  : Nat → Int32 → ObS → Option (ObS)
  | 0, _, _ => none
  | n + 1, v16_1, o16_0 =>
  if (o16_0.1 22 0) ≤ v16_1 then
    f_X7_ticks_b37 64 0 o16_0
  else
    (f_X7_works o16_0 v16_1).bind fun r26 =>
    f_X7_ticks_b16 n (v16_1 + 1) r26
def f_X7_ticks (o0 : ObS) : Option (ObS) :=
  (some (oi o0 1 0 ((o0.1 1 0) + 1))).bind fun s7 =>
  (f_X7_disturbs s7).bind fun r11 =>
  f_X7_ticks_b16 64 0 r11
set_option maxHeartbeats 4000000 in
set_option maxRecDepth 100000 in
theorem c_X7_ticks (Z : EnvT) (l : Launch) (a0 : Nat → Nat) (o0 : ObS) (R : ObS) (hf : f_X7_ticks o0 = some R) : RW Z l yX7_ticks wsX7_ticks { frames := 3, cells := 0, slots := 0, locals := 66 } [.ref (a0 0)] (wX7 Z a0 o0) none (fun _ => wX7 Z a0 R) 0 0 := by
  refine rw_of (cc := cX7_ticks) (maxL := 2) (ret := none) (by decide) rfl (Nat.le_of_ble_eq_true rfl) ?_
  intro p e s m below meth c A ls hx hb hr hml hts hown hlk hin hP hK hE hD hA hS hl
  have hown : s.vm.findClass RX7 = some m.cls := hown
  have hl : lv_has ls 2 [(0, .ref (a0 0))] := hl
  have w0 := hts (.fieldLink RX7 132 "HeatTrainModel" "now" "I") (by decide +kernel)
  have w1 := hts (.fieldLink RX7 128 "HeatTrainModel" "controllers" "I") (by decide +kernel)
  have w2 := hts (.fieldLink RX7 121 "HeatTrainModel" "units" "I") (by decide +kernel)
  have w3 := hts (.fieldLink RX7 13 "HeatTrainModel" "numbers" "[I") (by decide +kernel)
  have w4 := hts (.fieldLink RX7 54 "HeatTrainModel" "trends" "[I") (by decide +kernel)
  have u7 : ∀ w ∈ wsX70, w ∈ wsX7_ticks := by decide +kernel
  have B90 : ∀ (n : Nat), ∀ (v90_1 : Int32) (o90_0 : ObS) (ls : Array Slot), lv_has ls 2 [(0, .ref (a0 0)), (1, .int v90_1)] → ∀ (H : Heap) (locs : List Loc), va_P Z.1 vwCl (wX7 Z a0 o90_0) H → va_D A (wX7 Z a0 o90_0) → va_S A s.heap H locs → f_X7_ticks_b90 n v90_1 o90_0 = some R → W p l e { frames := 3, cells := 0, slots := 0, locals := 66 } s m ([.ref (a0 0)] : List Value).toArray below meth c H locs 0 0 (MQ below (rwQ Z none (fun _ => wX7 Z a0 R) A) ([.ref (a0 0)] : List Value).toArray s 0 0 A) (F0 m 90 ls []) := by
    intro n
    induction n with
    | zero => intro v90_1 o90_0 ls hl H locs hP hD hS hf; rw [f_X7_ticks_b90] at hf; exact nomatch hf
    | succ n ih =>
      intro v90_1 o90_0 ls hl H locs hP hD hS hf
      rw [f_X7_ticks_b90] at hf
      refine lv_iload_n (pc := 90) hx hb dX7_ticks_90 rfl (lv_at hl 1 rfl) ?_
      refine lv_iconst (pc := 91) (v := 2) hx hb dX7_ticks_91 (by decide) ?_
      refine lv_aload_n (pc := 92) hx hb dX7_ticks_92 rfl (lv_at hl 0 rfl) ?_
      refine va_get (pc := 93) (D := Z.1) (ci := 7) (v := .int (o90_0.1 2 0)) (C := RX7) (T := TX7) (N := 41) hx hb hts u7 hown hK hP 0 rfl rfl 2 (by decide) w2 (fun _ h9 => h9) rfl dX7_ticks_93 ?_
      refine lv_imul (pc := 96) hx hb dX7_ticks_96 ?_
      refine lv_icmp_ge (pc := 97) (tgt := 127) hx hb dX7_ticks_97 (by decide) (fun c1 => ?_) (fun c1 => ?_)
      · have hf := (if_pos c1).symm.trans hf
        have hf := (Option.some.inj hf)
        subst hf
        exact rw_v (fun _ => 0) hx hb hr hlk hP hD hS dX7_ticks_127
      · have hf := (if_neg c1).symm.trans hf
        refine lv_aload_n (pc := 100) hx hb dX7_ticks_100 rfl (lv_at hl 0 rfl) ?_
        refine va_get (pc := 101) (D := Z.1) (ci := 7) (v := .ref (a0 18)) (C := RX7) (T := TX7) (N := 41) hx hb hts u7 hown hK hP 0 rfl rfl 17 (by decide) w4 (fun _ h9 => h9) rfl dX7_ticks_101 ?_
        refine lv_bipush (pc := 104) (v := 24) hx hb dX7_ticks_104 (by decide) ?_
        refine lv_aload_n (pc := 106) hx hb dX7_ticks_106 rfl (lv_at hl 0 rfl) ?_
        refine va_get (pc := 107) (D := Z.1) (ci := 7) (v := .int (o90_0.1 1 0)) (C := RX7) (T := TX7) (N := 41) hx hb hts u7 hown hK hP 0 rfl rfl 1 (by decide) w0 (fun _ h9 => h9) rfl dX7_ticks_107 ?_
        refine lv_iconst (pc := 110) (v := 1) hx hb dX7_ticks_110 (by decide) ?_
        refine lv_isub (pc := 111) hx hb dX7_ticks_111 ?_
        refine lv_imul (pc := 112) hx hb dX7_ticks_112 ?_
        refine lv_iload_n (pc := 113) hx hb dX7_ticks_113 rfl (lv_at hl 1 rfl) ?_
        refine lv_iadd (pc := 114) hx hb dX7_ticks_114 ?_
        refine lv_aload_n (pc := 115) hx hb dX7_ticks_115 rfl (lv_at hl 0 rfl) ?_
        refine lv_iload_n (pc := 116) hx hb dX7_ticks_116 rfl (lv_at hl 1 rfl) ?_
        obtain ⟨r117, h_117, hf⟩ := bd hf
        refine ro_V (pc := 117) (C := RX7) (As := [.int v90_1]) (rest := [.int ((24 * ((o90_0.1 1 0) - 1)) + v90_1), .ref (a0 18)]) (st1 := [.int r117, .int ((24 * ((o90_0.1 1 0) - 1)) + v90_1), .ref (a0 18)]) ⟨hx, hb, hml, hown, hts⟩ (c_X7_warmthOf Z l a0 o90_0 v90_1 r117 h_117) (cwV 1 hts gX7_ticks_X7_warmthOf rfl rfl rfl hv_X7_warmthOf ⟨Nat.le_of_ble_eq_true rfl, Nat.le_of_ble_eq_true rfl⟩) hK hE hP 7 rfl rfl rfl hl.1 rfl (lv_room (Nat.le_of_ble_eq_true rfl)) dX7_ticks_117 ⟨Nat.le_of_ble_eq_true rfl, Nat.le_of_ble_eq_true rfl⟩ rfl ?_
        obtain ⟨g120, hf⟩ := gd hf
        refine va_iast (pc := 120) (D := Z.1) (n := 7200) (f := o90_0.1 17) hx hb hK hP hD hS 15 0 rfl rfl (inb_in g120) dX7_ticks_120 (fun H locs hP hD hS => ?_)
        obtain ⟨s120, h_120, hf⟩ := bd hf
        have hP : va_P Z.1 vwCl (wX7 Z a0 s120) H := st_P (f := fun z => wX7 Z a0 z) h_120 hP
        have hD : va_D A (wX7 Z a0 s120) := st_D (f := fun z => wX7 Z a0 z) h_120 hD
        refine lv_iinc (pc := 121) (v := v90_1 + 1) (lv' := [(1, .int (v90_1 + 1)), (0, .ref (a0 0))]) hx hb dX7_ticks_121 hl (k := 1) rfl rfl (by decide) rfl (fun ls hl => ?_)
        refine lv_goto (pc := 124) (tgt := 90) hx hb dX7_ticks_124 (by decide) ?_
        exact ih (v90_1 + 1) s120 _ (lv_sub hl [1, 0] rfl) _ _ hP hD hS hf
  have B62 : ∀ (n : Nat), ∀ (v62_1 : Int32) (o62_0 : ObS) (ls : Array Slot), lv_has ls 2 [(0, .ref (a0 0)), (1, .int v62_1)] → ∀ (H : Heap) (locs : List Loc), va_P Z.1 vwCl (wX7 Z a0 o62_0) H → va_D A (wX7 Z a0 o62_0) → va_S A s.heap H locs → f_X7_ticks_b62 n v62_1 o62_0 = some R → W p l e { frames := 3, cells := 0, slots := 0, locals := 66 } s m ([.ref (a0 0)] : List Value).toArray below meth c H locs 0 0 (MQ below (rwQ Z none (fun _ => wX7 Z a0 R) A) ([.ref (a0 0)] : List Value).toArray s 0 0 A) (F0 m 62 ls []) := by
    intro n
    induction n with
    | zero => intro v62_1 o62_0 ls hl H locs hP hD hS hf; rw [f_X7_ticks_b62] at hf; exact nomatch hf
    | succ n ih =>
      intro v62_1 o62_0 ls hl H locs hP hD hS hf
      rw [f_X7_ticks_b62] at hf
      refine lv_iload_n (pc := 62) hx hb dX7_ticks_62 rfl (lv_at hl 1 rfl) ?_
      refine lv_aload_n (pc := 63) hx hb dX7_ticks_63 rfl (lv_at hl 0 rfl) ?_
      refine va_get (pc := 64) (D := Z.1) (ci := 7) (v := .int (o62_0.1 2 0)) (C := RX7) (T := TX7) (N := 41) hx hb hts u7 hown hK hP 0 rfl rfl 2 (by decide) w2 (fun _ h9 => h9) rfl dX7_ticks_64 ?_
      refine lv_icmp_ge (pc := 67) (tgt := 88) hx hb dX7_ticks_67 (by decide) (fun c1 => ?_) (fun c1 => ?_)
      · have hf := (if_pos c1).symm.trans hf
        refine lv_iconst (pc := 88) (v := 0) hx hb dX7_ticks_88 (by decide) ?_
        refine lv_istore_n (pc := 89) (lv' := [(1, .int 0), (0, .ref (a0 0))]) hx hb dX7_ticks_89 rfl hl (by decide) rfl (fun ls hl => ?_)
        exact B90 64 0 o62_0 _ (lv_sub hl [1, 0] rfl) _ _ hP hD hS hf
      · have hf := (if_neg c1).symm.trans hf
        refine lv_aload_n (pc := 70) hx hb dX7_ticks_70 rfl (lv_at hl 0 rfl) ?_
        refine lv_iload_n (pc := 71) hx hb dX7_ticks_71 rfl (lv_at hl 1 rfl) ?_
        refine lv_aload_n (pc := 72) hx hb dX7_ticks_72 rfl (lv_at hl 0 rfl) ?_
        refine va_get (pc := 73) (D := Z.1) (ci := 7) (v := .ref (a0 5)) (C := RX7) (T := TX7) (N := 41) hx hb hts u7 hown hK hP 0 rfl rfl 4 (by decide) w3 (fun _ h9 => h9) rfl dX7_ticks_73 ?_
        refine lv_iload_n (pc := 76) hx hb dX7_ticks_76 rfl (lv_at hl 1 rfl) ?_
        obtain ⟨g77, hf⟩ := gd hf
        refine va_iald (pc := 77) (D := Z.1) (n := 12) (f := o62_0.1 4) hx hb hK hP 2 0 rfl rfl (inb_in g77) dX7_ticks_77 ?_
        refine lv_i2l (pc := 78) (v := (o62_0.1 4 (v62_1).toNatClampNeg).toInt64) hx hb dX7_ticks_78 rfl ?_
        obtain ⟨r79, h_79, hf⟩ := bd hf
        refine rw_V (pc := 79) (C := RX7) (As := [.int v62_1, .long ((o62_0.1 4 (v62_1).toNatClampNeg).toInt64)]) (rest := []) (st1 := []) (wn := fun _ => wX7 Z a0 r79) ⟨hx, hb, hml, hown, hts⟩ (c_X7_runs Z l a0 o62_0 v62_1 ((o62_0.1 4 (v62_1).toNatClampNeg).toInt64) r79 h_79) (cwV 2 hts gX7_ticks_X7_runs rfl rfl rfl hv_X7_runs ⟨Nat.le_of_ble_eq_true rfl, Nat.le_of_ble_eq_true rfl⟩) hK hE hP hD hS hA [0, 1, 2, 3, 4, 5, 6, 7, 8, 9, 10, 11, 12, 13, 14, 15, 16, 17, 18, 19, 20, 21, 22, 23, 24, 25, 26, 27, 28, 29, 30, 31, 32, 33, 34, 35] [] [0, 1, 2, 3, 4, 5, 6, 7, 8, 9, 10, 11, 12, 13, 14, 15, 16, 17, 18, 19, 20, 21, 22, 23, 24, 25, 26, 27, 28, 29, 30, 31, 32, 33, 34, 35] rfl rfl rfl (fun _ => rfl) 7 rfl rfl rfl hl.1 rfl (lv_room (Nat.le_of_ble_eq_true rfl)) dX7_ticks_79 ⟨Nat.le_of_ble_eq_true rfl, Nat.le_of_ble_eq_true rfl⟩ rfl (fun _ H locs hP hD hS => ?_)
        refine lv_iinc (pc := 82) (v := v62_1 + 1) (lv' := [(1, .int (v62_1 + 1)), (0, .ref (a0 0))]) hx hb dX7_ticks_82 hl (k := 1) rfl rfl (by decide) rfl (fun ls hl => ?_)
        refine lv_goto (pc := 85) (tgt := 62) hx hb dX7_ticks_85 (by decide) ?_
        exact ih (v62_1 + 1) r79 _ (lv_sub hl [1, 0] rfl) _ _ hP hD hS hf
  have B37 : ∀ (n : Nat), ∀ (v37_1 : Int32) (o37_0 : ObS) (ls : Array Slot), lv_has ls 2 [(0, .ref (a0 0)), (1, .int v37_1)] → ∀ (H : Heap) (locs : List Loc), va_P Z.1 vwCl (wX7 Z a0 o37_0) H → va_D A (wX7 Z a0 o37_0) → va_S A s.heap H locs → f_X7_ticks_b37 n v37_1 o37_0 = some R → W p l e { frames := 3, cells := 0, slots := 0, locals := 66 } s m ([.ref (a0 0)] : List Value).toArray below meth c H locs 0 0 (MQ below (rwQ Z none (fun _ => wX7 Z a0 R) A) ([.ref (a0 0)] : List Value).toArray s 0 0 A) (F0 m 37 ls []) := by
    intro n
    induction n with
    | zero => intro v37_1 o37_0 ls hl H locs hP hD hS hf; rw [f_X7_ticks_b37] at hf; exact nomatch hf
    | succ n ih =>
      intro v37_1 o37_0 ls hl H locs hP hD hS hf
      rw [f_X7_ticks_b37] at hf
      refine lv_iload_n (pc := 37) hx hb dX7_ticks_37 rfl (lv_at hl 1 rfl) ?_
      refine lv_aload_n (pc := 38) hx hb dX7_ticks_38 rfl (lv_at hl 0 rfl) ?_
      refine va_get (pc := 39) (D := Z.1) (ci := 7) (v := .int (o37_0.1 2 0)) (C := RX7) (T := TX7) (N := 41) hx hb hts u7 hown hK hP 0 rfl rfl 2 (by decide) w2 (fun _ h9 => h9) rfl dX7_ticks_39 ?_
      refine lv_icmp_ge (pc := 42) (tgt := 56) hx hb dX7_ticks_42 (by decide) (fun c1 => ?_) (fun c1 => ?_)
      · have hf := (if_pos c1).symm.trans hf
        refine lv_aload_n (pc := 56) hx hb dX7_ticks_56 rfl (lv_at hl 0 rfl) ?_
        obtain ⟨r57, h_57, hf⟩ := bd hf
        refine rw_V (pc := 57) (C := RX7) (As := []) (rest := []) (st1 := []) (wn := fun _ => wX7 Z a0 r57) ⟨hx, hb, hml, hown, hts⟩ (c_X7_ages Z l a0 o37_0 r57 h_57) (cwV 0 hts gX7_ticks_X7_ages rfl rfl rfl hv_X7_ages ⟨Nat.le_of_ble_eq_true rfl, Nat.le_of_ble_eq_true rfl⟩) hK hE hP hD hS hA [0, 1, 2, 3, 4, 5, 6, 7, 8, 9, 10, 11, 12, 13, 14, 15, 16, 17, 18, 19, 20, 21, 22, 23, 24, 25, 26, 27, 28, 29, 30, 31, 32, 33, 34, 35] [] [0, 1, 2, 3, 4, 5, 6, 7, 8, 9, 10, 11, 12, 13, 14, 15, 16, 17, 18, 19, 20, 21, 22, 23, 24, 25, 26, 27, 28, 29, 30, 31, 32, 33, 34, 35] rfl rfl rfl (fun _ => rfl) 7 rfl rfl rfl hl.1 rfl (lv_room (Nat.le_of_ble_eq_true rfl)) dX7_ticks_57 ⟨Nat.le_of_ble_eq_true rfl, Nat.le_of_ble_eq_true rfl⟩ rfl (fun _ H locs hP hD hS => ?_)
        refine lv_iconst (pc := 60) (v := 0) hx hb dX7_ticks_60 (by decide) ?_
        refine lv_istore_n (pc := 61) (lv' := [(1, .int 0), (0, .ref (a0 0))]) hx hb dX7_ticks_61 rfl hl (by decide) rfl (fun ls hl => ?_)
        exact B62 64 0 r57 _ (lv_sub hl [1, 0] rfl) _ _ hP hD hS hf
      · have hf := (if_neg c1).symm.trans hf
        refine lv_aload_n (pc := 45) hx hb dX7_ticks_45 rfl (lv_at hl 0 rfl) ?_
        refine lv_iload_n (pc := 46) hx hb dX7_ticks_46 rfl (lv_at hl 1 rfl) ?_
        obtain ⟨r47, h_47, hf⟩ := bd hf
        refine rw_V (pc := 47) (C := RX7) (As := [.int v37_1]) (rest := []) (st1 := []) (wn := fun _ => wX7 Z a0 r47) ⟨hx, hb, hml, hown, hts⟩ (c_X7_driven Z l a0 o37_0 v37_1 r47 h_47) (cwV 1 hts gX7_ticks_X7_driven rfl rfl rfl hv_X7_driven ⟨Nat.le_of_ble_eq_true rfl, Nat.le_of_ble_eq_true rfl⟩) hK hE hP hD hS hA [0, 1, 2, 3, 4, 5, 6, 7, 8, 9, 10, 11, 12, 13, 14, 15, 16, 17, 18, 19, 20, 21, 22, 23, 24, 25, 26, 27, 28, 29, 30, 31, 32, 33, 34, 35] [] [0, 1, 2, 3, 4, 5, 6, 7, 8, 9, 10, 11, 12, 13, 14, 15, 16, 17, 18, 19, 20, 21, 22, 23, 24, 25, 26, 27, 28, 29, 30, 31, 32, 33, 34, 35] rfl rfl rfl (fun _ => rfl) 7 rfl rfl rfl hl.1 rfl (lv_room (Nat.le_of_ble_eq_true rfl)) dX7_ticks_47 ⟨Nat.le_of_ble_eq_true rfl, Nat.le_of_ble_eq_true rfl⟩ rfl (fun _ H locs hP hD hS => ?_)
        refine lv_iinc (pc := 50) (v := v37_1 + 1) (lv' := [(1, .int (v37_1 + 1)), (0, .ref (a0 0))]) hx hb dX7_ticks_50 hl (k := 1) rfl rfl (by decide) rfl (fun ls hl => ?_)
        refine lv_goto (pc := 53) (tgt := 37) hx hb dX7_ticks_53 (by decide) ?_
        exact ih (v37_1 + 1) r47 _ (lv_sub hl [1, 0] rfl) _ _ hP hD hS hf
  have B16 : ∀ (n : Nat), ∀ (v16_1 : Int32) (o16_0 : ObS) (ls : Array Slot), lv_has ls 2 [(0, .ref (a0 0)), (1, .int v16_1)] → ∀ (H : Heap) (locs : List Loc), va_P Z.1 vwCl (wX7 Z a0 o16_0) H → va_D A (wX7 Z a0 o16_0) → va_S A s.heap H locs → f_X7_ticks_b16 n v16_1 o16_0 = some R → W p l e { frames := 3, cells := 0, slots := 0, locals := 66 } s m ([.ref (a0 0)] : List Value).toArray below meth c H locs 0 0 (MQ below (rwQ Z none (fun _ => wX7 Z a0 R) A) ([.ref (a0 0)] : List Value).toArray s 0 0 A) (F0 m 16 ls []) := by
    intro n
    induction n with
    | zero => intro v16_1 o16_0 ls hl H locs hP hD hS hf; rw [f_X7_ticks_b16] at hf; exact nomatch hf
    | succ n ih =>
      intro v16_1 o16_0 ls hl H locs hP hD hS hf
      rw [f_X7_ticks_b16] at hf
      refine lv_iload_n (pc := 16) hx hb dX7_ticks_16 rfl (lv_at hl 1 rfl) ?_
      refine lv_aload_n (pc := 17) hx hb dX7_ticks_17 rfl (lv_at hl 0 rfl) ?_
      refine va_get (pc := 18) (D := Z.1) (ci := 7) (v := .int (o16_0.1 22 0)) (C := RX7) (T := TX7) (N := 41) hx hb hts u7 hown hK hP 0 rfl rfl 22 (by decide) w1 (fun _ h9 => h9) rfl dX7_ticks_18 ?_
      refine lv_icmp_ge (pc := 21) (tgt := 35) hx hb dX7_ticks_21 (by decide) (fun c1 => ?_) (fun c1 => ?_)
      · have hf := (if_pos c1).symm.trans hf
        refine lv_iconst (pc := 35) (v := 0) hx hb dX7_ticks_35 (by decide) ?_
        refine lv_istore_n (pc := 36) (lv' := [(1, .int 0), (0, .ref (a0 0))]) hx hb dX7_ticks_36 rfl hl (by decide) rfl (fun ls hl => ?_)
        exact B37 64 0 o16_0 _ (lv_sub hl [1, 0] rfl) _ _ hP hD hS hf
      · have hf := (if_neg c1).symm.trans hf
        refine lv_aload_n (pc := 24) hx hb dX7_ticks_24 rfl (lv_at hl 0 rfl) ?_
        refine lv_iload_n (pc := 25) hx hb dX7_ticks_25 rfl (lv_at hl 1 rfl) ?_
        obtain ⟨r26, h_26, hf⟩ := bd hf
        refine rw_V (pc := 26) (C := RX7) (As := [.int v16_1]) (rest := []) (st1 := []) (wn := fun _ => wX7 Z a0 r26) ⟨hx, hb, hml, hown, hts⟩ (c_X7_works Z l a0 o16_0 v16_1 r26 h_26) (cwV 1 hts gX7_ticks_X7_works rfl rfl rfl hv_X7_works ⟨Nat.le_of_ble_eq_true rfl, Nat.le_of_ble_eq_true rfl⟩) hK hE hP hD hS hA [0, 1, 2, 3, 4, 5, 6, 7, 8, 9, 10, 11, 12, 13, 14, 15, 16, 17, 18, 19, 20, 21, 22, 23, 24, 25, 26, 27, 28, 29, 30, 31, 32, 33, 34, 35] [] [0, 1, 2, 3, 4, 5, 6, 7, 8, 9, 10, 11, 12, 13, 14, 15, 16, 17, 18, 19, 20, 21, 22, 23, 24, 25, 26, 27, 28, 29, 30, 31, 32, 33, 34, 35] rfl rfl rfl (fun _ => rfl) 7 rfl rfl rfl hl.1 rfl (lv_room (Nat.le_of_ble_eq_true rfl)) dX7_ticks_26 ⟨Nat.le_of_ble_eq_true rfl, Nat.le_of_ble_eq_true rfl⟩ rfl (fun _ H locs hP hD hS => ?_)
        refine lv_iinc (pc := 29) (v := v16_1 + 1) (lv' := [(1, .int (v16_1 + 1)), (0, .ref (a0 0))]) hx hb dX7_ticks_29 hl (k := 1) rfl rfl (by decide) rfl (fun ls hl => ?_)
        refine lv_goto (pc := 32) (tgt := 16) hx hb dX7_ticks_32 (by decide) ?_
        exact ih (v16_1 + 1) r26 _ (lv_sub hl [1, 0] rfl) _ _ hP hD hS hf
  rw [f_X7_ticks] at hf
  refine lv_aload_n (pc := 0) hx hb dX7_ticks_0 rfl (lv_at hl 0 rfl) ?_
  refine lv_dup (pc := 1) hx hb dX7_ticks_1 rfl ?_
  refine va_get (pc := 2) (D := Z.1) (ci := 7) (v := .int (o0.1 1 0)) (C := RX7) (T := TX7) (N := 41) hx hb hts u7 hown hK hP 0 rfl rfl 1 (by decide) w0 (fun _ h9 => h9) rfl dX7_ticks_2 ?_
  refine lv_iconst (pc := 5) (v := 1) hx hb dX7_ticks_5 (by decide) ?_
  refine lv_iadd (pc := 6) hx hb dX7_ticks_6 ?_
  refine va_put (pc := 7) (D := Z.1) (ci := 7) (v := .int ((o0.1 1 0) + 1)) (ty := .int) (C := RX7) (T := TX7) (N := 41) hx hb hts u7 tyX7 tyX7_ok nmX7 hown hK hP hD hS 0 rfl rfl 1 (by decide) w0 (fun _ h9 => h9) rfl (by decide +kernel) rfl rfl (Nat.le_of_ble_eq_true rfl) dX7_ticks_7 (fun H locs hP hD hS => ?_)
  obtain ⟨s7, h_7, hf⟩ := bd hf
  have hP : va_P Z.1 vwCl (wX7 Z a0 s7) H := st_P (f := fun z => wX7 Z a0 z) h_7 hP
  have hD : va_D A (wX7 Z a0 s7) := st_D (f := fun z => wX7 Z a0 z) h_7 hD
  refine lv_aload_n (pc := 10) hx hb dX7_ticks_10 rfl (lv_at hl 0 rfl) ?_
  obtain ⟨r11, h_11, hf⟩ := bd hf
  refine rw_V (pc := 11) (C := RX7) (As := []) (rest := []) (st1 := []) (wn := fun _ => wX7 Z a0 r11) ⟨hx, hb, hml, hown, hts⟩ (c_X7_disturbs Z l a0 s7 r11 h_11) (cwV 0 hts gX7_ticks_X7_disturbs rfl rfl rfl hv_X7_disturbs ⟨Nat.le_of_ble_eq_true rfl, Nat.le_of_ble_eq_true rfl⟩) hK hE hP hD hS hA [0, 1, 2, 3, 4, 5, 6, 7, 8, 9, 10, 11, 12, 13, 14, 15, 16, 17, 18, 19, 20, 21, 22, 23, 24, 25, 26, 27, 28, 29, 30, 31, 32, 33, 34, 35] [] [0, 1, 2, 3, 4, 5, 6, 7, 8, 9, 10, 11, 12, 13, 14, 15, 16, 17, 18, 19, 20, 21, 22, 23, 24, 25, 26, 27, 28, 29, 30, 31, 32, 33, 34, 35] rfl rfl rfl (fun _ => rfl) 7 rfl rfl rfl hl.1 rfl (lv_room (Nat.le_of_ble_eq_true rfl)) dX7_ticks_11 ⟨Nat.le_of_ble_eq_true rfl, Nat.le_of_ble_eq_true rfl⟩ rfl (fun _ H locs hP hD hS => ?_)
  refine lv_iconst (pc := 14) (v := 0) hx hb dX7_ticks_14 (by decide) ?_
  refine lv_istore_n (pc := 15) (lv' := [(1, .int 0), (0, .ref (a0 0))]) hx hb dX7_ticks_15 rfl hl (by decide) rfl (fun ls hl => ?_)
  exact B16 64 0 r11 _ (lv_sub hl [1, 0] rfl) _ _ hP hD hS hf
def f_X7_tick_b42 (x1 : Int32) : Nat → Int32 → ObS → Option (Int32 × ObS)
  | 0, _, _ => none
  | n + 1, v42_2, o42_0 =>
  if x1 ≤ v42_2 then
    some (o42_0.1 1 0, o42_0)
  else
    (f_X7_ticks o42_0).bind fun r48 =>
    f_X7_tick_b42 x1 n (v42_2 + 1) r48
def f_X7_tick (o0 : ObS) (x1 : Int32) : Option (Int32 × ObS) :=
  if (f_X7_in x1 1 50) = (0 : Int32) then
    (f_X7_holds o0 1).bind fun r32 =>
    if r32.1 = (0 : Int32) then
      some ((0 : Int32), r32.2)
    else
      f_X7_tick_b42 x1 64 0 r32.2
  else
    if ((o0.1 1 0) + x1) ≤ 300 then
      (f_X7_holds o0 0).bind fun r32 =>
      if r32.1 = (0 : Int32) then
        some ((0 : Int32), r32.2)
      else
        f_X7_tick_b42 x1 64 0 r32.2
    else
      (f_X7_holds o0 2).bind fun r32 =>
      if r32.1 = (0 : Int32) then
        some ((0 : Int32), r32.2)
      else
        f_X7_tick_b42 x1 64 0 r32.2
set_option maxHeartbeats 4000000 in
set_option maxRecDepth 100000 in
theorem c_X7_tick (Z : EnvT) (l : Launch) (a0 : Nat → Nat) (o0 : ObS) (x1 : Int32) (R : Int32 × ObS) (hf : f_X7_tick o0 x1 = some R) : RW Z l yX7_tick wsX7_tick { frames := 4, cells := 0, slots := 0, locals := 87 } [.ref (a0 0), .int x1] (wX7 Z a0 o0) (some (.int R.1)) (fun _ => wX7 Z a0 R.2) 0 0 := by
  refine rw_of (cc := cX7_tick) (maxL := 3) (ret := (some .int)) (by decide) rfl (Nat.le_of_ble_eq_true rfl) ?_
  intro p e s m below meth c A ls hx hb hr hml hts hown hlk hin hP hK hE hD hA hS hl
  have hown : s.vm.findClass RX7 = some m.cls := hown
  have hl : lv_has ls 3 [(0, .ref (a0 0)), (1, .int x1)] := hl
  have w0 := hts (.fieldLink RX7 132 "HeatTrainModel" "now" "I") (by decide +kernel)
  have u7 : ∀ w ∈ wsX70, w ∈ wsX7_tick := by decide +kernel
  have B42 : ∀ (n : Nat), ∀ (v42_2 : Int32) (o42_0 : ObS) (ls : Array Slot), lv_has ls 3 [(0, .ref (a0 0)), (1, .int x1), (2, .int v42_2)] → ∀ (H : Heap) (locs : List Loc), va_P Z.1 vwCl (wX7 Z a0 o42_0) H → va_D A (wX7 Z a0 o42_0) → va_S A s.heap H locs → f_X7_tick_b42 x1 n v42_2 o42_0 = some R → W p l e { frames := 4, cells := 0, slots := 0, locals := 87 } s m ([.ref (a0 0), .int x1] : List Value).toArray below meth c H locs 0 0 (MQ below (rwQ Z (some (.int R.1)) (fun _ => wX7 Z a0 R.2) A) ([.ref (a0 0), .int x1] : List Value).toArray s 0 0 A) (F0 m 42 ls []) := by
    intro n
    induction n with
    | zero => intro v42_2 o42_0 ls hl H locs hP hD hS hf; rw [f_X7_tick_b42] at hf; exact nomatch hf
    | succ n ih =>
      intro v42_2 o42_0 ls hl H locs hP hD hS hf
      rw [f_X7_tick_b42] at hf
      refine lv_iload_n (pc := 42) hx hb dX7_tick_42 rfl (lv_at hl 2 rfl) ?_
      refine lv_iload_n (pc := 43) hx hb dX7_tick_43 rfl (lv_at hl 1 rfl) ?_
      refine lv_icmp_ge (pc := 44) (tgt := 57) hx hb dX7_tick_44 (by decide) (fun c1 => ?_) (fun c1 => ?_)
      · have hf := (if_pos c1).symm.trans hf
        refine lv_aload_n (pc := 57) hx hb dX7_tick_57 rfl (lv_at hl 0 rfl) ?_
        refine va_get (pc := 58) (D := Z.1) (ci := 7) (v := .int (o42_0.1 1 0)) (C := RX7) (T := TX7) (N := 41) hx hb hts u7 hown hK hP 0 rfl rfl 1 (by decide) w0 (fun _ h9 => h9) rfl dX7_tick_58 ?_
        have hf := (Option.some.inj hf)
        subst hf
        exact rw_i (fun _ => 0) hx hb hr hlk rfl hP hD hS dX7_tick_61
      · have hf := (if_neg c1).symm.trans hf
        refine lv_aload_n (pc := 47) hx hb dX7_tick_47 rfl (lv_at hl 0 rfl) ?_
        obtain ⟨r48, h_48, hf⟩ := bd hf
        refine rw_V (pc := 48) (C := RX7) (As := []) (rest := []) (st1 := []) (wn := fun _ => wX7 Z a0 r48) ⟨hx, hb, hml, hown, hts⟩ (c_X7_ticks Z l a0 o42_0 r48 h_48) (cwV 0 hts gX7_tick_X7_ticks rfl rfl rfl hv_X7_ticks ⟨Nat.le_of_ble_eq_true rfl, Nat.le_of_ble_eq_true rfl⟩) hK hE hP hD hS hA [0, 1, 2, 3, 4, 5, 6, 7, 8, 9, 10, 11, 12, 13, 14, 15, 16, 17, 18, 19, 20, 21, 22, 23, 24, 25, 26, 27, 28, 29, 30, 31, 32, 33, 34, 35] [] [0, 1, 2, 3, 4, 5, 6, 7, 8, 9, 10, 11, 12, 13, 14, 15, 16, 17, 18, 19, 20, 21, 22, 23, 24, 25, 26, 27, 28, 29, 30, 31, 32, 33, 34, 35] rfl rfl rfl (fun _ => rfl) 7 rfl rfl rfl hl.1 rfl (lv_room (Nat.le_of_ble_eq_true rfl)) dX7_tick_48 ⟨Nat.le_of_ble_eq_true rfl, Nat.le_of_ble_eq_true rfl⟩ rfl (fun _ H locs hP hD hS => ?_)
        refine lv_iinc (pc := 51) (v := v42_2 + 1) (lv' := [(2, .int (v42_2 + 1)), (0, .ref (a0 0)), (1, .int x1)]) hx hb dX7_tick_51 hl (k := 2) rfl rfl (by decide) rfl (fun ls hl => ?_)
        refine lv_goto (pc := 54) (tgt := 42) hx hb dX7_tick_54 (by decide) ?_
        exact ih (v42_2 + 1) r48 _ (lv_sub hl [1, 2, 0] rfl) _ _ hP hD hS hf
  rw [f_X7_tick] at hf
  refine lv_aload_n (pc := 0) hx hb dX7_tick_0 rfl (lv_at hl 0 rfl) ?_
  refine lv_iload_n (pc := 1) hx hb dX7_tick_1 rfl (lv_at hl 1 rfl) ?_
  refine lv_iconst (pc := 2) (v := 1) hx hb dX7_tick_2 (by decide) ?_
  refine lv_bipush (pc := 3) (v := 50) hx hb dX7_tick_3 (by decide) ?_
  refine ro_S (pc := 5) (As := [.int x1, .int 1, .int 50]) (rest := [.ref (a0 0)]) (st1 := [.int (f_X7_in x1 1 50), .ref (a0 0)]) ⟨hx, hb, hml, hown, hts⟩ (c_X7_in Z l x1 1 50 _ rfl) (va_cwS 3 hts gX7_tick_X7_in rfl rfl rfl hs_X7_in ⟨Nat.le_of_ble_eq_true rfl, Nat.le_of_ble_eq_true rfl⟩) hK hE (hP.sub (ws' := []) [] rfl) rfl hl.1 rfl (lv_room (Nat.le_of_ble_eq_true rfl)) dX7_tick_5 ⟨Nat.le_of_ble_eq_true rfl, Nat.le_of_ble_eq_true rfl⟩ rfl ?_
  refine lv_if_ne (pc := 8) (tgt := 15) hx hb dX7_tick_8 (by decide) (fun c1 => ?_) (fun c1 => ?_)
  · have hf := (if_neg c1).symm.trans hf
    refine lv_aload_n (pc := 15) hx hb dX7_tick_15 rfl (lv_at hl 0 rfl) ?_
    refine va_get (pc := 16) (D := Z.1) (ci := 7) (v := .int (o0.1 1 0)) (C := RX7) (T := TX7) (N := 41) hx hb hts u7 hown hK hP 0 rfl rfl 1 (by decide) w0 (fun _ h9 => h9) rfl dX7_tick_16 ?_
    refine lv_iload_n (pc := 19) hx hb dX7_tick_19 rfl (lv_at hl 1 rfl) ?_
    refine lv_iadd (pc := 20) hx hb dX7_tick_20 ?_
    refine lv_sipush (pc := 21) (v := 300) hx hb dX7_tick_21 (by decide) ?_
    refine lv_icmp_le (pc := 24) (tgt := 31) hx hb dX7_tick_24 (by decide) (fun c2 => ?_) (fun c2 => ?_)
    · have hf := (if_pos c2).symm.trans hf
      refine lv_iconst (pc := 31) (v := 0) hx hb dX7_tick_31 (by decide) ?_
      obtain ⟨r32, h_32, hf⟩ := bd hf
      refine rw_V (pc := 32) (C := RX7) (As := [.int 0]) (rest := []) (st1 := [.int r32.1]) (wn := fun _ => wX7 Z a0 r32.2) ⟨hx, hb, hml, hown, hts⟩ (c_X7_holds Z l a0 o0 0 r32 h_32) (cwV 1 hts gX7_tick_X7_holds rfl rfl rfl hv_X7_holds ⟨Nat.le_of_ble_eq_true rfl, Nat.le_of_ble_eq_true rfl⟩) hK hE hP hD hS hA [0, 1, 2, 3, 4, 5, 6, 7, 8, 9, 10, 11, 12, 13, 14, 15, 16, 17, 18, 19, 20, 21, 22, 23, 24, 25, 26, 27, 28, 29, 30, 31, 32, 33, 34, 35] [] [0, 1, 2, 3, 4, 5, 6, 7, 8, 9, 10, 11, 12, 13, 14, 15, 16, 17, 18, 19, 20, 21, 22, 23, 24, 25, 26, 27, 28, 29, 30, 31, 32, 33, 34, 35] rfl rfl rfl (fun _ => rfl) 7 rfl rfl rfl hl.1 rfl (lv_room (Nat.le_of_ble_eq_true rfl)) dX7_tick_32 ⟨Nat.le_of_ble_eq_true rfl, Nat.le_of_ble_eq_true rfl⟩ rfl (fun _ H locs hP hD hS => ?_)
      refine lv_if_ne (pc := 35) (tgt := 40) hx hb dX7_tick_35 (by decide) (fun c3 => ?_) (fun c3 => ?_)
      · have hf := (if_neg c3).symm.trans hf
        refine lv_iconst (pc := 40) (v := 0) hx hb dX7_tick_40 (by decide) ?_
        refine lv_istore_n (pc := 41) (lv' := [(2, .int 0), (0, .ref (a0 0)), (1, .int x1)]) hx hb dX7_tick_41 rfl hl (by decide) rfl (fun ls hl => ?_)
        exact B42 64 0 r32.2 _ (lv_sub hl [1, 2, 0] rfl) _ _ hP hD hS hf
      · have hf := (if_pos c3).symm.trans hf
        refine lv_iconst (pc := 38) (v := 0) hx hb dX7_tick_38 (by decide) ?_
        have hf := (Option.some.inj hf)
        subst hf
        exact rw_i (fun _ => 0) hx hb hr hlk rfl hP hD hS dX7_tick_39
    · have hf := (if_neg c2).symm.trans hf
      refine lv_iconst (pc := 27) (v := 2) hx hb dX7_tick_27 (by decide) ?_
      refine lv_goto (pc := 28) (tgt := 32) hx hb dX7_tick_28 (by decide) ?_
      obtain ⟨r32, h_32, hf⟩ := bd hf
      refine rw_V (pc := 32) (C := RX7) (As := [.int 2]) (rest := []) (st1 := [.int r32.1]) (wn := fun _ => wX7 Z a0 r32.2) ⟨hx, hb, hml, hown, hts⟩ (c_X7_holds Z l a0 o0 2 r32 h_32) (cwV 1 hts gX7_tick_X7_holds rfl rfl rfl hv_X7_holds ⟨Nat.le_of_ble_eq_true rfl, Nat.le_of_ble_eq_true rfl⟩) hK hE hP hD hS hA [0, 1, 2, 3, 4, 5, 6, 7, 8, 9, 10, 11, 12, 13, 14, 15, 16, 17, 18, 19, 20, 21, 22, 23, 24, 25, 26, 27, 28, 29, 30, 31, 32, 33, 34, 35] [] [0, 1, 2, 3, 4, 5, 6, 7, 8, 9, 10, 11, 12, 13, 14, 15, 16, 17, 18, 19, 20, 21, 22, 23, 24, 25, 26, 27, 28, 29, 30, 31, 32, 33, 34, 35] rfl rfl rfl (fun _ => rfl) 7 rfl rfl rfl hl.1 rfl (lv_room (Nat.le_of_ble_eq_true rfl)) dX7_tick_32 ⟨Nat.le_of_ble_eq_true rfl, Nat.le_of_ble_eq_true rfl⟩ rfl (fun _ H locs hP hD hS => ?_)
      refine lv_if_ne (pc := 35) (tgt := 40) hx hb dX7_tick_35 (by decide) (fun c4 => ?_) (fun c4 => ?_)
      · have hf := (if_neg c4).symm.trans hf
        refine lv_iconst (pc := 40) (v := 0) hx hb dX7_tick_40 (by decide) ?_
        refine lv_istore_n (pc := 41) (lv' := [(2, .int 0), (0, .ref (a0 0)), (1, .int x1)]) hx hb dX7_tick_41 rfl hl (by decide) rfl (fun ls hl => ?_)
        exact B42 64 0 r32.2 _ (lv_sub hl [1, 2, 0] rfl) _ _ hP hD hS hf
      · have hf := (if_pos c4).symm.trans hf
        refine lv_iconst (pc := 38) (v := 0) hx hb dX7_tick_38 (by decide) ?_
        have hf := (Option.some.inj hf)
        subst hf
        exact rw_i (fun _ => 0) hx hb hr hlk rfl hP hD hS dX7_tick_39
  · have hf := (if_pos c1).symm.trans hf
    refine lv_iconst (pc := 11) (v := 1) hx hb dX7_tick_11 (by decide) ?_
    refine lv_goto (pc := 12) (tgt := 32) hx hb dX7_tick_12 (by decide) ?_
    obtain ⟨r32, h_32, hf⟩ := bd hf
    refine rw_V (pc := 32) (C := RX7) (As := [.int 1]) (rest := []) (st1 := [.int r32.1]) (wn := fun _ => wX7 Z a0 r32.2) ⟨hx, hb, hml, hown, hts⟩ (c_X7_holds Z l a0 o0 1 r32 h_32) (cwV 1 hts gX7_tick_X7_holds rfl rfl rfl hv_X7_holds ⟨Nat.le_of_ble_eq_true rfl, Nat.le_of_ble_eq_true rfl⟩) hK hE hP hD hS hA [0, 1, 2, 3, 4, 5, 6, 7, 8, 9, 10, 11, 12, 13, 14, 15, 16, 17, 18, 19, 20, 21, 22, 23, 24, 25, 26, 27, 28, 29, 30, 31, 32, 33, 34, 35] [] [0, 1, 2, 3, 4, 5, 6, 7, 8, 9, 10, 11, 12, 13, 14, 15, 16, 17, 18, 19, 20, 21, 22, 23, 24, 25, 26, 27, 28, 29, 30, 31, 32, 33, 34, 35] rfl rfl rfl (fun _ => rfl) 7 rfl rfl rfl hl.1 rfl (lv_room (Nat.le_of_ble_eq_true rfl)) dX7_tick_32 ⟨Nat.le_of_ble_eq_true rfl, Nat.le_of_ble_eq_true rfl⟩ rfl (fun _ H locs hP hD hS => ?_)
    refine lv_if_ne (pc := 35) (tgt := 40) hx hb dX7_tick_35 (by decide) (fun c5 => ?_) (fun c5 => ?_)
    · have hf := (if_neg c5).symm.trans hf
      refine lv_iconst (pc := 40) (v := 0) hx hb dX7_tick_40 (by decide) ?_
      refine lv_istore_n (pc := 41) (lv' := [(2, .int 0), (0, .ref (a0 0)), (1, .int x1)]) hx hb dX7_tick_41 rfl hl (by decide) rfl (fun ls hl => ?_)
      exact B42 64 0 r32.2 _ (lv_sub hl [1, 2, 0] rfl) _ _ hP hD hS hf
    · have hf := (if_pos c5).symm.trans hf
      refine lv_iconst (pc := 38) (v := 0) hx hb dX7_tick_38 (by decide) ?_
      have hf := (Option.some.inj hf)
      subst hf
      exact rw_i (fun _ => 0) hx hb hr hlk rfl hP hD hS dX7_tick_39
def f_X7_quit_b72 (s2 : ObS) (v18_1 : Int32) : Nat → Int32 → ObS → Option (Int32 × ObS)
  | 0, _, _ => none
  | n + 1, v72_3, o72_0 =>
  if (o72_0.1 37 0) ≤ v72_3 then
    some (s2.1 40 (v18_1).toNatClampNeg, o72_0)
  else
    if inb (v72_3 + 1) 1800 then
    if inb v72_3 1800 then
    (some (oi o72_0 38 (v72_3).toNatClampNeg (o72_0.1 38 (v72_3 + 1).toNatClampNeg))).bind fun s93 =>
    if inb (v72_3 + 1) 1800 then
    if inb v72_3 1800 then
    (some (oi s93 39 (v72_3).toNatClampNeg (s93.1 39 (v72_3 + 1).toNatClampNeg))).bind fun s107 =>
    if inb (v72_3 + 1) 1800 then
    if inb v72_3 1800 then
    (some (oi s107 40 (v72_3).toNatClampNeg (s107.1 40 (v72_3 + 1).toNatClampNeg))).bind fun s121 =>
    f_X7_quit_b72 s2 v18_1 n (v72_3 + 1) s121
    else none
    else none
    else none
    else none
    else none
    else none
def f_X7_quit_b18 (s2 : ObS) : Nat → Int32 → Int32 → Option (Int32 × ObS)
  | 0, _, _ => none
  | n + 1, v18_2, v18_1 =>
  if (s2.1 37 0) ≤ v18_2 then
    if inb v18_1 1800 then
    (some (oi s2 37 0 ((s2.1 37 0) - 1))).bind fun s67 =>
    f_X7_quit_b72 s2 v18_1 1900 v18_1 s67
    else none
  else
    if inb v18_2 1800 then
    if inb v18_1 1800 then
    if (s2.1 38 (v18_2).toNatClampNeg) ≤ (s2.1 38 (v18_1).toNatClampNeg) then
      f_X7_quit_b18 s2 n (v18_2 + 1) v18_1
    else
      f_X7_quit_b18 s2 n (v18_2 + 1) v18_2
    else none
    else none
def f_X7_quit (o0 : ObS) : Option (Int32 × ObS) :=
  (some (oi o0 0 0 0)).bind fun s2 =>
  if (s2.1 37 0) = (0 : Int32) then
    some ((-1 : Int32), s2)
  else
    f_X7_quit_b18 s2 1900 1 0
set_option maxHeartbeats 4000000 in
set_option maxRecDepth 100000 in
theorem c_X7_quit (Z : EnvT) (l : Launch) (a0 : Nat → Nat) (o0 : ObS) (R : Int32 × ObS) (hf : f_X7_quit o0 = some R) : RW Z l yX7_quit wsX7_quit { frames := 0, cells := 0, slots := 0, locals := 0 } [.ref (a0 0)] (wX7 Z a0 o0) (some (.int R.1)) (fun _ => wX7 Z a0 R.2) 0 0 := by
  refine rw_of (cc := cX7_quit) (maxL := 4) (ret := (some .int)) (by decide) rfl (Nat.le_of_ble_eq_true rfl) ?_
  intro p e s m below meth c A ls hx hb hr hml hts hown hlk hin hP hK hE hD hA hS hl
  have hown : s.vm.findClass RX7 = some m.cls := hown
  have hl : lv_has ls 4 [(0, .ref (a0 0))] := hl
  have w0 := hts (.fieldLink RX7 117 "HeatTrainModel" "thrown" "I") (by decide +kernel)
  have w1 := hts (.fieldLink RX7 188 "HeatTrainModel" "alarms" "I") (by decide +kernel)
  have w2 := hts (.fieldLink RX7 114 "HeatTrainModel" "alarmOf" "[I") (by decide +kernel)
  have w3 := hts (.fieldLink RX7 108 "HeatTrainModel" "alarmBy" "[I") (by decide +kernel)
  have w4 := hts (.fieldLink RX7 111 "HeatTrainModel" "alarmIn" "[I") (by decide +kernel)
  have u7 : ∀ w ∈ wsX70, w ∈ wsX7_quit := by decide +kernel
  have B72 : ∀ (s2 : ObS) (v18_1 : Int32) (n : Nat), ∀ (v72_3 : Int32) (o72_0 : ObS) (ls : Array Slot), lv_has ls 4 [(0, .ref (a0 0)), (2, .int (s2.1 40 (v18_1).toNatClampNeg)), (3, .int v72_3)] → ∀ (H : Heap) (locs : List Loc), va_P Z.1 vwCl (wX7 Z a0 o72_0) H → va_D A (wX7 Z a0 o72_0) → va_S A s.heap H locs → f_X7_quit_b72 s2 v18_1 n v72_3 o72_0 = some R → W p l e { frames := 0, cells := 0, slots := 0, locals := 0 } s m ([.ref (a0 0)] : List Value).toArray below meth c H locs 0 0 (MQ below (rwQ Z (some (.int R.1)) (fun _ => wX7 Z a0 R.2) A) ([.ref (a0 0)] : List Value).toArray s 0 0 A) (F0 m 72 ls []) := by
    intro s2 v18_1 n
    induction n with
    | zero => intro v72_3 o72_0 ls hl H locs hP hD hS hf; rw [f_X7_quit_b72] at hf; exact nomatch hf
    | succ n ih =>
      intro v72_3 o72_0 ls hl H locs hP hD hS hf
      rw [f_X7_quit_b72] at hf
      refine lv_iload_n (pc := 72) hx hb dX7_quit_72 rfl (lv_at hl 2 rfl) ?_
      refine lv_aload_n (pc := 73) hx hb dX7_quit_73 rfl (lv_at hl 0 rfl) ?_
      refine va_get (pc := 74) (D := Z.1) (ci := 7) (v := .int (o72_0.1 37 0)) (C := RX7) (T := TX7) (N := 41) hx hb hts u7 hown hK hP 0 rfl rfl 37 (by decide) w1 (fun _ h9 => h9) rfl dX7_quit_74 ?_
      refine lv_icmp_ge (pc := 77) (tgt := 128) hx hb dX7_quit_77 (by decide) (fun c1 => ?_) (fun c1 => ?_)
      · have hf := (if_pos c1).symm.trans hf
        refine lv_iload_n (pc := 128) hx hb dX7_quit_128 rfl (lv_at hl 1 rfl) ?_
        have hf := (Option.some.inj hf)
        subst hf
        exact rw_i (fun _ => 0) hx hb hr hlk rfl hP hD hS dX7_quit_129
      · have hf := (if_neg c1).symm.trans hf
        refine lv_aload_n (pc := 80) hx hb dX7_quit_80 rfl (lv_at hl 0 rfl) ?_
        refine va_get (pc := 81) (D := Z.1) (ci := 7) (v := .ref (a0 39)) (C := RX7) (T := TX7) (N := 41) hx hb hts u7 hown hK hP 0 rfl rfl 38 (by decide) w3 (fun _ h9 => h9) rfl dX7_quit_81 ?_
        refine lv_iload_n (pc := 84) hx hb dX7_quit_84 rfl (lv_at hl 2 rfl) ?_
        refine lv_aload_n (pc := 85) hx hb dX7_quit_85 rfl (lv_at hl 0 rfl) ?_
        refine va_get (pc := 86) (D := Z.1) (ci := 7) (v := .ref (a0 39)) (C := RX7) (T := TX7) (N := 41) hx hb hts u7 hown hK hP 0 rfl rfl 38 (by decide) w3 (fun _ h9 => h9) rfl dX7_quit_86 ?_
        refine lv_iload_n (pc := 89) hx hb dX7_quit_89 rfl (lv_at hl 2 rfl) ?_
        refine lv_iconst (pc := 90) (v := 1) hx hb dX7_quit_90 (by decide) ?_
        refine lv_iadd (pc := 91) hx hb dX7_quit_91 ?_
        obtain ⟨g92, hf⟩ := gd hf
        refine va_iald (pc := 92) (D := Z.1) (n := 1800) (f := o72_0.1 38) hx hb hK hP 33 0 rfl rfl (inb_in g92) dX7_quit_92 ?_
        obtain ⟨g93, hf⟩ := gd hf
        refine va_iast (pc := 93) (D := Z.1) (n := 1800) (f := o72_0.1 38) hx hb hK hP hD hS 33 0 rfl rfl (inb_in g93) dX7_quit_93 (fun H locs hP hD hS => ?_)
        obtain ⟨s93, h_93, hf⟩ := bd hf
        have hP : va_P Z.1 vwCl (wX7 Z a0 s93) H := st_P (f := fun z => wX7 Z a0 z) h_93 hP
        have hD : va_D A (wX7 Z a0 s93) := st_D (f := fun z => wX7 Z a0 z) h_93 hD
        refine lv_aload_n (pc := 94) hx hb dX7_quit_94 rfl (lv_at hl 0 rfl) ?_
        refine va_get (pc := 95) (D := Z.1) (ci := 7) (v := .ref (a0 40)) (C := RX7) (T := TX7) (N := 41) hx hb hts u7 hown hK hP 0 rfl rfl 39 (by decide) w4 (fun _ h9 => h9) rfl dX7_quit_95 ?_
        refine lv_iload_n (pc := 98) hx hb dX7_quit_98 rfl (lv_at hl 2 rfl) ?_
        refine lv_aload_n (pc := 99) hx hb dX7_quit_99 rfl (lv_at hl 0 rfl) ?_
        refine va_get (pc := 100) (D := Z.1) (ci := 7) (v := .ref (a0 40)) (C := RX7) (T := TX7) (N := 41) hx hb hts u7 hown hK hP 0 rfl rfl 39 (by decide) w4 (fun _ h9 => h9) rfl dX7_quit_100 ?_
        refine lv_iload_n (pc := 103) hx hb dX7_quit_103 rfl (lv_at hl 2 rfl) ?_
        refine lv_iconst (pc := 104) (v := 1) hx hb dX7_quit_104 (by decide) ?_
        refine lv_iadd (pc := 105) hx hb dX7_quit_105 ?_
        obtain ⟨g106, hf⟩ := gd hf
        refine va_iald (pc := 106) (D := Z.1) (n := 1800) (f := s93.1 39) hx hb hK hP 34 0 rfl rfl (inb_in g106) dX7_quit_106 ?_
        obtain ⟨g107, hf⟩ := gd hf
        refine va_iast (pc := 107) (D := Z.1) (n := 1800) (f := s93.1 39) hx hb hK hP hD hS 34 0 rfl rfl (inb_in g107) dX7_quit_107 (fun H locs hP hD hS => ?_)
        obtain ⟨s107, h_107, hf⟩ := bd hf
        have hP : va_P Z.1 vwCl (wX7 Z a0 s107) H := st_P (f := fun z => wX7 Z a0 z) h_107 hP
        have hD : va_D A (wX7 Z a0 s107) := st_D (f := fun z => wX7 Z a0 z) h_107 hD
        refine lv_aload_n (pc := 108) hx hb dX7_quit_108 rfl (lv_at hl 0 rfl) ?_
        refine va_get (pc := 109) (D := Z.1) (ci := 7) (v := .ref (a0 41)) (C := RX7) (T := TX7) (N := 41) hx hb hts u7 hown hK hP 0 rfl rfl 40 (by decide) w2 (fun _ h9 => h9) rfl dX7_quit_109 ?_
        refine lv_iload_n (pc := 112) hx hb dX7_quit_112 rfl (lv_at hl 2 rfl) ?_
        refine lv_aload_n (pc := 113) hx hb dX7_quit_113 rfl (lv_at hl 0 rfl) ?_
        refine va_get (pc := 114) (D := Z.1) (ci := 7) (v := .ref (a0 41)) (C := RX7) (T := TX7) (N := 41) hx hb hts u7 hown hK hP 0 rfl rfl 40 (by decide) w2 (fun _ h9 => h9) rfl dX7_quit_114 ?_
        refine lv_iload_n (pc := 117) hx hb dX7_quit_117 rfl (lv_at hl 2 rfl) ?_
        refine lv_iconst (pc := 118) (v := 1) hx hb dX7_quit_118 (by decide) ?_
        refine lv_iadd (pc := 119) hx hb dX7_quit_119 ?_
        obtain ⟨g120, hf⟩ := gd hf
        refine va_iald (pc := 120) (D := Z.1) (n := 1800) (f := s107.1 40) hx hb hK hP 35 0 rfl rfl (inb_in g120) dX7_quit_120 ?_
        obtain ⟨g121, hf⟩ := gd hf
        refine va_iast (pc := 121) (D := Z.1) (n := 1800) (f := s107.1 40) hx hb hK hP hD hS 35 0 rfl rfl (inb_in g121) dX7_quit_121 (fun H locs hP hD hS => ?_)
        obtain ⟨s121, h_121, hf⟩ := bd hf
        have hP : va_P Z.1 vwCl (wX7 Z a0 s121) H := st_P (f := fun z => wX7 Z a0 z) h_121 hP
        have hD : va_D A (wX7 Z a0 s121) := st_D (f := fun z => wX7 Z a0 z) h_121 hD
        refine lv_iinc (pc := 122) (v := v72_3 + 1) (lv' := [(3, .int (v72_3 + 1)), (0, .ref (a0 0)), (2, .int (s2.1 40 (v18_1).toNatClampNeg))]) hx hb dX7_quit_122 hl (k := 2) rfl rfl (by decide) rfl (fun ls hl => ?_)
        refine lv_goto (pc := 125) (tgt := 72) hx hb dX7_quit_125 (by decide) ?_
        exact ih (v72_3 + 1) s121 _ (lv_sub hl [1, 2, 0] rfl) _ _ hP hD hS hf
  have B18 : ∀ (s2 : ObS) (n : Nat), ∀ (v18_2 : Int32) (v18_1 : Int32) (ls : Array Slot), lv_has ls 4 [(0, .ref (a0 0)), (1, .int v18_1), (2, .int v18_2)] → ∀ (H : Heap) (locs : List Loc), va_P Z.1 vwCl (wX7 Z a0 s2) H → va_D A (wX7 Z a0 s2) → va_S A s.heap H locs → f_X7_quit_b18 s2 n v18_2 v18_1 = some R → W p l e { frames := 0, cells := 0, slots := 0, locals := 0 } s m ([.ref (a0 0)] : List Value).toArray below meth c H locs 0 0 (MQ below (rwQ Z (some (.int R.1)) (fun _ => wX7 Z a0 R.2) A) ([.ref (a0 0)] : List Value).toArray s 0 0 A) (F0 m 18 ls []) := by
    intro s2 n
    induction n with
    | zero => intro v18_2 v18_1 ls hl H locs hP hD hS hf; rw [f_X7_quit_b18] at hf; exact nomatch hf
    | succ n ih =>
      intro v18_2 v18_1 ls hl H locs hP hD hS hf
      rw [f_X7_quit_b18] at hf
      refine lv_iload_n (pc := 18) hx hb dX7_quit_18 rfl (lv_at hl 2 rfl) ?_
      refine lv_aload_n (pc := 19) hx hb dX7_quit_19 rfl (lv_at hl 0 rfl) ?_
      refine va_get (pc := 20) (D := Z.1) (ci := 7) (v := .int (s2.1 37 0)) (C := RX7) (T := TX7) (N := 41) hx hb hts u7 hown hK hP 0 rfl rfl 37 (by decide) w1 (fun _ h9 => h9) rfl dX7_quit_20 ?_
      refine lv_icmp_ge (pc := 23) (tgt := 53) hx hb dX7_quit_23 (by decide) (fun c1 => ?_) (fun c1 => ?_)
      · have hf := (if_pos c1).symm.trans hf
        refine lv_aload_n (pc := 53) hx hb dX7_quit_53 rfl (lv_at hl 0 rfl) ?_
        refine va_get (pc := 54) (D := Z.1) (ci := 7) (v := .ref (a0 41)) (C := RX7) (T := TX7) (N := 41) hx hb hts u7 hown hK hP 0 rfl rfl 40 (by decide) w2 (fun _ h9 => h9) rfl dX7_quit_54 ?_
        refine lv_iload_n (pc := 57) hx hb dX7_quit_57 rfl (lv_at hl 1 rfl) ?_
        obtain ⟨g58, hf⟩ := gd hf
        refine va_iald (pc := 58) (D := Z.1) (n := 1800) (f := s2.1 40) hx hb hK hP 35 0 rfl rfl (inb_in g58) dX7_quit_58 ?_
        refine lv_istore_n (pc := 59) (lv' := [(2, .int (s2.1 40 (v18_1).toNatClampNeg)), (0, .ref (a0 0)), (1, .int v18_1)]) hx hb dX7_quit_59 rfl hl (by decide) rfl (fun ls hl => ?_)
        refine lv_aload_n (pc := 60) hx hb dX7_quit_60 rfl (lv_at hl 1 rfl) ?_
        refine lv_dup (pc := 61) hx hb dX7_quit_61 rfl ?_
        refine va_get (pc := 62) (D := Z.1) (ci := 7) (v := .int (s2.1 37 0)) (C := RX7) (T := TX7) (N := 41) hx hb hts u7 hown hK hP 0 rfl rfl 37 (by decide) w1 (fun _ h9 => h9) rfl dX7_quit_62 ?_
        refine lv_iconst (pc := 65) (v := 1) hx hb dX7_quit_65 (by decide) ?_
        refine lv_isub (pc := 66) hx hb dX7_quit_66 ?_
        refine va_put (pc := 67) (D := Z.1) (ci := 7) (v := .int ((s2.1 37 0) - 1)) (ty := .int) (C := RX7) (T := TX7) (N := 41) hx hb hts u7 tyX7 tyX7_ok nmX7 hown hK hP hD hS 0 rfl rfl 37 (by decide) w1 (fun _ h9 => h9) rfl (by decide +kernel) rfl rfl (Nat.le_of_ble_eq_true rfl) dX7_quit_67 (fun H locs hP hD hS => ?_)
        obtain ⟨s67, h_67, hf⟩ := bd hf
        have hP : va_P Z.1 vwCl (wX7 Z a0 s67) H := st_P (f := fun z => wX7 Z a0 z) h_67 hP
        have hD : va_D A (wX7 Z a0 s67) := st_D (f := fun z => wX7 Z a0 z) h_67 hD
        refine lv_iload_n (pc := 70) hx hb dX7_quit_70 rfl (lv_at hl 2 rfl) ?_
        refine lv_istore_n (pc := 71) (lv' := [(3, .int v18_1), (2, .int (s2.1 40 (v18_1).toNatClampNeg)), (0, .ref (a0 0)), (1, .int v18_1)]) hx hb dX7_quit_71 rfl hl (by decide) rfl (fun ls hl => ?_)
        exact B72 s2 v18_1 1900 v18_1 s67 _ (lv_sub hl [2, 1, 0] rfl) _ _ hP hD hS hf
      · have hf := (if_neg c1).symm.trans hf
        refine lv_aload_n (pc := 26) hx hb dX7_quit_26 rfl (lv_at hl 0 rfl) ?_
        refine va_get (pc := 27) (D := Z.1) (ci := 7) (v := .ref (a0 39)) (C := RX7) (T := TX7) (N := 41) hx hb hts u7 hown hK hP 0 rfl rfl 38 (by decide) w3 (fun _ h9 => h9) rfl dX7_quit_27 ?_
        refine lv_iload_n (pc := 30) hx hb dX7_quit_30 rfl (lv_at hl 2 rfl) ?_
        obtain ⟨g31, hf⟩ := gd hf
        refine va_iald (pc := 31) (D := Z.1) (n := 1800) (f := s2.1 38) hx hb hK hP 33 0 rfl rfl (inb_in g31) dX7_quit_31 ?_
        refine lv_aload_n (pc := 32) hx hb dX7_quit_32 rfl (lv_at hl 0 rfl) ?_
        refine va_get (pc := 33) (D := Z.1) (ci := 7) (v := .ref (a0 39)) (C := RX7) (T := TX7) (N := 41) hx hb hts u7 hown hK hP 0 rfl rfl 38 (by decide) w3 (fun _ h9 => h9) rfl dX7_quit_33 ?_
        refine lv_iload_n (pc := 36) hx hb dX7_quit_36 rfl (lv_at hl 1 rfl) ?_
        obtain ⟨g37, hf⟩ := gd hf
        refine va_iald (pc := 37) (D := Z.1) (n := 1800) (f := s2.1 38) hx hb hK hP 33 0 rfl rfl (inb_in g37) dX7_quit_37 ?_
        refine lv_icmp_le (pc := 38) (tgt := 45) hx hb dX7_quit_38 (by decide) (fun c2 => ?_) (fun c2 => ?_)
        · have hf := (if_pos c2).symm.trans hf
          refine lv_iload_n (pc := 45) hx hb dX7_quit_45 rfl (lv_at hl 1 rfl) ?_
          refine lv_istore_n (pc := 46) (lv' := [(1, .int v18_1), (0, .ref (a0 0)), (2, .int v18_2)]) hx hb dX7_quit_46 rfl hl (by decide) rfl (fun ls hl => ?_)
          refine lv_iinc (pc := 47) (v := v18_2 + 1) (lv' := [(2, .int (v18_2 + 1)), (1, .int v18_1), (0, .ref (a0 0))]) hx hb dX7_quit_47 hl (k := 2) rfl rfl (by decide) rfl (fun ls hl => ?_)
          refine lv_goto (pc := 50) (tgt := 18) hx hb dX7_quit_50 (by decide) ?_
          exact ih (v18_2 + 1) v18_1 _ (lv_sub hl [2, 1, 0] rfl) _ _ hP hD hS hf
        · have hf := (if_neg c2).symm.trans hf
          refine lv_iload_n (pc := 41) hx hb dX7_quit_41 rfl (lv_at hl 2 rfl) ?_
          refine lv_goto (pc := 42) (tgt := 46) hx hb dX7_quit_42 (by decide) ?_
          refine lv_istore_n (pc := 46) (lv' := [(1, .int v18_2), (0, .ref (a0 0)), (2, .int v18_2)]) hx hb dX7_quit_46 rfl hl (by decide) rfl (fun ls hl => ?_)
          refine lv_iinc (pc := 47) (v := v18_2 + 1) (lv' := [(2, .int (v18_2 + 1)), (1, .int v18_2), (0, .ref (a0 0))]) hx hb dX7_quit_47 hl (k := 2) rfl rfl (by decide) rfl (fun ls hl => ?_)
          refine lv_goto (pc := 50) (tgt := 18) hx hb dX7_quit_50 (by decide) ?_
          exact ih (v18_2 + 1) v18_2 _ (lv_sub hl [2, 1, 0] rfl) _ _ hP hD hS hf
  rw [f_X7_quit] at hf
  refine lv_aload_n (pc := 0) hx hb dX7_quit_0 rfl (lv_at hl 0 rfl) ?_
  refine lv_iconst (pc := 1) (v := 0) hx hb dX7_quit_1 (by decide) ?_
  refine va_put (pc := 2) (D := Z.1) (ci := 7) (v := .int 0) (ty := .int) (C := RX7) (T := TX7) (N := 41) hx hb hts u7 tyX7 tyX7_ok nmX7 hown hK hP hD hS 0 rfl rfl 0 (by decide) w0 (fun _ h9 => h9) rfl (by decide +kernel) rfl rfl (Nat.le_of_ble_eq_true rfl) dX7_quit_2 (fun H locs hP hD hS => ?_)
  obtain ⟨s2, h_2, hf⟩ := bd hf
  have hP : va_P Z.1 vwCl (wX7 Z a0 s2) H := st_P (f := fun z => wX7 Z a0 z) h_2 hP
  have hD : va_D A (wX7 Z a0 s2) := st_D (f := fun z => wX7 Z a0 z) h_2 hD
  refine lv_aload_n (pc := 5) hx hb dX7_quit_5 rfl (lv_at hl 0 rfl) ?_
  refine va_get (pc := 6) (D := Z.1) (ci := 7) (v := .int (s2.1 37 0)) (C := RX7) (T := TX7) (N := 41) hx hb hts u7 hown hK hP 0 rfl rfl 37 (by decide) w1 (fun _ h9 => h9) rfl dX7_quit_6 ?_
  refine lv_if_ne (pc := 9) (tgt := 14) hx hb dX7_quit_9 (by decide) (fun c1 => ?_) (fun c1 => ?_)
  · have hf := (if_neg c1).symm.trans hf
    refine lv_iconst (pc := 14) (v := 0) hx hb dX7_quit_14 (by decide) ?_
    refine lv_istore_n (pc := 15) (lv' := [(1, .int 0), (0, .ref (a0 0))]) hx hb dX7_quit_15 rfl hl (by decide) rfl (fun ls hl => ?_)
    refine lv_iconst (pc := 16) (v := 1) hx hb dX7_quit_16 (by decide) ?_
    refine lv_istore_n (pc := 17) (lv' := [(2, .int 1), (1, .int 0), (0, .ref (a0 0))]) hx hb dX7_quit_17 rfl hl (by decide) rfl (fun ls hl => ?_)
    exact B18 s2 1900 1 0 _ (lv_sub hl [2, 1, 0] rfl) _ _ hP hD hS hf
  · have hf := (if_pos c1).symm.trans hf
    refine lv_iconst (pc := 12) (v := (-1)) hx hb dX7_quit_12 (by decide) ?_
    have hf := (Option.some.inj hf)
    subst hf
    exact rw_i (fun _ => 0) hx hb hr hlk rfl hP hD hS dX7_quit_13
def f_X7_of_b27 (o0 : ObS) (x1 : Int32) (x2 : Int32) (k27_0 : Int32) : Option (Int32 × ObS) :=
  (f_X7_holds o0 k27_0).bind fun r27 =>
  if r27.1 = (0 : Int32) then
    some ((0 : Int32), r27.2)
  else
    if x2 = (0 : Int32) then
      if inb x1 24 then
      some ((r27.2.2 10 (x1).toNatClampNeg).toInt32, r27.2)
      else none
    else
      if x2 = 1 then
        if inb x1 24 then
        some ((r27.2.2 11 (x1).toNatClampNeg).toInt32, r27.2)
        else none
      else
        (f_X7_warmthOf r27.2 x1).bind fun r66 =>
        some (r66, r27.2)
def f_X7_of (o0 : ObS) (x1 : Int32) (x2 : Int32) : Option (Int32 × ObS) :=
  (f_X7_isStream o0 x1).bind fun r3 =>
  if r3 = (0 : Int32) then
    f_X7_of_b27 o0 x1 x2 1
  else
    if (f_X7_in x2 0 2) = (0 : Int32) then
      f_X7_of_b27 o0 x1 x2 2
    else
      f_X7_of_b27 o0 x1 x2 0
set_option maxHeartbeats 4000000 in
set_option maxRecDepth 100000 in
theorem c_X7_of (Z : EnvT) (l : Launch) (a0 : Nat → Nat) (o0 : ObS) (x1 : Int32) (x2 : Int32) (R : Int32 × ObS) (hf : f_X7_of o0 x1 x2 = some R) : RW Z l yX7_of wsX7_of { frames := 2, cells := 0, slots := 0, locals := 44 } [.ref (a0 0), .int x1, .int x2] (wX7 Z a0 o0) (some (.int R.1)) (fun _ => wX7 Z a0 R.2) 0 0 := by
  refine rw_of (cc := cX7_of) (maxL := 3) (ret := (some .int)) (by decide) rfl (Nat.le_of_ble_eq_true rfl) ?_
  intro p e s m below meth c A ls hx hb hr hml hts hown hlk hin hP hK hE hD hA hS hl
  have hown : s.vm.findClass RX7 = some m.cls := hown
  have hl : lv_has ls 3 [(0, .ref (a0 0)), (1, .int x1), (2, .int x2)] := hl
  have w0 := hts (.fieldLink RX7 36 "HeatTrainModel" "heats" "[J") (by decide +kernel)
  have w1 := hts (.fieldLink RX7 32 "HeatTrainModel" "flows" "[J") (by decide +kernel)
  have u7 : ∀ w ∈ wsX70, w ∈ wsX7_of := by decide +kernel
  have B27 : ∀ (k27_0 : Int32) (ls : Array Slot), lv_has ls 3 [(0, .ref (a0 0)), (1, .int x1), (2, .int x2)] → ∀ (H : Heap) (locs : List Loc), va_P Z.1 vwCl (wX7 Z a0 o0) H → va_D A (wX7 Z a0 o0) → va_S A s.heap H locs → f_X7_of_b27 o0 x1 x2 k27_0 = some R → W p l e { frames := 2, cells := 0, slots := 0, locals := 44 } s m ([.ref (a0 0), .int x1, .int x2] : List Value).toArray below meth c H locs 0 0 (MQ below (rwQ Z (some (.int R.1)) (fun _ => wX7 Z a0 R.2) A) ([.ref (a0 0), .int x1, .int x2] : List Value).toArray s 0 0 A) (F0 m 27 ls [.int k27_0, .ref (a0 0)]) := by
    intro k27_0 ls hl H locs hP hD hS hf
    rw [f_X7_of_b27] at hf
    obtain ⟨r27, h_27, hf⟩ := bd hf
    refine rw_V (pc := 27) (C := RX7) (As := [.int k27_0]) (rest := []) (st1 := [.int r27.1]) (wn := fun _ => wX7 Z a0 r27.2) ⟨hx, hb, hml, hown, hts⟩ (c_X7_holds Z l a0 o0 k27_0 r27 h_27) (cwV 1 hts gX7_of_X7_holds rfl rfl rfl hv_X7_holds ⟨Nat.le_of_ble_eq_true rfl, Nat.le_of_ble_eq_true rfl⟩) hK hE hP hD hS hA [0, 1, 2, 3, 4, 5, 6, 7, 8, 9, 10, 11, 12, 13, 14, 15, 16, 17, 18, 19, 20, 21, 22, 23, 24, 25, 26, 27, 28, 29, 30, 31, 32, 33, 34, 35] [] [0, 1, 2, 3, 4, 5, 6, 7, 8, 9, 10, 11, 12, 13, 14, 15, 16, 17, 18, 19, 20, 21, 22, 23, 24, 25, 26, 27, 28, 29, 30, 31, 32, 33, 34, 35] rfl rfl rfl (fun _ => rfl) 7 rfl rfl rfl hl.1 rfl (lv_room (Nat.le_of_ble_eq_true rfl)) dX7_of_27 ⟨Nat.le_of_ble_eq_true rfl, Nat.le_of_ble_eq_true rfl⟩ rfl (fun _ H locs hP hD hS => ?_)
    refine lv_if_ne (pc := 30) (tgt := 35) hx hb dX7_of_30 (by decide) (fun c1 => ?_) (fun c1 => ?_)
    · have hf := (if_neg c1).symm.trans hf
      refine lv_iload_n (pc := 35) hx hb dX7_of_35 rfl (lv_at hl 2 rfl) ?_
      refine lv_if_ne (pc := 36) (tgt := 49) hx hb dX7_of_36 (by decide) (fun c2 => ?_) (fun c2 => ?_)
      · have hf := (if_neg c2).symm.trans hf
        refine lv_iload_n (pc := 49) hx hb dX7_of_49 rfl (lv_at hl 2 rfl) ?_
        refine lv_iconst (pc := 50) (v := 1) hx hb dX7_of_50 (by decide) ?_
        refine lv_icmp_ne (pc := 51) (tgt := 64) hx hb dX7_of_51 (by decide) (fun c3 => ?_) (fun c3 => ?_)
        · have hf := (if_neg c3).symm.trans hf
          refine lv_aload_n (pc := 64) hx hb dX7_of_64 rfl (lv_at hl 0 rfl) ?_
          refine lv_iload_n (pc := 65) hx hb dX7_of_65 rfl (lv_at hl 1 rfl) ?_
          obtain ⟨r66, h_66, hf⟩ := bd hf
          refine ro_V (pc := 66) (C := RX7) (As := [.int x1]) (rest := []) (st1 := [.int r66]) ⟨hx, hb, hml, hown, hts⟩ (c_X7_warmthOf Z l a0 r27.2 x1 r66 h_66) (cwV 1 hts gX7_of_X7_warmthOf rfl rfl rfl hv_X7_warmthOf ⟨Nat.le_of_ble_eq_true rfl, Nat.le_of_ble_eq_true rfl⟩) hK hE hP 7 rfl rfl rfl hl.1 rfl (lv_room (Nat.le_of_ble_eq_true rfl)) dX7_of_66 ⟨Nat.le_of_ble_eq_true rfl, Nat.le_of_ble_eq_true rfl⟩ rfl ?_
          have hf := (Option.some.inj hf)
          subst hf
          exact rw_i (fun _ => 0) hx hb hr hlk rfl hP hD hS dX7_of_69
        · have hf := (if_pos c3).symm.trans hf
          refine lv_aload_n (pc := 54) hx hb dX7_of_54 rfl (lv_at hl 0 rfl) ?_
          refine va_get (pc := 55) (D := Z.1) (ci := 7) (v := .ref (a0 12)) (C := RX7) (T := TX7) (N := 41) hx hb hts u7 hown hK hP 0 rfl rfl 11 (by decide) w0 (fun _ h9 => h9) rfl dX7_of_55 ?_
          refine lv_iload_n (pc := 58) hx hb dX7_of_58 rfl (lv_at hl 1 rfl) ?_
          obtain ⟨g59, hf⟩ := gd hf
          refine va_lald (pc := 59) (D := Z.1) (n := 24) (f := r27.2.2 11) hx hb hK hP 9 1 rfl rfl (inb_in g59) dX7_of_59 ?_
          refine lv_l2i (pc := 60) (v := (r27.2.2 11 (x1).toNatClampNeg).toInt32) hx hb dX7_of_60 rfl ?_
          refine lv_goto (pc := 61) (tgt := 69) hx hb dX7_of_61 (by decide) ?_
          have hf := (Option.some.inj hf)
          subst hf
          exact rw_i (fun _ => 0) hx hb hr hlk rfl hP hD hS dX7_of_69
      · have hf := (if_pos c2).symm.trans hf
        refine lv_aload_n (pc := 39) hx hb dX7_of_39 rfl (lv_at hl 0 rfl) ?_
        refine va_get (pc := 40) (D := Z.1) (ci := 7) (v := .ref (a0 11)) (C := RX7) (T := TX7) (N := 41) hx hb hts u7 hown hK hP 0 rfl rfl 10 (by decide) w1 (fun _ h9 => h9) rfl dX7_of_40 ?_
        refine lv_iload_n (pc := 43) hx hb dX7_of_43 rfl (lv_at hl 1 rfl) ?_
        obtain ⟨g44, hf⟩ := gd hf
        refine va_lald (pc := 44) (D := Z.1) (n := 24) (f := r27.2.2 10) hx hb hK hP 8 1 rfl rfl (inb_in g44) dX7_of_44 ?_
        refine lv_l2i (pc := 45) (v := (r27.2.2 10 (x1).toNatClampNeg).toInt32) hx hb dX7_of_45 rfl ?_
        refine lv_goto (pc := 46) (tgt := 69) hx hb dX7_of_46 (by decide) ?_
        have hf := (Option.some.inj hf)
        subst hf
        exact rw_i (fun _ => 0) hx hb hr hlk rfl hP hD hS dX7_of_69
    · have hf := (if_pos c1).symm.trans hf
      refine lv_iconst (pc := 33) (v := 0) hx hb dX7_of_33 (by decide) ?_
      have hf := (Option.some.inj hf)
      subst hf
      exact rw_i (fun _ => 0) hx hb hr hlk rfl hP hD hS dX7_of_34
  rw [f_X7_of] at hf
  refine lv_aload_n (pc := 0) hx hb dX7_of_0 rfl (lv_at hl 0 rfl) ?_
  refine lv_aload_n (pc := 1) hx hb dX7_of_1 rfl (lv_at hl 0 rfl) ?_
  refine lv_iload_n (pc := 2) hx hb dX7_of_2 rfl (lv_at hl 1 rfl) ?_
  obtain ⟨r3, h_3, hf⟩ := bd hf
  refine ro_V (pc := 3) (C := RX7) (As := [.int x1]) (rest := [.ref (a0 0)]) (st1 := [.int r3, .ref (a0 0)]) ⟨hx, hb, hml, hown, hts⟩ (c_X7_isStream Z l a0 o0 x1 r3 h_3) (cwV 1 hts gX7_of_X7_isStream rfl rfl rfl hv_X7_isStream ⟨Nat.le_of_ble_eq_true rfl, Nat.le_of_ble_eq_true rfl⟩) hK hE hP 7 rfl rfl rfl hl.1 rfl (lv_room (Nat.le_of_ble_eq_true rfl)) dX7_of_3 ⟨Nat.le_of_ble_eq_true rfl, Nat.le_of_ble_eq_true rfl⟩ rfl ?_
  refine lv_if_ne (pc := 6) (tgt := 13) hx hb dX7_of_6 (by decide) (fun c1 => ?_) (fun c1 => ?_)
  · have hf := (if_neg c1).symm.trans hf
    refine lv_iload_n (pc := 13) hx hb dX7_of_13 rfl (lv_at hl 2 rfl) ?_
    refine lv_iconst (pc := 14) (v := 0) hx hb dX7_of_14 (by decide) ?_
    refine lv_iconst (pc := 15) (v := 2) hx hb dX7_of_15 (by decide) ?_
    refine ro_S (pc := 16) (As := [.int x2, .int 0, .int 2]) (rest := [.ref (a0 0)]) (st1 := [.int (f_X7_in x2 0 2), .ref (a0 0)]) ⟨hx, hb, hml, hown, hts⟩ (c_X7_in Z l x2 0 2 _ rfl) (va_cwS 3 hts gX7_of_X7_in rfl rfl rfl hs_X7_in ⟨Nat.le_of_ble_eq_true rfl, Nat.le_of_ble_eq_true rfl⟩) hK hE (hP.sub (ws' := []) [] rfl) rfl hl.1 rfl (lv_room (Nat.le_of_ble_eq_true rfl)) dX7_of_16 ⟨Nat.le_of_ble_eq_true rfl, Nat.le_of_ble_eq_true rfl⟩ rfl ?_
    refine lv_if_eq (pc := 19) (tgt := 26) hx hb dX7_of_19 (by decide) (fun c2 => ?_) (fun c2 => ?_)
    · have hf := (if_pos c2).symm.trans hf
      refine lv_iconst (pc := 26) (v := 2) hx hb dX7_of_26 (by decide) ?_
      exact B27 2 _ (lv_sub hl [0, 1, 2] rfl) _ _ hP hD hS hf
    · have hf := (if_neg c2).symm.trans hf
      refine lv_iconst (pc := 22) (v := 0) hx hb dX7_of_22 (by decide) ?_
      refine lv_goto (pc := 23) (tgt := 27) hx hb dX7_of_23 (by decide) ?_
      exact B27 0 _ (lv_sub hl [0, 1, 2] rfl) _ _ hP hD hS hf
  · have hf := (if_pos c1).symm.trans hf
    refine lv_iconst (pc := 9) (v := 1) hx hb dX7_of_9 (by decide) ?_
    refine lv_goto (pc := 10) (tgt := 27) hx hb dX7_of_10 (by decide) ?_
    exact B27 1 _ (lv_sub hl [0, 1, 2] rfl) _ _ hP hD hS hf
def f_X7_ofUnit_b27 (o0 : ObS) (x1 : Int32) (x2 : Int32) (k27_0 : Int32) : Option (Int32 × ObS) :=
  (f_X7_holds o0 k27_0).bind fun r27 =>
  if r27.1 = (0 : Int32) then
    some ((0 : Int32), r27.2)
  else
    if x2 = (0 : Int32) then
      if inb x1 12 then
      some (r27.2.1 4 (x1).toNatClampNeg, r27.2)
      else none
    else
      if inb x1 12 then
      some (r27.2.1 8 (x1).toNatClampNeg, r27.2)
      else none
def f_X7_ofUnit (o0 : ObS) (x1 : Int32) (x2 : Int32) : Option (Int32 × ObS) :=
  (f_X7_isUnit o0 x1).bind fun r3 =>
  if r3 = (0 : Int32) then
    f_X7_ofUnit_b27 o0 x1 x2 1
  else
    if (f_X7_in x2 0 1) = (0 : Int32) then
      f_X7_ofUnit_b27 o0 x1 x2 2
    else
      f_X7_ofUnit_b27 o0 x1 x2 0
set_option maxHeartbeats 4000000 in
set_option maxRecDepth 100000 in
theorem c_X7_ofUnit (Z : EnvT) (l : Launch) (a0 : Nat → Nat) (o0 : ObS) (x1 : Int32) (x2 : Int32) (R : Int32 × ObS) (hf : f_X7_ofUnit o0 x1 x2 = some R) : RW Z l yX7_ofUnit wsX7_ofUnit { frames := 2, cells := 0, slots := 0, locals := 43 } [.ref (a0 0), .int x1, .int x2] (wX7 Z a0 o0) (some (.int R.1)) (fun _ => wX7 Z a0 R.2) 0 0 := by
  refine rw_of (cc := cX7_ofUnit) (maxL := 3) (ret := (some .int)) (by decide) rfl (Nat.le_of_ble_eq_true rfl) ?_
  intro p e s m below meth c A ls hx hb hr hml hts hown hlk hin hP hK hE hD hA hS hl
  have hown : s.vm.findClass RX7 = some m.cls := hown
  have hl : lv_has ls 3 [(0, .ref (a0 0)), (1, .int x1), (2, .int x2)] := hl
  have w0 := hts (.fieldLink RX7 25 "HeatTrainModel" "moved" "[I") (by decide +kernel)
  have w1 := hts (.fieldLink RX7 13 "HeatTrainModel" "numbers" "[I") (by decide +kernel)
  have u7 : ∀ w ∈ wsX70, w ∈ wsX7_ofUnit := by decide +kernel
  have B27 : ∀ (k27_0 : Int32) (ls : Array Slot), lv_has ls 3 [(0, .ref (a0 0)), (1, .int x1), (2, .int x2)] → ∀ (H : Heap) (locs : List Loc), va_P Z.1 vwCl (wX7 Z a0 o0) H → va_D A (wX7 Z a0 o0) → va_S A s.heap H locs → f_X7_ofUnit_b27 o0 x1 x2 k27_0 = some R → W p l e { frames := 2, cells := 0, slots := 0, locals := 43 } s m ([.ref (a0 0), .int x1, .int x2] : List Value).toArray below meth c H locs 0 0 (MQ below (rwQ Z (some (.int R.1)) (fun _ => wX7 Z a0 R.2) A) ([.ref (a0 0), .int x1, .int x2] : List Value).toArray s 0 0 A) (F0 m 27 ls [.int k27_0, .ref (a0 0)]) := by
    intro k27_0 ls hl H locs hP hD hS hf
    rw [f_X7_ofUnit_b27] at hf
    obtain ⟨r27, h_27, hf⟩ := bd hf
    refine rw_V (pc := 27) (C := RX7) (As := [.int k27_0]) (rest := []) (st1 := [.int r27.1]) (wn := fun _ => wX7 Z a0 r27.2) ⟨hx, hb, hml, hown, hts⟩ (c_X7_holds Z l a0 o0 k27_0 r27 h_27) (cwV 1 hts gX7_ofUnit_X7_holds rfl rfl rfl hv_X7_holds ⟨Nat.le_of_ble_eq_true rfl, Nat.le_of_ble_eq_true rfl⟩) hK hE hP hD hS hA [0, 1, 2, 3, 4, 5, 6, 7, 8, 9, 10, 11, 12, 13, 14, 15, 16, 17, 18, 19, 20, 21, 22, 23, 24, 25, 26, 27, 28, 29, 30, 31, 32, 33, 34, 35] [] [0, 1, 2, 3, 4, 5, 6, 7, 8, 9, 10, 11, 12, 13, 14, 15, 16, 17, 18, 19, 20, 21, 22, 23, 24, 25, 26, 27, 28, 29, 30, 31, 32, 33, 34, 35] rfl rfl rfl (fun _ => rfl) 7 rfl rfl rfl hl.1 rfl (lv_room (Nat.le_of_ble_eq_true rfl)) dX7_ofUnit_27 ⟨Nat.le_of_ble_eq_true rfl, Nat.le_of_ble_eq_true rfl⟩ rfl (fun _ H locs hP hD hS => ?_)
    refine lv_if_ne (pc := 30) (tgt := 35) hx hb dX7_ofUnit_30 (by decide) (fun c1 => ?_) (fun c1 => ?_)
    · have hf := (if_neg c1).symm.trans hf
      refine lv_iload_n (pc := 35) hx hb dX7_ofUnit_35 rfl (lv_at hl 2 rfl) ?_
      refine lv_if_ne (pc := 36) (tgt := 48) hx hb dX7_ofUnit_36 (by decide) (fun c2 => ?_) (fun c2 => ?_)
      · have hf := (if_neg c2).symm.trans hf
        refine lv_aload_n (pc := 48) hx hb dX7_ofUnit_48 rfl (lv_at hl 0 rfl) ?_
        refine va_get (pc := 49) (D := Z.1) (ci := 7) (v := .ref (a0 9)) (C := RX7) (T := TX7) (N := 41) hx hb hts u7 hown hK hP 0 rfl rfl 8 (by decide) w0 (fun _ h9 => h9) rfl dX7_ofUnit_49 ?_
        refine lv_iload_n (pc := 52) hx hb dX7_ofUnit_52 rfl (lv_at hl 1 rfl) ?_
        obtain ⟨g53, hf⟩ := gd hf
        refine va_iald (pc := 53) (D := Z.1) (n := 12) (f := r27.2.1 8) hx hb hK hP 6 0 rfl rfl (inb_in g53) dX7_ofUnit_53 ?_
        have hf := (Option.some.inj hf)
        subst hf
        exact rw_i (fun _ => 0) hx hb hr hlk rfl hP hD hS dX7_ofUnit_54
      · have hf := (if_pos c2).symm.trans hf
        refine lv_aload_n (pc := 39) hx hb dX7_ofUnit_39 rfl (lv_at hl 0 rfl) ?_
        refine va_get (pc := 40) (D := Z.1) (ci := 7) (v := .ref (a0 5)) (C := RX7) (T := TX7) (N := 41) hx hb hts u7 hown hK hP 0 rfl rfl 4 (by decide) w1 (fun _ h9 => h9) rfl dX7_ofUnit_40 ?_
        refine lv_iload_n (pc := 43) hx hb dX7_ofUnit_43 rfl (lv_at hl 1 rfl) ?_
        obtain ⟨g44, hf⟩ := gd hf
        refine va_iald (pc := 44) (D := Z.1) (n := 12) (f := r27.2.1 4) hx hb hK hP 2 0 rfl rfl (inb_in g44) dX7_ofUnit_44 ?_
        refine lv_goto (pc := 45) (tgt := 54) hx hb dX7_ofUnit_45 (by decide) ?_
        have hf := (Option.some.inj hf)
        subst hf
        exact rw_i (fun _ => 0) hx hb hr hlk rfl hP hD hS dX7_ofUnit_54
    · have hf := (if_pos c1).symm.trans hf
      refine lv_iconst (pc := 33) (v := 0) hx hb dX7_ofUnit_33 (by decide) ?_
      have hf := (Option.some.inj hf)
      subst hf
      exact rw_i (fun _ => 0) hx hb hr hlk rfl hP hD hS dX7_ofUnit_34
  rw [f_X7_ofUnit] at hf
  refine lv_aload_n (pc := 0) hx hb dX7_ofUnit_0 rfl (lv_at hl 0 rfl) ?_
  refine lv_aload_n (pc := 1) hx hb dX7_ofUnit_1 rfl (lv_at hl 0 rfl) ?_
  refine lv_iload_n (pc := 2) hx hb dX7_ofUnit_2 rfl (lv_at hl 1 rfl) ?_
  obtain ⟨r3, h_3, hf⟩ := bd hf
  refine ro_V (pc := 3) (C := RX7) (As := [.int x1]) (rest := [.ref (a0 0)]) (st1 := [.int r3, .ref (a0 0)]) ⟨hx, hb, hml, hown, hts⟩ (c_X7_isUnit Z l a0 o0 x1 r3 h_3) (cwV 1 hts gX7_ofUnit_X7_isUnit rfl rfl rfl hv_X7_isUnit ⟨Nat.le_of_ble_eq_true rfl, Nat.le_of_ble_eq_true rfl⟩) hK hE hP 7 rfl rfl rfl hl.1 rfl (lv_room (Nat.le_of_ble_eq_true rfl)) dX7_ofUnit_3 ⟨Nat.le_of_ble_eq_true rfl, Nat.le_of_ble_eq_true rfl⟩ rfl ?_
  refine lv_if_ne (pc := 6) (tgt := 13) hx hb dX7_ofUnit_6 (by decide) (fun c1 => ?_) (fun c1 => ?_)
  · have hf := (if_neg c1).symm.trans hf
    refine lv_iload_n (pc := 13) hx hb dX7_ofUnit_13 rfl (lv_at hl 2 rfl) ?_
    refine lv_iconst (pc := 14) (v := 0) hx hb dX7_ofUnit_14 (by decide) ?_
    refine lv_iconst (pc := 15) (v := 1) hx hb dX7_ofUnit_15 (by decide) ?_
    refine ro_S (pc := 16) (As := [.int x2, .int 0, .int 1]) (rest := [.ref (a0 0)]) (st1 := [.int (f_X7_in x2 0 1), .ref (a0 0)]) ⟨hx, hb, hml, hown, hts⟩ (c_X7_in Z l x2 0 1 _ rfl) (va_cwS 3 hts gX7_ofUnit_X7_in rfl rfl rfl hs_X7_in ⟨Nat.le_of_ble_eq_true rfl, Nat.le_of_ble_eq_true rfl⟩) hK hE (hP.sub (ws' := []) [] rfl) rfl hl.1 rfl (lv_room (Nat.le_of_ble_eq_true rfl)) dX7_ofUnit_16 ⟨Nat.le_of_ble_eq_true rfl, Nat.le_of_ble_eq_true rfl⟩ rfl ?_
    refine lv_if_eq (pc := 19) (tgt := 26) hx hb dX7_ofUnit_19 (by decide) (fun c2 => ?_) (fun c2 => ?_)
    · have hf := (if_pos c2).symm.trans hf
      refine lv_iconst (pc := 26) (v := 2) hx hb dX7_ofUnit_26 (by decide) ?_
      exact B27 2 _ (lv_sub hl [0, 1, 2] rfl) _ _ hP hD hS hf
    · have hf := (if_neg c2).symm.trans hf
      refine lv_iconst (pc := 22) (v := 0) hx hb dX7_ofUnit_22 (by decide) ?_
      refine lv_goto (pc := 23) (tgt := 27) hx hb dX7_ofUnit_23 (by decide) ?_
      exact B27 0 _ (lv_sub hl [0, 1, 2] rfl) _ _ hP hD hS hf
  · have hf := (if_pos c1).symm.trans hf
    refine lv_iconst (pc := 9) (v := 1) hx hb dX7_ofUnit_9 (by decide) ?_
    refine lv_goto (pc := 10) (tgt := 27) hx hb dX7_ofUnit_10 (by decide) ?_
    exact B27 1 _ (lv_sub hl [0, 1, 2] rfl) _ _ hP hD hS hf
def f_X7_ofController_b27 (o0 : ObS) (x1 : Int32) (x2 : Int32) (k27_0 : Int32) : Option (Int32 × ObS) :=
  (f_X7_holds o0 k27_0).bind fun r27 =>
  if r27.1 = (0 : Int32) then
    some ((0 : Int32), r27.2)
  else
    if x2 = (0 : Int32) then
      if inb x1 6 then
      some (r27.2.1 24 (x1).toNatClampNeg, r27.2)
      else none
    else
      if x2 = 1 then
        if inb x1 6 then
        some ((r27.2.2 32 (x1).toNatClampNeg).toInt32, r27.2)
        else none
      else
        if x2 = 2 then
          if inb x1 6 then
          some ((r27.2.2 33 (x1).toNatClampNeg).toInt32, r27.2)
          else none
        else
          if inb x1 6 then
          some (r27.2.1 34 (x1).toNatClampNeg, r27.2)
          else none
def f_X7_ofController (o0 : ObS) (x1 : Int32) (x2 : Int32) : Option (Int32 × ObS) :=
  (f_X7_isController o0 x1).bind fun r3 =>
  if r3 = (0 : Int32) then
    f_X7_ofController_b27 o0 x1 x2 1
  else
    if (f_X7_in x2 0 3) = (0 : Int32) then
      f_X7_ofController_b27 o0 x1 x2 2
    else
      f_X7_ofController_b27 o0 x1 x2 0
set_option maxHeartbeats 4000000 in
set_option maxRecDepth 100000 in
theorem c_X7_ofController (Z : EnvT) (l : Launch) (a0 : Nat → Nat) (o0 : ObS) (x1 : Int32) (x2 : Int32) (R : Int32 × ObS) (hf : f_X7_ofController o0 x1 x2 = some R) : RW Z l yX7_ofController wsX7_ofController { frames := 2, cells := 0, slots := 0, locals := 43 } [.ref (a0 0), .int x1, .int x2] (wX7 Z a0 o0) (some (.int R.1)) (fun _ => wX7 Z a0 R.2) 0 0 := by
  refine rw_of (cc := cX7_ofController) (maxL := 3) (ret := (some .int)) (by decide) rfl (Nat.le_of_ble_eq_true rfl) ?_
  intro p e s m below meth c A ls hx hb hr hml hts hown hlk hin hP hK hE hD hA hS hl
  have hown : s.vm.findClass RX7 = some m.cls := hown
  have hl : lv_has ls 3 [(0, .ref (a0 0)), (1, .int x1), (2, .int x2)] := hl
  have w0 := hts (.fieldLink RX7 99 "HeatTrainModel" "errors" "[I") (by decide +kernel)
  have w1 := hts (.fieldLink RX7 96 "HeatTrainModel" "outputs" "[J") (by decide +kernel)
  have w2 := hts (.fieldLink RX7 93 "HeatTrainModel" "sums" "[J") (by decide +kernel)
  have w3 := hts (.fieldLink RX7 69 "HeatTrainModel" "goals" "[I") (by decide +kernel)
  have u7 : ∀ w ∈ wsX70, w ∈ wsX7_ofController := by decide +kernel
  have B27 : ∀ (k27_0 : Int32) (ls : Array Slot), lv_has ls 3 [(0, .ref (a0 0)), (1, .int x1), (2, .int x2)] → ∀ (H : Heap) (locs : List Loc), va_P Z.1 vwCl (wX7 Z a0 o0) H → va_D A (wX7 Z a0 o0) → va_S A s.heap H locs → f_X7_ofController_b27 o0 x1 x2 k27_0 = some R → W p l e { frames := 2, cells := 0, slots := 0, locals := 43 } s m ([.ref (a0 0), .int x1, .int x2] : List Value).toArray below meth c H locs 0 0 (MQ below (rwQ Z (some (.int R.1)) (fun _ => wX7 Z a0 R.2) A) ([.ref (a0 0), .int x1, .int x2] : List Value).toArray s 0 0 A) (F0 m 27 ls [.int k27_0, .ref (a0 0)]) := by
    intro k27_0 ls hl H locs hP hD hS hf
    rw [f_X7_ofController_b27] at hf
    obtain ⟨r27, h_27, hf⟩ := bd hf
    refine rw_V (pc := 27) (C := RX7) (As := [.int k27_0]) (rest := []) (st1 := [.int r27.1]) (wn := fun _ => wX7 Z a0 r27.2) ⟨hx, hb, hml, hown, hts⟩ (c_X7_holds Z l a0 o0 k27_0 r27 h_27) (cwV 1 hts gX7_ofController_X7_holds rfl rfl rfl hv_X7_holds ⟨Nat.le_of_ble_eq_true rfl, Nat.le_of_ble_eq_true rfl⟩) hK hE hP hD hS hA [0, 1, 2, 3, 4, 5, 6, 7, 8, 9, 10, 11, 12, 13, 14, 15, 16, 17, 18, 19, 20, 21, 22, 23, 24, 25, 26, 27, 28, 29, 30, 31, 32, 33, 34, 35] [] [0, 1, 2, 3, 4, 5, 6, 7, 8, 9, 10, 11, 12, 13, 14, 15, 16, 17, 18, 19, 20, 21, 22, 23, 24, 25, 26, 27, 28, 29, 30, 31, 32, 33, 34, 35] rfl rfl rfl (fun _ => rfl) 7 rfl rfl rfl hl.1 rfl (lv_room (Nat.le_of_ble_eq_true rfl)) dX7_ofController_27 ⟨Nat.le_of_ble_eq_true rfl, Nat.le_of_ble_eq_true rfl⟩ rfl (fun _ H locs hP hD hS => ?_)
    refine lv_if_ne (pc := 30) (tgt := 35) hx hb dX7_ofController_30 (by decide) (fun c1 => ?_) (fun c1 => ?_)
    · have hf := (if_neg c1).symm.trans hf
      refine lv_iload_n (pc := 35) hx hb dX7_ofController_35 rfl (lv_at hl 2 rfl) ?_
      refine lv_if_ne (pc := 36) (tgt := 48) hx hb dX7_ofController_36 (by decide) (fun c2 => ?_) (fun c2 => ?_)
      · have hf := (if_neg c2).symm.trans hf
        refine lv_iload_n (pc := 48) hx hb dX7_ofController_48 rfl (lv_at hl 2 rfl) ?_
        refine lv_iconst (pc := 49) (v := 1) hx hb dX7_ofController_49 (by decide) ?_
        refine lv_icmp_ne (pc := 50) (tgt := 63) hx hb dX7_ofController_50 (by decide) (fun c3 => ?_) (fun c3 => ?_)
        · have hf := (if_neg c3).symm.trans hf
          refine lv_iload_n (pc := 63) hx hb dX7_ofController_63 rfl (lv_at hl 2 rfl) ?_
          refine lv_iconst (pc := 64) (v := 2) hx hb dX7_ofController_64 (by decide) ?_
          refine lv_icmp_ne (pc := 65) (tgt := 78) hx hb dX7_ofController_65 (by decide) (fun c4 => ?_) (fun c4 => ?_)
          · have hf := (if_neg c4).symm.trans hf
            refine lv_aload_n (pc := 78) hx hb dX7_ofController_78 rfl (lv_at hl 0 rfl) ?_
            refine va_get (pc := 79) (D := Z.1) (ci := 7) (v := .ref (a0 35)) (C := RX7) (T := TX7) (N := 41) hx hb hts u7 hown hK hP 0 rfl rfl 34 (by decide) w0 (fun _ h9 => h9) rfl dX7_ofController_79 ?_
            refine lv_iload_n (pc := 82) hx hb dX7_ofController_82 rfl (lv_at hl 1 rfl) ?_
            obtain ⟨g83, hf⟩ := gd hf
            refine va_iald (pc := 83) (D := Z.1) (n := 6) (f := r27.2.1 34) hx hb hK hP 30 0 rfl rfl (inb_in g83) dX7_ofController_83 ?_
            have hf := (Option.some.inj hf)
            subst hf
            exact rw_i (fun _ => 0) hx hb hr hlk rfl hP hD hS dX7_ofController_84
          · have hf := (if_pos c4).symm.trans hf
            refine lv_aload_n (pc := 68) hx hb dX7_ofController_68 rfl (lv_at hl 0 rfl) ?_
            refine va_get (pc := 69) (D := Z.1) (ci := 7) (v := .ref (a0 34)) (C := RX7) (T := TX7) (N := 41) hx hb hts u7 hown hK hP 0 rfl rfl 33 (by decide) w1 (fun _ h9 => h9) rfl dX7_ofController_69 ?_
            refine lv_iload_n (pc := 72) hx hb dX7_ofController_72 rfl (lv_at hl 1 rfl) ?_
            obtain ⟨g73, hf⟩ := gd hf
            refine va_lald (pc := 73) (D := Z.1) (n := 6) (f := r27.2.2 33) hx hb hK hP 29 1 rfl rfl (inb_in g73) dX7_ofController_73 ?_
            refine lv_l2i (pc := 74) (v := (r27.2.2 33 (x1).toNatClampNeg).toInt32) hx hb dX7_ofController_74 rfl ?_
            refine lv_goto (pc := 75) (tgt := 84) hx hb dX7_ofController_75 (by decide) ?_
            have hf := (Option.some.inj hf)
            subst hf
            exact rw_i (fun _ => 0) hx hb hr hlk rfl hP hD hS dX7_ofController_84
        · have hf := (if_pos c3).symm.trans hf
          refine lv_aload_n (pc := 53) hx hb dX7_ofController_53 rfl (lv_at hl 0 rfl) ?_
          refine va_get (pc := 54) (D := Z.1) (ci := 7) (v := .ref (a0 33)) (C := RX7) (T := TX7) (N := 41) hx hb hts u7 hown hK hP 0 rfl rfl 32 (by decide) w2 (fun _ h9 => h9) rfl dX7_ofController_54 ?_
          refine lv_iload_n (pc := 57) hx hb dX7_ofController_57 rfl (lv_at hl 1 rfl) ?_
          obtain ⟨g58, hf⟩ := gd hf
          refine va_lald (pc := 58) (D := Z.1) (n := 6) (f := r27.2.2 32) hx hb hK hP 28 1 rfl rfl (inb_in g58) dX7_ofController_58 ?_
          refine lv_l2i (pc := 59) (v := (r27.2.2 32 (x1).toNatClampNeg).toInt32) hx hb dX7_ofController_59 rfl ?_
          refine lv_goto (pc := 60) (tgt := 84) hx hb dX7_ofController_60 (by decide) ?_
          have hf := (Option.some.inj hf)
          subst hf
          exact rw_i (fun _ => 0) hx hb hr hlk rfl hP hD hS dX7_ofController_84
      · have hf := (if_pos c2).symm.trans hf
        refine lv_aload_n (pc := 39) hx hb dX7_ofController_39 rfl (lv_at hl 0 rfl) ?_
        refine va_get (pc := 40) (D := Z.1) (ci := 7) (v := .ref (a0 25)) (C := RX7) (T := TX7) (N := 41) hx hb hts u7 hown hK hP 0 rfl rfl 24 (by decide) w3 (fun _ h9 => h9) rfl dX7_ofController_40 ?_
        refine lv_iload_n (pc := 43) hx hb dX7_ofController_43 rfl (lv_at hl 1 rfl) ?_
        obtain ⟨g44, hf⟩ := gd hf
        refine va_iald (pc := 44) (D := Z.1) (n := 6) (f := r27.2.1 24) hx hb hK hP 20 0 rfl rfl (inb_in g44) dX7_ofController_44 ?_
        refine lv_goto (pc := 45) (tgt := 84) hx hb dX7_ofController_45 (by decide) ?_
        have hf := (Option.some.inj hf)
        subst hf
        exact rw_i (fun _ => 0) hx hb hr hlk rfl hP hD hS dX7_ofController_84
    · have hf := (if_pos c1).symm.trans hf
      refine lv_iconst (pc := 33) (v := 0) hx hb dX7_ofController_33 (by decide) ?_
      have hf := (Option.some.inj hf)
      subst hf
      exact rw_i (fun _ => 0) hx hb hr hlk rfl hP hD hS dX7_ofController_34
  rw [f_X7_ofController] at hf
  refine lv_aload_n (pc := 0) hx hb dX7_ofController_0 rfl (lv_at hl 0 rfl) ?_
  refine lv_aload_n (pc := 1) hx hb dX7_ofController_1 rfl (lv_at hl 0 rfl) ?_
  refine lv_iload_n (pc := 2) hx hb dX7_ofController_2 rfl (lv_at hl 1 rfl) ?_
  obtain ⟨r3, h_3, hf⟩ := bd hf
  refine ro_V (pc := 3) (C := RX7) (As := [.int x1]) (rest := [.ref (a0 0)]) (st1 := [.int r3, .ref (a0 0)]) ⟨hx, hb, hml, hown, hts⟩ (c_X7_isController Z l a0 o0 x1 r3 h_3) (cwV 1 hts gX7_ofController_X7_isController rfl rfl rfl hv_X7_isController ⟨Nat.le_of_ble_eq_true rfl, Nat.le_of_ble_eq_true rfl⟩) hK hE hP 7 rfl rfl rfl hl.1 rfl (lv_room (Nat.le_of_ble_eq_true rfl)) dX7_ofController_3 ⟨Nat.le_of_ble_eq_true rfl, Nat.le_of_ble_eq_true rfl⟩ rfl ?_
  refine lv_if_ne (pc := 6) (tgt := 13) hx hb dX7_ofController_6 (by decide) (fun c1 => ?_) (fun c1 => ?_)
  · have hf := (if_neg c1).symm.trans hf
    refine lv_iload_n (pc := 13) hx hb dX7_ofController_13 rfl (lv_at hl 2 rfl) ?_
    refine lv_iconst (pc := 14) (v := 0) hx hb dX7_ofController_14 (by decide) ?_
    refine lv_iconst (pc := 15) (v := 3) hx hb dX7_ofController_15 (by decide) ?_
    refine ro_S (pc := 16) (As := [.int x2, .int 0, .int 3]) (rest := [.ref (a0 0)]) (st1 := [.int (f_X7_in x2 0 3), .ref (a0 0)]) ⟨hx, hb, hml, hown, hts⟩ (c_X7_in Z l x2 0 3 _ rfl) (va_cwS 3 hts gX7_ofController_X7_in rfl rfl rfl hs_X7_in ⟨Nat.le_of_ble_eq_true rfl, Nat.le_of_ble_eq_true rfl⟩) hK hE (hP.sub (ws' := []) [] rfl) rfl hl.1 rfl (lv_room (Nat.le_of_ble_eq_true rfl)) dX7_ofController_16 ⟨Nat.le_of_ble_eq_true rfl, Nat.le_of_ble_eq_true rfl⟩ rfl ?_
    refine lv_if_eq (pc := 19) (tgt := 26) hx hb dX7_ofController_19 (by decide) (fun c2 => ?_) (fun c2 => ?_)
    · have hf := (if_pos c2).symm.trans hf
      refine lv_iconst (pc := 26) (v := 2) hx hb dX7_ofController_26 (by decide) ?_
      exact B27 2 _ (lv_sub hl [0, 1, 2] rfl) _ _ hP hD hS hf
    · have hf := (if_neg c2).symm.trans hf
      refine lv_iconst (pc := 22) (v := 0) hx hb dX7_ofController_22 (by decide) ?_
      refine lv_goto (pc := 23) (tgt := 27) hx hb dX7_ofController_23 (by decide) ?_
      exact B27 0 _ (lv_sub hl [0, 1, 2] rfl) _ _ hP hD hS hf
  · have hf := (if_pos c1).symm.trans hf
    refine lv_iconst (pc := 9) (v := 1) hx hb dX7_ofController_9 (by decide) ?_
    refine lv_goto (pc := 10) (tgt := 27) hx hb dX7_ofController_10 (by decide) ?_
    exact B27 1 _ (lv_sub hl [0, 1, 2] rfl) _ _ hP hD hS hf
