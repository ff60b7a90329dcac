def f_X7_warmthBehind_b53 (k : Int32 → ObS → Option (Int32 × ObS)) (x3 : Int32) (v22_5 : Int32) (o22_0 : ObS) (k53_0 : Int32) : Option (Int32 × ObS) :=
  if k53_0 = (0 : Int32) then
    if inb v22_5 12 then
    (f_X7_runs o22_0 v22_5 ((o22_0.1 4 (v22_5).toNatClampNeg).toInt64)).bind fun r100 =>
    k (v22_5 + 1) r100
    else none
  else
    if inb v22_5 12 then
    if inb v22_5 12 then
    (f_X7_runs o22_0 v22_5 (f_X7_held (((o22_0.1 4 (v22_5).toNatClampNeg).toInt64) + x3.toInt64) 0 (((f_X7_mostOf (o22_0.1 3 (v22_5).toNatClampNeg))).toInt64))).bind fun r100 =>
    k (v22_5 + 1) r100
    else none
    else none
def f_X7_warmthBehind_b52 (k : Int32 → ObS → Option (Int32 × ObS)) (x3 : Int32) (v22_5 : Int32) (o22_0 : ObS)  : Option (Int32 × ObS) :=
  f_X7_warmthBehind_b53 k x3 v22_5 o22_0 0
def f_X7_warmthBehind_b22 (k : Int32 → ObS → Option (Int32 × ObS)) (x2 : Int32) (x3 : Int32) (v8_4 : Int32) : Nat → Int32 → ObS → Option (Int32 × ObS)
  | 0, _, _ => none
  | n + 1, v22_5, o22_0 =>
  if (o22_0.1 2 0) ≤ v22_5 then
    k (v8_4 + 1) o22_0
  else
    if v22_5 = x2 then
      if inb v22_5 12 then
      if (o22_0.1 3 (v22_5).toNatClampNeg) = 2 then
        f_X7_warmthBehind_b52 (f_X7_warmthBehind_b22 k x2 x3 v8_4 n) x3 v22_5 o22_0
      else
        f_X7_warmthBehind_b53 (f_X7_warmthBehind_b22 k x2 x3 v8_4 n) x3 v22_5 o22_0 1
      else none
    else
      f_X7_warmthBehind_b52 (f_X7_warmthBehind_b22 k x2 x3 v8_4 n) x3 v22_5 o22_0
def f_X7_warmthBehind_b8 (x1 : Int32) (x2 : Int32) (x3 : Int32) : Nat → Int32 → ObS → Option (Int32 × ObS)
  | 0, _, _ => none
  | n + 1, v8_4, o8_0 =>
  if 12 ≤ v8_4 then
    (f_X7_warmthOf o8_0 x1).bind fun r117 =>
    (f_X7_keeps o8_0 1).bind fun r124 =>
    some (r117, r124)
  else
    (f_X7_ages o8_0).bind fun r16 =>
    f_X7_warmthBehind_b22 (f_X7_warmthBehind_b8 x1 x2 x3 n) x2 x3 v8_4 64 0 r16
def f_X7_warmthBehind (o0 : ObS) (x1 : Int32) (x2 : Int32) (x3 : Int32) : Option (Int32 × ObS) :=
  (f_X7_keeps o0 0).bind fun r2 =>
  f_X7_warmthBehind_b8 x1 x2 x3 64 0 r2
set_option maxHeartbeats 4000000 in
set_option maxRecDepth 100000 in
theorem c_X7_warmthBehind (Z : EnvT) (l : Launch) (a0 : Nat → Nat) (o0 : ObS) (x1 : Int32) (x2 : Int32) (x3 : Int32) (R : Int32 × ObS) (hf : f_X7_warmthBehind o0 x1 x2 x3 = some R) : RW Z l yX7_warmthBehind wsX7_warmthBehind { frames := 2, cells := 0, slots := 0, locals := 65 } [.ref (a0 0), .int x1, .int x2, .int x3] (wX7 Z a0 o0) (some (.int R.1)) (fun _ => wX7 Z a0 R.2) 0 0 := by
  refine rw_of (cc := cX7_warmthBehind) (maxL := 7) (ret := (some .int)) (by decide) rfl (Nat.le_of_ble_eq_true rfl) ?_
  intro p e s m below meth c A ls hx hb hr hml hts hown hlk hin hP hK hE hD hA hS hl
  have hown : s.vm.findClass RX7 = some m.cls := hown
  have hl : lv_has ls 7 [(0, .ref (a0 0)), (1, .int x1), (2, .int x2), (3, .int x3)] := hl
  have w0 := hts (.fieldLink RX7 121 "HeatTrainModel" "units" "I") (by decide +kernel)
  have w1 := hts (.fieldLink RX7 7 "HeatTrainModel" "kinds" "[I") (by decide +kernel)
  have w2 := hts (.fieldLink RX7 13 "HeatTrainModel" "numbers" "[I") (by decide +kernel)
  have u7 : ∀ w ∈ wsX70, w ∈ wsX7_warmthBehind := by decide +kernel
  have B53 : ∀ (v8_4 : Int32) (v22_5 : Int32) (o22_0 : ObS) (k : Int32 → ObS → Option (Int32 × ObS)) (hk : ∀ (v22_5 : Int32) (o22_0 : ObS) (ls : Array Slot), lv_has ls 7 [(0, .ref (a0 0)), (1, .int x1), (2, .int x2), (3, .int x3), (4, .int v8_4), (5, .int v22_5)] → ∀ (H : Heap) (locs : List Loc), va_P Z.1 vwCl (wX7 Z a0 o22_0) H → va_D A (wX7 Z a0 o22_0) → va_S A s.heap H locs → k v22_5 o22_0 = some R → W p l e { frames := 2, cells := 0, slots := 0, locals := 65 } s m ([.ref (a0 0), .int x1, .int x2, .int x3] : List Value).toArray below meth c H locs 0 0 (MQ below (rwQ Z (some (.int R.1)) (fun _ => wX7 Z a0 R.2) A) ([.ref (a0 0), .int x1, .int x2, .int x3] : List Value).toArray s 0 0 A) (F0 m 22 ls [])), ∀ (k53_0 : Int32) (ls : Array Slot), lv_has ls 7 [(0, .ref (a0 0)), (1, .int x1), (2, .int x2), (3, .int x3), (4, .int v8_4), (5, .int v22_5)] → ∀ (H : Heap) (locs : List Loc), va_P Z.1 vwCl (wX7 Z a0 o22_0) H → va_D A (wX7 Z a0 o22_0) → va_S A s.heap H locs → f_X7_warmthBehind_b53 k x3 v22_5 o22_0 k53_0 = some R → W p l e { frames := 2, cells := 0, slots := 0, locals := 65 } s m ([.ref (a0 0), .int x1, .int x2, .int x3] : List Value).toArray below meth c H locs 0 0 (MQ below (rwQ Z (some (.int R.1)) (fun _ => wX7 Z a0 R.2) A) ([.ref (a0 0), .int x1, .int x2, .int x3] : List Value).toArray s 0 0 A) (F0 m 53 ls [.int k53_0]) := by
    intro v8_4 v22_5 o22_0 k hk k53_0 ls hl H locs hP hD hS hf
    rw [f_X7_warmthBehind_b53] at hf
    refine lv_istore (pc := 53) (lv' := [(6, .int k53_0), (0, .ref (a0 0)), (1, .int x1), (2, .int x2), (3, .int x3), (4, .int v8_4), (5, .int v22_5)]) hx hb dX7_warmthBehind_53 hl (by decide) rfl (fun ls hl => ?_)
    refine lv_aload_n (pc := 55) hx hb dX7_warmthBehind_55 rfl (lv_at hl 1 rfl) ?_
    refine lv_iload (pc := 56) hx hb dX7_warmthBehind_56 (lv_at hl 6 rfl) ?_
    refine lv_iload (pc := 58) hx hb dX7_warmthBehind_58 (lv_at hl 0 rfl) ?_
    refine lv_if_eq (pc := 60) (tgt := 92) hx hb dX7_warmthBehind_60 (by decide) (fun c1 => ?_) (fun c1 => ?_)
    · have hf := (if_pos c1).symm.trans hf
      refine lv_aload_n (pc := 92) hx hb dX7_warmthBehind_92 rfl (lv_at hl 1 rfl) ?_
      refine va_get (pc := 93) (D := Z.1) (ci := 7) (v := .ref (a0 5)) (C := RX7) (T := TX7) (N := 41) hx hb hts u7 hown hK hP 0 rfl rfl 4 (by decide) w2 (fun _ h9 => h9) rfl dX7_warmthBehind_93 ?_
      refine lv_iload (pc := 96) hx hb dX7_warmthBehind_96 (lv_at hl 6 rfl) ?_
      obtain ⟨g98, hf⟩ := gd hf
      refine va_iald (pc := 98) (D := Z.1) (n := 12) (f := o22_0.1 4) hx hb hK hP 2 0 rfl rfl (inb_in g98) dX7_warmthBehind_98 ?_
      refine lv_i2l (pc := 99) (v := (o22_0.1 4 (v22_5).toNatClampNeg).toInt64) hx hb dX7_warmthBehind_99 rfl ?_
      obtain ⟨r100, h_100, hf⟩ := bd hf
      refine rw_V (pc := 100) (C := RX7) (As := [.int v22_5, .long ((o22_0.1 4 (v22_5).toNatClampNeg).toInt64)]) (rest := []) (st1 := []) (wn := fun _ => wX7 Z a0 r100) ⟨hx, hb, hml, hown, hts⟩ (c_X7_runs Z l a0 o22_0 v22_5 ((o22_0.1 4 (v22_5).toNatClampNeg).toInt64) r100 h_100) (cwV 2 hts gX7_warmthBehind_X7_runs rfl rfl rfl hv_X7_runs ⟨Nat.le_of_ble_eq_true rfl, Nat.le_of_ble_eq_true rfl⟩) hK hE hP hD hS hA [0, 1, 2, 3, 4, 5, 6, 7, 8, 9, 10, 11, 12, 13, 14, 15, 16, 17, 18, 19, 20, 21, 22, 23, 24, 25, 26, 27, 28, 29, 30, 31, 32, 33, 34, 35] [] [0, 1, 2, 3, 4, 5, 6, 7, 8, 9, 10, 11, 12, 13, 14, 15, 16, 17, 18, 19, 20, 21, 22, 23, 24, 25, 26, 27, 28, 29, 30, 31, 32, 33, 34, 35] rfl rfl rfl (fun _ => rfl) 7 rfl rfl rfl hl.1 rfl (lv_room (Nat.le_of_ble_eq_true rfl)) dX7_warmthBehind_100 ⟨Nat.le_of_ble_eq_true rfl, Nat.le_of_ble_eq_true rfl⟩ rfl (fun _ H locs hP hD hS => ?_)
      refine lv_iinc (pc := 103) (v := v22_5 + 1) (lv' := [(5, .int (v22_5 + 1)), (6, .int k53_0), (0, .ref (a0 0)), (1, .int x1), (2, .int x2), (3, .int x3), (4, .int v8_4)]) hx hb dX7_warmthBehind_103 hl (k := 6) rfl rfl (by decide) rfl (fun ls hl => ?_)
      refine lv_goto (pc := 106) (tgt := 22) hx hb dX7_warmthBehind_106 (by decide) ?_
      exact hk (v22_5 + 1) r100 _ (lv_sub hl [2, 3, 4, 5, 6, 0] rfl) _ _ hP hD hS hf
    · have hf := (if_neg c1).symm.trans hf
      refine lv_aload_n (pc := 63) hx hb dX7_warmthBehind_63 rfl (lv_at hl 1 rfl) ?_
      refine va_get (pc := 64) (D := Z.1) (ci := 7) (v := .ref (a0 5)) (C := RX7) (T := TX7) (N := 41) hx hb hts u7 hown hK hP 0 rfl rfl 4 (by decide) w2 (fun _ h9 => h9) rfl dX7_warmthBehind_64 ?_
      refine lv_iload (pc := 67) hx hb dX7_warmthBehind_67 (lv_at hl 6 rfl) ?_
      obtain ⟨g69, hf⟩ := gd hf
      refine va_iald (pc := 69) (D := Z.1) (n := 12) (f := o22_0.1 4) hx hb hK hP 2 0 rfl rfl (inb_in g69) dX7_warmthBehind_69 ?_
      refine lv_i2l (pc := 70) (v := (o22_0.1 4 (v22_5).toNatClampNeg).toInt64) hx hb dX7_warmthBehind_70 rfl ?_
      refine lv_iload_n (pc := 71) hx hb dX7_warmthBehind_71 rfl (lv_at hl 4 rfl) ?_
      refine lv_i2l (pc := 72) (v := x3.toInt64) hx hb dX7_warmthBehind_72 rfl ?_
      refine lv_ladd (pc := 73) hx hb dX7_warmthBehind_73 ?_
      refine lv_lconst (pc := 74) (v := 0) hx hb dX7_warmthBehind_74 (by decide) ?_
      refine lv_aload_n (pc := 75) hx hb dX7_warmthBehind_75 rfl (lv_at hl 1 rfl) ?_
      refine va_get (pc := 76) (D := Z.1) (ci := 7) (v := .ref (a0 4)) (C := RX7) (T := TX7) (N := 41) hx hb hts u7 hown hK hP 0 rfl rfl 3 (by decide) w1 (fun _ h9 => h9) rfl dX7_warmthBehind_76 ?_
      refine lv_iload (pc := 79) hx hb dX7_warmthBehind_79 (lv_at hl 6 rfl) ?_
      obtain ⟨g81, hf⟩ := gd hf
      refine va_iald (pc := 81) (D := Z.1) (n := 12) (f := o22_0.1 3) hx hb hK hP 1 0 rfl rfl (inb_in g81) dX7_warmthBehind_81 ?_
      refine ro_S (pc := 82) (As := [.int (o22_0.1 3 (v22_5).toNatClampNeg)]) (rest := [.long 0, .long (((o22_0.1 4 (v22_5).toNatClampNeg).toInt64) + x3.toInt64), .int v22_5, .ref (a0 0)]) (st1 := [.int (f_X7_mostOf (o22_0.1 3 (v22_5).toNatClampNeg)), .long 0, .long (((o22_0.1 4 (v22_5).toNatClampNeg).toInt64) + x3.toInt64), .int v22_5, .ref (a0 0)]) ⟨hx, hb, hml, hown, hts⟩ (c_X7_mostOf Z l (o22_0.1 3 (v22_5).toNatClampNeg) _ rfl) (va_cwS 1 hts gX7_warmthBehind_X7_mostOf rfl rfl rfl hs_X7_mostOf ⟨Nat.le_of_ble_eq_true rfl, Nat.le_of_ble_eq_true rfl⟩) hK hE (hP.sub (ws' := []) [] rfl) rfl hl.1 rfl (lv_room (Nat.le_of_ble_eq_true rfl)) dX7_warmthBehind_82 ⟨Nat.le_of_ble_eq_true rfl, Nat.le_of_ble_eq_true rfl⟩ rfl ?_
      refine lv_i2l (pc := 85) (v := ((f_X7_mostOf (o22_0.1 3 (v22_5).toNatClampNeg))).toInt64) hx hb dX7_warmthBehind_85 rfl ?_
      refine ro_S (pc := 86) (As := [.long (((o22_0.1 4 (v22_5).toNatClampNeg).toInt64) + x3.toInt64), .long 0, .long (((f_X7_mostOf (o22_0.1 3 (v22_5).toNatClampNeg))).toInt64)]) (rest := [.int v22_5, .ref (a0 0)]) (st1 := [.long (f_X7_held (((o22_0.1 4 (v22_5).toNatClampNeg).toInt64) + x3.toInt64) 0 (((f_X7_mostOf (o22_0.1 3 (v22_5).toNatClampNeg))).toInt64)), .int v22_5, .ref (a0 0)]) ⟨hx, hb, hml, hown, hts⟩ (c_X7_held Z l (((o22_0.1 4 (v22_5).toNatClampNeg).toInt64) + x3.toInt64) 0 (((f_X7_mostOf (o22_0.1 3 (v22_5).toNatClampNeg))).toInt64) _ rfl) (va_cwS 3 hts gX7_warmthBehind_X7_held rfl rfl rfl hs_X7_held ⟨Nat.le_of_ble_eq_true rfl, Nat.le_of_ble_eq_true rfl⟩) hK hE (hP.sub (ws' := []) [] rfl) rfl hl.1 rfl (lv_room (Nat.le_of_ble_eq_true rfl)) dX7_warmthBehind_86 ⟨Nat.le_of_ble_eq_true rfl, Nat.le_of_ble_eq_true rfl⟩ rfl ?_
      refine lv_goto (pc := 89) (tgt := 100) hx hb dX7_warmthBehind_89 (by decide) ?_
      obtain ⟨r100, h_100, hf⟩ := bd hf
      refine rw_V (pc := 100) (C := RX7) (As := [.int v22_5, .long (f_X7_held (((o22_0.1 4 (v22_5).toNatClampNeg).toInt64) + x3.toInt64) 0 (((f_X7_mostOf (o22_0.1 3 (v22_5).toNatClampNeg))).toInt64))]) (rest := []) (st1 := []) (wn := fun _ => wX7 Z a0 r100) ⟨hx, hb, hml, hown, hts⟩ (c_X7_runs Z l a0 o22_0 v22_5 (f_X7_held (((o22_0.1 4 (v22_5).toNatClampNeg).toInt64) + x3.toInt64) 0 (((f_X7_mostOf (o22_0.1 3 (v22_5).toNatClampNeg))).toInt64)) r100 h_100) (cwV 2 hts gX7_warmthBehind_X7_runs rfl rfl rfl hv_X7_runs ⟨Nat.le_of_ble_eq_true rfl, Nat.le_of_ble_eq_true rfl⟩) hK hE hP hD hS hA [0, 1, 2, 3, 4, 5, 6, 7, 8, 9, 10, 11, 12, 13, 14, 15, 16, 17, 18, 19, 20, 21, 22, 23, 24, 25, 26, 27, 28, 29, 30, 31, 32, 33, 34, 35] [] [0, 1, 2, 3, 4, 5, 6, 7, 8, 9, 10, 11, 12, 13, 14, 15, 16, 17, 18, 19, 20, 21, 22, 23, 24, 25, 26, 27, 28, 29, 30, 31, 32, 33, 34, 35] rfl rfl rfl (fun _ => rfl) 7 rfl rfl rfl hl.1 rfl (lv_room (Nat.le_of_ble_eq_true rfl)) dX7_warmthBehind_100 ⟨Nat.le_of_ble_eq_true rfl, Nat.le_of_ble_eq_true rfl⟩ rfl (fun _ H locs hP hD hS => ?_)
      refine lv_iinc (pc := 103) (v := v22_5 + 1) (lv' := [(5, .int (v22_5 + 1)), (6, .int k53_0), (0, .ref (a0 0)), (1, .int x1), (2, .int x2), (3, .int x3), (4, .int v8_4)]) hx hb dX7_warmthBehind_103 hl (k := 6) rfl rfl (by decide) rfl (fun ls hl => ?_)
      refine lv_goto (pc := 106) (tgt := 22) hx hb dX7_warmthBehind_106 (by decide) ?_
      exact hk (v22_5 + 1) r100 _ (lv_sub hl [2, 3, 4, 5, 6, 0] rfl) _ _ hP hD hS hf
  have B52 : ∀ (v8_4 : Int32) (v22_5 : Int32) (o22_0 : ObS) (k : Int32 → ObS → Option (Int32 × ObS)) (hk : ∀ (v22_5 : Int32) (o22_0 : ObS) (ls : Array Slot), lv_has ls 7 [(0, .ref (a0 0)), (1, .int x1), (2, .int x2), (3, .int x3), (4, .int v8_4), (5, .int v22_5)] → ∀ (H : Heap) (locs : List Loc), va_P Z.1 vwCl (wX7 Z a0 o22_0) H → va_D A (wX7 Z a0 o22_0) → va_S A s.heap H locs → k v22_5 o22_0 = some R → W p l e { frames := 2, cells := 0, slots := 0, locals := 65 } s m ([.ref (a0 0), .int x1, .int x2, .int x3] : List Value).toArray below meth c H locs 0 0 (MQ below (rwQ Z (some (.int R.1)) (fun _ => wX7 Z a0 R.2) A) ([.ref (a0 0), .int x1, .int x2, .int x3] : List Value).toArray s 0 0 A) (F0 m 22 ls [])), ∀ (ls : Array Slot), lv_has ls 7 [(0, .ref (a0 0)), (1, .int x1), (2, .int x2), (3, .int x3), (4, .int v8_4), (5, .int v22_5)] → ∀ (H : Heap) (locs : List Loc), va_P Z.1 vwCl (wX7 Z a0 o22_0) H → va_D A (wX7 Z a0 o22_0) → va_S A s.heap H locs → f_X7_warmthBehind_b52 k x3 v22_5 o22_0 = some R → W p l e { frames := 2, cells := 0, slots := 0, locals := 65 } s m ([.ref (a0 0), .int x1, .int x2, .int x3] : List Value).toArray below meth c H locs 0 0 (MQ below (rwQ Z (some (.int R.1)) (fun _ => wX7 Z a0 R.2) A) ([.ref (a0 0), .int x1, .int x2, .int x3] : List Value).toArray s 0 0 A) (F0 m 52 ls []) := by
    intro v8_4 v22_5 o22_0 k hk ls hl H locs hP hD hS hf
    rw [f_X7_warmthBehind_b52] at hf
    refine lv_iconst (pc := 52) (v := 0) hx hb dX7_warmthBehind_52 (by decide) ?_
    exact B53 v8_4 v22_5 o22_0 k hk 0 _ (lv_sub hl [0, 1, 2, 3, 4, 5] rfl) _ _ hP hD hS hf
  have B22 : ∀ (v8_4 : Int32) (k : Int32 → ObS → Option (Int32 × ObS)) (hk : ∀ (v8_4 : Int32) (o8_0 : ObS) (ls : Array Slot), lv_has ls 7 [(0, .ref (a0 0)), (1, .int x1), (2, .int x2), (3, .int x3), (4, .int v8_4)] → ∀ (H : Heap) (locs : List Loc), va_P Z.1 vwCl (wX7 Z a0 o8_0) H → va_D A (wX7 Z a0 o8_0) → va_S A s.heap H locs → k v8_4 o8_0 = some R → W p l e { frames := 2, cells := 0, slots := 0, locals := 65 } s m ([.ref (a0 0), .int x1, .int x2, .int x3] : List Value).toArray below meth c H locs 0 0 (MQ below (rwQ Z (some (.int R.1)) (fun _ => wX7 Z a0 R.2) A) ([.ref (a0 0), .int x1, .int x2, .int x3] : List Value).toArray s 0 0 A) (F0 m 8 ls [])) (n : Nat), ∀ (v22_5 : Int32) (o22_0 : ObS) (ls : Array Slot), lv_has ls 7 [(0, .ref (a0 0)), (1, .int x1), (2, .int x2), (3, .int x3), (4, .int v8_4), (5, .int v22_5)] → ∀ (H : Heap) (locs : List Loc), va_P Z.1 vwCl (wX7 Z a0 o22_0) H → va_D A (wX7 Z a0 o22_0) → va_S A s.heap H locs → f_X7_warmthBehind_b22 k x2 x3 v8_4 n v22_5 o22_0 = some R → W p l e { frames := 2, cells := 0, slots := 0, locals := 65 } s m ([.ref (a0 0), .int x1, .int x2, .int x3] : List Value).toArray below meth c H locs 0 0 (MQ below (rwQ Z (some (.int R.1)) (fun _ => wX7 Z a0 R.2) A) ([.ref (a0 0), .int x1, .int x2, .int x3] : List Value).toArray s 0 0 A) (F0 m 22 ls []) := by
    intro v8_4 k hk n
    induction n with
    | zero => intro v22_5 o22_0 ls hl H locs hP hD hS hf; rw [f_X7_warmthBehind_b22] at hf; exact nomatch hf
    | succ n ih =>
      intro v22_5 o22_0 ls hl H locs hP hD hS hf
      rw [f_X7_warmthBehind_b22] at hf
      refine lv_iload (pc := 22) hx hb dX7_warmthBehind_22 (lv_at hl 5 rfl) ?_
      refine lv_aload_n (pc := 24) hx hb dX7_warmthBehind_24 rfl (lv_at hl 0 rfl) ?_
      refine va_get (pc := 25) (D := Z.1) (ci := 7) (v := .int (o22_0.1 2 0)) (C := RX7) (T := TX7) (N := 41) hx hb hts u7 hown hK hP 0 rfl rfl 2 (by decide) w0 (fun _ h9 => h9) rfl dX7_warmthBehind_25 ?_
      refine lv_icmp_ge (pc := 28) (tgt := 109) hx hb dX7_warmthBehind_28 (by decide) (fun c1 => ?_) (fun c1 => ?_)
      · have hf := (if_pos c1).symm.trans hf
        refine lv_iinc (pc := 109) (v := v8_4 + 1) (lv' := [(4, .int (v8_4 + 1)), (0, .ref (a0 0)), (1, .int x1), (2, .int x2), (3, .int x3), (5, .int v22_5)]) hx hb dX7_warmthBehind_109 hl (k := 4) rfl rfl (by decide) rfl (fun ls hl => ?_)
        refine lv_goto (pc := 112) (tgt := 8) hx hb dX7_warmthBehind_112 (by decide) ?_
        exact hk (v8_4 + 1) o22_0 _ (lv_sub hl [1, 2, 3, 4, 0] rfl) _ _ hP hD hS hf
      · have hf := (if_neg c1).symm.trans hf
        refine lv_iload (pc := 31) hx hb dX7_warmthBehind_31 (lv_at hl 5 rfl) ?_
        refine lv_iload_n (pc := 33) hx hb dX7_warmthBehind_33 rfl (lv_at hl 2 rfl) ?_
        refine lv_icmp_ne (pc := 34) (tgt := 52) hx hb dX7_warmthBehind_34 (by decide) (fun c2 => ?_) (fun c2 => ?_)
        · have hf := (if_neg c2).symm.trans hf
          exact B52 v8_4 v22_5 o22_0 (f_X7_warmthBehind_b22 k x2 x3 v8_4 n) ih _ (lv_sub hl [0, 1, 2, 3, 4, 5] rfl) _ _ hP hD hS hf
        · have hf := (if_pos c2).symm.trans hf
          refine lv_aload_n (pc := 37) hx hb dX7_warmthBehind_37 rfl (lv_at hl 0 rfl) ?_
          refine va_get (pc := 38) (D := Z.1) (ci := 7) (v := .ref (a0 4)) (C := RX7) (T := TX7) (N := 41) hx hb hts u7 hown hK hP 0 rfl rfl 3 (by decide) w1 (fun _ h9 => h9) rfl dX7_warmthBehind_38 ?_
          refine lv_iload (pc := 41) hx hb dX7_warmthBehind_41 (lv_at hl 5 rfl) ?_
          obtain ⟨g43, hf⟩ := gd hf
          refine va_iald (pc := 43) (D := Z.1) (n := 12) (f := o22_0.1 3) hx hb hK hP 1 0 rfl rfl (inb_in g43) dX7_warmthBehind_43 ?_
          refine lv_iconst (pc := 44) (v := 2) hx hb dX7_warmthBehind_44 (by decide) ?_
          refine lv_icmp_eq (pc := 45) (tgt := 52) hx hb dX7_warmthBehind_45 (by decide) (fun c3 => ?_) (fun c3 => ?_)
          · have hf := (if_pos c3).symm.trans hf
            exact B52 v8_4 v22_5 o22_0 (f_X7_warmthBehind_b22 k x2 x3 v8_4 n) ih _ (lv_sub hl [0, 1, 2, 3, 4, 5] rfl) _ _ hP hD hS hf
          · have hf := (if_neg c3).symm.trans hf
            refine lv_iconst (pc := 48) (v := 1) hx hb dX7_warmthBehind_48 (by decide) ?_
            refine lv_goto (pc := 49) (tgt := 53) hx hb dX7_warmthBehind_49 (by decide) ?_
            exact B53 v8_4 v22_5 o22_0 (f_X7_warmthBehind_b22 k x2 x3 v8_4 n) ih 1 _ (lv_sub hl [0, 1, 2, 3, 4, 5] rfl) _ _ hP hD hS hf
  have B8 : ∀ (n : Nat), ∀ (v8_4 : Int32) (o8_0 : ObS) (ls : Array Slot), lv_has ls 7 [(0, .ref (a0 0)), (1, .int x1), (2, .int x2), (3, .int x3), (4, .int v8_4)] → ∀ (H : Heap) (locs : List Loc), va_P Z.1 vwCl (wX7 Z a0 o8_0) H → va_D A (wX7 Z a0 o8_0) → va_S A s.heap H locs → f_X7_warmthBehind_b8 x1 x2 x3 n v8_4 o8_0 = some R → W p l e { frames := 2, cells := 0, slots := 0, locals := 65 } s m ([.ref (a0 0), .int x1, .int x2, .int x3] : List Value).toArray below meth c H locs 0 0 (MQ below (rwQ Z (some (.int R.1)) (fun _ => wX7 Z a0 R.2) A) ([.ref (a0 0), .int x1, .int x2, .int x3] : List Value).toArray s 0 0 A) (F0 m 8 ls []) := by
    intro n
    induction n with
    | zero => intro v8_4 o8_0 ls hl H locs hP hD hS hf; rw [f_X7_warmthBehind_b8] at hf; exact nomatch hf
    | succ n ih =>
      intro v8_4 o8_0 ls hl H locs hP hD hS hf
      rw [f_X7_warmthBehind_b8] at hf
      refine lv_iload (pc := 8) hx hb dX7_warmthBehind_8 (lv_at hl 4 rfl) ?_
      refine lv_bipush (pc := 10) (v := 12) hx hb dX7_warmthBehind_10 (by decide) ?_
      refine lv_icmp_ge (pc := 12) (tgt := 115) hx hb dX7_warmthBehind_12 (by decide) (fun c1 => ?_) (fun c1 => ?_)
      · have hf := (if_pos c1).symm.trans hf
        refine lv_aload_n (pc := 115) hx hb dX7_warmthBehind_115 rfl (lv_at hl 0 rfl) ?_
        refine lv_iload_n (pc := 116) hx hb dX7_warmthBehind_116 rfl (lv_at hl 1 rfl) ?_
        obtain ⟨r117, h_117, hf⟩ := bd hf
        refine ro_V (pc := 117) (C := RX7) (As := [.int x1]) (rest := []) (st1 := [.int r117]) ⟨hx, hb, hml, hown, hts⟩ (c_X7_warmthOf Z l a0 o8_0 x1 r117 h_117) (cwV 1 hts gX7_warmthBehind_X7_warmthOf rfl rfl rfl hv_X7_warmthOf ⟨Nat.le_of_ble_eq_true rfl, Nat.le_of_ble_eq_true rfl⟩) hK hE hP 7 rfl rfl rfl hl.1 rfl (lv_room (Nat.le_of_ble_eq_true rfl)) dX7_warmthBehind_117 ⟨Nat.le_of_ble_eq_true rfl, Nat.le_of_ble_eq_true rfl⟩ rfl ?_
        refine lv_istore (pc := 120) (lv' := [(4, .int r117), (0, .ref (a0 0)), (1, .int x1), (2, .int x2), (3, .int x3)]) hx hb dX7_warmthBehind_120 hl (by decide) rfl (fun ls hl => ?_)
        refine lv_aload_n (pc := 122) hx hb dX7_warmthBehind_122 rfl (lv_at hl 1 rfl) ?_
        refine lv_iconst (pc := 123) (v := 1) hx hb dX7_warmthBehind_123 (by decide) ?_
        obtain ⟨r124, h_124, hf⟩ := bd hf
        refine rw_V (pc := 124) (C := RX7) (As := [.int 1]) (rest := []) (st1 := []) (wn := fun _ => wX7 Z a0 r124) ⟨hx, hb, hml, hown, hts⟩ (c_X7_keeps Z l a0 o8_0 1 r124 h_124) (cwV 1 hts gX7_warmthBehind_X7_keeps rfl rfl rfl hv_X7_keeps ⟨Nat.le_of_ble_eq_true rfl, Nat.le_of_ble_eq_true rfl⟩) hK hE hP hD hS hA [0, 1, 2, 3, 4, 5, 6, 7, 8, 9, 10, 11, 12, 13, 14, 15, 16, 17, 18, 19, 20, 21, 22, 23, 24, 25, 26, 27, 28, 29, 30, 31, 32, 33, 34, 35] [] [0, 1, 2, 3, 4, 5, 6, 7, 8, 9, 10, 11, 12, 13, 14, 15, 16, 17, 18, 19, 20, 21, 22, 23, 24, 25, 26, 27, 28, 29, 30, 31, 32, 33, 34, 35] rfl rfl rfl (fun _ => rfl) 7 rfl rfl rfl hl.1 rfl (lv_room (Nat.le_of_ble_eq_true rfl)) dX7_warmthBehind_124 ⟨Nat.le_of_ble_eq_true rfl, Nat.le_of_ble_eq_true rfl⟩ rfl (fun _ H locs hP hD hS => ?_)
        refine lv_iload (pc := 127) hx hb dX7_warmthBehind_127 (lv_at hl 0 rfl) ?_
        have hf := (Option.some.inj hf)
        subst hf
        exact rw_i (fun _ => 0) hx hb hr hlk rfl hP hD hS dX7_warmthBehind_129
      · have hf := (if_neg c1).symm.trans hf
        refine lv_aload_n (pc := 15) hx hb dX7_warmthBehind_15 rfl (lv_at hl 0 rfl) ?_
        obtain ⟨r16, h_16, hf⟩ := bd hf
        refine rw_V (pc := 16) (C := RX7) (As := []) (rest := []) (st1 := []) (wn := fun _ => wX7 Z a0 r16) ⟨hx, hb, hml, hown, hts⟩ (c_X7_ages Z l a0 o8_0 r16 h_16) (cwV 0 hts gX7_warmthBehind_X7_ages rfl rfl rfl hv_X7_ages ⟨Nat.le_of_ble_eq_true rfl, Nat.le_of_ble_eq_true rfl⟩) hK hE hP hD hS hA [0, 1, 2, 3, 4, 5, 6, 7, 8, 9, 10, 11, 12, 13, 14, 15, 16, 17, 18, 19, 20, 21, 22, 23, 24, 25, 26, 27, 28, 29, 30, 31, 32, 33, 34, 35] [] [0, 1, 2, 3, 4, 5, 6, 7, 8, 9, 10, 11, 12, 13, 14, 15, 16, 17, 18, 19, 20, 21, 22, 23, 24, 25, 26, 27, 28, 29, 30, 31, 32, 33, 34, 35] rfl rfl rfl (fun _ => rfl) 7 rfl rfl rfl hl.1 rfl (lv_room (Nat.le_of_ble_eq_true rfl)) dX7_warmthBehind_16 ⟨Nat.le_of_ble_eq_true rfl, Nat.le_of_ble_eq_true rfl⟩ rfl (fun _ H locs hP hD hS => ?_)
        refine lv_iconst (pc := 19) (v := 0) hx hb dX7_warmthBehind_19 (by decide) ?_
        refine lv_istore (pc := 20) (lv' := [(5, .int 0), (0, .ref (a0 0)), (1, .int x1), (2, .int x2), (3, .int x3), (4, .int v8_4)]) hx hb dX7_warmthBehind_20 hl (by decide) rfl (fun ls hl => ?_)
        exact B22 v8_4 (f_X7_warmthBehind_b8 x1 x2 x3 n) ih 64 0 r16 _ (lv_sub hl [1, 2, 3, 4, 5, 0] rfl) _ _ hP hD hS hf
  rw [f_X7_warmthBehind] at hf
  refine lv_aload_n (pc := 0) hx hb dX7_warmthBehind_0 rfl (lv_at hl 0 rfl) ?_
  refine lv_iconst (pc := 1) (v := 0) hx hb dX7_warmthBehind_1 (by decide) ?_
  obtain ⟨r2, h_2, hf⟩ := bd hf
  refine rw_V (pc := 2) (C := RX7) (As := [.int 0]) (rest := []) (st1 := []) (wn := fun _ => wX7 Z a0 r2) ⟨hx, hb, hml, hown, hts⟩ (c_X7_keeps Z l a0 o0 0 r2 h_2) (cwV 1 hts gX7_warmthBehind_X7_keeps rfl rfl rfl hv_X7_keeps ⟨Nat.le_of_ble_eq_true rfl, Nat.le_of_ble_eq_true rfl⟩) hK hE hP hD hS hA [0, 1, 2, 3, 4, 5, 6, 7, 8, 9, 10, 11, 12, 13, 14, 15, 16, 17, 18, 19, 20, 21, 22, 23, 24, 25, 26, 27, 28, 29, 30, 31, 32, 33, 34, 35] [] [0, 1, 2, 3, 4, 5, 6, 7, 8, 9, 10, 11, 12, 13, 14, 15, 16, 17, 18, 19, 20, 21, 22, 23, 24, 25, 26, 27, 28, 29, 30, 31, 32, 33, 34, 35] rfl rfl rfl (fun _ => rfl) 7 rfl rfl rfl hl.1 rfl (lv_room (Nat.le_of_ble_eq_true rfl)) dX7_warmthBehind_2 ⟨Nat.le_of_ble_eq_true rfl, Nat.le_of_ble_eq_true rfl⟩ rfl (fun _ H locs hP hD hS => ?_)
  refine lv_iconst (pc := 5) (v := 0) hx hb dX7_warmthBehind_5 (by decide) ?_
  refine lv_istore (pc := 6) (lv' := [(4, .int 0), (0, .ref (a0 0)), (1, .int x1), (2, .int x2), (3, .int x3)]) hx hb dX7_warmthBehind_6 hl (by decide) rfl (fun ls hl => ?_)
  exact B8 64 0 r2 _ (lv_sub hl [1, 2, 3, 4, 0] rfl) _ _ hP hD hS hf
def f_X7_gainOf (o0 : ObS) (x1 : Int32) (x2 : Int32) : Option (Int32 × ObS) :=
  (f_X7_warmthBehind o0 x2 x1 1).bind fun r4 =>
  (f_X7_warmthBehind r4.2 x2 x1 0).bind fun r11 =>
  some (r4.1 - r11.1, r11.2)
set_option maxHeartbeats 4000000 in
set_option maxRecDepth 100000 in
theorem c_X7_gainOf (Z : EnvT) (l : Launch) (a0 : Nat → Nat) (o0 : ObS) (x1 : Int32) (x2 : Int32) (R : Int32 × ObS) (hf : f_X7_gainOf o0 x1 x2 = some R) : RW Z l yX7_gainOf wsX7_gainOf { frames := 3, cells := 0, slots := 0, locals := 91 } [.ref (a0 0), .int x1, .int x2] (wX7 Z a0 o0) (some (.int R.1)) (fun _ => wX7 Z a0 R.2) 0 0 := by
  refine rw_of (cc := cX7_gainOf) (maxL := 3) (ret := (some .int)) (by decide) rfl (Nat.le_of_ble_eq_true rfl) ?_
  intro p e s m below meth c A ls hx hb hr hml hts hown hlk hin hP hK hE hD hA hS hl
  have hown : s.vm.findClass RX7 = some m.cls := hown
  have hl : lv_has ls 3 [(0, .ref (a0 0)), (1, .int x1), (2, .int x2)] := hl
  rw [f_X7_gainOf] at hf
  refine lv_aload_n (pc := 0) hx hb dX7_gainOf_0 rfl (lv_at hl 0 rfl) ?_
  refine lv_iload_n (pc := 1) hx hb dX7_gainOf_1 rfl (lv_at hl 2 rfl) ?_
  refine lv_iload_n (pc := 2) hx hb dX7_gainOf_2 rfl (lv_at hl 1 rfl) ?_
  refine lv_iconst (pc := 3) (v := 1) hx hb dX7_gainOf_3 (by decide) ?_
  obtain ⟨r4, h_4, hf⟩ := bd hf
  refine rw_V (pc := 4) (C := RX7) (As := [.int x2, .int x1, .int 1]) (rest := []) (st1 := [.int r4.1]) (wn := fun _ => wX7 Z a0 r4.2) ⟨hx, hb, hml, hown, hts⟩ (c_X7_warmthBehind Z l a0 o0 x2 x1 1 r4 h_4) (cwV 3 hts gX7_gainOf_X7_warmthBehind rfl rfl rfl hv_X7_warmthBehind ⟨Nat.le_of_ble_eq_true rfl, Nat.le_of_ble_eq_true rfl⟩) hK hE hP hD hS hA [0, 1, 2, 3, 4, 5, 6, 7, 8, 9, 10, 11, 12, 13, 14, 15, 16, 17, 18, 19, 20, 21, 22, 23, 24, 25, 26, 27, 28, 29, 30, 31, 32, 33, 34, 35] [] [0, 1, 2, 3, 4, 5, 6, 7, 8, 9, 10, 11, 12, 13, 14, 15, 16, 17, 18, 19, 20, 21, 22, 23, 24, 25, 26, 27, 28, 29, 30, 31, 32, 33, 34, 35] rfl rfl rfl (fun _ => rfl) 7 rfl rfl rfl hl.1 rfl (lv_room (Nat.le_of_ble_eq_true rfl)) dX7_gainOf_4 ⟨Nat.le_of_ble_eq_true rfl, Nat.le_of_ble_eq_true rfl⟩ rfl (fun _ H locs hP hD hS => ?_)
  refine lv_aload_n (pc := 7) hx hb dX7_gainOf_7 rfl (lv_at hl 0 rfl) ?_
  refine lv_iload_n (pc := 8) hx hb dX7_gainOf_8 rfl (lv_at hl 2 rfl) ?_
  refine lv_iload_n (pc := 9) hx hb dX7_gainOf_9 rfl (lv_at hl 1 rfl) ?_
  refine lv_iconst (pc := 10) (v := 0) hx hb dX7_gainOf_10 (by decide) ?_
  obtain ⟨r11, h_11, hf⟩ := bd hf
  refine rw_V (pc := 11) (C := RX7) (As := [.int x2, .int x1, .int 0]) (rest := [.int r4.1]) (st1 := [.int r11.1, .int r4.1]) (wn := fun _ => wX7 Z a0 r11.2) ⟨hx, hb, hml, hown, hts⟩ (c_X7_warmthBehind Z l a0 r4.2 x2 x1 0 r11 h_11) (cwV 3 hts gX7_gainOf_X7_warmthBehind rfl rfl rfl hv_X7_warmthBehind ⟨Nat.le_of_ble_eq_true rfl, Nat.le_of_ble_eq_true rfl⟩) hK hE hP hD hS hA [0, 1, 2, 3, 4, 5, 6, 7, 8, 9, 10, 11, 12, 13, 14, 15, 16, 17, 18, 19, 20, 21, 22, 23, 24, 25, 26, 27, 28, 29, 30, 31, 32, 33, 34, 35] [] [0, 1, 2, 3, 4, 5, 6, 7, 8, 9, 10, 11, 12, 13, 14, 15, 16, 17, 18, 19, 20, 21, 22, 23, 24, 25, 26, 27, 28, 29, 30, 31, 32, 33, 34, 35] rfl rfl rfl (fun _ => rfl) 7 rfl rfl rfl hl.1 rfl (lv_room (Nat.le_of_ble_eq_true rfl)) dX7_gainOf_11 ⟨Nat.le_of_ble_eq_true rfl, Nat.le_of_ble_eq_true rfl⟩ rfl (fun _ H locs hP hD hS => ?_)
  refine lv_isub (pc := 14) hx hb dX7_gainOf_14 ?_
  have hf := (Option.some.inj hf)
  subst hf
  exact rw_i (fun _ => 0) hx hb hr hlk rfl hP hD hS dX7_gainOf_15
def f_X7_gain (o0 : ObS) (x1 : Int32) (x2 : Int32) : Option (Int32 × ObS) :=
  (f_X7_isUnit o0 x1).bind fun r3 =>
  if r3 = (0 : Int32) then
    (f_X7_holds o0 1).bind fun r22 =>
    if r22.1 = (0 : Int32) then
      some ((0 : Int32), r22.2)
    else
      (f_X7_gainOf r22.2 x1 x2).bind fun r31 =>
      some (r31.1, r31.2)
  else
    (f_X7_isStream o0 x2).bind fun r11 =>
    if r11 = (0 : Int32) then
      (f_X7_holds o0 1).bind fun r22 =>
      if r22.1 = (0 : Int32) then
        some ((0 : Int32), r22.2)
      else
        (f_X7_gainOf r22.2 x1 x2).bind fun r31 =>
        some (r31.1, r31.2)
    else
      (f_X7_holds o0 0).bind fun r22 =>
      if r22.1 = (0 : Int32) then
        some ((0 : Int32), r22.2)
      else
        (f_X7_gainOf r22.2 x1 x2).bind fun r31 =>
        some (r31.1, r31.2)
set_option maxHeartbeats 4000000 in
set_option maxRecDepth 100000 in
theorem c_X7_gain (Z : EnvT) (l : Launch) (a0 : Nat → Nat) (o0 : ObS) (x1 : Int32) (x2 : Int32) (R : Int32 × ObS) (hf : f_X7_gain o0 x1 x2 = some R) : RW Z l yX7_gain wsX7_gain { frames := 4, cells := 0, slots := 0, locals := 113 } [.ref (a0 0), .int x1, .int x2] (wX7 Z a0 o0) (some (.int R.1)) (fun _ => wX7 Z a0 R.2) 0 0 := by
  refine rw_of (cc := cX7_gain) (maxL := 3) (ret := (some .int)) (by decide) rfl (Nat.le_of_ble_eq_true rfl) ?_
  intro p e s m below meth c A ls hx hb hr hml hts hown hlk hin hP hK hE hD hA hS hl
  have hown : s.vm.findClass RX7 = some m.cls := hown
  have hl : lv_has ls 3 [(0, .ref (a0 0)), (1, .int x1), (2, .int x2)] := hl
  rw [f_X7_gain] at hf
  refine lv_aload_n (pc := 0) hx hb dX7_gain_0 rfl (lv_at hl 0 rfl) ?_
  refine lv_aload_n (pc := 1) hx hb dX7_gain_1 rfl (lv_at hl 0 rfl) ?_
  refine lv_iload_n (pc := 2) hx hb dX7_gain_2 rfl (lv_at hl 1 rfl) ?_
  obtain ⟨r3, h_3, hf⟩ := bd hf
  refine ro_V (pc := 3) (C := RX7) (As := [.int x1]) (rest := [.ref (a0 0)]) (st1 := [.int r3, .ref (a0 0)]) ⟨hx, hb, hml, hown, hts⟩ (c_X7_isUnit Z l a0 o0 x1 r3 h_3) (cwV 1 hts gX7_gain_X7_isUnit rfl rfl rfl hv_X7_isUnit ⟨Nat.le_of_ble_eq_true rfl, Nat.le_of_ble_eq_true rfl⟩) hK hE hP 7 rfl rfl rfl hl.1 rfl (lv_room (Nat.le_of_ble_eq_true rfl)) dX7_gain_3 ⟨Nat.le_of_ble_eq_true rfl, Nat.le_of_ble_eq_true rfl⟩ rfl ?_
  refine lv_if_eq (pc := 6) (tgt := 21) hx hb dX7_gain_6 (by decide) (fun c1 => ?_) (fun c1 => ?_)
  · have hf := (if_pos c1).symm.trans hf
    refine lv_iconst (pc := 21) (v := 1) hx hb dX7_gain_21 (by decide) ?_
    obtain ⟨r22, h_22, hf⟩ := bd hf
    refine rw_V (pc := 22) (C := RX7) (As := [.int 1]) (rest := []) (st1 := [.int r22.1]) (wn := fun _ => wX7 Z a0 r22.2) ⟨hx, hb, hml, hown, hts⟩ (c_X7_holds Z l a0 o0 1 r22 h_22) (cwV 1 hts gX7_gain_X7_holds rfl rfl rfl hv_X7_holds ⟨Nat.le_of_ble_eq_true rfl, Nat.le_of_ble_eq_true rfl⟩) hK hE hP hD hS hA [0, 1, 2, 3, 4, 5, 6, 7, 8, 9, 10, 11, 12, 13, 14, 15, 16, 17, 18, 19, 20, 21, 22, 23, 24, 25, 26, 27, 28, 29, 30, 31, 32, 33, 34, 35] [] [0, 1, 2, 3, 4, 5, 6, 7, 8, 9, 10, 11, 12, 13, 14, 15, 16, 17, 18, 19, 20, 21, 22, 23, 24, 25, 26, 27, 28, 29, 30, 31, 32, 33, 34, 35] rfl rfl rfl (fun _ => rfl) 7 rfl rfl rfl hl.1 rfl (lv_room (Nat.le_of_ble_eq_true rfl)) dX7_gain_22 ⟨Nat.le_of_ble_eq_true rfl, Nat.le_of_ble_eq_true rfl⟩ rfl (fun _ H locs hP hD hS => ?_)
    refine lv_if_eq (pc := 25) (tgt := 37) hx hb dX7_gain_25 (by decide) (fun c2 => ?_) (fun c2 => ?_)
    · have hf := (if_pos c2).symm.trans hf
      refine lv_iconst (pc := 37) (v := 0) hx hb dX7_gain_37 (by decide) ?_
      have hf := (Option.some.inj hf)
      subst hf
      exact rw_i (fun _ => 0) hx hb hr hlk rfl hP hD hS dX7_gain_38
    · have hf := (if_neg c2).symm.trans hf
      refine lv_aload_n (pc := 28) hx hb dX7_gain_28 rfl (lv_at hl 0 rfl) ?_
      refine lv_iload_n (pc := 29) hx hb dX7_gain_29 rfl (lv_at hl 1 rfl) ?_
      refine lv_iload_n (pc := 30) hx hb dX7_gain_30 rfl (lv_at hl 2 rfl) ?_
      obtain ⟨r31, h_31, hf⟩ := bd hf
      refine rw_V (pc := 31) (C := RX7) (As := [.int x1, .int x2]) (rest := []) (st1 := [.int r31.1]) (wn := fun _ => wX7 Z a0 r31.2) ⟨hx, hb, hml, hown, hts⟩ (c_X7_gainOf Z l a0 r22.2 x1 x2 r31 h_31) (cwV 2 hts gX7_gain_X7_gainOf rfl rfl rfl hv_X7_gainOf ⟨Nat.le_of_ble_eq_true rfl, Nat.le_of_ble_eq_true rfl⟩) hK hE hP hD hS hA [0, 1, 2, 3, 4, 5, 6, 7, 8, 9, 10, 11, 12, 13, 14, 15, 16, 17, 18, 19, 20, 21, 22, 23, 24, 25, 26, 27, 28, 29, 30, 31, 32, 33, 34, 35] [] [0, 1, 2, 3, 4, 5, 6, 7, 8, 9, 10, 11, 12, 13, 14, 15, 16, 17, 18, 19, 20, 21, 22, 23, 24, 25, 26, 27, 28, 29, 30, 31, 32, 33, 34, 35] rfl rfl rfl (fun _ => rfl) 7 rfl rfl rfl hl.1 rfl (lv_room (Nat.le_of_ble_eq_true rfl)) dX7_gain_31 ⟨Nat.le_of_ble_eq_true rfl, Nat.le_of_ble_eq_true rfl⟩ rfl (fun _ H locs hP hD hS => ?_)
      refine lv_goto (pc := 34) (tgt := 38) hx hb dX7_gain_34 (by decide) ?_
      have hf := (Option.some.inj hf)
      subst hf
      exact rw_i (fun _ => 0) hx hb hr hlk rfl hP hD hS dX7_gain_38
  · have hf := (if_neg c1).symm.trans hf
    refine lv_aload_n (pc := 9) hx hb dX7_gain_9 rfl (lv_at hl 0 rfl) ?_
    refine lv_iload_n (pc := 10) hx hb dX7_gain_10 rfl (lv_at hl 2 rfl) ?_
    obtain ⟨r11, h_11, hf⟩ := bd hf
    refine ro_V (pc := 11) (C := RX7) (As := [.int x2]) (rest := [.ref (a0 0)]) (st1 := [.int r11, .ref (a0 0)]) ⟨hx, hb, hml, hown, hts⟩ (c_X7_isStream Z l a0 o0 x2 r11 h_11) (cwV 1 hts gX7_gain_X7_isStream rfl rfl rfl hv_X7_isStream ⟨Nat.le_of_ble_eq_true rfl, Nat.le_of_ble_eq_true rfl⟩) hK hE hP 7 rfl rfl rfl hl.1 rfl (lv_room (Nat.le_of_ble_eq_true rfl)) dX7_gain_11 ⟨Nat.le_of_ble_eq_true rfl, Nat.le_of_ble_eq_true rfl⟩ rfl ?_
    refine lv_if_eq (pc := 14) (tgt := 21) hx hb dX7_gain_14 (by decide) (fun c3 => ?_) (fun c3 => ?_)
    · have hf := (if_pos c3).symm.trans hf
      refine lv_iconst (pc := 21) (v := 1) hx hb dX7_gain_21 (by decide) ?_
      obtain ⟨r22, h_22, hf⟩ := bd hf
      refine rw_V (pc := 22) (C := RX7) (As := [.int 1]) (rest := []) (st1 := [.int r22.1]) (wn := fun _ => wX7 Z a0 r22.2) ⟨hx, hb, hml, hown, hts⟩ (c_X7_holds Z l a0 o0 1 r22 h_22) (cwV 1 hts gX7_gain_X7_holds rfl rfl rfl hv_X7_holds ⟨Nat.le_of_ble_eq_true rfl, Nat.le_of_ble_eq_true rfl⟩) hK hE hP hD hS hA [0, 1, 2, 3, 4, 5, 6, 7, 8, 9, 10, 11, 12, 13, 14, 15, 16, 17, 18, 19, 20, 21, 22, 23, 24, 25, 26, 27, 28, 29, 30, 31, 32, 33, 34, 35] [] [0, 1, 2, 3, 4, 5, 6, 7, 8, 9, 10, 11, 12, 13, 14, 15, 16, 17, 18, 19, 20, 21, 22, 23, 24, 25, 26, 27, 28, 29, 30, 31, 32, 33, 34, 35] rfl rfl rfl (fun _ => rfl) 7 rfl rfl rfl hl.1 rfl (lv_room (Nat.le_of_ble_eq_true rfl)) dX7_gain_22 ⟨Nat.le_of_ble_eq_true rfl, Nat.le_of_ble_eq_true rfl⟩ rfl (fun _ H locs hP hD hS => ?_)
      refine lv_if_eq (pc := 25) (tgt := 37) hx hb dX7_gain_25 (by decide) (fun c4 => ?_) (fun c4 => ?_)
      · have hf := (if_pos c4).symm.trans hf
        refine lv_iconst (pc := 37) (v := 0) hx hb dX7_gain_37 (by decide) ?_
        have hf := (Option.some.inj hf)
        subst hf
        exact rw_i (fun _ => 0) hx hb hr hlk rfl hP hD hS dX7_gain_38
      · have hf := (if_neg c4).symm.trans hf
        refine lv_aload_n (pc := 28) hx hb dX7_gain_28 rfl (lv_at hl 0 rfl) ?_
        refine lv_iload_n (pc := 29) hx hb dX7_gain_29 rfl (lv_at hl 1 rfl) ?_
        refine lv_iload_n (pc := 30) hx hb dX7_gain_30 rfl (lv_at hl 2 rfl) ?_
        obtain ⟨r31, h_31, hf⟩ := bd hf
        refine rw_V (pc := 31) (C := RX7) (As := [.int x1, .int x2]) (rest := []) (st1 := [.int r31.1]) (wn := fun _ => wX7 Z a0 r31.2) ⟨hx, hb, hml, hown, hts⟩ (c_X7_gainOf Z l a0 r22.2 x1 x2 r31 h_31) (cwV 2 hts gX7_gain_X7_gainOf rfl rfl rfl hv_X7_gainOf ⟨Nat.le_of_ble_eq_true rfl, Nat.le_of_ble_eq_true rfl⟩) hK hE hP hD hS hA [0, 1, 2, 3, 4, 5, 6, 7, 8, 9, 10, 11, 12, 13, 14, 15, 16, 17, 18, 19, 20, 21, 22, 23, 24, 25, 26, 27, 28, 29, 30, 31, 32, 33, 34, 35] [] [0, 1, 2, 3, 4, 5, 6, 7, 8, 9, 10, 11, 12, 13, 14, 15, 16, 17, 18, 19, 20, 21, 22, 23, 24, 25, 26, 27, 28, 29, 30, 31, 32, 33, 34, 35] rfl rfl rfl (fun _ => rfl) 7 rfl rfl rfl hl.1 rfl (lv_room (Nat.le_of_ble_eq_true rfl)) dX7_gain_31 ⟨Nat.le_of_ble_eq_true rfl, Nat.le_of_ble_eq_true rfl⟩ rfl (fun _ H locs hP hD hS => ?_)
        refine lv_goto (pc := 34) (tgt := 38) hx hb dX7_gain_34 (by decide) ?_
        have hf := (Option.some.inj hf)
        subst hf
        exact rw_i (fun _ => 0) hx hb hr hlk rfl hP hD hS dX7_gain_38
    · have hf := (if_neg c3).symm.trans hf
      refine lv_iconst (pc := 17) (v := 0) hx hb dX7_gain_17 (by decide) ?_
      refine lv_goto (pc := 18) (tgt := 22) hx hb dX7_gain_18 (by decide) ?_
      obtain ⟨r22, h_22, hf⟩ := bd hf
      refine rw_V (pc := 22) (C := RX7) (As := [.int 0]) (rest := []) (st1 := [.int r22.1]) (wn := fun _ => wX7 Z a0 r22.2) ⟨hx, hb, hml, hown, hts⟩ (c_X7_holds Z l a0 o0 0 r22 h_22) (cwV 1 hts gX7_gain_X7_holds rfl rfl rfl hv_X7_holds ⟨Nat.le_of_ble_eq_true rfl, Nat.le_of_ble_eq_true rfl⟩) hK hE hP hD hS hA [0, 1, 2, 3, 4, 5, 6, 7, 8, 9, 10, 11, 12, 13, 14, 15, 16, 17, 18, 19, 20, 21, 22, 23, 24, 25, 26, 27, 28, 29, 30, 31, 32, 33, 34, 35] [] [0, 1, 2, 3, 4, 5, 6, 7, 8, 9, 10, 11, 12, 13, 14, 15, 16, 17, 18, 19, 20, 21, 22, 23, 24, 25, 26, 27, 28, 29, 30, 31, 32, 33, 34, 35] rfl rfl rfl (fun _ => rfl) 7 rfl rfl rfl hl.1 rfl (lv_room (Nat.le_of_ble_eq_true rfl)) dX7_gain_22 ⟨Nat.le_of_ble_eq_true rfl, Nat.le_of_ble_eq_true rfl⟩ rfl (fun _ H locs hP hD hS => ?_)
      refine lv_if_eq (pc := 25) (tgt := 37) hx hb dX7_gain_25 (by decide) (fun c5 => ?_) (fun c5 => ?_)
      · have hf := (if_pos c5).symm.trans hf
        refine lv_iconst (pc := 37) (v := 0) hx hb dX7_gain_37 (by decide) ?_
        have hf := (Option.some.inj hf)
        subst hf
        exact rw_i (fun _ => 0) hx hb hr hlk rfl hP hD hS dX7_gain_38
      · have hf := (if_neg c5).symm.trans hf
        refine lv_aload_n (pc := 28) hx hb dX7_gain_28 rfl (lv_at hl 0 rfl) ?_
        refine lv_iload_n (pc := 29) hx hb dX7_gain_29 rfl (lv_at hl 1 rfl) ?_
        refine lv_iload_n (pc := 30) hx hb dX7_gain_30 rfl (lv_at hl 2 rfl) ?_
        obtain ⟨r31, h_31, hf⟩ := bd hf
        refine rw_V (pc := 31) (C := RX7) (As := [.int x1, .int x2]) (rest := []) (st1 := [.int r31.1]) (wn := fun _ => wX7 Z a0 r31.2) ⟨hx, hb, hml, hown, hts⟩ (c_X7_gainOf Z l a0 r22.2 x1 x2 r31 h_31) (cwV 2 hts gX7_gain_X7_gainOf rfl rfl rfl hv_X7_gainOf ⟨Nat.le_of_ble_eq_true rfl, Nat.le_of_ble_eq_true rfl⟩) hK hE hP hD hS hA [0, 1, 2, 3, 4, 5, 6, 7, 8, 9, 10, 11, 12, 13, 14, 15, 16, 17, 18, 19, 20, 21, 22, 23, 24, 25, 26, 27, 28, 29, 30, 31, 32, 33, 34, 35] [] [0, 1, 2, 3, 4, 5, 6, 7, 8, 9, 10, 11, 12, 13, 14, 15, 16, 17, 18, 19, 20, 21, 22, 23, 24, 25, 26, 27, 28, 29, 30, 31, 32, 33, 34, 35] rfl rfl rfl (fun _ => rfl) 7 rfl rfl rfl hl.1 rfl (lv_room (Nat.le_of_ble_eq_true rfl)) dX7_gain_31 ⟨Nat.le_of_ble_eq_true rfl, Nat.le_of_ble_eq_true rfl⟩ rfl (fun _ H locs hP hD hS => ?_)
        refine lv_goto (pc := 34) (tgt := 38) hx hb dX7_gain_34 (by decide) ?_
        have hf := (Option.some.inj hf)
        subst hf
        exact rw_i (fun _ => 0) hx hb hr hlk rfl hP hD hS dX7_gain_38
def f_X7_relative_b51 (o0 : ObS) (x1 : Int32) (x2 : Int32) (x3 : Int32) (x4 : Int32) (k51_0 : Int32) : Option (Int32 × ObS) :=
  (f_X7_holds o0 k51_0).bind fun r51 =>
  if r51.1 = (0 : Int32) then
    some ((0 : Int32), r51.2)
  else
    (f_X7_gainOf r51.2 x1 x3).bind fun r62 =>
    (f_X7_gainOf r62.2 x2 x4).bind fun r70 =>
    (f_X7_gainOf r70.2 x1 x4).bind fun r83 =>
    (f_X7_gainOf r83.2 x2 x3).bind fun r90 =>
    if (lg_cmp ((((r62.1).toInt64) * ((r70.1).toInt64)) - (((r83.1).toInt64) * ((r90.1).toInt64))) 0) = (0 : Int32) then
      some ((-100000 : Int32), r90.2)
    else
      if decide (¬ ((((r62.1).toInt64) * ((r70.1).toInt64)) - (((r83.1).toInt64) * ((r90.1).toInt64))) = (0 : Int64)) then
      some (((100 * (((r62.1).toInt64) * ((r70.1).toInt64))) / ((((r62.1).toInt64) * ((r70.1).toInt64)) - (((r83.1).toInt64) * ((r90.1).toInt64)))).toInt32, r90.2)
      else none
def f_X7_relative_b38 (o0 : ObS) (x1 : Int32) (x2 : Int32) (x3 : Int32) (x4 : Int32) (k38_0 : Int32) : Option (Int32 × ObS) :=
  if k38_0 = (0 : Int32) then
    f_X7_relative_b51 o0 x1 x2 x3 x4 1
  else
    f_X7_relative_b51 o0 x1 x2 x3 x4 0
def f_X7_relative_b37 (o0 : ObS) (x1 : Int32) (x2 : Int32) (x3 : Int32) (x4 : Int32)  : Option (Int32 × ObS) :=
  f_X7_relative_b38 o0 x1 x2 x3 x4 0
def f_X7_relative (o0 : ObS) (x1 : Int32) (x2 : Int32) (x3 : Int32) (x4 : Int32) : Option (Int32 × ObS) :=
  (f_X7_isUnit o0 x1).bind fun r2 =>
  if r2 = (0 : Int32) then
    f_X7_relative_b37 o0 x1 x2 x3 x4
  else
    (f_X7_isUnit o0 x2).bind fun r10 =>
    if r10 = (0 : Int32) then
      f_X7_relative_b37 o0 x1 x2 x3 x4
    else
      (f_X7_isStream o0 x3).bind fun r18 =>
      if r18 = (0 : Int32) then
        f_X7_relative_b37 o0 x1 x2 x3 x4
      else
        (f_X7_isStream o0 x4).bind fun r27 =>
        if r27 = (0 : Int32) then
          f_X7_relative_b37 o0 x1 x2 x3 x4
        else
          f_X7_relative_b38 o0 x1 x2 x3 x4 1
set_option maxHeartbeats 4000000 in
set_option maxRecDepth 100000 in
theorem c_X7_relative (Z : EnvT) (l : Launch) (a0 : Nat → Nat) (o0 : ObS) (x1 : Int32) (x2 : Int32) (x3 : Int32) (x4 : Int32) (R : Int32 × ObS) (hf : f_X7_relative o0 x1 x2 x3 x4 = some R) : RW Z l yX7_relative wsX7_relative { frames := 4, cells := 0, slots := 0, locals := 113 } [.ref (a0 0), .int x1, .int x2, .int x3, .int x4] (wX7 Z a0 o0) (some (.int R.1)) (fun _ => wX7 Z a0 R.2) 0 0 := by
  refine rw_of (cc := cX7_relative) (maxL := 10) (ret := (some .int)) (by decide) rfl (Nat.le_of_ble_eq_true rfl) ?_
  intro p e s m below meth c A ls hx hb hr hml hts hown hlk hin hP hK hE hD hA hS hl
  have hown : s.vm.findClass RX7 = some m.cls := hown
  have hl : lv_has ls 10 [(0, .ref (a0 0)), (1, .int x1), (2, .int x2), (3, .int x3), (4, .int x4)] := hl
  have w0 := hts (.constantLong RX7 191 (100)) (by decide +kernel)
  have w1 := hts (.constant RX7 254 (-100000)) (by decide +kernel)
  have B51 : ∀ (k51_0 : Int32) (ls : Array Slot), lv_has ls 10 [(0, .ref (a0 0)), (1, .int x1), (2, .int x2), (3, .int x3), (4, .int x4)] → ∀ (H : Heap) (locs : List Loc), va_P Z.1 vwCl (wX7 Z a0 o0) H → va_D A (wX7 Z a0 o0) → va_S A s.heap H locs → f_X7_relative_b51 o0 x1 x2 x3 x4 k51_0 = some R → W p l e { frames := 4, cells := 0, slots := 0, locals := 113 } s m ([.ref (a0 0), .int x1, .int x2, .int x3, .int x4] : List Value).toArray below meth c H locs 0 0 (MQ below (rwQ Z (some (.int R.1)) (fun _ => wX7 Z a0 R.2) A) ([.ref (a0 0), .int x1, .int x2, .int x3, .int x4] : List Value).toArray s 0 0 A) (F0 m 51 ls [.int k51_0, .ref (a0 0)]) := by
    intro k51_0 ls hl H locs hP hD hS hf
    rw [f_X7_relative_b51] at hf
    obtain ⟨r51, h_51, hf⟩ := bd hf
    refine rw_V (pc := 51) (C := RX7) (As := [.int k51_0]) (rest := []) (st1 := [.int r51.1]) (wn := fun _ => wX7 Z a0 r51.2) ⟨hx, hb, hml, hown, hts⟩ (c_X7_holds Z l a0 o0 k51_0 r51 h_51) (cwV 1 hts gX7_relative_X7_holds rfl rfl rfl hv_X7_holds ⟨Nat.le_of_ble_eq_true rfl, Nat.le_of_ble_eq_true rfl⟩) hK hE hP hD hS hA [0, 1, 2, 3, 4, 5, 6, 7, 8, 9, 10, 11, 12, 13, 14, 15, 16, 17, 18, 19, 20, 21, 22, 23, 24, 25, 26, 27, 28, 29, 30, 31, 32, 33, 34, 35] [] [0, 1, 2, 3, 4, 5, 6, 7, 8, 9, 10, 11, 12, 13, 14, 15, 16, 17, 18, 19, 20, 21, 22, 23, 24, 25, 26, 27, 28, 29, 30, 31, 32, 33, 34, 35] rfl rfl rfl (fun _ => rfl) 7 rfl rfl rfl hl.1 rfl (lv_room (Nat.le_of_ble_eq_true rfl)) dX7_relative_51 ⟨Nat.le_of_ble_eq_true rfl, Nat.le_of_ble_eq_true rfl⟩ rfl (fun _ H locs hP hD hS => ?_)
    refine lv_if_ne (pc := 54) (tgt := 59) hx hb dX7_relative_54 (by decide) (fun c1 => ?_) (fun c1 => ?_)
    · have hf := (if_neg c1).symm.trans hf
      refine lv_aload_n (pc := 59) hx hb dX7_relative_59 rfl (lv_at hl 0 rfl) ?_
      refine lv_iload_n (pc := 60) hx hb dX7_relative_60 rfl (lv_at hl 1 rfl) ?_
      refine lv_iload_n (pc := 61) hx hb dX7_relative_61 rfl (lv_at hl 3 rfl) ?_
      obtain ⟨r62, h_62, hf⟩ := bd hf
      refine rw_V (pc := 62) (C := RX7) (As := [.int x1, .int x3]) (rest := []) (st1 := [.int r62.1]) (wn := fun _ => wX7 Z a0 r62.2) ⟨hx, hb, hml, hown, hts⟩ (c_X7_gainOf Z l a0 r51.2 x1 x3 r62 h_62) (cwV 2 hts gX7_relative_X7_gainOf rfl rfl rfl hv_X7_gainOf ⟨Nat.le_of_ble_eq_true rfl, Nat.le_of_ble_eq_true rfl⟩) hK hE hP hD hS hA [0, 1, 2, 3, 4, 5, 6, 7, 8, 9, 10, 11, 12, 13, 14, 15, 16, 17, 18, 19, 20, 21, 22, 23, 24, 25, 26, 27, 28, 29, 30, 31, 32, 33, 34, 35] [] [0, 1, 2, 3, 4, 5, 6, 7, 8, 9, 10, 11, 12, 13, 14, 15, 16, 17, 18, 19, 20, 21, 22, 23, 24, 25, 26, 27, 28, 29, 30, 31, 32, 33, 34, 35] rfl rfl rfl (fun _ => rfl) 7 rfl rfl rfl hl.1 rfl (lv_room (Nat.le_of_ble_eq_true rfl)) dX7_relative_62 ⟨Nat.le_of_ble_eq_true rfl, Nat.le_of_ble_eq_true rfl⟩ rfl (fun _ H locs hP hD hS => ?_)
      refine lv_i2l (pc := 65) (v := (r62.1).toInt64) hx hb dX7_relative_65 rfl ?_
      refine lv_aload_n (pc := 66) hx hb dX7_relative_66 rfl (lv_at hl 0 rfl) ?_
      refine lv_iload_n (pc := 67) hx hb dX7_relative_67 rfl (lv_at hl 2 rfl) ?_
      refine lv_iload (pc := 68) hx hb dX7_relative_68 (lv_at hl 4 rfl) ?_
      obtain ⟨r70, h_70, hf⟩ := bd hf
      refine rw_V (pc := 70) (C := RX7) (As := [.int x2, .int x4]) (rest := [.long ((r62.1).toInt64)]) (st1 := [.int r70.1, .long ((r62.1).toInt64)]) (wn := fun _ => wX7 Z a0 r70.2) ⟨hx, hb, hml, hown, hts⟩ (c_X7_gainOf Z l a0 r62.2 x2 x4 r70 h_70) (cwV 2 hts gX7_relative_X7_gainOf rfl rfl rfl hv_X7_gainOf ⟨Nat.le_of_ble_eq_true rfl, Nat.le_of_ble_eq_true rfl⟩) hK hE hP hD hS hA [0, 1, 2, 3, 4, 5, 6, 7, 8, 9, 10, 11, 12, 13, 14, 15, 16, 17, 18, 19, 20, 21, 22, 23, 24, 25, 26, 27, 28, 29, 30, 31, 32, 33, 34, 35] [] [0, 1, 2, 3, 4, 5, 6, 7, 8, 9, 10, 11, 12, 13, 14, 15, 16, 17, 18, 19, 20, 21, 22, 23, 24, 25, 26, 27, 28, 29, 30, 31, 32, 33, 34, 35] rfl rfl rfl (fun _ => rfl) 7 rfl rfl rfl hl.1 rfl (lv_room (Nat.le_of_ble_eq_true rfl)) dX7_relative_70 ⟨Nat.le_of_ble_eq_true rfl, Nat.le_of_ble_eq_true rfl⟩ rfl (fun _ H locs hP hD hS => ?_)
      refine lv_i2l (pc := 73) (v := (r70.1).toInt64) hx hb dX7_relative_73 rfl ?_
      refine lv_lmul (pc := 74) hx hb dX7_relative_74 ?_
      refine lv_lstore (pc := 75) (lv' := [(6, .long (((r62.1).toInt64) * ((r70.1).toInt64))), (0, .ref (a0 0)), (1, .int x1), (2, .int x2), (3, .int x3), (4, .int x4)]) hx hb dX7_relative_75 hl (by decide) rfl (fun ls hl => ?_)
      refine lv_lload (pc := 77) hx hb dX7_relative_77 (lv_at hl 0 rfl) ?_
      refine lv_aload_n (pc := 79) hx hb dX7_relative_79 rfl (lv_at hl 1 rfl) ?_
      refine lv_iload_n (pc := 80) hx hb dX7_relative_80 rfl (lv_at hl 2 rfl) ?_
      refine lv_iload (pc := 81) hx hb dX7_relative_81 (lv_at hl 5 rfl) ?_
      obtain ⟨r83, h_83, hf⟩ := bd hf
      refine rw_V (pc := 83) (C := RX7) (As := [.int x1, .int x4]) (rest := [.long (((r62.1).toInt64) * ((r70.1).toInt64))]) (st1 := [.int r83.1, .long (((r62.1).toInt64) * ((r70.1).toInt64))]) (wn := fun _ => wX7 Z a0 r83.2) ⟨hx, hb, hml, hown, hts⟩ (c_X7_gainOf Z l a0 r70.2 x1 x4 r83 h_83) (cwV 2 hts gX7_relative_X7_gainOf rfl rfl rfl hv_X7_gainOf ⟨Nat.le_of_ble_eq_true rfl, Nat.le_of_ble_eq_true rfl⟩) hK hE hP hD hS hA [0, 1, 2, 3, 4, 5, 6, 7, 8, 9, 10, 11, 12, 13, 14, 15, 16, 17, 18, 19, 20, 21, 22, 23, 24, 25, 26, 27, 28, 29, 30, 31, 32, 33, 34, 35] [] [0, 1, 2, 3, 4, 5, 6, 7, 8, 9, 10, 11, 12, 13, 14, 15, 16, 17, 18, 19, 20, 21, 22, 23, 24, 25, 26, 27, 28, 29, 30, 31, 32, 33, 34, 35] rfl rfl rfl (fun _ => rfl) 7 rfl rfl rfl hl.1 rfl (lv_room (Nat.le_of_ble_eq_true rfl)) dX7_relative_83 ⟨Nat.le_of_ble_eq_true rfl, Nat.le_of_ble_eq_true rfl⟩ rfl (fun _ H locs hP hD hS => ?_)
      refine lv_i2l (pc := 86) (v := (r83.1).toInt64) hx hb dX7_relative_86 rfl ?_
      refine lv_aload_n (pc := 87) hx hb dX7_relative_87 rfl (lv_at hl 1 rfl) ?_
      refine lv_iload_n (pc := 88) hx hb dX7_relative_88 rfl (lv_at hl 3 rfl) ?_
      refine lv_iload_n (pc := 89) hx hb dX7_relative_89 rfl (lv_at hl 4 rfl) ?_
      obtain ⟨r90, h_90, hf⟩ := bd hf
      refine rw_V (pc := 90) (C := RX7) (As := [.int x2, .int x3]) (rest := [.long ((r83.1).toInt64), .long (((r62.1).toInt64) * ((r70.1).toInt64))]) (st1 := [.int r90.1, .long ((r83.1).toInt64), .long (((r62.1).toInt64) * ((r70.1).toInt64))]) (wn := fun _ => wX7 Z a0 r90.2) ⟨hx, hb, hml, hown, hts⟩ (c_X7_gainOf Z l a0 r83.2 x2 x3 r90 h_90) (cwV 2 hts gX7_relative_X7_gainOf rfl rfl rfl hv_X7_gainOf ⟨Nat.le_of_ble_eq_true rfl, Nat.le_of_ble_eq_true rfl⟩) hK hE hP hD hS hA [0, 1, 2, 3, 4, 5, 6, 7, 8, 9, 10, 11, 12, 13, 14, 15, 16, 17, 18, 19, 20, 21, 22, 23, 24, 25, 26, 27, 28, 29, 30, 31, 32, 33, 34, 35] [] [0, 1, 2, 3, 4, 5, 6, 7, 8, 9, 10, 11, 12, 13, 14, 15, 16, 17, 18, 19, 20, 21, 22, 23, 24, 25, 26, 27, 28, 29, 30, 31, 32, 33, 34, 35] rfl rfl rfl (fun _ => rfl) 7 rfl rfl rfl hl.1 rfl (lv_room (Nat.le_of_ble_eq_true rfl)) dX7_relative_90 ⟨Nat.le_of_ble_eq_true rfl, Nat.le_of_ble_eq_true rfl⟩ rfl (fun _ H locs hP hD hS => ?_)
      refine lv_i2l (pc := 93) (v := (r90.1).toInt64) hx hb dX7_relative_93 rfl ?_
      refine lv_lmul (pc := 94) hx hb dX7_relative_94 ?_
      refine lv_lsub (pc := 95) hx hb dX7_relative_95 ?_
      refine lv_lstore (pc := 96) (lv' := [(8, .long ((((r62.1).toInt64) * ((r70.1).toInt64)) - (((r83.1).toInt64) * ((r90.1).toInt64)))), (6, .long (((r62.1).toInt64) * ((r70.1).toInt64))), (0, .ref (a0 0)), (1, .int x1), (2, .int x2), (3, .int x3), (4, .int x4)]) hx hb dX7_relative_96 hl (by decide) rfl (fun ls hl => ?_)
      refine lv_lload (pc := 98) hx hb dX7_relative_98 (lv_at hl 0 rfl) ?_
      refine lv_lconst (pc := 100) (v := 0) hx hb dX7_relative_100 (by decide) ?_
      refine W.lcmp (pc := 101) hx hb dX7_relative_101 ?_
      refine lv_if_ne (pc := 102) (tgt := 110) hx hb dX7_relative_102 (by decide) (fun c2 => ?_) (fun c2 => ?_)
      · have hf := (if_neg c2).symm.trans hf
        refine lv_ldc2 (pc := 110) (v := 100) hx hb hown w0 dX7_relative_110 ?_
        refine lv_lload (pc := 113) hx hb dX7_relative_113 (lv_at hl 1 rfl) ?_
        refine lv_lmul (pc := 115) hx hb dX7_relative_115 ?_
        refine lv_lload (pc := 116) hx hb dX7_relative_116 (lv_at hl 0 rfl) ?_
        obtain ⟨g118, hf⟩ := gd hf
        refine lv_ldiv (pc := 118) hx hb dX7_relative_118 (of_decide_eq_true g118) ?_
        refine lv_l2i (pc := 119) (v := ((100 * (((r62.1).toInt64) * ((r70.1).toInt64))) / ((((r62.1).toInt64) * ((r70.1).toInt64)) - (((r83.1).toInt64) * ((r90.1).toInt64)))).toInt32) hx hb dX7_relative_119 rfl ?_
        have hf := (Option.some.inj hf)
        subst hf
        exact rw_i (fun _ => 0) hx hb hr hlk rfl hP hD hS dX7_relative_120
      · have hf := (if_pos c2).symm.trans hf
        refine lv_ldc (pc := 105) (v := (-100000)) hx hb hown w1 dX7_relative_105 ?_
        refine lv_goto (pc := 107) (tgt := 120) hx hb dX7_relative_107 (by decide) ?_
        have hf := (Option.some.inj hf)
        subst hf
        exact rw_i (fun _ => 0) hx hb hr hlk rfl hP hD hS dX7_relative_120
    · have hf := (if_pos c1).symm.trans hf
      refine lv_iconst (pc := 57) (v := 0) hx hb dX7_relative_57 (by decide) ?_
      have hf := (Option.some.inj hf)
      subst hf
      exact rw_i (fun _ => 0) hx hb hr hlk rfl hP hD hS dX7_relative_58
  have B38 : ∀ (k38_0 : Int32) (ls : Array Slot), lv_has ls 10 [(0, .ref (a0 0)), (1, .int x1), (2, .int x2), (3, .int x3), (4, .int x4)] → ∀ (H : Heap) (locs : List Loc), va_P Z.1 vwCl (wX7 Z a0 o0) H → va_D A (wX7 Z a0 o0) → va_S A s.heap H locs → f_X7_relative_b38 o0 x1 x2 x3 x4 k38_0 = some R → W p l e { frames := 4, cells := 0, slots := 0, locals := 113 } s m ([.ref (a0 0), .int x1, .int x2, .int x3, .int x4] : List Value).toArray below meth c H locs 0 0 (MQ below (rwQ Z (some (.int R.1)) (fun _ => wX7 Z a0 R.2) A) ([.ref (a0 0), .int x1, .int x2, .int x3, .int x4] : List Value).toArray s 0 0 A) (F0 m 38 ls [.int k38_0]) := by
    intro k38_0 ls hl H locs hP hD hS hf
    rw [f_X7_relative_b38] at hf
    refine lv_istore (pc := 38) (lv' := [(5, .int k38_0), (0, .ref (a0 0)), (1, .int x1), (2, .int x2), (3, .int x3), (4, .int x4)]) hx hb dX7_relative_38 hl (by decide) rfl (fun ls hl => ?_)
    refine lv_aload_n (pc := 40) hx hb dX7_relative_40 rfl (lv_at hl 1 rfl) ?_
    refine lv_iload (pc := 41) hx hb dX7_relative_41 (lv_at hl 0 rfl) ?_
    refine lv_if_eq (pc := 43) (tgt := 50) hx hb dX7_relative_43 (by decide) (fun c1 => ?_) (fun c1 => ?_)
    · have hf := (if_pos c1).symm.trans hf
      refine lv_iconst (pc := 50) (v := 1) hx hb dX7_relative_50 (by decide) ?_
      exact B51 1 _ (lv_sub hl [1, 2, 3, 4, 5] rfl) _ _ hP hD hS hf
    · have hf := (if_neg c1).symm.trans hf
      refine lv_iconst (pc := 46) (v := 0) hx hb dX7_relative_46 (by decide) ?_
      refine lv_goto (pc := 47) (tgt := 51) hx hb dX7_relative_47 (by decide) ?_
      exact B51 0 _ (lv_sub hl [1, 2, 3, 4, 5] rfl) _ _ hP hD hS hf
  have B37 : ∀ (ls : Array Slot), lv_has ls 10 [(0, .ref (a0 0)), (1, .int x1), (2, .int x2), (3, .int x3), (4, .int x4)] → ∀ (H : Heap) (locs : List Loc), va_P Z.1 vwCl (wX7 Z a0 o0) H → va_D A (wX7 Z a0 o0) → va_S A s.heap H locs → f_X7_relative_b37 o0 x1 x2 x3 x4 = some R → W p l e { frames := 4, cells := 0, slots := 0, locals := 113 } s m ([.ref (a0 0), .int x1, .int x2, .int x3, .int x4] : List Value).toArray below meth c H locs 0 0 (MQ below (rwQ Z (some (.int R.1)) (fun _ => wX7 Z a0 R.2) A) ([.ref (a0 0), .int x1, .int x2, .int x3, .int x4] : List Value).toArray s 0 0 A) (F0 m 37 ls []) := by
    intro ls hl H locs hP hD hS hf
    rw [f_X7_relative_b37] at hf
    refine lv_iconst (pc := 37) (v := 0) hx hb dX7_relative_37 (by decide) ?_
    exact B38 0 _ (lv_sub hl [0, 1, 2, 3, 4] rfl) _ _ hP hD hS hf
  rw [f_X7_relative] at hf
  refine lv_aload_n (pc := 0) hx hb dX7_relative_0 rfl (lv_at hl 0 rfl) ?_
  refine lv_iload_n (pc := 1) hx hb dX7_relative_1 rfl (lv_at hl 1 rfl) ?_
  obtain ⟨r2, h_2, hf⟩ := bd hf
  refine ro_V (pc := 2) (C := RX7) (As := [.int x1]) (rest := []) (st1 := [.int r2]) ⟨hx, hb, hml, hown, hts⟩ (c_X7_isUnit Z l a0 o0 x1 r2 h_2) (cwV 1 hts gX7_relative_X7_isUnit rfl rfl rfl hv_X7_isUnit ⟨Nat.le_of_ble_eq_true rfl, Nat.le_of_ble_eq_true rfl⟩) hK hE hP 7 rfl rfl rfl hl.1 rfl (lv_room (Nat.le_of_ble_eq_true rfl)) dX7_relative_2 ⟨Nat.le_of_ble_eq_true rfl, Nat.le_of_ble_eq_true rfl⟩ rfl ?_
  refine lv_if_eq (pc := 5) (tgt := 37) hx hb dX7_relative_5 (by decide) (fun c1 => ?_) (fun c1 => ?_)
  · have hf := (if_pos c1).symm.trans hf
    exact B37 _ (lv_sub hl [0, 1, 2, 3, 4] rfl) _ _ hP hD hS hf
  · have hf := (if_neg c1).symm.trans hf
    refine lv_aload_n (pc := 8) hx hb dX7_relative_8 rfl (lv_at hl 0 rfl) ?_
    refine lv_iload_n (pc := 9) hx hb dX7_relative_9 rfl (lv_at hl 2 rfl) ?_
    obtain ⟨r10, h_10, hf⟩ := bd hf
    refine ro_V (pc := 10) (C := RX7) (As := [.int x2]) (rest := []) (st1 := [.int r10]) ⟨hx, hb, hml, hown, hts⟩ (c_X7_isUnit Z l a0 o0 x2 r10 h_10) (cwV 1 hts gX7_relative_X7_isUnit rfl rfl rfl hv_X7_isUnit ⟨Nat.le_of_ble_eq_true rfl, Nat.le_of_ble_eq_true rfl⟩) hK hE hP 7 rfl rfl rfl hl.1 rfl (lv_room (Nat.le_of_ble_eq_true rfl)) dX7_relative_10 ⟨Nat.le_of_ble_eq_true rfl, Nat.le_of_ble_eq_true rfl⟩ rfl ?_
    refine lv_if_eq (pc := 13) (tgt := 37) hx hb dX7_relative_13 (by decide) (fun c2 => ?_) (fun c2 => ?_)
    · have hf := (if_pos c2).symm.trans hf
      exact B37 _ (lv_sub hl [0, 1, 2, 3, 4] rfl) _ _ hP hD hS hf
    · have hf := (if_neg c2).symm.trans hf
      refine lv_aload_n (pc := 16) hx hb dX7_relative_16 rfl (lv_at hl 0 rfl) ?_
      refine lv_iload_n (pc := 17) hx hb dX7_relative_17 rfl (lv_at hl 3 rfl) ?_
      obtain ⟨r18, h_18, hf⟩ := bd hf
      refine ro_V (pc := 18) (C := RX7) (As := [.int x3]) (rest := []) (st1 := [.int r18]) ⟨hx, hb, hml, hown, hts⟩ (c_X7_isStream Z l a0 o0 x3 r18 h_18) (cwV 1 hts gX7_relative_X7_isStream rfl rfl rfl hv_X7_isStream ⟨Nat.le_of_ble_eq_true rfl, Nat.le_of_ble_eq_true rfl⟩) hK hE hP 7 rfl rfl rfl hl.1 rfl (lv_room (Nat.le_of_ble_eq_true rfl)) dX7_relative_18 ⟨Nat.le_of_ble_eq_true rfl, Nat.le_of_ble_eq_true rfl⟩ rfl ?_
      refine lv_if_eq (pc := 21) (tgt := 37) hx hb dX7_relative_21 (by decide) (fun c3 => ?_) (fun c3 => ?_)
      · have hf := (if_pos c3).symm.trans hf
        exact B37 _ (lv_sub hl [0, 1, 2, 3, 4] rfl) _ _ hP hD hS hf
      · have hf := (if_neg c3).symm.trans hf
        refine lv_aload_n (pc := 24) hx hb dX7_relative_24 rfl (lv_at hl 0 rfl) ?_
        refine lv_iload (pc := 25) hx hb dX7_relative_25 (lv_at hl 4 rfl) ?_
        obtain ⟨r27, h_27, hf⟩ := bd hf
        refine ro_V (pc := 27) (C := RX7) (As := [.int x4]) (rest := []) (st1 := [.int r27]) ⟨hx, hb, hml, hown, hts⟩ (c_X7_isStream Z l a0 o0 x4 r27 h_27) (cwV 1 hts gX7_relative_X7_isStream rfl rfl rfl hv_X7_isStream ⟨Nat.le_of_ble_eq_true rfl, Nat.le_of_ble_eq_true rfl⟩) hK hE hP 7 rfl rfl rfl hl.1 rfl (lv_room (Nat.le_of_ble_eq_true rfl)) dX7_relative_27 ⟨Nat.le_of_ble_eq_true rfl, Nat.le_of_ble_eq_true rfl⟩ rfl ?_
        refine lv_if_eq (pc := 30) (tgt := 37) hx hb dX7_relative_30 (by decide) (fun c4 => ?_) (fun c4 => ?_)
        · have hf := (if_pos c4).symm.trans hf
          exact B37 _ (lv_sub hl [0, 1, 2, 3, 4] rfl) _ _ hP hD hS hf
        · have hf := (if_neg c4).symm.trans hf
          refine lv_iconst (pc := 33) (v := 1) hx hb dX7_relative_33 (by decide) ?_
          refine lv_goto (pc := 34) (tgt := 38) hx hb dX7_relative_34 (by decide) ?_
          exact B38 1 _ (lv_sub hl [0, 1, 2, 3, 4] rfl) _ _ hP hD hS hf
