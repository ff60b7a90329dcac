def f_X4_placeOf (x1 : Int32) (x2 : Int32) : Int32 :=
  ((x2 - 1) * 24) + x1
set_option maxHeartbeats 4000000 in
set_option maxRecDepth 100000 in
theorem c_X4_placeOf (Z : EnvT) (l : Launch) (x1 : Int32) (x2 : Int32) (R : Int32) (hf : f_X4_placeOf x1 x2 = R) : RO Z l yX4_placeOf wsX4_placeOf { frames := 0, cells := 0, slots := 0, locals := 0 } [.int x1, .int x2] ([]) (some (.int R)) := by
  refine ro_of (cc := cX4_placeOf) (maxL := 2) (ret := (some .int)) (by decide) rfl (Nat.le_of_ble_eq_true rfl) ?_
  intro p e s m below meth c ls hx hb hr hml hts hown hlk hP hK hE hl
  have hown : s.vm.findClass RX4 = some m.cls := hown
  have hl : lv_has ls 2 [(0, .int x1), (1, .int x2)] := hl
  rw [f_X4_placeOf] at hf
  refine lv_iload_n (pc := 0) hx hb dX4_placeOf_0 rfl (lv_at hl 1 rfl) ?_
  refine lv_iconst (pc := 1) (v := 1) hx hb dX4_placeOf_1 (by decide) ?_
  refine lv_isub (pc := 2) hx hb dX4_placeOf_2 ?_
  refine lv_bipush (pc := 3) (v := 24) hx hb dX4_placeOf_3 (by decide) ?_
  refine lv_imul (pc := 5) hx hb dX4_placeOf_5 ?_
  refine lv_iload_n (pc := 6) hx hb dX4_placeOf_6 rfl (lv_at hl 0 rfl) ?_
  refine lv_iadd (pc := 7) hx hb dX4_placeOf_7 ?_
  exact ro_i hx hb hr hlk hf dX4_placeOf_8
def f_X4_isKept (o0 : ObS) (x1 : Int32) : Int32 :=
  if x1 < (0 : Int32) then
    (0 : Int32)
  else
    if (Int32.ofNat ((o0.1 1 0).toNatClampNeg)) ≤ x1 then
      (0 : Int32)
    else
      (1 : Int32)
set_option maxHeartbeats 4000000 in
set_option maxRecDepth 100000 in
theorem c_X4_isKept (Z : EnvT) (l : Launch) (a0 : Nat → Nat) (o0 : ObS) (x1 : Int32) (R : Int32) (hf : f_X4_isKept o0 x1 = R) : RO Z l yX4_isKept wsX4_isKept { frames := 0, cells := 0, slots := 0, locals := 0 } [.ref (a0 0), .int x1] (wX4 Z a0 o0) (some (.int R)) := by
  refine ro_of (cc := cX4_isKept) (maxL := 2) (ret := (some .boolean)) (by decide) rfl (Nat.le_of_ble_eq_true rfl) ?_
  intro p e s m below meth c ls hx hb hr hml hts hown hlk hP hK hE hl
  have hown : s.vm.findClass RX4 = some m.cls := hown
  have hl : lv_has ls 2 [(0, .ref (a0 0)), (1, .int x1)] := hl
  have w0 := hts (.fieldLink RX4 9 "HeatTrain$Trends" "warmth" "[I") (by decide +kernel)
  have u4 : ∀ w ∈ wsX40, w ∈ wsX4_isKept := by decide +kernel
  rw [f_X4_isKept] at hf
  refine lv_iload_n (pc := 0) hx hb dX4_isKept_0 rfl (lv_at hl 1 rfl) ?_
  refine lv_if_lt (pc := 1) (tgt := 17) hx hb dX4_isKept_1 (by decide) (fun c1 => ?_) (fun c1 => ?_)
  · have hf := (if_pos c1).symm.trans hf
    refine lv_iconst (pc := 17) (v := 0) hx hb dX4_isKept_17 (by decide) ?_
    exact ro_z hx hb hr hlk hf rfl dX4_isKept_18
  · have hf := (if_neg c1).symm.trans hf
    refine lv_iload_n (pc := 4) hx hb dX4_isKept_4 rfl (lv_at hl 1 rfl) ?_
    refine lv_aload_n (pc := 5) hx hb dX4_isKept_5 rfl (lv_at hl 0 rfl) ?_
    refine va_get (pc := 6) (D := Z.1) (ci := 4) (v := .ref (a0 1)) (C := RX4) (T := TX4) (N := 1) hx hb hts u4 hown hK hP 0 rfl rfl 0 (by decide) w0 (fun _ h9 => h9) rfl dX4_isKept_6 ?_
    refine va_alen (pc := 9) (D := Z.1) (v := Int32.ofNat ((o0.1 1 0).toNatClampNeg)) hx hb hK hP 1 0 rfl rfl rfl dX4_isKept_9 ?_
    refine lv_icmp_ge (pc := 10) (tgt := 17) hx hb dX4_isKept_10 (by decide) (fun c2 => ?_) (fun c2 => ?_)
    · have hf := (if_pos c2).symm.trans hf
      refine lv_iconst (pc := 17) (v := 0) hx hb dX4_isKept_17 (by decide) ?_
      exact ro_z hx hb hr hlk hf rfl dX4_isKept_18
    · have hf := (if_neg c2).symm.trans hf
      refine lv_iconst (pc := 13) (v := 1) hx hb dX4_isKept_13 (by decide) ?_
      refine lv_goto (pc := 14) (tgt := 18) hx hb dX4_isKept_14 (by decide) ?_
      exact ro_z hx hb hr hlk hf rfl dX4_isKept_18
def f_X4_warmthAt (o0 : ObS) (x1 : Int32) (x2 : Int32) : Option (Int32) :=
  if (f_X4_isKept o0 (f_X4_placeOf x1 x2)) = (0 : Int32) then
    some ((0 : Int32))
  else
    if inb (f_X4_placeOf x1 x2) ((o0.1 1 0).toNatClampNeg) then
    some (o0.1 0 ((f_X4_placeOf x1 x2)).toNatClampNeg)
    else none
set_option maxHeartbeats 4000000 in
set_option maxRecDepth 100000 in
theorem c_X4_warmthAt (Z : EnvT) (l : Launch) (a0 : Nat → Nat) (o0 : ObS) (x1 : Int32) (x2 : Int32) (R : Int32) (hf : f_X4_warmthAt o0 x1 x2 = some R) : RO Z l yX4_warmthAt wsX4_warmthAt { frames := 1, cells := 0, slots := 0, locals := 21 } [.ref (a0 0), .int x1, .int x2] (wX4 Z a0 o0) (some (.int R)) := by
  refine ro_of (cc := cX4_warmthAt) (maxL := 4) (ret := (some .int)) (by decide) rfl (Nat.le_of_ble_eq_true rfl) ?_
  intro p e s m below meth c ls hx hb hr hml hts hown hlk hP hK hE hl
  have hown : s.vm.findClass RX4 = some m.cls := hown
  have hl : lv_has ls 4 [(0, .ref (a0 0)), (1, .int x1), (2, .int x2)] := hl
  have w0 := hts (.fieldLink RX4 9 "HeatTrain$Trends" "warmth" "[I") (by decide +kernel)
  have u4 : ∀ w ∈ wsX40, w ∈ wsX4_warmthAt := by decide +kernel
  rw [f_X4_warmthAt] at hf
  refine lv_iload_n (pc := 0) hx hb dX4_warmthAt_0 rfl (lv_at hl 1 rfl) ?_
  refine lv_iload_n (pc := 1) hx hb dX4_warmthAt_1 rfl (lv_at hl 2 rfl) ?_
  refine ro_S (pc := 2) (As := [.int x1, .int x2]) (rest := []) (st1 := [.int (f_X4_placeOf x1 x2)]) ⟨hx, hb, hml, hown, hts⟩ (c_X4_placeOf Z l x1 x2 _ rfl) (va_cwS 2 hts gX4_warmthAt_X4_placeOf rfl rfl rfl hs_X4_placeOf ⟨Nat.le_of_ble_eq_true rfl, Nat.le_of_ble_eq_true rfl⟩) hK hE (hP.sub (ws' := []) [] rfl) rfl hl.1 rfl (lv_room (Nat.le_of_ble_eq_true rfl)) dX4_warmthAt_2 ⟨Nat.le_of_ble_eq_true rfl, Nat.le_of_ble_eq_true rfl⟩ rfl ?_
  refine lv_istore_n (pc := 5) (lv' := [(3, .int (f_X4_placeOf x1 x2)), (0, .ref (a0 0)), (1, .int x1), (2, .int x2)]) hx hb dX4_warmthAt_5 rfl hl (by decide) rfl (fun ls hl => ?_)
  refine lv_aload_n (pc := 6) hx hb dX4_warmthAt_6 rfl (lv_at hl 1 rfl) ?_
  refine lv_iload_n (pc := 7) hx hb dX4_warmthAt_7 rfl (lv_at hl 0 rfl) ?_
  refine ro_V (pc := 8) (C := RX4) (As := [.int (f_X4_placeOf x1 x2)]) (rest := []) (st1 := [.int (f_X4_isKept o0 (f_X4_placeOf x1 x2))]) ⟨hx, hb, hml, hown, hts⟩ (c_X4_isKept Z l a0 o0 (f_X4_placeOf x1 x2) _ rfl) (cwV 1 hts gX4_warmthAt_X4_isKept rfl rfl rfl hv_X4_isKept ⟨Nat.le_of_ble_eq_true rfl, Nat.le_of_ble_eq_true rfl⟩) hK hE hP 4 rfl rfl rfl hl.1 rfl (lv_room (Nat.le_of_ble_eq_true rfl)) dX4_warmthAt_8 ⟨Nat.le_of_ble_eq_true rfl, Nat.le_of_ble_eq_true rfl⟩ rfl ?_
  refine lv_if_eq (pc := 11) (tgt := 23) hx hb dX4_warmthAt_11 (by decide) (fun c1 => ?_) (fun c1 => ?_)
  · have hf := (if_pos c1).symm.trans hf
    refine lv_iconst (pc := 23) (v := 0) hx hb dX4_warmthAt_23 (by decide) ?_
    exact ro_i hx hb hr hlk (Option.some.inj hf) dX4_warmthAt_24
  · have hf := (if_neg c1).symm.trans hf
    refine lv_aload_n (pc := 14) hx hb dX4_warmthAt_14 rfl (lv_at hl 1 rfl) ?_
    refine va_get (pc := 15) (D := Z.1) (ci := 4) (v := .ref (a0 1)) (C := RX4) (T := TX4) (N := 1) hx hb hts u4 hown hK hP 0 rfl rfl 0 (by decide) w0 (fun _ h9 => h9) rfl dX4_warmthAt_15 ?_
    refine lv_iload_n (pc := 18) hx hb dX4_warmthAt_18 rfl (lv_at hl 0 rfl) ?_
    obtain ⟨g19, hf⟩ := gd hf
    refine va_iald (pc := 19) (D := Z.1) (n := ((o0.1 1 0).toNatClampNeg)) (f := o0.1 0) hx hb hK hP 1 0 rfl rfl (inb_in g19) dX4_warmthAt_19 ?_
    refine lv_goto (pc := 20) (tgt := 24) hx hb dX4_warmthAt_20 (by decide) ?_
    exact ro_i hx hb hr hlk (Option.some.inj hf) dX4_warmthAt_24
