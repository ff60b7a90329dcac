def f_X3_isThere (x1 : Int32) : Int32 :=
  if x1 < (0 : Int32) then
    (0 : Int32)
  else
    if 24 ≤ x1 then
      (0 : Int32)
    else
      (1 : Int32)
set_option maxHeartbeats 4000000 in
set_option maxRecDepth 100000 in
theorem c_X3_isThere (Z : EnvT) (l : Launch) (x1 : Int32) (R : Int32) (hf : f_X3_isThere x1 = R) : RO Z l yX3_isThere wsX3_isThere { frames := 0, cells := 0, slots := 0, locals := 0 } [.int x1] ([]) (some (.int R)) := by
  refine ro_of (cc := cX3_isThere) (maxL := 1) (ret := (some .boolean)) (by decide) rfl (Nat.le_of_ble_eq_true rfl) ?_
  intro p e s m below meth c ls hx hb hr hml hts hown hlk hP hK hE hl
  have hown : s.vm.findClass RX3 = some m.cls := hown
  have hl : lv_has ls 1 [(0, .int x1)] := hl
  rw [f_X3_isThere] at hf
  refine lv_iload_n (pc := 0) hx hb dX3_isThere_0 rfl (lv_at hl 0 rfl) ?_
  refine lv_if_lt (pc := 1) (tgt := 14) hx hb dX3_isThere_1 (by decide) (fun c1 => ?_) (fun c1 => ?_)
  · have hf := (if_pos c1).symm.trans hf
    refine lv_iconst (pc := 14) (v := 0) hx hb dX3_isThere_14 (by decide) ?_
    exact ro_z hx hb hr hlk hf rfl dX3_isThere_15
  · have hf := (if_neg c1).symm.trans hf
    refine lv_iload_n (pc := 4) hx hb dX3_isThere_4 rfl (lv_at hl 0 rfl) ?_
    refine lv_bipush (pc := 5) (v := 24) hx hb dX3_isThere_5 (by decide) ?_
    refine lv_icmp_ge (pc := 7) (tgt := 14) hx hb dX3_isThere_7 (by decide) (fun c2 => ?_) (fun c2 => ?_)
    · have hf := (if_pos c2).symm.trans hf
      refine lv_iconst (pc := 14) (v := 0) hx hb dX3_isThere_14 (by decide) ?_
      exact ro_z hx hb hr hlk hf rfl dX3_isThere_15
    · have hf := (if_neg c2).symm.trans hf
      refine lv_iconst (pc := 10) (v := 1) hx hb dX3_isThere_10 (by decide) ?_
      refine lv_goto (pc := 11) (tgt := 15) hx hb dX3_isThere_11 (by decide) ?_
      exact ro_z hx hb hr hlk hf rfl dX3_isThere_15
def f_X3_flowOf (o0 : ObS) (x1 : Int32) : Option (Int64) :=
  if (f_X3_isThere x1) = (0 : Int32) then
    some ((0 : Int64))
  else
    if inb x1 24 then
    some (o0.2 0 (x1).toNatClampNeg)
    else none
set_option maxHeartbeats 4000000 in
set_option maxRecDepth 100000 in
theorem c_X3_flowOf (Z : EnvT) (l : Launch) (a0 : Nat → Nat) (o0 : ObS) (x1 : Int32) (R : Int64) (hf : f_X3_flowOf o0 x1 = some R) : RO Z l yX3_flowOf wsX3_flowOf { frames := 1, cells := 0, slots := 0, locals := 20 } [.ref (a0 0), .int x1] (wX3 Z a0 o0) (some (.long R)) := by
  refine ro_of (cc := cX3_flowOf) (maxL := 2) (ret := (some .long)) (by decide) rfl (Nat.le_of_ble_eq_true rfl) ?_
  intro p e s m below meth c ls hx hb hr hml hts hown hlk hP hK hE hl
  have hown : s.vm.findClass RX3 = some m.cls := hown
  have hl : lv_has ls 2 [(0, .ref (a0 0)), (1, .int x1)] := hl
  have w0 := hts (.fieldLink RX3 9 "HeatTrain$Streams" "flow" "[J") (by decide +kernel)
  have u3 : ∀ w ∈ wsX30, w ∈ wsX3_flowOf := by decide +kernel
  rw [f_X3_flowOf] at hf
  refine lv_iload_n (pc := 0) hx hb dX3_flowOf_0 rfl (lv_at hl 1 rfl) ?_
  refine ro_S (pc := 1) (As := [.int x1]) (rest := []) (st1 := [.int (f_X3_isThere x1)]) ⟨hx, hb, hml, hown, hts⟩ (c_X3_isThere Z l x1 _ rfl) (va_cwS 1 hts gX3_flowOf_X3_isThere rfl rfl rfl hs_X3_isThere ⟨Nat.le_of_ble_eq_true rfl, Nat.le_of_ble_eq_true rfl⟩) hK hE (hP.sub (ws' := []) [] rfl) rfl hl.1 rfl (lv_room (Nat.le_of_ble_eq_true rfl)) dX3_flowOf_1 ⟨Nat.le_of_ble_eq_true rfl, Nat.le_of_ble_eq_true rfl⟩ rfl ?_
  refine lv_if_eq (pc := 4) (tgt := 16) hx hb dX3_flowOf_4 (by decide) (fun c1 => ?_) (fun c1 => ?_)
  · have hf := (if_pos c1).symm.trans hf
    refine lv_lconst (pc := 16) (v := 0) hx hb dX3_flowOf_16 (by decide) ?_
    exact ro_l hx hb hr hlk (Option.some.inj hf) dX3_flowOf_17
  · have hf := (if_neg c1).symm.trans hf
    refine lv_aload_n (pc := 7) hx hb dX3_flowOf_7 rfl (lv_at hl 0 rfl) ?_
    refine va_get (pc := 8) (D := Z.1) (ci := 3) (v := .ref (a0 1)) (C := RX3) (T := TX3) (N := 2) hx hb hts u3 hown hK hP 0 rfl rfl 0 (by decide) w0 (fun _ h9 => h9) rfl dX3_flowOf_8 ?_
    refine lv_iload_n (pc := 11) hx hb dX3_flowOf_11 rfl (lv_at hl 1 rfl) ?_
    obtain ⟨g12, hf⟩ := gd hf
    refine va_lald (pc := 12) (D := Z.1) (n := 24) (f := o0.2 0) hx hb hK hP 1 1 rfl rfl (inb_in g12) dX3_flowOf_12 ?_
    refine lv_goto (pc := 13) (tgt := 17) hx hb dX3_flowOf_13 (by decide) ?_
    exact ro_l hx hb hr hlk (Option.some.inj hf) dX3_flowOf_17
def f_X3_heatOf (o0 : ObS) (x1 : Int32) : Option (Int64) :=
  if (f_X3_isThere x1) = (0 : Int32) then
    some ((0 : Int64))
  else
    if inb x1 24 then
    some (o0.2 1 (x1).toNatClampNeg)
    else none
set_option maxHeartbeats 4000000 in
set_option maxRecDepth 100000 in
theorem c_X3_heatOf (Z : EnvT) (l : Launch) (a0 : Nat → Nat) (o0 : ObS) (x1 : Int32) (R : Int64) (hf : f_X3_heatOf o0 x1 = some R) : RO Z l yX3_heatOf wsX3_heatOf { frames := 1, cells := 0, slots := 0, locals := 20 } [.ref (a0 0), .int x1] (wX3 Z a0 o0) (some (.long R)) := by
  refine ro_of (cc := cX3_heatOf) (maxL := 2) (ret := (some .long)) (by decide) rfl (Nat.le_of_ble_eq_true rfl) ?_
  intro p e s m below meth c ls hx hb hr hml hts hown hlk hP hK hE hl
  have hown : s.vm.findClass RX3 = some m.cls := hown
  have hl : lv_has ls 2 [(0, .ref (a0 0)), (1, .int x1)] := hl
  have w0 := hts (.fieldLink RX3 15 "HeatTrain$Streams" "heat" "[J") (by decide +kernel)
  have u3 : ∀ w ∈ wsX30, w ∈ wsX3_heatOf := by decide +kernel
  rw [f_X3_heatOf] at hf
  refine lv_iload_n (pc := 0) hx hb dX3_heatOf_0 rfl (lv_at hl 1 rfl) ?_
  refine ro_S (pc := 1) (As := [.int x1]) (rest := []) (st1 := [.int (f_X3_isThere x1)]) ⟨hx, hb, hml, hown, hts⟩ (c_X3_isThere Z l x1 _ rfl) (va_cwS 1 hts gX3_heatOf_X3_isThere rfl rfl rfl hs_X3_isThere ⟨Nat.le_of_ble_eq_true rfl, Nat.le_of_ble_eq_true rfl⟩) hK hE (hP.sub (ws' := []) [] rfl) rfl hl.1 rfl (lv_room (Nat.le_of_ble_eq_true rfl)) dX3_heatOf_1 ⟨Nat.le_of_ble_eq_true rfl, Nat.le_of_ble_eq_true rfl⟩ rfl ?_
  refine lv_if_eq (pc := 4) (tgt := 16) hx hb dX3_heatOf_4 (by decide) (fun c1 => ?_) (fun c1 => ?_)
  · have hf := (if_pos c1).symm.trans hf
    refine lv_lconst (pc := 16) (v := 0) hx hb dX3_heatOf_16 (by decide) ?_
    exact ro_l hx hb hr hlk (Option.some.inj hf) dX3_heatOf_17
  · have hf := (if_neg c1).symm.trans hf
    refine lv_aload_n (pc := 7) hx hb dX3_heatOf_7 rfl (lv_at hl 0 rfl) ?_
    refine va_get (pc := 8) (D := Z.1) (ci := 3) (v := .ref (a0 2)) (C := RX3) (T := TX3) (N := 2) hx hb hts u3 hown hK hP 0 rfl rfl 1 (by decide) w0 (fun _ h9 => h9) rfl dX3_heatOf_8 ?_
    refine lv_iload_n (pc := 11) hx hb dX3_heatOf_11 rfl (lv_at hl 1 rfl) ?_
    obtain ⟨g12, hf⟩ := gd hf
    refine va_lald (pc := 12) (D := Z.1) (n := 24) (f := o0.2 1) hx hb hK hP 2 1 rfl rfl (inb_in g12) dX3_heatOf_12 ?_
    refine lv_goto (pc := 13) (tgt := 17) hx hb dX3_heatOf_13 (by decide) ?_
    exact ro_l hx hb hr hlk (Option.some.inj hf) dX3_heatOf_17
def f_X3_warmthOf (o0 : ObS) (x1 : Int32) : Option (Int64) :=
  if (f_X3_isThere x1) = (0 : Int32) then
    some ((0 : Int64))
  else
    if inb x1 24 then
    if (lg_cmp (o0.2 0 (x1).toNatClampNeg) 0) = (0 : Int32) then
      some ((0 : Int64))
    else
      if inb x1 24 then
      if inb x1 24 then
      if decide (¬ (o0.2 0 (x1).toNatClampNeg) = (0 : Int64)) then
      some ((10 * (o0.2 1 (x1).toNatClampNeg)) / (o0.2 0 (x1).toNatClampNeg))
      else none
      else none
      else none
    else none
set_option maxHeartbeats 4000000 in
set_option maxRecDepth 100000 in
theorem c_X3_warmthOf (Z : EnvT) (l : Launch) (a0 : Nat → Nat) (o0 : ObS) (x1 : Int32) (R : Int64) (hf : f_X3_warmthOf o0 x1 = some R) : RO Z l yX3_warmthOf wsX3_warmthOf { frames := 1, cells := 0, slots := 0, locals := 20 } [.ref (a0 0), .int x1] (wX3 Z a0 o0) (some (.long R)) := by
  refine ro_of (cc := cX3_warmthOf) (maxL := 2) (ret := (some .long)) (by decide) rfl (Nat.le_of_ble_eq_true rfl) ?_
  intro p e s m below meth c ls hx hb hr hml hts hown hlk hP hK hE hl
  have hown : s.vm.findClass RX3 = some m.cls := hown
  have hl : lv_has ls 2 [(0, .ref (a0 0)), (1, .int x1)] := hl
  have w0 := hts (.fieldLink RX3 9 "HeatTrain$Streams" "flow" "[J") (by decide +kernel)
  have w1 := hts (.constantLong RX3 22 (10)) (by decide +kernel)
  have w2 := hts (.fieldLink RX3 15 "HeatTrain$Streams" "heat" "[J") (by decide +kernel)
  have u3 : ∀ w ∈ wsX30, w ∈ wsX3_warmthOf := by decide +kernel
  rw [f_X3_warmthOf] at hf
  refine lv_iload_n (pc := 0) hx hb dX3_warmthOf_0 rfl (lv_at hl 1 rfl) ?_
  refine ro_S (pc := 1) (As := [.int x1]) (rest := []) (st1 := [.int (f_X3_isThere x1)]) ⟨hx, hb, hml, hown, hts⟩ (c_X3_isThere Z l x1 _ rfl) (va_cwS 1 hts gX3_warmthOf_X3_isThere rfl rfl rfl hs_X3_isThere ⟨Nat.le_of_ble_eq_true rfl, Nat.le_of_ble_eq_true rfl⟩) hK hE (hP.sub (ws' := []) [] rfl) rfl hl.1 rfl (lv_room (Nat.le_of_ble_eq_true rfl)) dX3_warmthOf_1 ⟨Nat.le_of_ble_eq_true rfl, Nat.le_of_ble_eq_true rfl⟩ rfl ?_
  refine lv_if_eq (pc := 4) (tgt := 18) hx hb dX3_warmthOf_4 (by decide) (fun c1 => ?_) (fun c1 => ?_)
  · have hf := (if_pos c1).symm.trans hf
    refine lv_lconst (pc := 18) (v := 0) hx hb dX3_warmthOf_18 (by decide) ?_
    exact ro_l hx hb hr hlk (Option.some.inj hf) dX3_warmthOf_19
  · have hf := (if_neg c1).symm.trans hf
    refine lv_aload_n (pc := 7) hx hb dX3_warmthOf_7 rfl (lv_at hl 0 rfl) ?_
    refine va_get (pc := 8) (D := Z.1) (ci := 3) (v := .ref (a0 1)) (C := RX3) (T := TX3) (N := 2) hx hb hts u3 hown hK hP 0 rfl rfl 0 (by decide) w0 (fun _ h9 => h9) rfl dX3_warmthOf_8 ?_
    refine lv_iload_n (pc := 11) hx hb dX3_warmthOf_11 rfl (lv_at hl 1 rfl) ?_
    obtain ⟨g12, hf⟩ := gd hf
    refine va_lald (pc := 12) (D := Z.1) (n := 24) (f := o0.2 0) hx hb hK hP 1 1 rfl rfl (inb_in g12) dX3_warmthOf_12 ?_
    refine lv_lconst (pc := 13) (v := 0) hx hb dX3_warmthOf_13 (by decide) ?_
    refine W.lcmp (pc := 14) hx hb dX3_warmthOf_14 ?_
    refine lv_if_ne (pc := 15) (tgt := 20) hx hb dX3_warmthOf_15 (by decide) (fun c2 => ?_) (fun c2 => ?_)
    · have hf := (if_neg c2).symm.trans hf
      refine lv_ldc2 (pc := 20) (v := 10) hx hb hown w1 dX3_warmthOf_20 ?_
      refine lv_aload_n (pc := 23) hx hb dX3_warmthOf_23 rfl (lv_at hl 0 rfl) ?_
      refine va_get (pc := 24) (D := Z.1) (ci := 3) (v := .ref (a0 2)) (C := RX3) (T := TX3) (N := 2) hx hb hts u3 hown hK hP 0 rfl rfl 1 (by decide) w2 (fun _ h9 => h9) rfl dX3_warmthOf_24 ?_
      refine lv_iload_n (pc := 27) hx hb dX3_warmthOf_27 rfl (lv_at hl 1 rfl) ?_
      obtain ⟨g28, hf⟩ := gd hf
      refine va_lald (pc := 28) (D := Z.1) (n := 24) (f := o0.2 1) hx hb hK hP 2 1 rfl rfl (inb_in g28) dX3_warmthOf_28 ?_
      refine lv_lmul (pc := 29) hx hb dX3_warmthOf_29 ?_
      refine lv_aload_n (pc := 30) hx hb dX3_warmthOf_30 rfl (lv_at hl 0 rfl) ?_
      refine va_get (pc := 31) (D := Z.1) (ci := 3) (v := .ref (a0 1)) (C := RX3) (T := TX3) (N := 2) hx hb hts u3 hown hK hP 0 rfl rfl 0 (by decide) w0 (fun _ h9 => h9) rfl dX3_warmthOf_31 ?_
      refine lv_iload_n (pc := 34) hx hb dX3_warmthOf_34 rfl (lv_at hl 1 rfl) ?_
      obtain ⟨g35, hf⟩ := gd hf
      refine va_lald (pc := 35) (D := Z.1) (n := 24) (f := o0.2 0) hx hb hK hP 1 1 rfl rfl (inb_in g35) dX3_warmthOf_35 ?_
      obtain ⟨g36, hf⟩ := gd hf
      refine lv_ldiv (pc := 36) hx hb dX3_warmthOf_36 (of_decide_eq_true g36) ?_
      exact ro_l hx hb hr hlk (Option.some.inj hf) dX3_warmthOf_37
    · have hf := (if_pos c2).symm.trans hf
      refine lv_lconst (pc := 18) (v := 0) hx hb dX3_warmthOf_18 (by decide) ?_
      exact ro_l hx hb hr hlk (Option.some.inj hf) dX3_warmthOf_19
def f_X3_fill (o0 : ObS) (x1 : Int32) (x2 : Int64) (x3 : Int64) : Option (ObS) :=
  if (f_X3_isThere x1) = (0 : Int32) then
    some (o0)
  else
    if inb x1 24 then
    (some (oj o0 0 (x1).toNatClampNeg x2)).bind fun s13 =>
    if inb x1 24 then
    (some (oj s13 1 (x1).toNatClampNeg x3)).bind fun s21 =>
    some (s21)
    else none
    else none
set_option maxHeartbeats 4000000 in
set_option maxRecDepth 100000 in
theorem c_X3_fill (Z : EnvT) (l : Launch) (a0 : Nat → Nat) (o0 : ObS) (x1 : Int32) (x2 : Int64) (x3 : Int64) (R : ObS) (hf : f_X3_fill o0 x1 x2 x3 = some R) : RW Z l yX3_fill wsX3_fill { frames := 1, cells := 0, slots := 0, locals := 20 } [.ref (a0 0), .int x1, .long x2, .long x3] (wX3 Z a0 o0) none (fun _ => wX3 Z a0 R) 0 0 := by
  refine rw_of (cc := cX3_fill) (maxL := 6) (ret := none) (by decide) rfl (Nat.le_of_ble_eq_true rfl) ?_
  intro p e s m below meth c A ls hx hb hr hml hts hown hlk hin hP hK hE hD hA hS hl
  have hown : s.vm.findClass RX3 = some m.cls := hown
  have hl : lv_has ls 6 [(0, .ref (a0 0)), (1, .int x1), (2, .long x2), (4, .long x3)] := hl
  have w0 := hts (.fieldLink RX3 9 "HeatTrain$Streams" "flow" "[J") (by decide +kernel)
  have w1 := hts (.fieldLink RX3 15 "HeatTrain$Streams" "heat" "[J") (by decide +kernel)
  have u3 : ∀ w ∈ wsX30, w ∈ wsX3_fill := by decide +kernel
  rw [f_X3_fill] at hf
  refine lv_iload_n (pc := 0) hx hb dX3_fill_0 rfl (lv_at hl 1 rfl) ?_
  refine ro_S (pc := 1) (As := [.int x1]) (rest := []) (st1 := [.int (f_X3_isThere x1)]) ⟨hx, hb, hml, hown, hts⟩ (c_X3_isThere Z l x1 _ rfl) (va_cwS 1 hts gX3_fill_X3_isThere rfl rfl rfl hs_X3_isThere ⟨Nat.le_of_ble_eq_true rfl, Nat.le_of_ble_eq_true rfl⟩) hK hE (hP.sub (ws' := []) [] rfl) rfl hl.1 rfl (lv_room (Nat.le_of_ble_eq_true rfl)) dX3_fill_1 ⟨Nat.le_of_ble_eq_true rfl, Nat.le_of_ble_eq_true rfl⟩ rfl ?_
  refine lv_if_eq (pc := 4) (tgt := 22) hx hb dX3_fill_4 (by decide) (fun c1 => ?_) (fun c1 => ?_)
  · have hf := (if_pos c1).symm.trans hf
    have hf := (Option.some.inj hf)
    subst hf
    exact rw_v (fun _ => 0) hx hb hr hlk hP hD hS dX3_fill_22
  · have hf := (if_neg c1).symm.trans hf
    refine lv_aload_n (pc := 7) hx hb dX3_fill_7 rfl (lv_at hl 0 rfl) ?_
    refine va_get (pc := 8) (D := Z.1) (ci := 3) (v := .ref (a0 1)) (C := RX3) (T := TX3) (N := 2) hx hb hts u3 hown hK hP 0 rfl rfl 0 (by decide) w0 (fun _ h9 => h9) rfl dX3_fill_8 ?_
    refine lv_iload_n (pc := 11) hx hb dX3_fill_11 rfl (lv_at hl 1 rfl) ?_
    refine lv_lload_n (pc := 12) hx hb dX3_fill_12 rfl (lv_at hl 2 rfl) ?_
    obtain ⟨g13, hf⟩ := gd hf
    refine va_last (pc := 13) (D := Z.1) (n := 24) (f := o0.2 0) hx hb hK hP hD hS 1 1 rfl rfl (inb_in g13) dX3_fill_13 (fun H locs hP hD hS => ?_)
    obtain ⟨s13, h_13, hf⟩ := bd hf
    have hP : va_P Z.1 vwCl (wX3 Z a0 s13) H := st_P (f := fun z => wX3 Z a0 z) h_13 hP
    have hD : va_D A (wX3 Z a0 s13) := st_D (f := fun z => wX3 Z a0 z) h_13 hD
    refine lv_aload_n (pc := 14) hx hb dX3_fill_14 rfl (lv_at hl 0 rfl) ?_
    refine va_get (pc := 15) (D := Z.1) (ci := 3) (v := .ref (a0 2)) (C := RX3) (T := TX3) (N := 2) hx hb hts u3 hown hK hP 0 rfl rfl 1 (by decide) w1 (fun _ h9 => h9) rfl dX3_fill_15 ?_
    refine lv_iload_n (pc := 18) hx hb dX3_fill_18 rfl (lv_at hl 1 rfl) ?_
    refine lv_lload (pc := 19) hx hb dX3_fill_19 (lv_at hl 3 rfl) ?_
    obtain ⟨g21, hf⟩ := gd hf
    refine va_last (pc := 21) (D := Z.1) (n := 24) (f := s13.2 1) hx hb hK hP hD hS 2 1 rfl rfl (inb_in g21) dX3_fill_21 (fun H locs hP hD hS => ?_)
    obtain ⟨s21, h_21, hf⟩ := bd hf
    have hP : va_P Z.1 vwCl (wX3 Z a0 s21) H := st_P (f := fun z => wX3 Z a0 z) h_21 hP
    have hD : va_D A (wX3 Z a0 s21) := st_D (f := fun z => wX3 Z a0 z) h_21 hD
    have hf := (Option.some.inj hf)
    subst hf
    exact rw_v (fun _ => 0) hx hb hr hlk hP hD hS dX3_fill_22
def f_X3_copyFrom_b2 (o1 : ObS) : Nat → Int32 → ObS → Option (ObS)
  | 0, _, _ => none
  | n + 1, v2_2, o2_0 =>
  if 24 ≤ v2_2 then
    some (o2_0)
  else
    if inb v2_2 24 then
    if inb v2_2 24 then
    (some (oj o2_0 0 (v2_2).toNatClampNeg (o1.2 0 (v2_2).toNatClampNeg))).bind fun s19 =>
    if inb v2_2 24 then
    if inb v2_2 24 then
    (some (oj s19 1 (v2_2).toNatClampNeg (o1.2 1 (v2_2).toNatClampNeg))).bind fun s31 =>
    f_X3_copyFrom_b2 o1 n (v2_2 + 1) s31
    else none
    else none
    else none
    else none
def f_X3_copyFrom (o0 : ObS) (o1 : ObS) : Option (ObS) :=
  f_X3_copyFrom_b2 o1 64 0 o0
set_option maxHeartbeats 4000000 in
set_option maxRecDepth 100000 in
theorem c_X3_copyFrom (Z : EnvT) (l : Launch) (a0 : Nat → Nat) (o0 : ObS) (a1 : Nat → Nat) (o1 : ObS) (R : ObS) (hf : f_X3_copyFrom o0 o1 = some R) : RW Z l yX3_copyFrom wsX3_copyFrom { frames := 0, cells := 0, slots := 0, locals := 0 } [.ref (a0 0), .ref (a1 0)] (wX3 Z a0 o0 ++ wX3 Z a1 o1) none (fun _ => wX3 Z a0 R ++ wX3 Z a1 o1) 0 0 := by
  refine rw_of (cc := cX3_copyFrom) (maxL := 3) (ret := none) (by decide) rfl (Nat.le_of_ble_eq_true rfl) ?_
  intro p e s m below meth c A ls hx hb hr hml hts hown hlk hin hP hK hE hD hA hS hl
  have hown : s.vm.findClass RX3 = some m.cls := hown
  have hl : lv_has ls 3 [(0, .ref (a0 0)), (1, .ref (a1 0))] := hl
  have w0 := hts (.fieldLink RX3 9 "HeatTrain$Streams" "flow" "[J") (by decide +kernel)
  have w1 := hts (.fieldLink RX3 15 "HeatTrain$Streams" "heat" "[J") (by decide +kernel)
  have u3 : ∀ w ∈ wsX30, w ∈ wsX3_copyFrom := by decide +kernel
  have B2 : ∀ (n : Nat), ∀ (v2_2 : Int32) (o2_0 : ObS) (ls : Array Slot), lv_has ls 3 [(0, .ref (a0 0)), (1, .ref (a1 0)), (2, .int v2_2)] → ∀ (H : Heap) (locs : List Loc), va_P Z.1 vwCl (wX3 Z a0 o2_0 ++ wX3 Z a1 o1) H → va_D A (wX3 Z a0 o2_0 ++ wX3 Z a1 o1) → va_S A s.heap H locs → f_X3_copyFrom_b2 o1 n v2_2 o2_0 = some R → W p l e { frames := 0, cells := 0, slots := 0, locals := 0 } s m ([.ref (a0 0), .ref (a1 0)] : List Value).toArray below meth c H locs 0 0 (MQ below (rwQ Z none (fun _ => wX3 Z a0 R ++ wX3 Z a1 o1) A) ([.ref (a0 0), .ref (a1 0)] : List Value).toArray s 0 0 A) (F0 m 2 ls []) := by
    intro n
    induction n with
    | zero => intro v2_2 o2_0 ls hl H locs hP hD hS hf; rw [f_X3_copyFrom_b2] at hf; exact nomatch hf
    | succ n ih =>
      intro v2_2 o2_0 ls hl H locs hP hD hS hf
      rw [f_X3_copyFrom_b2] at hf
      refine lv_iload_n (pc := 2) hx hb dX3_copyFrom_2 rfl (lv_at hl 2 rfl) ?_
      refine lv_bipush (pc := 3) (v := 24) hx hb dX3_copyFrom_3 (by decide) ?_
      refine lv_icmp_ge (pc := 5) (tgt := 38) hx hb dX3_copyFrom_5 (by decide) (fun c1 => ?_) (fun c1 => ?_)
      · have hf := (if_pos c1).symm.trans hf
        have hf := (Option.some.inj hf)
        subst hf
        exact rw_v (fun _ => 0) hx hb hr hlk hP hD hS dX3_copyFrom_38
      · have hf := (if_neg c1).symm.trans hf
        refine lv_aload_n (pc := 8) hx hb dX3_copyFrom_8 rfl (lv_at hl 0 rfl) ?_
        refine va_get (pc := 9) (D := Z.1) (ci := 3) (v := .ref (a0 1)) (C := RX3) (T := TX3) (N := 2) hx hb hts u3 hown hK hP 0 rfl rfl 0 (by decide) w0 (fun _ h9 => h9) rfl dX3_copyFrom_9 ?_
        refine lv_iload_n (pc := 12) hx hb dX3_copyFrom_12 rfl (lv_at hl 2 rfl) ?_
        refine lv_aload_n (pc := 13) hx hb dX3_copyFrom_13 rfl (lv_at hl 1 rfl) ?_
        refine va_get (pc := 14) (D := Z.1) (ci := 3) (v := .ref (a1 1)) (C := RX3) (T := TX3) (N := 2) hx hb hts u3 hown hK hP 3 rfl rfl 0 (by decide) w0 (fun _ h9 => h9) rfl dX3_copyFrom_14 ?_
        refine lv_iload_n (pc := 17) hx hb dX3_copyFrom_17 rfl (lv_at hl 2 rfl) ?_
        obtain ⟨g18, hf⟩ := gd hf
        refine va_lald (pc := 18) (D := Z.1) (n := 24) (f := o1.2 0) hx hb hK hP 4 1 rfl rfl (inb_in g18) dX3_copyFrom_18 ?_
        obtain ⟨g19, hf⟩ := gd hf
        refine va_last (pc := 19) (D := Z.1) (n := 24) (f := o2_0.2 0) hx hb hK hP hD hS 1 1 rfl rfl (inb_in g19) dX3_copyFrom_19 (fun H locs hP hD hS => ?_)
        obtain ⟨s19, h_19, hf⟩ := bd hf
        have hP : va_P Z.1 vwCl (wX3 Z a0 s19 ++ wX3 Z a1 o1) H := st_P (f := fun z => wX3 Z a0 z ++ wX3 Z a1 o1) h_19 hP
        have hD : va_D A (wX3 Z a0 s19 ++ wX3 Z a1 o1) := st_D (f := fun z => wX3 Z a0 z ++ wX3 Z a1 o1) h_19 hD
        refine lv_aload_n (pc := 20) hx hb dX3_copyFrom_20 rfl (lv_at hl 0 rfl) ?_
        refine va_get (pc := 21) (D := Z.1) (ci := 3) (v := .ref (a0 2)) (C := RX3) (T := TX3) (N := 2) hx hb hts u3 hown hK hP 0 rfl rfl 1 (by decide) w1 (fun _ h9 => h9) rfl dX3_copyFrom_21 ?_
        refine lv_iload_n (pc := 24) hx hb dX3_copyFrom_24 rfl (lv_at hl 2 rfl) ?_
        refine lv_aload_n (pc := 25) hx hb dX3_copyFrom_25 rfl (lv_at hl 1 rfl) ?_
        refine va_get (pc := 26) (D := Z.1) (ci := 3) (v := .ref (a1 2)) (C := RX3) (T := TX3) (N := 2) hx hb hts u3 hown hK hP 3 rfl rfl 1 (by decide) w1 (fun _ h9 => h9) rfl dX3_copyFrom_26 ?_
        refine lv_iload_n (pc := 29) hx hb dX3_copyFrom_29 rfl (lv_at hl 2 rfl) ?_
        obtain ⟨g30, hf⟩ := gd hf
        refine va_lald (pc := 30) (D := Z.1) (n := 24) (f := o1.2 1) hx hb hK hP 5 1 rfl rfl (inb_in g30) dX3_copyFrom_30 ?_
        obtain ⟨g31, hf⟩ := gd hf
        refine va_last (pc := 31) (D := Z.1) (n := 24) (f := s19.2 1) hx hb hK hP hD hS 2 1 rfl rfl (inb_in g31) dX3_copyFrom_31 (fun H locs hP hD hS => ?_)
        obtain ⟨s31, h_31, hf⟩ := bd hf
        have hP : va_P Z.1 vwCl (wX3 Z a0 s31 ++ wX3 Z a1 o1) H := st_P (f := fun z => wX3 Z a0 z ++ wX3 Z a1 o1) h_31 hP
        have hD : va_D A (wX3 Z a0 s31 ++ wX3 Z a1 o1) := st_D (f := fun z => wX3 Z a0 z ++ wX3 Z a1 o1) h_31 hD
        refine lv_iinc (pc := 32) (v := v2_2 + 1) (lv' := [(2, .int (v2_2 + 1)), (0, .ref (a0 0)), (1, .ref (a1 0))]) hx hb dX3_copyFrom_32 hl (k := 2) rfl rfl (by decide) rfl (fun ls hl => ?_)
        refine lv_goto (pc := 35) (tgt := 2) hx hb dX3_copyFrom_35 (by decide) ?_
        exact ih (v2_2 + 1) s31 _ (lv_sub hl [1, 2, 0] rfl) _ _ hP hD hS hf
  rw [f_X3_copyFrom] at hf
  refine lv_iconst (pc := 0) (v := 0) hx hb dX3_copyFrom_0 (by decide) ?_
  refine lv_istore_n (pc := 1) (lv' := [(2, .int 0), (0, .ref (a0 0)), (1, .ref (a1 0))]) hx hb dX3_copyFrom_1 rfl hl (by decide) rfl (fun ls hl => ?_)
  exact B2 64 0 o0 _ (lv_sub hl [1, 2, 0] rfl) _ _ hP hD hS hf
