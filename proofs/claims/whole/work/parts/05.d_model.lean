def f_X7_warmthFor (x1 : Int64) (x2 : Int64) : Option (Int64) :=
  if (lg_cmp x1 0) = (0 : Int32) then
    some ((0 : Int64))
  else
    if decide (¬ x1 = (0 : Int64)) then
    some ((10 * x2) / x1)
    else none
set_option maxHeartbeats 4000000 in
set_option maxRecDepth 100000 in
theorem c_X7_warmthFor (Z : EnvT) (l : Launch) (x1 : Int64) (x2 : Int64) (R : Int64) (hf : f_X7_warmthFor x1 x2 = some R) : RO Z l yX7_warmthFor wsX7_warmthFor { frames := 0, cells := 0, slots := 0, locals := 0 } [.long x1, .long x2] ([]) (some (.long R)) := by
  refine ro_of (cc := cX7_warmthFor) (maxL := 4) (ret := (some .long)) (by decide) rfl (Nat.le_of_ble_eq_true rfl) ?_
  intro p e s m below meth c ls hx hb hr hml hts hown hlk hP hK hE hl
  have hown : s.vm.findClass RX7 = some m.cls := hown
  have hl : lv_has ls 4 [(0, .long x1), (2, .long x2)] := hl
  have w0 := hts (.constantLong RX7 182 (10)) (by decide +kernel)
  rw [f_X7_warmthFor] at hf
  refine lv_lload_n (pc := 0) hx hb dX7_warmthFor_0 rfl (lv_at hl 0 rfl) ?_
  refine lv_lconst (pc := 1) (v := 0) hx hb dX7_warmthFor_1 (by decide) ?_
  refine W.lcmp (pc := 2) hx hb dX7_warmthFor_2 ?_
  refine lv_if_ne (pc := 3) (tgt := 10) hx hb dX7_warmthFor_3 (by decide) (fun c1 => ?_) (fun c1 => ?_)
  · have hf := (if_neg c1).symm.trans hf
    refine lv_ldc2 (pc := 10) (v := 10) hx hb hown w0 dX7_warmthFor_10 ?_
    refine lv_lload_n (pc := 13) hx hb dX7_warmthFor_13 rfl (lv_at hl 1 rfl) ?_
    refine lv_lmul (pc := 14) hx hb dX7_warmthFor_14 ?_
    refine lv_lload_n (pc := 15) hx hb dX7_warmthFor_15 rfl (lv_at hl 0 rfl) ?_
    obtain ⟨g16, hf⟩ := gd hf
    refine lv_ldiv (pc := 16) hx hb dX7_warmthFor_16 (of_decide_eq_true g16) ?_
    exact ro_l hx hb hr hlk (Option.some.inj hf) dX7_warmthFor_17
  · have hf := (if_pos c1).symm.trans hf
    refine lv_lconst (pc := 6) (v := 0) hx hb dX7_warmthFor_6 (by decide) ?_
    refine lv_goto (pc := 7) (tgt := 17) hx hb dX7_warmthFor_7 (by decide) ?_
    exact ro_l hx hb hr hlk (Option.some.inj hf) dX7_warmthFor_17
def f_X7_warmthOf (o0 : ObS) (x1 : Int32) : Option (Int32) :=
  if inb x1 24 then
  if inb x1 24 then
  (f_X7_warmthFor (o0.2 10 (x1).toNatClampNeg) (o0.2 11 (x1).toNatClampNeg)).bind fun r12 =>
  some (r12.toInt32)
  else none
  else none
set_option maxHeartbeats 4000000 in
set_option maxRecDepth 100000 in
theorem c_X7_warmthOf (Z : EnvT) (l : Launch) (a0 : Nat → Nat) (o0 : ObS) (x1 : Int32) (R : Int32) (hf : f_X7_warmthOf o0 x1 = some R) : RO Z l yX7_warmthOf wsX7_warmthOf { frames := 1, cells := 0, slots := 0, locals := 23 } [.ref (a0 0), .int x1] (wX7 Z a0 o0) (some (.int R)) := by
  refine ro_of (cc := cX7_warmthOf) (maxL := 2) (ret := (some .int)) (by decide) rfl (Nat.le_of_ble_eq_true rfl) ?_
  intro p e s m below meth c ls hx hb hr hml hts hown hlk hP hK hE hl
  have hown : s.vm.findClass RX7 = some m.cls := hown
  have hl : lv_has ls 2 [(0, .ref (a0 0)), (1, .int x1)] := hl
  have w0 := hts (.fieldLink RX7 32 "HeatTrainModel" "flows" "[J") (by decide +kernel)
  have w1 := hts (.fieldLink RX7 36 "HeatTrainModel" "heats" "[J") (by decide +kernel)
  have u7 : ∀ w ∈ wsX70, w ∈ wsX7_warmthOf := by decide +kernel
  rw [f_X7_warmthOf] at hf
  refine lv_aload_n (pc := 0) hx hb dX7_warmthOf_0 rfl (lv_at hl 0 rfl) ?_
  refine va_get (pc := 1) (D := Z.1) (ci := 7) (v := .ref (a0 11)) (C := RX7) (T := TX7) (N := 41) hx hb hts u7 hown hK hP 0 rfl rfl 10 (by decide) w0 (fun _ h9 => h9) rfl dX7_warmthOf_1 ?_
  refine lv_iload_n (pc := 4) hx hb dX7_warmthOf_4 rfl (lv_at hl 1 rfl) ?_
  obtain ⟨g5, hf⟩ := gd hf
  refine va_lald (pc := 5) (D := Z.1) (n := 24) (f := o0.2 10) hx hb hK hP 8 1 rfl rfl (inb_in g5) dX7_warmthOf_5 ?_
  refine lv_aload_n (pc := 6) hx hb dX7_warmthOf_6 rfl (lv_at hl 0 rfl) ?_
  refine va_get (pc := 7) (D := Z.1) (ci := 7) (v := .ref (a0 12)) (C := RX7) (T := TX7) (N := 41) hx hb hts u7 hown hK hP 0 rfl rfl 11 (by decide) w1 (fun _ h9 => h9) rfl dX7_warmthOf_7 ?_
  refine lv_iload_n (pc := 10) hx hb dX7_warmthOf_10 rfl (lv_at hl 1 rfl) ?_
  obtain ⟨g11, hf⟩ := gd hf
  refine va_lald (pc := 11) (D := Z.1) (n := 24) (f := o0.2 11) hx hb hK hP 9 1 rfl rfl (inb_in g11) dX7_warmthOf_11 ?_
  obtain ⟨r12, h_12, hf⟩ := bd hf
  refine ro_S (pc := 12) (As := [.long (o0.2 10 (x1).toNatClampNeg), .long (o0.2 11 (x1).toNatClampNeg)]) (rest := []) (st1 := [.long r12]) ⟨hx, hb, hml, hown, hts⟩ (c_X7_warmthFor Z l (o0.2 10 (x1).toNatClampNeg) (o0.2 11 (x1).toNatClampNeg) r12 h_12) (va_cwS 2 hts gX7_warmthOf_X7_warmthFor rfl rfl rfl hs_X7_warmthFor ⟨Nat.le_of_ble_eq_true rfl, Nat.le_of_ble_eq_true rfl⟩) hK hE (hP.sub (ws' := []) [] rfl) rfl hl.1 rfl (lv_room (Nat.le_of_ble_eq_true rfl)) dX7_warmthOf_12 ⟨Nat.le_of_ble_eq_true rfl, Nat.le_of_ble_eq_true rfl⟩ rfl ?_
  refine lv_l2i (pc := 15) (v := r12.toInt32) hx hb dX7_warmthOf_15 rfl ?_
  exact ro_i hx hb hr hlk (Option.some.inj hf) dX7_warmthOf_16
def f_X7_disturbs_b4  : Nat → Int32 → Int32 → ObS → Option (ObS)
  | 0, _, _, _ => none
  | n + 1, v4_2, v4_1, o4_0 =>
  if (o4_0.1 18 0) ≤ v4_2 then
    (some (oi o4_0 18 0 v4_1)).bind fun s92 =>
    some (s92)
  else
    if inb v4_2 40 then
    if (o4_0.1 19 (v4_2).toNatClampNeg) = (o4_0.1 1 0) then
      if inb v4_2 40 then
      if inb v4_2 40 then
      if inb (o4_0.1 20 (v4_2).toNatClampNeg) 12 then
      (some (oi o4_0 4 (o4_0.1 20 (v4_2).toNatClampNeg).toNatClampNeg (o4_0.1 21 (v4_2).toNatClampNeg))).bind fun s41 =>
      f_X7_disturbs_b4 n (v4_2 + 1) v4_1 s41
      else none
      else none
      else none
    else
      if inb v4_2 40 then
      if inb v4_1 40 then
      (some (oi o4_0 19 (v4_1).toNatClampNeg (o4_0.1 19 (v4_2).toNatClampNeg))).bind fun s56 =>
      if inb v4_2 40 then
      if inb v4_1 40 then
      (some (oi s56 20 (v4_1).toNatClampNeg (s56.1 20 (v4_2).toNatClampNeg))).bind fun s68 =>
      if inb v4_2 40 then
      if inb v4_1 40 then
      (some (oi s68 21 (v4_1).toNatClampNeg (s68.1 21 (v4_2).toNatClampNeg))).bind fun s80 =>
      f_X7_disturbs_b4 n (v4_2 + 1) (v4_1 + 1) s80
      else none
      else none
      else none
      else none
      else none
      else none
    else none
def f_X7_disturbs (o0 : ObS) : Option (ObS) :=
  f_X7_disturbs_b4 64 0 0 o0
set_option maxHeartbeats 4000000 in
set_option maxRecDepth 100000 in
theorem c_X7_disturbs (Z : EnvT) (l : Launch) (a0 : Nat → Nat) (o0 : ObS) (R : ObS) (hf : f_X7_disturbs o0 = some R) : RW Z l yX7_disturbs wsX7_disturbs { frames := 0, cells := 0, slots := 0, locals := 0 } [.ref (a0 0)] (wX7 Z a0 o0) none (fun _ => wX7 Z a0 R) 0 0 := by
  refine rw_of (cc := cX7_disturbs) (maxL := 3) (ret := none) (by decide) rfl (Nat.le_of_ble_eq_true rfl) ?_
  intro p e s m below meth c A ls hx hb hr hml hts hown hlk hin hP hK hE hD hA hS hl
  have hown : s.vm.findClass RX7 = some m.cls := hown
  have hl : lv_has ls 3 [(0, .ref (a0 0))] := hl
  have w0 := hts (.fieldLink RX7 163 "HeatTrainModel" "coming" "I") (by decide +kernel)
  have w1 := hts (.fieldLink RX7 57 "HeatTrainModel" "comesIn" "[I") (by decide +kernel)
  have w2 := hts (.fieldLink RX7 132 "HeatTrainModel" "now" "I") (by decide +kernel)
  have w3 := hts (.fieldLink RX7 60 "HeatTrainModel" "comesTo" "[I") (by decide +kernel)
  have w4 := hts (.fieldLink RX7 63 "HeatTrainModel" "comesAs" "[I") (by decide +kernel)
  have w5 := hts (.fieldLink RX7 13 "HeatTrainModel" "numbers" "[I") (by decide +kernel)
  have u7 : ∀ w ∈ wsX70, w ∈ wsX7_disturbs := by decide +kernel
  have B4 : ∀ (n : Nat), ∀ (v4_2 : Int32) (v4_1 : Int32) (o4_0 : ObS) (ls : Array Slot), lv_has ls 3 [(0, .ref (a0 0)), (1, .int v4_1), (2, .int v4_2)] → ∀ (H : Heap) (locs : List Loc), va_P Z.1 vwCl (wX7 Z a0 o4_0) H → va_D A (wX7 Z a0 o4_0) → va_S A s.heap H locs → f_X7_disturbs_b4 n v4_2 v4_1 o4_0 = some R → W p l e { frames := 0, cells := 0, slots := 0, locals := 0 } s m ([.ref (a0 0)] : List Value).toArray below meth c H locs 0 0 (MQ below (rwQ Z none (fun _ => wX7 Z a0 R) A) ([.ref (a0 0)] : List Value).toArray s 0 0 A) (F0 m 4 ls []) := by
    intro n
    induction n with
    | zero => intro v4_2 v4_1 o4_0 ls hl H locs hP hD hS hf; rw [f_X7_disturbs_b4] at hf; exact nomatch hf
    | succ n ih =>
      intro v4_2 v4_1 o4_0 ls hl H locs hP hD hS hf
      rw [f_X7_disturbs_b4] at hf
      refine lv_iload_n (pc := 4) hx hb dX7_disturbs_4 rfl (lv_at hl 2 rfl) ?_
      refine lv_aload_n (pc := 5) hx hb dX7_disturbs_5 rfl (lv_at hl 0 rfl) ?_
      refine va_get (pc := 6) (D := Z.1) (ci := 7) (v := .int (o4_0.1 18 0)) (C := RX7) (T := TX7) (N := 41) hx hb hts u7 hown hK hP 0 rfl rfl 18 (by decide) w0 (fun _ h9 => h9) rfl dX7_disturbs_6 ?_
      refine lv_icmp_ge (pc := 9) (tgt := 90) hx hb dX7_disturbs_9 (by decide) (fun c1 => ?_) (fun c1 => ?_)
      · have hf := (if_pos c1).symm.trans hf
        refine lv_aload_n (pc := 90) hx hb dX7_disturbs_90 rfl (lv_at hl 0 rfl) ?_
        refine lv_iload_n (pc := 91) hx hb dX7_disturbs_91 rfl (lv_at hl 1 rfl) ?_
        refine va_put (pc := 92) (D := Z.1) (ci := 7) (v := .int v4_1) (ty := .int) (C := RX7) (T := TX7) (N := 41) hx hb hts u7 tyX7 tyX7_ok nmX7 hown hK hP hD hS 0 rfl rfl 18 (by decide) w0 (fun _ h9 => h9) rfl (by decide +kernel) rfl rfl (Nat.le_of_ble_eq_true rfl) dX7_disturbs_92 (fun H locs hP hD hS => ?_)
        obtain ⟨s92, h_92, hf⟩ := bd hf
        have hP : va_P Z.1 vwCl (wX7 Z a0 s92) H := st_P (f := fun z => wX7 Z a0 z) h_92 hP
        have hD : va_D A (wX7 Z a0 s92) := st_D (f := fun z => wX7 Z a0 z) h_92 hD
        have hf := (Option.some.inj hf)
        subst hf
        exact rw_v (fun _ => 0) hx hb hr hlk hP hD hS dX7_disturbs_95
      · have hf := (if_neg c1).symm.trans hf
        refine lv_aload_n (pc := 12) hx hb dX7_disturbs_12 rfl (lv_at hl 0 rfl) ?_
        refine va_get (pc := 13) (D := Z.1) (ci := 7) (v := .ref (a0 20)) (C := RX7) (T := TX7) (N := 41) hx hb hts u7 hown hK hP 0 rfl rfl 19 (by decide) w1 (fun _ h9 => h9) rfl dX7_disturbs_13 ?_
        refine lv_iload_n (pc := 16) hx hb dX7_disturbs_16 rfl (lv_at hl 2 rfl) ?_
        obtain ⟨g17, hf⟩ := gd hf
        refine va_iald (pc := 17) (D := Z.1) (n := 40) (f := o4_0.1 19) hx hb hK hP 16 0 rfl rfl (inb_in g17) dX7_disturbs_17 ?_
        refine lv_aload_n (pc := 18) hx hb dX7_disturbs_18 rfl (lv_at hl 0 rfl) ?_
        refine va_get (pc := 19) (D := Z.1) (ci := 7) (v := .int (o4_0.1 1 0)) (C := RX7) (T := TX7) (N := 41) hx hb hts u7 hown hK hP 0 rfl rfl 1 (by decide) w2 (fun _ h9 => h9) rfl dX7_disturbs_19 ?_
        refine lv_icmp_ne (pc := 22) (tgt := 45) hx hb dX7_disturbs_22 (by decide) (fun c2 => ?_) (fun c2 => ?_)
        · have hf := (if_neg c2).symm.trans hf
          refine lv_aload_n (pc := 45) hx hb dX7_disturbs_45 rfl (lv_at hl 0 rfl) ?_
          refine va_get (pc := 46) (D := Z.1) (ci := 7) (v := .ref (a0 20)) (C := RX7) (T := TX7) (N := 41) hx hb hts u7 hown hK hP 0 rfl rfl 19 (by decide) w1 (fun _ h9 => h9) rfl dX7_disturbs_46 ?_
          refine lv_iload_n (pc := 49) hx hb dX7_disturbs_49 rfl (lv_at hl 1 rfl) ?_
          refine lv_aload_n (pc := 50) hx hb dX7_disturbs_50 rfl (lv_at hl 0 rfl) ?_
          refine va_get (pc := 51) (D := Z.1) (ci := 7) (v := .ref (a0 20)) (C := RX7) (T := TX7) (N := 41) hx hb hts u7 hown hK hP 0 rfl rfl 19 (by decide) w1 (fun _ h9 => h9) rfl dX7_disturbs_51 ?_
          refine lv_iload_n (pc := 54) hx hb dX7_disturbs_54 rfl (lv_at hl 2 rfl) ?_
          obtain ⟨g55, hf⟩ := gd hf
          refine va_iald (pc := 55) (D := Z.1) (n := 40) (f := o4_0.1 19) hx hb hK hP 16 0 rfl rfl (inb_in g55) dX7_disturbs_55 ?_
          obtain ⟨g56, hf⟩ := gd hf
          refine va_iast (pc := 56) (D := Z.1) (n := 40) (f := o4_0.1 19) hx hb hK hP hD hS 16 0 rfl rfl (inb_in g56) dX7_disturbs_56 (fun H locs hP hD hS => ?_)
          obtain ⟨s56, h_56, hf⟩ := bd hf
          have hP : va_P Z.1 vwCl (wX7 Z a0 s56) H := st_P (f := fun z => wX7 Z a0 z) h_56 hP
          have hD : va_D A (wX7 Z a0 s56) := st_D (f := fun z => wX7 Z a0 z) h_56 hD
          refine lv_aload_n (pc := 57) hx hb dX7_disturbs_57 rfl (lv_at hl 0 rfl) ?_
          refine va_get (pc := 58) (D := Z.1) (ci := 7) (v := .ref (a0 21)) (C := RX7) (T := TX7) (N := 41) hx hb hts u7 hown hK hP 0 rfl rfl 20 (by decide) w3 (fun _ h9 => h9) rfl dX7_disturbs_58 ?_
          refine lv_iload_n (pc := 61) hx hb dX7_disturbs_61 rfl (lv_at hl 1 rfl) ?_
          refine lv_aload_n (pc := 62) hx hb dX7_disturbs_62 rfl (lv_at hl 0 rfl) ?_
          refine va_get (pc := 63) (D := Z.1) (ci := 7) (v := .ref (a0 21)) (C := RX7) (T := TX7) (N := 41) hx hb hts u7 hown hK hP 0 rfl rfl 20 (by decide) w3 (fun _ h9 => h9) rfl dX7_disturbs_63 ?_
          refine lv_iload_n (pc := 66) hx hb dX7_disturbs_66 rfl (lv_at hl 2 rfl) ?_
          obtain ⟨g67, hf⟩ := gd hf
          refine va_iald (pc := 67) (D := Z.1) (n := 40) (f := s56.1 20) hx hb hK hP 17 0 rfl rfl (inb_in g67) dX7_disturbs_67 ?_
          obtain ⟨g68, hf⟩ := gd hf
          refine va_iast (pc := 68) (D := Z.1) (n := 40) (f := s56.1 20) hx hb hK hP hD hS 17 0 rfl rfl (inb_in g68) dX7_disturbs_68 (fun H locs hP hD hS => ?_)
          obtain ⟨s68, h_68, hf⟩ := bd hf
          have hP : va_P Z.1 vwCl (wX7 Z a0 s68) H := st_P (f := fun z => wX7 Z a0 z) h_68 hP
          have hD : va_D A (wX7 Z a0 s68) := st_D (f := fun z => wX7 Z a0 z) h_68 hD
          refine lv_aload_n (pc := 69) hx hb dX7_disturbs_69 rfl (lv_at hl 0 rfl) ?_
          refine va_get (pc := 70) (D := Z.1) (ci := 7) (v := .ref (a0 22)) (C := RX7) (T := TX7) (N := 41) hx hb hts u7 hown hK hP 0 rfl rfl 21 (by decide) w4 (fun _ h9 => h9) rfl dX7_disturbs_70 ?_
          refine lv_iload_n (pc := 73) hx hb dX7_disturbs_73 rfl (lv_at hl 1 rfl) ?_
          refine lv_aload_n (pc := 74) hx hb dX7_disturbs_74 rfl (lv_at hl 0 rfl) ?_
          refine va_get (pc := 75) (D := Z.1) (ci := 7) (v := .ref (a0 22)) (C := RX7) (T := TX7) (N := 41) hx hb hts u7 hown hK hP 0 rfl rfl 21 (by decide) w4 (fun _ h9 => h9) rfl dX7_disturbs_75 ?_
          refine lv_iload_n (pc := 78) hx hb dX7_disturbs_78 rfl (lv_at hl 2 rfl) ?_
          obtain ⟨g79, hf⟩ := gd hf
          refine va_iald (pc := 79) (D := Z.1) (n := 40) (f := s68.1 21) hx hb hK hP 18 0 rfl rfl (inb_in g79) dX7_disturbs_79 ?_
          obtain ⟨g80, hf⟩ := gd hf
          refine va_iast (pc := 80) (D := Z.1) (n := 40) (f := s68.1 21) hx hb hK hP hD hS 18 0 rfl rfl (inb_in g80) dX7_disturbs_80 (fun H locs hP hD hS => ?_)
          obtain ⟨s80, h_80, hf⟩ := bd hf
          have hP : va_P Z.1 vwCl (wX7 Z a0 s80) H := st_P (f := fun z => wX7 Z a0 z) h_80 hP
          have hD : va_D A (wX7 Z a0 s80) := st_D (f := fun z => wX7 Z a0 z) h_80 hD
          refine lv_iinc (pc := 81) (v := v4_1 + 1) (lv' := [(1, .int (v4_1 + 1)), (0, .ref (a0 0)), (2, .int v4_2)]) hx hb dX7_disturbs_81 hl (k := 1) rfl rfl (by decide) rfl (fun ls hl => ?_)
          refine lv_iinc (pc := 84) (v := v4_2 + 1) (lv' := [(2, .int (v4_2 + 1)), (1, .int (v4_1 + 1)), (0, .ref (a0 0))]) hx hb dX7_disturbs_84 hl (k := 2) rfl rfl (by decide) rfl (fun ls hl => ?_)
          refine lv_goto (pc := 87) (tgt := 4) hx hb dX7_disturbs_87 (by decide) ?_
          exact ih (v4_2 + 1) (v4_1 + 1) s80 _ (lv_sub hl [2, 1, 0] rfl) _ _ hP hD hS hf
        · have hf := (if_pos c2).symm.trans hf
          refine lv_aload_n (pc := 25) hx hb dX7_disturbs_25 rfl (lv_at hl 0 rfl) ?_
          refine va_get (pc := 26) (D := Z.1) (ci := 7) (v := .ref (a0 5)) (C := RX7) (T := TX7) (N := 41) hx hb hts u7 hown hK hP 0 rfl rfl 4 (by decide) w5 (fun _ h9 => h9) rfl dX7_disturbs_26 ?_
          refine lv_aload_n (pc := 29) hx hb dX7_disturbs_29 rfl (lv_at hl 0 rfl) ?_
          refine va_get (pc := 30) (D := Z.1) (ci := 7) (v := .ref (a0 21)) (C := RX7) (T := TX7) (N := 41) hx hb hts u7 hown hK hP 0 rfl rfl 20 (by decide) w3 (fun _ h9 => h9) rfl dX7_disturbs_30 ?_
          refine lv_iload_n (pc := 33) hx hb dX7_disturbs_33 rfl (lv_at hl 2 rfl) ?_
          obtain ⟨g34, hf⟩ := gd hf
          refine va_iald (pc := 34) (D := Z.1) (n := 40) (f := o4_0.1 20) hx hb hK hP 17 0 rfl rfl (inb_in g34) dX7_disturbs_34 ?_
          refine lv_aload_n (pc := 35) hx hb dX7_disturbs_35 rfl (lv_at hl 0 rfl) ?_
          refine va_get (pc := 36) (D := Z.1) (ci := 7) (v := .ref (a0 22)) (C := RX7) (T := TX7) (N := 41) hx hb hts u7 hown hK hP 0 rfl rfl 21 (by decide) w4 (fun _ h9 => h9) rfl dX7_disturbs_36 ?_
          refine lv_iload_n (pc := 39) hx hb dX7_disturbs_39 rfl (lv_at hl 2 rfl) ?_
          obtain ⟨g40, hf⟩ := gd hf
          refine va_iald (pc := 40) (D := Z.1) (n := 40) (f := o4_0.1 21) hx hb hK hP 18 0 rfl rfl (inb_in g40) dX7_disturbs_40 ?_
          obtain ⟨g41, hf⟩ := gd hf
          refine va_iast (pc := 41) (D := Z.1) (n := 12) (f := o4_0.1 4) hx hb hK hP hD hS 2 0 rfl rfl (inb_in g41) dX7_disturbs_41 (fun H locs hP hD hS => ?_)
          obtain ⟨s41, h_41, hf⟩ := bd hf
          have hP : va_P Z.1 vwCl (wX7 Z a0 s41) H := st_P (f := fun z => wX7 Z a0 z) h_41 hP
          have hD : va_D A (wX7 Z a0 s41) := st_D (f := fun z => wX7 Z a0 z) h_41 hD
          refine lv_goto (pc := 42) (tgt := 84) hx hb dX7_disturbs_42 (by decide) ?_
          refine lv_iinc (pc := 84) (v := v4_2 + 1) (lv' := [(2, .int (v4_2 + 1)), (0, .ref (a0 0)), (1, .int v4_1)]) hx hb dX7_disturbs_84 hl (k := 2) rfl rfl (by decide) rfl (fun ls hl => ?_)
          refine lv_goto (pc := 87) (tgt := 4) hx hb dX7_disturbs_87 (by decide) ?_
          exact ih (v4_2 + 1) v4_1 s41 _ (lv_sub hl [1, 2, 0] rfl) _ _ hP hD hS hf
  rw [f_X7_disturbs] at hf
  refine lv_iconst (pc := 0) (v := 0) hx hb dX7_disturbs_0 (by decide) ?_
  refine lv_istore_n (pc := 1) (lv' := [(1, .int 0), (0, .ref (a0 0))]) hx hb dX7_disturbs_1 rfl hl (by decide) rfl (fun ls hl => ?_)
  refine lv_iconst (pc := 2) (v := 0) hx hb dX7_disturbs_2 (by decide) ?_
  refine lv_istore_n (pc := 3) (lv' := [(2, .int 0), (1, .int 0), (0, .ref (a0 0))]) hx hb dX7_disturbs_3 rfl hl (by decide) rfl (fun ls hl => ?_)
  exact B4 64 0 0 o0 _ (lv_sub hl [2, 1, 0] rfl) _ _ hP hD hS hf
def f_X7_warns_b41 (o0 : ObS) (x1 : Int32) (k25_0 : Int32) (k41_0 : Int32) : Option (ObS) :=
  if k41_0 = (0 : Int32) then
    if inb x1 6 then
    (some (oi o0 35 (x1).toNatClampNeg (vp_nar .boolean k41_0))).bind fun s111 =>
    some (s111)
    else none
  else
    if inb x1 6 then
    if (o0.1 35 (x1).toNatClampNeg) = (0 : Int32) then
      if inb x1 6 then
      if inb (o0.1 37 0) 1800 then
      (some (oi o0 38 (o0.1 37 0).toNatClampNeg (k25_0 - (o0.1 31 (x1).toNatClampNeg)))).bind fun s71 =>
      if inb (s71.1 37 0) 1800 then
      (some (oi s71 39 (s71.1 37 0).toNatClampNeg (s71.1 1 0))).bind fun s84 =>
      if inb (s84.1 37 0) 1800 then
      (some (oi s84 40 (s84.1 37 0).toNatClampNeg x1)).bind fun s94 =>
      (some (oi s94 37 0 ((s94.1 37 0) + 1))).bind fun s102 =>
      if inb x1 6 then
      (some (oi s102 35 (x1).toNatClampNeg (vp_nar .boolean k41_0))).bind fun s111 =>
      some (s111)
      else none
      else none
      else none
      else none
      else none
    else
      if inb x1 6 then
      (some (oi o0 35 (x1).toNatClampNeg (vp_nar .boolean k41_0))).bind fun s111 =>
      some (s111)
      else none
    else none
def f_X7_warns_b25 (o0 : ObS) (x1 : Int32) (k25_0 : Int32) : Option (ObS) :=
  if inb x1 6 then
  if k25_0 ≤ (o0.1 31 (x1).toNatClampNeg) then
    f_X7_warns_b41 o0 x1 k25_0 0
  else
    f_X7_warns_b41 o0 x1 k25_0 1
  else none
def f_X7_warns (o0 : ObS) (x1 : Int32) : Option (ObS) :=
  if inb x1 6 then
  if (0 : Int32) ≤ (o0.1 34 (x1).toNatClampNeg) then
    if inb x1 6 then
    f_X7_warns_b25 o0 x1 (o0.1 34 (x1).toNatClampNeg)
    else none
  else
    if inb x1 6 then
    f_X7_warns_b25 o0 x1 (-(o0.1 34 (x1).toNatClampNeg))
    else none
  else none
set_option maxHeartbeats 4000000 in
set_option maxRecDepth 100000 in
theorem c_X7_warns (Z : EnvT) (l : Launch) (a0 : Nat → Nat) (o0 : ObS) (x1 : Int32) (R : ObS) (hf : f_X7_warns o0 x1 = some R) : RW Z l yX7_warns wsX7_warns { frames := 0, cells := 0, slots := 0, locals := 0 } [.ref (a0 0), .int x1] (wX7 Z a0 o0) none (fun _ => wX7 Z a0 R) 0 0 := by
  refine rw_of (cc := cX7_warns) (maxL := 4) (ret := none) (by decide) rfl (Nat.le_of_ble_eq_true rfl) ?_
  intro p e s m below meth c A ls hx hb hr hml hts hown hlk hin hP hK hE hD hA hS hl
  have hown : s.vm.findClass RX7 = some m.cls := hown
  have hl : lv_has ls 4 [(0, .ref (a0 0)), (1, .int x1)] := hl
  have w0 := hts (.fieldLink RX7 99 "HeatTrainModel" "errors" "[I") (by decide +kernel)
  have w1 := hts (.fieldLink RX7 90 "HeatTrainModel" "limits" "[I") (by decide +kernel)
  have w2 := hts (.fieldLink RX7 102 "HeatTrainModel" "areOver" "[Z") (by decide +kernel)
  have w3 := hts (.fieldLink RX7 108 "HeatTrainModel" "alarmBy" "[I") (by decide +kernel)
  have w4 := hts (.fieldLink RX7 188 "HeatTrainModel" "alarms" "I") (by decide +kernel)
  have w5 := hts (.fieldLink RX7 111 "HeatTrainModel" "alarmIn" "[I") (by decide +kernel)
  have w6 := hts (.fieldLink RX7 132 "HeatTrainModel" "now" "I") (by decide +kernel)
  have w7 := hts (.fieldLink RX7 114 "HeatTrainModel" "alarmOf" "[I") (by decide +kernel)
  have u7 : ∀ w ∈ wsX70, w ∈ wsX7_warns := by decide +kernel
  have B41 : ∀ (k25_0 : Int32), ∀ (k41_0 : Int32) (ls : Array Slot), lv_has ls 4 [(0, .ref (a0 0)), (1, .int x1), (2, .int k25_0)] → ∀ (H : Heap) (locs : List Loc), va_P Z.1 vwCl (wX7 Z a0 o0) H → va_D A (wX7 Z a0 o0) → va_S A s.heap H locs → f_X7_warns_b41 o0 x1 k25_0 k41_0 = some R → W p l e { frames := 0, cells := 0, slots := 0, locals := 0 } s m ([.ref (a0 0), .int x1] : List Value).toArray below meth c H locs 0 0 (MQ below (rwQ Z none (fun _ => wX7 Z a0 R) A) ([.ref (a0 0), .int x1] : List Value).toArray s 0 0 A) (F0 m 41 ls [.int k41_0]) := by
    intro k25_0 k41_0 ls hl H locs hP hD hS hf
    rw [f_X7_warns_b41] at hf
    refine lv_istore_n (pc := 41) (lv' := [(3, .int k41_0), (0, .ref (a0 0)), (1, .int x1), (2, .int k25_0)]) hx hb dX7_warns_41 rfl hl (by decide) rfl (fun ls hl => ?_)
    refine lv_iload_n (pc := 42) hx hb dX7_warns_42 rfl (lv_at hl 0 rfl) ?_
    refine lv_if_eq (pc := 43) (tgt := 105) hx hb dX7_warns_43 (by decide) (fun c1 => ?_) (fun c1 => ?_)
    · have hf := (if_pos c1).symm.trans hf
      refine lv_aload_n (pc := 105) hx hb dX7_warns_105 rfl (lv_at hl 1 rfl) ?_
      refine va_get (pc := 106) (D := Z.1) (ci := 7) (v := .ref (a0 36)) (C := RX7) (T := TX7) (N := 41) hx hb hts u7 hown hK hP 0 rfl rfl 35 (by decide) w2 (fun _ h9 => h9) rfl dX7_warns_106 ?_
      refine lv_iload_n (pc := 109) hx hb dX7_warns_109 rfl (lv_at hl 2 rfl) ?_
      refine lv_iload_n (pc := 110) hx hb dX7_warns_110 rfl (lv_at hl 0 rfl) ?_
      obtain ⟨g111, hf⟩ := gd hf
      refine va_zast (pc := 111) (D := Z.1) (n := 6) (f := o0.1 35) hx hb hK hP hD hS 31 2 rfl rfl (inb_in g111) dX7_warns_111 (fun H locs hP hD hS => ?_)
      obtain ⟨s111, h_111, hf⟩ := bd hf
      have hP : va_P Z.1 vwCl (wX7 Z a0 s111) H := st_P (f := fun z => wX7 Z a0 z) h_111 hP
      have hD : va_D A (wX7 Z a0 s111) := st_D (f := fun z => wX7 Z a0 z) h_111 hD
      have hf := (Option.some.inj hf)
      subst hf
      exact rw_v (fun _ => 0) hx hb hr hlk hP hD hS dX7_warns_112
    · have hf := (if_neg c1).symm.trans hf
      refine lv_aload_n (pc := 46) hx hb dX7_warns_46 rfl (lv_at hl 1 rfl) ?_
      refine va_get (pc := 47) (D := Z.1) (ci := 7) (v := .ref (a0 36)) (C := RX7) (T := TX7) (N := 41) hx hb hts u7 hown hK hP 0 rfl rfl 35 (by decide) w2 (fun _ h9 => h9) rfl dX7_warns_47 ?_
      refine lv_iload_n (pc := 50) hx hb dX7_warns_50 rfl (lv_at hl 2 rfl) ?_
      obtain ⟨g51, hf⟩ := gd hf
      refine va_zald (pc := 51) (D := Z.1) (n := 6) (f := o0.1 35) hx hb hK hP 31 2 rfl rfl (inb_in g51) dX7_warns_51 ?_
      refine lv_if_ne (pc := 52) (tgt := 105) hx hb dX7_warns_52 (by decide) (fun c2 => ?_) (fun c2 => ?_)
      · have hf := (if_neg c2).symm.trans hf
        refine lv_aload_n (pc := 105) hx hb dX7_warns_105 rfl (lv_at hl 1 rfl) ?_
        refine va_get (pc := 106) (D := Z.1) (ci := 7) (v := .ref (a0 36)) (C := RX7) (T := TX7) (N := 41) hx hb hts u7 hown hK hP 0 rfl rfl 35 (by decide) w2 (fun _ h9 => h9) rfl dX7_warns_106 ?_
        refine lv_iload_n (pc := 109) hx hb dX7_warns_109 rfl (lv_at hl 2 rfl) ?_
        refine lv_iload_n (pc := 110) hx hb dX7_warns_110 rfl (lv_at hl 0 rfl) ?_
        obtain ⟨g111, hf⟩ := gd hf
        refine va_zast (pc := 111) (D := Z.1) (n := 6) (f := o0.1 35) hx hb hK hP hD hS 31 2 rfl rfl (inb_in g111) dX7_warns_111 (fun H locs hP hD hS => ?_)
        obtain ⟨s111, h_111, hf⟩ := bd hf
        have hP : va_P Z.1 vwCl (wX7 Z a0 s111) H := st_P (f := fun z => wX7 Z a0 z) h_111 hP
        have hD : va_D A (wX7 Z a0 s111) := st_D (f := fun z => wX7 Z a0 z) h_111 hD
        have hf := (Option.some.inj hf)
        subst hf
        exact rw_v (fun _ => 0) hx hb hr hlk hP hD hS dX7_warns_112
      · have hf := (if_pos c2).symm.trans hf
        refine lv_aload_n (pc := 55) hx hb dX7_warns_55 rfl (lv_at hl 1 rfl) ?_
        refine va_get (pc := 56) (D := Z.1) (ci := 7) (v := .ref (a0 39)) (C := RX7) (T := TX7) (N := 41) hx hb hts u7 hown hK hP 0 rfl rfl 38 (by decide) w3 (fun _ h9 => h9) rfl dX7_warns_56 ?_
        refine lv_aload_n (pc := 59) hx hb dX7_warns_59 rfl (lv_at hl 1 rfl) ?_
        refine va_get (pc := 60) (D := Z.1) (ci := 7) (v := .int (o0.1 37 0)) (C := RX7) (T := TX7) (N := 41) hx hb hts u7 hown hK hP 0 rfl rfl 37 (by decide) w4 (fun _ h9 => h9) rfl dX7_warns_60 ?_
        refine lv_iload_n (pc := 63) hx hb dX7_warns_63 rfl (lv_at hl 3 rfl) ?_
        refine lv_aload_n (pc := 64) hx hb dX7_warns_64 rfl (lv_at hl 1 rfl) ?_
        refine va_get (pc := 65) (D := Z.1) (ci := 7) (v := .ref (a0 32)) (C := RX7) (T := TX7) (N := 41) hx hb hts u7 hown hK hP 0 rfl rfl 31 (by decide) w1 (fun _ h9 => h9) rfl dX7_warns_65 ?_
        refine lv_iload_n (pc := 68) hx hb dX7_warns_68 rfl (lv_at hl 2 rfl) ?_
        obtain ⟨g69, hf⟩ := gd hf
        refine va_iald (pc := 69) (D := Z.1) (n := 6) (f := o0.1 31) hx hb hK hP 27 0 rfl rfl (inb_in g69) dX7_warns_69 ?_
        refine lv_isub (pc := 70) hx hb dX7_warns_70 ?_
        obtain ⟨g71, hf⟩ := gd hf
        refine va_iast (pc := 71) (D := Z.1) (n := 1800) (f := o0.1 38) hx hb hK hP hD hS 33 0 rfl rfl (inb_in g71) dX7_warns_71 (fun H locs hP hD hS => ?_)
        obtain ⟨s71, h_71, hf⟩ := bd hf
        have hP : va_P Z.1 vwCl (wX7 Z a0 s71) H := st_P (f := fun z => wX7 Z a0 z) h_71 hP
        have hD : va_D A (wX7 Z a0 s71) := st_D (f := fun z => wX7 Z a0 z) h_71 hD
        refine lv_aload_n (pc := 72) hx hb dX7_warns_72 rfl (lv_at hl 1 rfl) ?_
        refine va_get (pc := 73) (D := Z.1) (ci := 7) (v := .ref (a0 40)) (C := RX7) (T := TX7) (N := 41) hx hb hts u7 hown hK hP 0 rfl rfl 39 (by decide) w5 (fun _ h9 => h9) rfl dX7_warns_73 ?_
        refine lv_aload_n (pc := 76) hx hb dX7_warns_76 rfl (lv_at hl 1 rfl) ?_
        refine va_get (pc := 77) (D := Z.1) (ci := 7) (v := .int (s71.1 37 0)) (C := RX7) (T := TX7) (N := 41) hx hb hts u7 hown hK hP 0 rfl rfl 37 (by decide) w4 (fun _ h9 => h9) rfl dX7_warns_77 ?_
        refine lv_aload_n (pc := 80) hx hb dX7_warns_80 rfl (lv_at hl 1 rfl) ?_
        refine va_get (pc := 81) (D := Z.1) (ci := 7) (v := .int (s71.1 1 0)) (C := RX7) (T := TX7) (N := 41) hx hb hts u7 hown hK hP 0 rfl rfl 1 (by decide) w6 (fun _ h9 => h9) rfl dX7_warns_81 ?_
        obtain ⟨g84, hf⟩ := gd hf
        refine va_iast (pc := 84) (D := Z.1) (n := 1800) (f := s71.1 39) hx hb hK hP hD hS 34 0 rfl rfl (inb_in g84) dX7_warns_84 (fun H locs hP hD hS => ?_)
        obtain ⟨s84, h_84, hf⟩ := bd hf
        have hP : va_P Z.1 vwCl (wX7 Z a0 s84) H := st_P (f := fun z => wX7 Z a0 z) h_84 hP
        have hD : va_D A (wX7 Z a0 s84) := st_D (f := fun z => wX7 Z a0 z) h_84 hD
        refine lv_aload_n (pc := 85) hx hb dX7_warns_85 rfl (lv_at hl 1 rfl) ?_
        refine va_get (pc := 86) (D := Z.1) (ci := 7) (v := .ref (a0 41)) (C := RX7) (T := TX7) (N := 41) hx hb hts u7 hown hK hP 0 rfl rfl 40 (by decide) w7 (fun _ h9 => h9) rfl dX7_warns_86 ?_
        refine lv_aload_n (pc := 89) hx hb dX7_warns_89 rfl (lv_at hl 1 rfl) ?_
        refine va_get (pc := 90) (D := Z.1) (ci := 7) (v := .int (s84.1 37 0)) (C := RX7) (T := TX7) (N := 41) hx hb hts u7 hown hK hP 0 rfl rfl 37 (by decide) w4 (fun _ h9 => h9) rfl dX7_warns_90 ?_
        refine lv_iload_n (pc := 93) hx hb dX7_warns_93 rfl (lv_at hl 2 rfl) ?_
        obtain ⟨g94, hf⟩ := gd hf
        refine va_iast (pc := 94) (D := Z.1) (n := 1800) (f := s84.1 40) hx hb hK hP hD hS 35 0 rfl rfl (inb_in g94) dX7_warns_94 (fun H locs hP hD hS => ?_)
        obtain ⟨s94, h_94, hf⟩ := bd hf
        have hP : va_P Z.1 vwCl (wX7 Z a0 s94) H := st_P (f := fun z => wX7 Z a0 z) h_94 hP
        have hD : va_D A (wX7 Z a0 s94) := st_D (f := fun z => wX7 Z a0 z) h_94 hD
        refine lv_aload_n (pc := 95) hx hb dX7_warns_95 rfl (lv_at hl 1 rfl) ?_
        refine lv_dup (pc := 96) hx hb dX7_warns_96 rfl ?_
        refine va_get (pc := 97) (D := Z.1) (ci := 7) (v := .int (s94.1 37 0)) (C := RX7) (T := TX7) (N := 41) hx hb hts u7 hown hK hP 0 rfl rfl 37 (by decide) w4 (fun _ h9 => h9) rfl dX7_warns_97 ?_
        refine lv_iconst (pc := 100) (v := 1) hx hb dX7_warns_100 (by decide) ?_
        refine lv_iadd (pc := 101) hx hb dX7_warns_101 ?_
        refine va_put (pc := 102) (D := Z.1) (ci := 7) (v := .int ((s94.1 37 0) + 1)) (ty := .int) (C := RX7) (T := TX7) (N := 41) hx hb hts u7 tyX7 tyX7_ok nmX7 hown hK hP hD hS 0 rfl rfl 37 (by decide) w4 (fun _ h9 => h9) rfl (by decide +kernel) rfl rfl (Nat.le_of_ble_eq_true rfl) dX7_warns_102 (fun H locs hP hD hS => ?_)
        obtain ⟨s102, h_102, hf⟩ := bd hf
        have hP : va_P Z.1 vwCl (wX7 Z a0 s102) H := st_P (f := fun z => wX7 Z a0 z) h_102 hP
        have hD : va_D A (wX7 Z a0 s102) := st_D (f := fun z => wX7 Z a0 z) h_102 hD
        refine lv_aload_n (pc := 105) hx hb dX7_warns_105 rfl (lv_at hl 1 rfl) ?_
        refine va_get (pc := 106) (D := Z.1) (ci := 7) (v := .ref (a0 36)) (C := RX7) (T := TX7) (N := 41) hx hb hts u7 hown hK hP 0 rfl rfl 35 (by decide) w2 (fun _ h9 => h9) rfl dX7_warns_106 ?_
        refine lv_iload_n (pc := 109) hx hb dX7_warns_109 rfl (lv_at hl 2 rfl) ?_
        refine lv_iload_n (pc := 110) hx hb dX7_warns_110 rfl (lv_at hl 0 rfl) ?_
        obtain ⟨g111, hf⟩ := gd hf
        refine va_zast (pc := 111) (D := Z.1) (n := 6) (f := s102.1 35) hx hb hK hP hD hS 31 2 rfl rfl (inb_in g111) dX7_warns_111 (fun H locs hP hD hS => ?_)
        obtain ⟨s111, h_111, hf⟩ := bd hf
        have hP : va_P Z.1 vwCl (wX7 Z a0 s111) H := st_P (f := fun z => wX7 Z a0 z) h_111 hP
        have hD : va_D A (wX7 Z a0 s111) := st_D (f := fun z => wX7 Z a0 z) h_111 hD
        have hf := (Option.some.inj hf)
        subst hf
        exact rw_v (fun _ => 0) hx hb hr hlk hP hD hS dX7_warns_112
  have B25 : ∀ (k25_0 : Int32) (ls : Array Slot), lv_has ls 4 [(0, .ref (a0 0)), (1, .int x1)] → ∀ (H : Heap) (locs : List Loc), va_P Z.1 vwCl (wX7 Z a0 o0) H → va_D A (wX7 Z a0 o0) → va_S A s.heap H locs → f_X7_warns_b25 o0 x1 k25_0 = some R → W p l e { frames := 0, cells := 0, slots := 0, locals := 0 } s m ([.ref (a0 0), .int x1] : List Value).toArray below meth c H locs 0 0 (MQ below (rwQ Z none (fun _ => wX7 Z a0 R) A) ([.ref (a0 0), .int x1] : List Value).toArray s 0 0 A) (F0 m 25 ls [.int k25_0]) := by
    intro k25_0 ls hl H locs hP hD hS hf
    rw [f_X7_warns_b25] at hf
    refine lv_istore_n (pc := 25) (lv' := [(2, .int k25_0), (0, .ref (a0 0)), (1, .int x1)]) hx hb dX7_warns_25 rfl hl (by decide) rfl (fun ls hl => ?_)
    refine lv_iload_n (pc := 26) hx hb dX7_warns_26 rfl (lv_at hl 0 rfl) ?_
    refine lv_aload_n (pc := 27) hx hb dX7_warns_27 rfl (lv_at hl 1 rfl) ?_
    refine va_get (pc := 28) (D := Z.1) (ci := 7) (v := .ref (a0 32)) (C := RX7) (T := TX7) (N := 41) hx hb hts u7 hown hK hP 0 rfl rfl 31 (by decide) w1 (fun _ h9 => h9) rfl dX7_warns_28 ?_
    refine lv_iload_n (pc := 31) hx hb dX7_warns_31 rfl (lv_at hl 2 rfl) ?_
    obtain ⟨g32, hf⟩ := gd hf
    refine va_iald (pc := 32) (D := Z.1) (n := 6) (f := o0.1 31) hx hb hK hP 27 0 rfl rfl (inb_in g32) dX7_warns_32 ?_
    refine lv_icmp_le (pc := 33) (tgt := 40) hx hb dX7_warns_33 (by decide) (fun c1 => ?_) (fun c1 => ?_)
    · have hf := (if_pos c1).symm.trans hf
      refine lv_iconst (pc := 40) (v := 0) hx hb dX7_warns_40 (by decide) ?_
      exact B41 k25_0 0 _ (lv_sub hl [1, 2, 0] rfl) _ _ hP hD hS hf
    · have hf := (if_neg c1).symm.trans hf
      refine lv_iconst (pc := 36) (v := 1) hx hb dX7_warns_36 (by decide) ?_
      refine lv_goto (pc := 37) (tgt := 41) hx hb dX7_warns_37 (by decide) ?_
      exact B41 k25_0 1 _ (lv_sub hl [1, 2, 0] rfl) _ _ hP hD hS hf
  rw [f_X7_warns] at hf
  refine lv_aload_n (pc := 0) hx hb dX7_warns_0 rfl (lv_at hl 0 rfl) ?_
  refine va_get (pc := 1) (D := Z.1) (ci := 7) (v := .ref (a0 35)) (C := RX7) (T := TX7) (N := 41) hx hb hts u7 hown hK hP 0 rfl rfl 34 (by decide) w0 (fun _ h9 => h9) rfl dX7_warns_1 ?_
  refine lv_iload_n (pc := 4) hx hb dX7_warns_4 rfl (lv_at hl 1 rfl) ?_
  obtain ⟨g5, hf⟩ := gd hf
  refine va_iald (pc := 5) (D := Z.1) (n := 6) (f := o0.1 34) hx hb hK hP 30 0 rfl rfl (inb_in g5) dX7_warns_5 ?_
  refine lv_if_ge (pc := 6) (tgt := 19) hx hb dX7_warns_6 (by decide) (fun c1 => ?_) (fun c1 => ?_)
  · have hf := (if_pos c1).symm.trans hf
    refine lv_aload_n (pc := 19) hx hb dX7_warns_19 rfl (lv_at hl 0 rfl) ?_
    refine va_get (pc := 20) (D := Z.1) (ci := 7) (v := .ref (a0 35)) (C := RX7) (T := TX7) (N := 41) hx hb hts u7 hown hK hP 0 rfl rfl 34 (by decide) w0 (fun _ h9 => h9) rfl dX7_warns_20 ?_
    refine lv_iload_n (pc := 23) hx hb dX7_warns_23 rfl (lv_at hl 1 rfl) ?_
    obtain ⟨g24, hf⟩ := gd hf
    refine va_iald (pc := 24) (D := Z.1) (n := 6) (f := o0.1 34) hx hb hK hP 30 0 rfl rfl (inb_in g24) dX7_warns_24 ?_
    exact B25 (o0.1 34 (x1).toNatClampNeg) _ (lv_sub hl [0, 1] rfl) _ _ hP hD hS hf
  · have hf := (if_neg c1).symm.trans hf
    refine lv_aload_n (pc := 9) hx hb dX7_warns_9 rfl (lv_at hl 0 rfl) ?_
    refine va_get (pc := 10) (D := Z.1) (ci := 7) (v := .ref (a0 35)) (C := RX7) (T := TX7) (N := 41) hx hb hts u7 hown hK hP 0 rfl rfl 34 (by decide) w0 (fun _ h9 => h9) rfl dX7_warns_10 ?_
    refine lv_iload_n (pc := 13) hx hb dX7_warns_13 rfl (lv_at hl 1 rfl) ?_
    obtain ⟨g14, hf⟩ := gd hf
    refine va_iald (pc := 14) (D := Z.1) (n := 6) (f := o0.1 34) hx hb hK hP 30 0 rfl rfl (inb_in g14) dX7_warns_14 ?_
    refine lv_ineg (pc := 15) hx hb dX7_warns_15 ?_
    refine lv_goto (pc := 16) (tgt := 25) hx hb dX7_warns_16 (by decide) ?_
    exact B25 (-(o0.1 34 (x1).toNatClampNeg)) _ (lv_sub hl [0, 1] rfl) _ _ hP hD hS hf
def f_X7_works_b143 (x1 : Int32) (s97 : ObS) (k143_0 : Int64) : Option (ObS) :=
  if inb x1 6 then
  (some (oj s97 36 (x1).toNatClampNeg k143_0)).bind fun s143 =>
  if inb x1 6 then
  if inb x1 6 then
  if inb x1 6 then
  if inb x1 6 then
  (some (oj s143 33 (x1).toNatClampNeg ((((s143.1 26 (x1).toNatClampNeg).toInt64) + ((s143.2 32 (x1).toNatClampNeg) / 1000)) + (s143.2 36 (x1).toNatClampNeg)))).bind fun s174 =>
  if inb x1 6 then
  if ((s174.1 27 (x1).toNatClampNeg) - 100) < (0 : Int32) then
    (f_X7_warns s174 x1).bind fun r227 =>
    some (r227)
  else
    if (s174.1 22 0) ≤ ((s174.1 27 (x1).toNatClampNeg) - 100) then
      (f_X7_warns s174 x1).bind fun r227 =>
      some (r227)
    else
      (f_X7_isRatio s174 ((s174.1 27 (x1).toNatClampNeg) - 100)).bind fun r199 =>
      if r199 = (0 : Int32) then
        if inb x1 6 then
        if inb ((s174.1 27 (x1).toNatClampNeg) - 100) 6 then
        (some (oi s174 24 ((s174.1 27 (x1).toNatClampNeg) - 100).toNatClampNeg ((f_X7_held (s174.2 33 (x1).toNatClampNeg) 0 3000).toInt32))).bind fun s224 =>
        (f_X7_warns s224 x1).bind fun r227 =>
        some (r227)
        else none
        else none
      else
        (f_X7_warns s174 x1).bind fun r227 =>
        some (r227)
  else none
  else none
  else none
  else none
  else none
  else none
def f_X7_works (o0 : ObS) (x1 : Int32) : Option (ObS) :=
  (f_X7_isRatio o0 x1).bind fun r2 =>
  if r2 = (0 : Int32) then
    if inb x1 6 then
    if inb x1 6 then
    (f_X7_warmthOf o0 (o0.1 23 (x1).toNatClampNeg)).bind fun r56 =>
    if inb x1 6 then
    (some (oi o0 34 (x1).toNatClampNeg ((o0.1 24 (x1).toNatClampNeg) - r56))).bind fun s60 =>
    if inb x1 6 then
    if inb x1 6 then
    if inb x1 6 then
    if inb x1 6 then
    (some (oj s60 32 (x1).toNatClampNeg (f_X7_held ((s60.2 32 (x1).toNatClampNeg) + (((s60.1 25 (x1).toNatClampNeg).toInt64) * ((s60.1 34 (x1).toNatClampNeg).toInt64))) (-10000000) 10000000))).bind fun s97 =>
    if inb x1 6 then
    if (s97.1 30 (x1).toNatClampNeg) = (0 : Int32) then
      f_X7_works_b143 x1 s97 0
    else
      if inb x1 6 then
      if inb x1 6 then
      (f_X7_warmthOf s97 (s97.1 29 (x1).toNatClampNeg)).bind fun r130 =>
      f_X7_works_b143 x1 s97 ((((s97.1 30 (x1).toNatClampNeg).toInt64) * ((r130 - 200).toInt64)) / 100)
      else none
      else none
    else none
    else none
    else none
    else none
    else none
    else none
    else none
    else none
  else
    if inb x1 6 then
    if inb (o0.1 23 (x1).toNatClampNeg) 24 then
    if inb x1 6 then
    if inb x1 6 then
    (some (oj o0 33 (x1).toNatClampNeg (((o0.2 10 (o0.1 23 (x1).toNatClampNeg).toNatClampNeg) * ((o0.1 28 (x1).toNatClampNeg).toInt64)) / 100))).bind fun s36 =>
    some (s36)
    else none
    else none
    else none
    else none
set_option maxHeartbeats 4000000 in
set_option maxRecDepth 100000 in
theorem c_X7_works (Z : EnvT) (l : Launch) (a0 : Nat → Nat) (o0 : ObS) (x1 : Int32) (R : ObS) (hf : f_X7_works o0 x1 = some R) : RW Z l yX7_works wsX7_works { frames := 2, cells := 0, slots := 0, locals := 44 } [.ref (a0 0), .int x1] (wX7 Z a0 o0) none (fun _ => wX7 Z a0 R) 0 0 := by
  refine rw_of (cc := cX7_works) (maxL := 3) (ret := none) (by decide) rfl (Nat.le_of_ble_eq_true rfl) ?_
  intro p e s m below meth c A ls hx hb hr hml hts hown hlk hin hP hK hE hD hA hS hl
  have hown : s.vm.findClass RX7 = some m.cls := hown
  have hl : lv_has ls 3 [(0, .ref (a0 0)), (1, .int x1)] := hl
  have w0 := hts (.fieldLink RX7 99 "HeatTrainModel" "errors" "[I") (by decide +kernel)
  have w1 := hts (.fieldLink RX7 69 "HeatTrainModel" "goals" "[I") (by decide +kernel)
  have w2 := hts (.fieldLink RX7 66 "HeatTrainModel" "streams" "[I") (by decide +kernel)
  have w3 := hts (.fieldLink RX7 93 "HeatTrainModel" "sums" "[J") (by decide +kernel)
  have w4 := hts (.fieldLink RX7 72 "HeatTrainModel" "gains" "[I") (by decide +kernel)
  have w5 := hts (.constantLong RX7 196 (-10000000)) (by decide +kernel)
  have w6 := hts (.constantLong RX7 198 (10000000)) (by decide +kernel)
  have w7 := hts (.fieldLink RX7 105 "HeatTrainModel" "feeds" "[J") (by decide +kernel)
  have w8 := hts (.fieldLink RX7 87 "HeatTrainModel" "feedBy" "[I") (by decide +kernel)
  have w9 := hts (.fieldLink RX7 84 "HeatTrainModel" "feedFrom" "[I") (by decide +kernel)
  have w10 := hts (.constantLong RX7 191 (100)) (by decide +kernel)
  have w11 := hts (.fieldLink RX7 96 "HeatTrainModel" "outputs" "[J") (by decide +kernel)
  have w12 := hts (.fieldLink RX7 32 "HeatTrainModel" "flows" "[J") (by decide +kernel)
  have w13 := hts (.fieldLink RX7 81 "HeatTrainModel" "ratios" "[I") (by decide +kernel)
  have w14 := hts (.fieldLink RX7 75 "HeatTrainModel" "bases" "[I") (by decide +kernel)
  have w15 := hts (.constantLong RX7 204 (1000)) (by decide +kernel)
  have w16 := hts (.fieldLink RX7 78 "HeatTrainModel" "drives" "[I") (by decide +kernel)
  have w17 := hts (.fieldLink RX7 128 "HeatTrainModel" "controllers" "I") (by decide +kernel)
  have w18 := hts (.constantLong RX7 206 (3000)) (by decide +kernel)
  have u7 : ∀ w ∈ wsX70, w ∈ wsX7_works := by decide +kernel
  have B143 : ∀ (s97 : ObS), ∀ (k143_0 : Int64) (ls : Array Slot), lv_has ls 3 [(0, .ref (a0 0)), (1, .int x1)] → ∀ (H : Heap) (locs : List Loc), va_P Z.1 vwCl (wX7 Z a0 s97) H → va_D A (wX7 Z a0 s97) → va_S A s.heap H locs → f_X7_works_b143 x1 s97 k143_0 = some R → W p l e { frames := 2, cells := 0, slots := 0, locals := 44 } s m ([.ref (a0 0), .int x1] : List Value).toArray below meth c H locs 0 0 (MQ below (rwQ Z none (fun _ => wX7 Z a0 R) A) ([.ref (a0 0), .int x1] : List Value).toArray s 0 0 A) (F0 m 143 ls [.long k143_0, .int x1, .ref (a0 37)]) := by
    intro s97 k143_0 ls hl H locs hP hD hS hf
    rw [f_X7_works_b143] at hf
    obtain ⟨g143, hf⟩ := gd hf
    refine va_last (pc := 143) (D := Z.1) (n := 6) (f := s97.2 36) hx hb hK hP hD hS 32 1 rfl rfl (inb_in g143) dX7_works_143 (fun H locs hP hD hS => ?_)
    obtain ⟨s143, h_143, hf⟩ := bd hf
    have hP : va_P Z.1 vwCl (wX7 Z a0 s143) H := st_P (f := fun z => wX7 Z a0 z) h_143 hP
    have hD : va_D A (wX7 Z a0 s143) := st_D (f := fun z => wX7 Z a0 z) h_143 hD
    refine lv_aload_n (pc := 144) hx hb dX7_works_144 rfl (lv_at hl 0 rfl) ?_
    refine va_get (pc := 145) (D := Z.1) (ci := 7) (v := .ref (a0 34)) (C := RX7) (T := TX7) (N := 41) hx hb hts u7 hown hK hP 0 rfl rfl 33 (by decide) w11 (fun _ h9 => h9) rfl dX7_works_145 ?_
    refine lv_iload_n (pc := 148) hx hb dX7_works_148 rfl (lv_at hl 1 rfl) ?_
    refine lv_aload_n (pc := 149) hx hb dX7_works_149 rfl (lv_at hl 0 rfl) ?_
    refine va_get (pc := 150) (D := Z.1) (ci := 7) (v := .ref (a0 27)) (C := RX7) (T := TX7) (N := 41) hx hb hts u7 hown hK hP 0 rfl rfl 26 (by decide) w14 (fun _ h9 => h9) rfl dX7_works_150 ?_
    refine lv_iload_n (pc := 153) hx hb dX7_works_153 rfl (lv_at hl 1 rfl) ?_
    obtain ⟨g154, hf⟩ := gd hf
    refine va_iald (pc := 154) (D := Z.1) (n := 6) (f := s143.1 26) hx hb hK hP 22 0 rfl rfl (inb_in g154) dX7_works_154 ?_
    refine lv_i2l (pc := 155) (v := (s143.1 26 (x1).toNatClampNeg).toInt64) hx hb dX7_works_155 rfl ?_
    refine lv_aload_n (pc := 156) hx hb dX7_works_156 rfl (lv_at hl 0 rfl) ?_
    refine va_get (pc := 157) (D := Z.1) (ci := 7) (v := .ref (a0 33)) (C := RX7) (T := TX7) (N := 41) hx hb hts u7 hown hK hP 0 rfl rfl 32 (by decide) w3 (fun _ h9 => h9) rfl dX7_works_157 ?_
    refine lv_iload_n (pc := 160) hx hb dX7_works_160 rfl (lv_at hl 1 rfl) ?_
    obtain ⟨g161, hf⟩ := gd hf
    refine va_lald (pc := 161) (D := Z.1) (n := 6) (f := s143.2 32) hx hb hK hP 28 1 rfl rfl (inb_in g161) dX7_works_161 ?_
    refine lv_ldc2 (pc := 162) (v := 1000) hx hb hown w15 dX7_works_162 ?_
    refine lv_ldiv (pc := 165) hx hb dX7_works_165 (by decide) ?_
    refine lv_ladd (pc := 166) hx hb dX7_works_166 ?_
    refine lv_aload_n (pc := 167) hx hb dX7_works_167 rfl (lv_at hl 0 rfl) ?_
    refine va_get (pc := 168) (D := Z.1) (ci := 7) (v := .ref (a0 37)) (C := RX7) (T := TX7) (N := 41) hx hb hts u7 hown hK hP 0 rfl rfl 36 (by decide) w7 (fun _ h9 => h9) rfl dX7_works_168 ?_
    refine lv_iload_n (pc := 171) hx hb dX7_works_171 rfl (lv_at hl 1 rfl) ?_
    obtain ⟨g172, hf⟩ := gd hf
    refine va_lald (pc := 172) (D := Z.1) (n := 6) (f := s143.2 36) hx hb hK hP 32 1 rfl rfl (inb_in g172) dX7_works_172 ?_
    refine lv_ladd (pc := 173) hx hb dX7_works_173 ?_
    obtain ⟨g174, hf⟩ := gd hf
    refine va_last (pc := 174) (D := Z.1) (n := 6) (f := s143.2 33) hx hb hK hP hD hS 29 1 rfl rfl (inb_in g174) dX7_works_174 (fun H locs hP hD hS => ?_)
    obtain ⟨s174, h_174, hf⟩ := bd hf
    have hP : va_P Z.1 vwCl (wX7 Z a0 s174) H := st_P (f := fun z => wX7 Z a0 z) h_174 hP
    have hD : va_D A (wX7 Z a0 s174) := st_D (f := fun z => wX7 Z a0 z) h_174 hD
    refine lv_aload_n (pc := 175) hx hb dX7_works_175 rfl (lv_at hl 0 rfl) ?_
    refine va_get (pc := 176) (D := Z.1) (ci := 7) (v := .ref (a0 28)) (C := RX7) (T := TX7) (N := 41) hx hb hts u7 hown hK hP 0 rfl rfl 27 (by decide) w16 (fun _ h9 => h9) rfl dX7_works_176 ?_
    refine lv_iload_n (pc := 179) hx hb dX7_works_179 rfl (lv_at hl 1 rfl) ?_
    obtain ⟨g180, hf⟩ := gd hf
    refine va_iald (pc := 180) (D := Z.1) (n := 6) (f := s174.1 27) hx hb hK hP 23 0 rfl rfl (inb_in g180) dX7_works_180 ?_
    refine lv_bipush (pc := 181) (v := 100) hx hb dX7_works_181 (by decide) ?_
    refine lv_isub (pc := 183) hx hb dX7_works_183 ?_
    refine lv_istore_n (pc := 184) (lv' := [(2, .int ((s174.1 27 (x1).toNatClampNeg) - 100)), (0, .ref (a0 0)), (1, .int x1)]) hx hb dX7_works_184 rfl hl (by decide) rfl (fun ls hl => ?_)
    refine lv_iload_n (pc := 185) hx hb dX7_works_185 rfl (lv_at hl 0 rfl) ?_
    refine lv_if_lt (pc := 186) (tgt := 225) hx hb dX7_works_186 (by decide) (fun c1 => ?_) (fun c1 => ?_)
    · have hf := (if_pos c1).symm.trans hf
      refine lv_aload_n (pc := 225) hx hb dX7_works_225 rfl (lv_at hl 1 rfl) ?_
      refine lv_iload_n (pc := 226) hx hb dX7_works_226 rfl (lv_at hl 2 rfl) ?_
      obtain ⟨r227, h_227, hf⟩ := bd hf
      refine rw_V (pc := 227) (C := RX7) (As := [.int x1]) (rest := []) (st1 := []) (wn := fun _ => wX7 Z a0 r227) ⟨hx, hb, hml, hown, hts⟩ (c_X7_warns Z l a0 s174 x1 r227 h_227) (cwV 1 hts gX7_works_X7_warns rfl rfl rfl hv_X7_warns ⟨Nat.le_of_ble_eq_true rfl, Nat.le_of_ble_eq_true rfl⟩) hK hE hP hD hS hA [0, 1, 2, 3, 4, 5, 6, 7, 8, 9, 10, 11, 12, 13, 14, 15, 16, 17, 18, 19, 20, 21, 22, 23, 24, 25, 26, 27, 28, 29, 30, 31, 32, 33, 34, 35] [] [0, 1, 2, 3, 4, 5, 6, 7, 8, 9, 10, 11, 12, 13, 14, 15, 16, 17, 18, 19, 20, 21, 22, 23, 24, 25, 26, 27, 28, 29, 30, 31, 32, 33, 34, 35] rfl rfl rfl (fun _ => rfl) 7 rfl rfl rfl hl.1 rfl (lv_room (Nat.le_of_ble_eq_true rfl)) dX7_works_227 ⟨Nat.le_of_ble_eq_true rfl, Nat.le_of_ble_eq_true rfl⟩ rfl (fun _ H locs hP hD hS => ?_)
      have hf := (Option.some.inj hf)
      subst hf
      exact rw_v (fun _ => 0) hx hb hr hlk hP hD hS dX7_works_230
    · have hf := (if_neg c1).symm.trans hf
      refine lv_iload_n (pc := 189) hx hb dX7_works_189 rfl (lv_at hl 0 rfl) ?_
      refine lv_aload_n (pc := 190) hx hb dX7_works_190 rfl (lv_at hl 1 rfl) ?_
      refine va_get (pc := 191) (D := Z.1) (ci := 7) (v := .int (s174.1 22 0)) (C := RX7) (T := TX7) (N := 41) hx hb hts u7 hown hK hP 0 rfl rfl 22 (by decide) w17 (fun _ h9 => h9) rfl dX7_works_191 ?_
      refine lv_icmp_ge (pc := 194) (tgt := 225) hx hb dX7_works_194 (by decide) (fun c2 => ?_) (fun c2 => ?_)
      · have hf := (if_pos c2).symm.trans hf
        refine lv_aload_n (pc := 225) hx hb dX7_works_225 rfl (lv_at hl 1 rfl) ?_
        refine lv_iload_n (pc := 226) hx hb dX7_works_226 rfl (lv_at hl 2 rfl) ?_
        obtain ⟨r227, h_227, hf⟩ := bd hf
        refine rw_V (pc := 227) (C := RX7) (As := [.int x1]) (rest := []) (st1 := []) (wn := fun _ => wX7 Z a0 r227) ⟨hx, hb, hml, hown, hts⟩ (c_X7_warns Z l a0 s174 x1 r227 h_227) (cwV 1 hts gX7_works_X7_warns rfl rfl rfl hv_X7_warns ⟨Nat.le_of_ble_eq_true rfl, Nat.le_of_ble_eq_true rfl⟩) hK hE hP hD hS hA [0, 1, 2, 3, 4, 5, 6, 7, 8, 9, 10, 11, 12, 13, 14, 15, 16, 17, 18, 19, 20, 21, 22, 23, 24, 25, 26, 27, 28, 29, 30, 31, 32, 33, 34, 35] [] [0, 1, 2, 3, 4, 5, 6, 7, 8, 9, 10, 11, 12, 13, 14, 15, 16, 17, 18, 19, 20, 21, 22, 23, 24, 25, 26, 27, 28, 29, 30, 31, 32, 33, 34, 35] rfl rfl rfl (fun _ => rfl) 7 rfl rfl rfl hl.1 rfl (lv_room (Nat.le_of_ble_eq_true rfl)) dX7_works_227 ⟨Nat.le_of_ble_eq_true rfl, Nat.le_of_ble_eq_true rfl⟩ rfl (fun _ H locs hP hD hS => ?_)
        have hf := (Option.some.inj hf)
        subst hf
        exact rw_v (fun _ => 0) hx hb hr hlk hP hD hS dX7_works_230
      · have hf := (if_neg c2).symm.trans hf
        refine lv_aload_n (pc := 197) hx hb dX7_works_197 rfl (lv_at hl 1 rfl) ?_
        refine lv_iload_n (pc := 198) hx hb dX7_works_198 rfl (lv_at hl 0 rfl) ?_
        obtain ⟨r199, h_199, hf⟩ := bd hf
        refine ro_V (pc := 199) (C := RX7) (As := [.int ((s174.1 27 (x1).toNatClampNeg) - 100)]) (rest := []) (st1 := [.int r199]) ⟨hx, hb, hml, hown, hts⟩ (c_X7_isRatio Z l a0 s174 ((s174.1 27 (x1).toNatClampNeg) - 100) r199 h_199) (cwV 1 hts gX7_works_X7_isRatio rfl rfl rfl hv_X7_isRatio ⟨Nat.le_of_ble_eq_true rfl, Nat.le_of_ble_eq_true rfl⟩) hK hE hP 7 rfl rfl rfl hl.1 rfl (lv_room (Nat.le_of_ble_eq_true rfl)) dX7_works_199 ⟨Nat.le_of_ble_eq_true rfl, Nat.le_of_ble_eq_true rfl⟩ rfl ?_
        refine lv_if_ne (pc := 202) (tgt := 225) hx hb dX7_works_202 (by decide) (fun c3 => ?_) (fun c3 => ?_)
        · have hf := (if_neg c3).symm.trans hf
          refine lv_aload_n (pc := 225) hx hb dX7_works_225 rfl (lv_at hl 1 rfl) ?_
          refine lv_iload_n (pc := 226) hx hb dX7_works_226 rfl (lv_at hl 2 rfl) ?_
          obtain ⟨r227, h_227, hf⟩ := bd hf
          refine rw_V (pc := 227) (C := RX7) (As := [.int x1]) (rest := []) (st1 := []) (wn := fun _ => wX7 Z a0 r227) ⟨hx, hb, hml, hown, hts⟩ (c_X7_warns Z l a0 s174 x1 r227 h_227) (cwV 1 hts gX7_works_X7_warns rfl rfl rfl hv_X7_warns ⟨Nat.le_of_ble_eq_true rfl, Nat.le_of_ble_eq_true rfl⟩) hK hE hP hD hS hA [0, 1, 2, 3, 4, 5, 6, 7, 8, 9, 10, 11, 12, 13, 14, 15, 16, 17, 18, 19, 20, 21, 22, 23, 24, 25, 26, 27, 28, 29, 30, 31, 32, 33, 34, 35] [] [0, 1, 2, 3, 4, 5, 6, 7, 8, 9, 10, 11, 12, 13, 14, 15, 16, 17, 18, 19, 20, 21, 22, 23, 24, 25, 26, 27, 28, 29, 30, 31, 32, 33, 34, 35] rfl rfl rfl (fun _ => rfl) 7 rfl rfl rfl hl.1 rfl (lv_room (Nat.le_of_ble_eq_true rfl)) dX7_works_227 ⟨Nat.le_of_ble_eq_true rfl, Nat.le_of_ble_eq_true rfl⟩ rfl (fun _ H locs hP hD hS => ?_)
          have hf := (Option.some.inj hf)
          subst hf
          exact rw_v (fun _ => 0) hx hb hr hlk hP hD hS dX7_works_230
        · have hf := (if_pos c3).symm.trans hf
          refine lv_aload_n (pc := 205) hx hb dX7_works_205 rfl (lv_at hl 1 rfl) ?_
          refine va_get (pc := 206) (D := Z.1) (ci := 7) (v := .ref (a0 25)) (C := RX7) (T := TX7) (N := 41) hx hb hts u7 hown hK hP 0 rfl rfl 24 (by decide) w1 (fun _ h9 => h9) rfl dX7_works_206 ?_
          refine lv_iload_n (pc := 209) hx hb dX7_works_209 rfl (lv_at hl 0 rfl) ?_
          refine lv_aload_n (pc := 210) hx hb dX7_works_210 rfl (lv_at hl 1 rfl) ?_
          refine va_get (pc := 211) (D := Z.1) (ci := 7) (v := .ref (a0 34)) (C := RX7) (T := TX7) (N := 41) hx hb hts u7 hown hK hP 0 rfl rfl 33 (by decide) w11 (fun _ h9 => h9) rfl dX7_works_211 ?_
          refine lv_iload_n (pc := 214) hx hb dX7_works_214 rfl (lv_at hl 2 rfl) ?_
          obtain ⟨g215, hf⟩ := gd hf
          refine va_lald (pc := 215) (D := Z.1) (n := 6) (f := s174.2 33) hx hb hK hP 29 1 rfl rfl (inb_in g215) dX7_works_215 ?_
          refine lv_lconst (pc := 216) (v := 0) hx hb dX7_works_216 (by decide) ?_
          refine lv_ldc2 (pc := 217) (v := 3000) hx hb hown w18 dX7_works_217 ?_
          refine ro_S (pc := 220) (As := [.long (s174.2 33 (x1).toNatClampNeg), .long 0, .long 3000]) (rest := [.int ((s174.1 27 (x1).toNatClampNeg) - 100), .ref (a0 25)]) (st1 := [.long (f_X7_held (s174.2 33 (x1).toNatClampNeg) 0 3000), .int ((s174.1 27 (x1).toNatClampNeg) - 100), .ref (a0 25)]) ⟨hx, hb, hml, hown, hts⟩ (c_X7_held Z l (s174.2 33 (x1).toNatClampNeg) 0 3000 _ rfl) (va_cwS 3 hts gX7_works_X7_held rfl rfl rfl hs_X7_held ⟨Nat.le_of_ble_eq_true rfl, Nat.le_of_ble_eq_true rfl⟩) hK hE (hP.sub (ws' := []) [] rfl) rfl hl.1 rfl (lv_room (Nat.le_of_ble_eq_true rfl)) dX7_works_220 ⟨Nat.le_of_ble_eq_true rfl, Nat.le_of_ble_eq_true rfl⟩ rfl ?_
          refine lv_l2i (pc := 223) (v := (f_X7_held (s174.2 33 (x1).toNatClampNeg) 0 3000).toInt32) hx hb dX7_works_223 rfl ?_
          obtain ⟨g224, hf⟩ := gd hf
          refine va_iast (pc := 224) (D := Z.1) (n := 6) (f := s174.1 24) hx hb hK hP hD hS 20 0 rfl rfl (inb_in g224) dX7_works_224 (fun H locs hP hD hS => ?_)
          obtain ⟨s224, h_224, hf⟩ := bd hf
          have hP : va_P Z.1 vwCl (wX7 Z a0 s224) H := st_P (f := fun z => wX7 Z a0 z) h_224 hP
          have hD : va_D A (wX7 Z a0 s224) := st_D (f := fun z => wX7 Z a0 z) h_224 hD
          refine lv_aload_n (pc := 225) hx hb dX7_works_225 rfl (lv_at hl 1 rfl) ?_
          refine lv_iload_n (pc := 226) hx hb dX7_works_226 rfl (lv_at hl 2 rfl) ?_
          obtain ⟨r227, h_227, hf⟩ := bd hf
          refine rw_V (pc := 227) (C := RX7) (As := [.int x1]) (rest := []) (st1 := []) (wn := fun _ => wX7 Z a0 r227) ⟨hx, hb, hml, hown, hts⟩ (c_X7_warns Z l a0 s224 x1 r227 h_227) (cwV 1 hts gX7_works_X7_warns rfl rfl rfl hv_X7_warns ⟨Nat.le_of_ble_eq_true rfl, Nat.le_of_ble_eq_true rfl⟩) hK hE hP hD hS hA [0, 1, 2, 3, 4, 5, 6, 7, 8, 9, 10, 11, 12, 13, 14, 15, 16, 17, 18, 19, 20, 21, 22, 23, 24, 25, 26, 27, 28, 29, 30, 31, 32, 33, 34, 35] [] [0, 1, 2, 3, 4, 5, 6, 7, 8, 9, 10, 11, 12, 13, 14, 15, 16, 17, 18, 19, 20, 21, 22, 23, 24, 25, 26, 27, 28, 29, 30, 31, 32, 33, 34, 35] rfl rfl rfl (fun _ => rfl) 7 rfl rfl rfl hl.1 rfl (lv_room (Nat.le_of_ble_eq_true rfl)) dX7_works_227 ⟨Nat.le_of_ble_eq_true rfl, Nat.le_of_ble_eq_true rfl⟩ rfl (fun _ H locs hP hD hS => ?_)
          have hf := (Option.some.inj hf)
          subst hf
          exact rw_v (fun _ => 0) hx hb hr hlk hP hD hS dX7_works_230
  rw [f_X7_works] at hf
  refine lv_aload_n (pc := 0) hx hb dX7_works_0 rfl (lv_at hl 0 rfl) ?_
  refine lv_iload_n (pc := 1) hx hb dX7_works_1 rfl (lv_at hl 1 rfl) ?_
  obtain ⟨r2, h_2, hf⟩ := bd hf
  refine ro_V (pc := 2) (C := RX7) (As := [.int x1]) (rest := []) (st1 := [.int r2]) ⟨hx, hb, hml, hown, hts⟩ (c_X7_isRatio Z l a0 o0 x1 r2 h_2) (cwV 1 hts gX7_works_X7_isRatio rfl rfl rfl hv_X7_isRatio ⟨Nat.le_of_ble_eq_true rfl, Nat.le_of_ble_eq_true rfl⟩) hK hE hP 7 rfl rfl rfl hl.1 rfl (lv_room (Nat.le_of_ble_eq_true rfl)) dX7_works_2 ⟨Nat.le_of_ble_eq_true rfl, Nat.le_of_ble_eq_true rfl⟩ rfl ?_
  refine lv_if_eq (pc := 5) (tgt := 38) hx hb dX7_works_5 (by decide) (fun c1 => ?_) (fun c1 => ?_)
  · have hf := (if_pos c1).symm.trans hf
    refine lv_aload_n (pc := 38) hx hb dX7_works_38 rfl (lv_at hl 0 rfl) ?_
    refine va_get (pc := 39) (D := Z.1) (ci := 7) (v := .ref (a0 35)) (C := RX7) (T := TX7) (N := 41) hx hb hts u7 hown hK hP 0 rfl rfl 34 (by decide) w0 (fun _ h9 => h9) rfl dX7_works_39 ?_
    refine lv_iload_n (pc := 42) hx hb dX7_works_42 rfl (lv_at hl 1 rfl) ?_
    refine lv_aload_n (pc := 43) hx hb dX7_works_43 rfl (lv_at hl 0 rfl) ?_
    refine va_get (pc := 44) (D := Z.1) (ci := 7) (v := .ref (a0 25)) (C := RX7) (T := TX7) (N := 41) hx hb hts u7 hown hK hP 0 rfl rfl 24 (by decide) w1 (fun _ h9 => h9) rfl dX7_works_44 ?_
    refine lv_iload_n (pc := 47) hx hb dX7_works_47 rfl (lv_at hl 1 rfl) ?_
    obtain ⟨g48, hf⟩ := gd hf
    refine va_iald (pc := 48) (D := Z.1) (n := 6) (f := o0.1 24) hx hb hK hP 20 0 rfl rfl (inb_in g48) dX7_works_48 ?_
    refine lv_aload_n (pc := 49) hx hb dX7_works_49 rfl (lv_at hl 0 rfl) ?_
    refine lv_aload_n (pc := 50) hx hb dX7_works_50 rfl (lv_at hl 0 rfl) ?_
    refine va_get (pc := 51) (D := Z.1) (ci := 7) (v := .ref (a0 24)) (C := RX7) (T := TX7) (N := 41) hx hb hts u7 hown hK hP 0 rfl rfl 23 (by decide) w2 (fun _ h9 => h9) rfl dX7_works_51 ?_
    refine lv_iload_n (pc := 54) hx hb dX7_works_54 rfl (lv_at hl 1 rfl) ?_
    obtain ⟨g55, hf⟩ := gd hf
    refine va_iald (pc := 55) (D := Z.1) (n := 6) (f := o0.1 23) hx hb hK hP 19 0 rfl rfl (inb_in g55) dX7_works_55 ?_
    obtain ⟨r56, h_56, hf⟩ := bd hf
    refine ro_V (pc := 56) (C := RX7) (As := [.int (o0.1 23 (x1).toNatClampNeg)]) (rest := [.int (o0.1 24 (x1).toNatClampNeg), .int x1, .ref (a0 35)]) (st1 := [.int r56, .int (o0.1 24 (x1).toNatClampNeg), .int x1, .ref (a0 35)]) ⟨hx, hb, hml, hown, hts⟩ (c_X7_warmthOf Z l a0 o0 (o0.1 23 (x1).toNatClampNeg) r56 h_56) (cwV 1 hts gX7_works_X7_warmthOf rfl rfl rfl hv_X7_warmthOf ⟨Nat.le_of_ble_eq_true rfl, Nat.le_of_ble_eq_true rfl⟩) hK hE hP 7 rfl rfl rfl hl.1 rfl (lv_room (Nat.le_of_ble_eq_true rfl)) dX7_works_56 ⟨Nat.le_of_ble_eq_true rfl, Nat.le_of_ble_eq_true rfl⟩ rfl ?_
    refine lv_isub (pc := 59) hx hb dX7_works_59 ?_
    obtain ⟨g60, hf⟩ := gd hf
    refine va_iast (pc := 60) (D := Z.1) (n := 6) (f := o0.1 34) hx hb hK hP hD hS 30 0 rfl rfl (inb_in g60) dX7_works_60 (fun H locs hP hD hS => ?_)
    obtain ⟨s60, h_60, hf⟩ := bd hf
    have hP : va_P Z.1 vwCl (wX7 Z a0 s60) H := st_P (f := fun z => wX7 Z a0 z) h_60 hP
    have hD : va_D A (wX7 Z a0 s60) := st_D (f := fun z => wX7 Z a0 z) h_60 hD
    refine lv_aload_n (pc := 61) hx hb dX7_works_61 rfl (lv_at hl 0 rfl) ?_
    refine va_get (pc := 62) (D := Z.1) (ci := 7) (v := .ref (a0 33)) (C := RX7) (T := TX7) (N := 41) hx hb hts u7 hown hK hP 0 rfl rfl 32 (by decide) w3 (fun _ h9 => h9) rfl dX7_works_62 ?_
    refine lv_iload_n (pc := 65) hx hb dX7_works_65 rfl (lv_at hl 1 rfl) ?_
    refine lv_aload_n (pc := 66) hx hb dX7_works_66 rfl (lv_at hl 0 rfl) ?_
    refine va_get (pc := 67) (D := Z.1) (ci := 7) (v := .ref (a0 33)) (C := RX7) (T := TX7) (N := 41) hx hb hts u7 hown hK hP 0 rfl rfl 32 (by decide) w3 (fun _ h9 => h9) rfl dX7_works_67 ?_
    refine lv_iload_n (pc := 70) hx hb dX7_works_70 rfl (lv_at hl 1 rfl) ?_
    obtain ⟨g71, hf⟩ := gd hf
    refine va_lald (pc := 71) (D := Z.1) (n := 6) (f := s60.2 32) hx hb hK hP 28 1 rfl rfl (inb_in g71) dX7_works_71 ?_
    refine lv_aload_n (pc := 72) hx hb dX7_works_72 rfl (lv_at hl 0 rfl) ?_
    refine va_get (pc := 73) (D := Z.1) (ci := 7) (v := .ref (a0 26)) (C := RX7) (T := TX7) (N := 41) hx hb hts u7 hown hK hP 0 rfl rfl 25 (by decide) w4 (fun _ h9 => h9) rfl dX7_works_73 ?_
    refine lv_iload_n (pc := 76) hx hb dX7_works_76 rfl (lv_at hl 1 rfl) ?_
    obtain ⟨g77, hf⟩ := gd hf
    refine va_iald (pc := 77) (D := Z.1) (n := 6) (f := s60.1 25) hx hb hK hP 21 0 rfl rfl (inb_in g77) dX7_works_77 ?_
    refine lv_i2l (pc := 78) (v := (s60.1 25 (x1).toNatClampNeg).toInt64) hx hb dX7_works_78 rfl ?_
    refine lv_aload_n (pc := 79) hx hb dX7_works_79 rfl (lv_at hl 0 rfl) ?_
    refine va_get (pc := 80) (D := Z.1) (ci := 7) (v := .ref (a0 35)) (C := RX7) (T := TX7) (N := 41) hx hb hts u7 hown hK hP 0 rfl rfl 34 (by decide) w0 (fun _ h9 => h9) rfl dX7_works_80 ?_
    refine lv_iload_n (pc := 83) hx hb dX7_works_83 rfl (lv_at hl 1 rfl) ?_
    obtain ⟨g84, hf⟩ := gd hf
    refine va_iald (pc := 84) (D := Z.1) (n := 6) (f := s60.1 34) hx hb hK hP 30 0 rfl rfl (inb_in g84) dX7_works_84 ?_
    refine lv_i2l (pc := 85) (v := (s60.1 34 (x1).toNatClampNeg).toInt64) hx hb dX7_works_85 rfl ?_
    refine lv_lmul (pc := 86) hx hb dX7_works_86 ?_
    refine lv_ladd (pc := 87) hx hb dX7_works_87 ?_
    refine lv_ldc2 (pc := 88) (v := (-10000000)) hx hb hown w5 dX7_works_88 ?_
    refine lv_ldc2 (pc := 91) (v := 10000000) hx hb hown w6 dX7_works_91 ?_
    refine ro_S (pc := 94) (As := [.long ((s60.2 32 (x1).toNatClampNeg) + (((s60.1 25 (x1).toNatClampNeg).toInt64) * ((s60.1 34 (x1).toNatClampNeg).toInt64))), .long (-10000000), .long 10000000]) (rest := [.int x1, .ref (a0 33)]) (st1 := [.long (f_X7_held ((s60.2 32 (x1).toNatClampNeg) + (((s60.1 25 (x1).toNatClampNeg).toInt64) * ((s60.1 34 (x1).toNatClampNeg).toInt64))) (-10000000) 10000000), .int x1, .ref (a0 33)]) ⟨hx, hb, hml, hown, hts⟩ (c_X7_held Z l ((s60.2 32 (x1).toNatClampNeg) + (((s60.1 25 (x1).toNatClampNeg).toInt64) * ((s60.1 34 (x1).toNatClampNeg).toInt64))) (-10000000) 10000000 _ rfl) (va_cwS 3 hts gX7_works_X7_held rfl rfl rfl hs_X7_held ⟨Nat.le_of_ble_eq_true rfl, Nat.le_of_ble_eq_true rfl⟩) hK hE (hP.sub (ws' := []) [] rfl) rfl hl.1 rfl (lv_room (Nat.le_of_ble_eq_true rfl)) dX7_works_94 ⟨Nat.le_of_ble_eq_true rfl, Nat.le_of_ble_eq_true rfl⟩ rfl ?_
    obtain ⟨g97, hf⟩ := gd hf
    refine va_last (pc := 97) (D := Z.1) (n := 6) (f := s60.2 32) hx hb hK hP hD hS 28 1 rfl rfl (inb_in g97) dX7_works_97 (fun H locs hP hD hS => ?_)
    obtain ⟨s97, h_97, hf⟩ := bd hf
    have hP : va_P Z.1 vwCl (wX7 Z a0 s97) H := st_P (f := fun z => wX7 Z a0 z) h_97 hP
    have hD : va_D A (wX7 Z a0 s97) := st_D (f := fun z => wX7 Z a0 z) h_97 hD
    refine lv_aload_n (pc := 98) hx hb dX7_works_98 rfl (lv_at hl 0 rfl) ?_
    refine va_get (pc := 99) (D := Z.1) (ci := 7) (v := .ref (a0 37)) (C := RX7) (T := TX7) (N := 41) hx hb hts u7 hown hK hP 0 rfl rfl 36 (by decide) w7 (fun _ h9 => h9) rfl dX7_works_99 ?_
    refine lv_iload_n (pc := 102) hx hb dX7_works_102 rfl (lv_at hl 1 rfl) ?_
    refine lv_aload_n (pc := 103) hx hb dX7_works_103 rfl (lv_at hl 0 rfl) ?_
    refine va_get (pc := 104) (D := Z.1) (ci := 7) (v := .ref (a0 31)) (C := RX7) (T := TX7) (N := 41) hx hb hts u7 hown hK hP 0 rfl rfl 30 (by decide) w8 (fun _ h9 => h9) rfl dX7_works_104 ?_
    refine lv_iload_n (pc := 107) hx hb dX7_works_107 rfl (lv_at hl 1 rfl) ?_
    obtain ⟨g108, hf⟩ := gd hf
    refine va_iald (pc := 108) (D := Z.1) (n := 6) (f := s97.1 30) hx hb hK hP 26 0 rfl rfl (inb_in g108) dX7_works_108 ?_
    refine lv_if_ne (pc := 109) (tgt := 116) hx hb dX7_works_109 (by decide) (fun c2 => ?_) (fun c2 => ?_)
    · have hf := (if_neg c2).symm.trans hf
      refine lv_aload_n (pc := 116) hx hb dX7_works_116 rfl (lv_at hl 0 rfl) ?_
      refine va_get (pc := 117) (D := Z.1) (ci := 7) (v := .ref (a0 31)) (C := RX7) (T := TX7) (N := 41) hx hb hts u7 hown hK hP 0 rfl rfl 30 (by decide) w8 (fun _ h9 => h9) rfl dX7_works_117 ?_
      refine lv_iload_n (pc := 120) hx hb dX7_works_120 rfl (lv_at hl 1 rfl) ?_
      obtain ⟨g121, hf⟩ := gd hf
      refine va_iald (pc := 121) (D := Z.1) (n := 6) (f := s97.1 30) hx hb hK hP 26 0 rfl rfl (inb_in g121) dX7_works_121 ?_
      refine lv_i2l (pc := 122) (v := (s97.1 30 (x1).toNatClampNeg).toInt64) hx hb dX7_works_122 rfl ?_
      refine lv_aload_n (pc := 123) hx hb dX7_works_123 rfl (lv_at hl 0 rfl) ?_
      refine lv_aload_n (pc := 124) hx hb dX7_works_124 rfl (lv_at hl 0 rfl) ?_
      refine va_get (pc := 125) (D := Z.1) (ci := 7) (v := .ref (a0 30)) (C := RX7) (T := TX7) (N := 41) hx hb hts u7 hown hK hP 0 rfl rfl 29 (by decide) w9 (fun _ h9 => h9) rfl dX7_works_125 ?_
      refine lv_iload_n (pc := 128) hx hb dX7_works_128 rfl (lv_at hl 1 rfl) ?_
      obtain ⟨g129, hf⟩ := gd hf
      refine va_iald (pc := 129) (D := Z.1) (n := 6) (f := s97.1 29) hx hb hK hP 25 0 rfl rfl (inb_in g129) dX7_works_129 ?_
      obtain ⟨r130, h_130, hf⟩ := bd hf
      refine ro_V (pc := 130) (C := RX7) (As := [.int (s97.1 29 (x1).toNatClampNeg)]) (rest := [.long ((s97.1 30 (x1).toNatClampNeg).toInt64), .int x1, .ref (a0 37)]) (st1 := [.int r130, .long ((s97.1 30 (x1).toNatClampNeg).toInt64), .int x1, .ref (a0 37)]) ⟨hx, hb, hml, hown, hts⟩ (c_X7_warmthOf Z l a0 s97 (s97.1 29 (x1).toNatClampNeg) r130 h_130) (cwV 1 hts gX7_works_X7_warmthOf rfl rfl rfl hv_X7_warmthOf ⟨Nat.le_of_ble_eq_true rfl, Nat.le_of_ble_eq_true rfl⟩) hK hE hP 7 rfl rfl rfl hl.1 rfl (lv_room (Nat.le_of_ble_eq_true rfl)) dX7_works_130 ⟨Nat.le_of_ble_eq_true rfl, Nat.le_of_ble_eq_true rfl⟩ rfl ?_
      refine lv_sipush (pc := 133) (v := 200) hx hb dX7_works_133 (by decide) ?_
      refine lv_isub (pc := 136) hx hb dX7_works_136 ?_
      refine lv_i2l (pc := 137) (v := (r130 - 200).toInt64) hx hb dX7_works_137 rfl ?_
      refine lv_lmul (pc := 138) hx hb dX7_works_138 ?_
      refine lv_ldc2 (pc := 139) (v := 100) hx hb hown w10 dX7_works_139 ?_
      refine lv_ldiv (pc := 142) hx hb dX7_works_142 (by decide) ?_
      exact B143 s97 ((((s97.1 30 (x1).toNatClampNeg).toInt64) * ((r130 - 200).toInt64)) / 100) _ (lv_sub hl [0, 1] rfl) _ _ hP hD hS hf
    · have hf := (if_pos c2).symm.trans hf
      refine lv_lconst (pc := 112) (v := 0) hx hb dX7_works_112 (by decide) ?_
      refine lv_goto (pc := 113) (tgt := 143) hx hb dX7_works_113 (by decide) ?_
      exact B143 s97 0 _ (lv_sub hl [0, 1] rfl) _ _ hP hD hS hf
  · have hf := (if_neg c1).symm.trans hf
    refine lv_aload_n (pc := 8) hx hb dX7_works_8 rfl (lv_at hl 0 rfl) ?_
    refine va_get (pc := 9) (D := Z.1) (ci := 7) (v := .ref (a0 34)) (C := RX7) (T := TX7) (N := 41) hx hb hts u7 hown hK hP 0 rfl rfl 33 (by decide) w11 (fun _ h9 => h9) rfl dX7_works_9 ?_
    refine lv_iload_n (pc := 12) hx hb dX7_works_12 rfl (lv_at hl 1 rfl) ?_
    refine lv_aload_n (pc := 13) hx hb dX7_works_13 rfl (lv_at hl 0 rfl) ?_
    refine va_get (pc := 14) (D := Z.1) (ci := 7) (v := .ref (a0 11)) (C := RX7) (T := TX7) (N := 41) hx hb hts u7 hown hK hP 0 rfl rfl 10 (by decide) w12 (fun _ h9 => h9) rfl dX7_works_14 ?_
    refine lv_aload_n (pc := 17) hx hb dX7_works_17 rfl (lv_at hl 0 rfl) ?_
    refine va_get (pc := 18) (D := Z.1) (ci := 7) (v := .ref (a0 24)) (C := RX7) (T := TX7) (N := 41) hx hb hts u7 hown hK hP 0 rfl rfl 23 (by decide) w2 (fun _ h9 => h9) rfl dX7_works_18 ?_
    refine lv_iload_n (pc := 21) hx hb dX7_works_21 rfl (lv_at hl 1 rfl) ?_
    obtain ⟨g22, hf⟩ := gd hf
    refine va_iald (pc := 22) (D := Z.1) (n := 6) (f := o0.1 23) hx hb hK hP 19 0 rfl rfl (inb_in g22) dX7_works_22 ?_
    obtain ⟨g23, hf⟩ := gd hf
    refine va_lald (pc := 23) (D := Z.1) (n := 24) (f := o0.2 10) hx hb hK hP 8 1 rfl rfl (inb_in g23) dX7_works_23 ?_
    refine lv_aload_n (pc := 24) hx hb dX7_works_24 rfl (lv_at hl 0 rfl) ?_
    refine va_get (pc := 25) (D := Z.1) (ci := 7) (v := .ref (a0 29)) (C := RX7) (T := TX7) (N := 41) hx hb hts u7 hown hK hP 0 rfl rfl 28 (by decide) w13 (fun _ h9 => h9) rfl dX7_works_25 ?_
    refine lv_iload_n (pc := 28) hx hb dX7_works_28 rfl (lv_at hl 1 rfl) ?_
    obtain ⟨g29, hf⟩ := gd hf
    refine va_iald (pc := 29) (D := Z.1) (n := 6) (f := o0.1 28) hx hb hK hP 24 0 rfl rfl (inb_in g29) dX7_works_29 ?_
    refine lv_i2l (pc := 30) (v := (o0.1 28 (x1).toNatClampNeg).toInt64) hx hb dX7_works_30 rfl ?_
    refine lv_lmul (pc := 31) hx hb dX7_works_31 ?_
    refine lv_ldc2 (pc := 32) (v := 100) hx hb hown w10 dX7_works_32 ?_
    refine lv_ldiv (pc := 35) hx hb dX7_works_35 (by decide) ?_
    obtain ⟨g36, hf⟩ := gd hf
    refine va_last (pc := 36) (D := Z.1) (n := 6) (f := o0.2 33) hx hb hK hP hD hS 29 1 rfl rfl (inb_in g36) dX7_works_36 (fun H locs hP hD hS => ?_)
    obtain ⟨s36, h_36, hf⟩ := bd hf
    have hP : va_P Z.1 vwCl (wX7 Z a0 s36) H := st_P (f := fun z => wX7 Z a0 z) h_36 hP
    have hD : va_D A (wX7 Z a0 s36) := st_D (f := fun z => wX7 Z a0 z) h_36 hD
    have hf := (Option.some.inj hf)
    subst hf
    exact rw_v (fun _ => 0) hx hb hr hlk hP hD hS dX7_works_37
