def f_X5_giveAll_b2  : Nat → Int32 → ObS → ObS → Option (ObS × ObS)
  | 0, _, _, _ => none
  | n + 1, v2_2, o2_0, o2_1 =>
  if (o2_0.1 0 0) ≤ v2_2 then
    some (o2_0, o2_1)
  else
    if 12 ≤ v2_2 then
      some (o2_0, o2_1)
    else
      if inb v2_2 12 then
      (f_X5_give o2_0 o2_1 v2_2 (o2_0.1 3 (v2_2).toNatClampNeg)).bind fun r30 =>
      if inb v2_2 12 then
      (some (oj o2_0 7 (v2_2).toNatClampNeg r30.1)).bind fun s33 =>
      f_X5_giveAll_b2 n (v2_2 + 1) s33 r30.2
      else none
      else none
def f_X5_giveAll (o0 : ObS) (o1 : ObS) : Option (ObS × ObS) :=
  f_X5_giveAll_b2 64 0 o0 o1
set_option maxHeartbeats 4000000 in
set_option maxRecDepth 100000 in
theorem c_X5_giveAll (Z : EnvT) (l : Launch) (a0 : Nat → Nat) (o0 : ObS) (a1 : Nat → Nat) (o1 : ObS) (R : ObS × ObS) (hf : f_X5_giveAll o0 o1 = some R) : RW Z l yX5_giveAll wsX5_giveAll { frames := 4, cells := 0, slots := 0, locals := 107 } [.ref (a0 0), .ref (a1 0)] (wX5 Z a0 o0 ++ wX3 Z a1 o1) none (fun _ => wX5 Z a0 R.1 ++ wX3 Z a1 R.2) 0 0 := by
  refine rw_of (cc := cX5_giveAll) (maxL := 3) (ret := none) (by decide) rfl (Nat.le_of_ble_eq_true rfl) ?_
  intro p e s m below meth c A ls hx hb hr hml hts hown hlk hin hP hK hE hD hA hS hl
  have hown : s.vm.findClass RX5 = some m.cls := hown
  have hl : lv_has ls 3 [(0, .ref (a0 0)), (1, .ref (a1 0))] := hl
  have w0 := hts (.fieldLink RX5 9 "HeatTrain$Units" "made" "I") (by decide +kernel)
  have w1 := hts (.fieldLink RX5 31 "HeatTrain$Units" "moved" "[J") (by decide +kernel)
  have w2 := hts (.fieldLink RX5 22 "HeatTrain$Units" "number" "[I") (by decide +kernel)
  have u5 : ∀ w ∈ wsX50, w ∈ wsX5_giveAll := by decide +kernel
  have B2 : ∀ (n : Nat), ∀ (v2_2 : Int32) (o2_0 : ObS) (o2_1 : ObS) (ls : Array Slot), lv_has ls 3 [(0, .ref (a0 0)), (1, .ref (a1 0)), (2, .int v2_2)] → ∀ (H : Heap) (locs : List Loc), va_P Z.1 vwCl (wX5 Z a0 o2_0 ++ wX3 Z a1 o2_1) H → va_D A (wX5 Z a0 o2_0 ++ wX3 Z a1 o2_1) → va_S A s.heap H locs → f_X5_giveAll_b2 n v2_2 o2_0 o2_1 = some R → W p l e { frames := 4, cells := 0, slots := 0, locals := 107 } s m ([.ref (a0 0), .ref (a1 0)] : List Value).toArray below meth c H locs 0 0 (MQ below (rwQ Z none (fun _ => wX5 Z a0 R.1 ++ wX3 Z a1 R.2) A) ([.ref (a0 0), .ref (a1 0)] : List Value).toArray s 0 0 A) (F0 m 2 ls []) := by
    intro n
    induction n with
    | zero => intro v2_2 o2_0 o2_1 ls hl H locs hP hD hS hf; rw [f_X5_giveAll_b2] at hf; exact nomatch hf
    | succ n ih =>
      intro v2_2 o2_0 o2_1 ls hl H locs hP hD hS hf
      rw [f_X5_giveAll_b2] at hf
      refine lv_iload_n (pc := 2) hx hb dX5_giveAll_2 rfl (lv_at hl 2 rfl) ?_
      refine lv_aload_n (pc := 3) hx hb dX5_giveAll_3 rfl (lv_at hl 0 rfl) ?_
      refine va_get (pc := 4) (D := Z.1) (ci := 5) (v := .int (o2_0.1 0 0)) (C := RX5) (T := TX5) (N := 9) hx hb hts u5 hown hK hP 0 rfl rfl 0 (by decide) w0 (fun _ h9 => h9) rfl dX5_giveAll_4 ?_
      refine lv_icmp_ge (pc := 7) (tgt := 40) hx hb dX5_giveAll_7 (by decide) (fun c1 => ?_) (fun c1 => ?_)
      · have hf := (if_pos c1).symm.trans hf
        have hf := (Option.some.inj hf)
        subst hf
        exact rw_v (fun _ => 0) hx hb hr hlk hP hD hS dX5_giveAll_40
      · have hf := (if_neg c1).symm.trans hf
        refine lv_iload_n (pc := 10) hx hb dX5_giveAll_10 rfl (lv_at hl 2 rfl) ?_
        refine lv_bipush (pc := 11) (v := 12) hx hb dX5_giveAll_11 (by decide) ?_
        refine lv_icmp_ge (pc := 13) (tgt := 40) hx hb dX5_giveAll_13 (by decide) (fun c2 => ?_) (fun c2 => ?_)
        · have hf := (if_pos c2).symm.trans hf
          have hf := (Option.some.inj hf)
          subst hf
          exact rw_v (fun _ => 0) hx hb hr hlk hP hD hS dX5_giveAll_40
        · have hf := (if_neg c2).symm.trans hf
          refine lv_aload_n (pc := 16) hx hb dX5_giveAll_16 rfl (lv_at hl 0 rfl) ?_
          refine va_get (pc := 17) (D := Z.1) (ci := 5) (v := .ref (a0 8)) (C := RX5) (T := TX5) (N := 9) hx hb hts u5 hown hK hP 0 rfl rfl 7 (by decide) w1 (fun _ h9 => h9) rfl dX5_giveAll_17 ?_
          refine lv_iload_n (pc := 20) hx hb dX5_giveAll_20 rfl (lv_at hl 2 rfl) ?_
          refine lv_aload_n (pc := 21) hx hb dX5_giveAll_21 rfl (lv_at hl 0 rfl) ?_
          refine lv_aload_n (pc := 22) hx hb dX5_giveAll_22 rfl (lv_at hl 1 rfl) ?_
          refine lv_iload_n (pc := 23) hx hb dX5_giveAll_23 rfl (lv_at hl 2 rfl) ?_
          refine lv_aload_n (pc := 24) hx hb dX5_giveAll_24 rfl (lv_at hl 0 rfl) ?_
          refine va_get (pc := 25) (D := Z.1) (ci := 5) (v := .ref (a0 4)) (C := RX5) (T := TX5) (N := 9) hx hb hts u5 hown hK hP 0 rfl rfl 3 (by decide) w2 (fun _ h9 => h9) rfl dX5_giveAll_25 ?_
          refine lv_iload_n (pc := 28) hx hb dX5_giveAll_28 rfl (lv_at hl 2 rfl) ?_
          obtain ⟨g29, hf⟩ := gd hf
          refine va_iald (pc := 29) (D := Z.1) (n := 12) (f := o2_0.1 3) hx hb hK hP 3 0 rfl rfl (inb_in g29) dX5_giveAll_29 ?_
          obtain ⟨r30, h_30, hf⟩ := bd hf
          refine rw_V (pc := 30) (C := RX5) (As := [.ref (a1 0), .int v2_2, .int (o2_0.1 3 (v2_2).toNatClampNeg)]) (rest := [.int v2_2, .ref (a0 8)]) (st1 := [.long r30.1, .int v2_2, .ref (a0 8)]) (wn := fun _ => wX5 Z a0 o2_0 ++ wX3 Z a1 r30.2) ⟨hx, hb, hml, hown, hts⟩ (c_X5_give Z l a0 o2_0 a1 o2_1 v2_2 (o2_0.1 3 (v2_2).toNatClampNeg) r30 h_30) (cwV 3 hts gX5_giveAll_X5_give rfl rfl rfl hv_X5_give ⟨Nat.le_of_ble_eq_true rfl, Nat.le_of_ble_eq_true rfl⟩) hK hE hP hD hS hA [0, 1, 2, 3, 4, 5, 6, 7, 8, 9, 10, 11] [] [0, 1, 2, 3, 4, 5, 6, 7, 8, 9, 10, 11] rfl rfl rfl (fun _ => rfl) 5 rfl rfl rfl hl.1 rfl (lv_room (Nat.le_of_ble_eq_true rfl)) dX5_giveAll_30 ⟨Nat.le_of_ble_eq_true rfl, Nat.le_of_ble_eq_true rfl⟩ rfl (fun _ H locs hP hD hS => ?_)
          obtain ⟨g33, hf⟩ := gd hf
          refine va_last (pc := 33) (D := Z.1) (n := 12) (f := o2_0.2 7) hx hb hK hP hD hS 7 1 rfl rfl (inb_in g33) dX5_giveAll_33 (fun H locs hP hD hS => ?_)
          obtain ⟨s33, h_33, hf⟩ := bd hf
          have hP : va_P Z.1 vwCl (wX5 Z a0 s33 ++ wX3 Z a1 r30.2) H := st_P (f := fun z => wX5 Z a0 z ++ wX3 Z a1 r30.2) h_33 hP
          have hD : va_D A (wX5 Z a0 s33 ++ wX3 Z a1 r30.2) := st_D (f := fun z => wX5 Z a0 z ++ wX3 Z a1 r30.2) h_33 hD
          refine lv_iinc (pc := 34) (v := v2_2 + 1) (lv' := [(2, .int (v2_2 + 1)), (0, .ref (a0 0)), (1, .ref (a1 0))]) hx hb dX5_giveAll_34 hl (k := 2) rfl rfl (by decide) rfl (fun ls hl => ?_)
          refine lv_goto (pc := 37) (tgt := 2) hx hb dX5_giveAll_37 (by decide) ?_
          exact ih (v2_2 + 1) s33 r30.2 _ (lv_sub hl [1, 2, 0] rfl) _ _ hP hD hS hf
  rw [f_X5_giveAll] at hf
  refine lv_iconst (pc := 0) (v := 0) hx hb dX5_giveAll_0 (by decide) ?_
  refine lv_istore_n (pc := 1) (lv' := [(2, .int 0), (0, .ref (a0 0)), (1, .ref (a1 0))]) hx hb dX5_giveAll_1 rfl hl (by decide) rfl (fun ls hl => ?_)
  exact B2 64 0 o0 o1 _ (lv_sub hl [1, 2, 0] rfl) _ _ hP hD hS hf
def f_X5_heatMade_b5 (o0 : ObS) (o1 : ObS) : Nat → Int32 → Int64 → Option (Int64)
  | 0, _, _ => none
  | n + 1, v5_4, v5_2 =>
  if (o0.1 0 0) ≤ v5_4 then
    some (v5_2)
  else
    if 12 ≤ v5_4 then
      some (v5_2)
    else
      if inb v5_4 12 then
      if (o0.1 1 (v5_4).toNatClampNeg) = (0 : Int32) then
        (f_X3_heatOf o1 (2 * v5_4)).bind fun r37 =>
        f_X5_heatMade_b5 o0 o1 n (v5_4 + 1) (v5_2 + r37)
      else
        f_X5_heatMade_b5 o0 o1 n (v5_4 + 1) (v5_2 + 0)
      else none
def f_X5_heatMade (o0 : ObS) (o1 : ObS) : Option (Int64) :=
  f_X5_heatMade_b5 o0 o1 64 0 0
set_option maxHeartbeats 4000000 in
set_option maxRecDepth 100000 in
theorem c_X5_heatMade (Z : EnvT) (l : Launch) (a0 : Nat → Nat) (o0 : ObS) (a1 : Nat → Nat) (o1 : ObS) (R : Int64) (hf : f_X5_heatMade o0 o1 = some R) : RO Z l yX5_heatMade wsX5_heatMade { frames := 2, cells := 0, slots := 0, locals := 41 } [.ref (a0 0), .ref (a1 0)] (wX5 Z a0 o0 ++ wX3 Z a1 o1) (some (.long R)) := by
  refine ro_of (cc := cX5_heatMade) (maxL := 5) (ret := (some .long)) (by decide) rfl (Nat.le_of_ble_eq_true rfl) ?_
  intro p e s m below meth c ls hx hb hr hml hts hown hlk hP hK hE hl
  have hown : s.vm.findClass RX5 = some m.cls := hown
  have hl : lv_has ls 5 [(0, .ref (a0 0)), (1, .ref (a1 0))] := hl
  have w0 := hts (.fieldLink RX5 9 "HeatTrain$Units" "made" "I") (by decide +kernel)
  have w1 := hts (.fieldLink RX5 15 "HeatTrain$Units" "kind" "[I") (by decide +kernel)
  have u5 : ∀ w ∈ wsX50, w ∈ wsX5_heatMade := by decide +kernel
  have B5 : ∀ (n : Nat), ∀ (v5_4 : Int32) (v5_2 : Int64) (ls : Array Slot), lv_has ls 5 [(0, .ref (a0 0)), (1, .ref (a1 0)), (2, .long v5_2), (4, .int v5_4)] → f_X5_heatMade_b5 o0 o1 n v5_4 v5_2 = some R → W p l e { frames := 2, cells := 0, slots := 0, locals := 41 } s m ([.ref (a0 0), .ref (a1 0)] : List Value).toArray below meth c s.heap [] 0 0 (MQ below (roQ (some (.long R))) ([.ref (a0 0), .ref (a1 0)] : List Value).toArray s 0 0 (fun _ => False)) (F0 m 5 ls []) := by
    intro n
    induction n with
    | zero => intro v5_4 v5_2 ls hl hf; rw [f_X5_heatMade_b5] at hf; exact nomatch hf
    | succ n ih =>
      intro v5_4 v5_2 ls hl hf
      rw [f_X5_heatMade_b5] at hf
      refine lv_iload (pc := 5) hx hb dX5_heatMade_5 (lv_at hl 3 rfl) ?_
      refine lv_aload_n (pc := 7) hx hb dX5_heatMade_7 rfl (lv_at hl 0 rfl) ?_
      refine va_get (pc := 8) (D := Z.1) (ci := 5) (v := .int (o0.1 0 0)) (C := RX5) (T := TX5) (N := 9) hx hb hts u5 hown hK hP 0 rfl rfl 0 (by decide) w0 (fun _ h9 => h9) rfl dX5_heatMade_8 ?_
      refine lv_icmp_ge (pc := 11) (tgt := 52) hx hb dX5_heatMade_11 (by decide) (fun c1 => ?_) (fun c1 => ?_)
      · have hf := (if_pos c1).symm.trans hf
        refine lv_lload_n (pc := 52) hx hb dX5_heatMade_52 rfl (lv_at hl 2 rfl) ?_
        exact ro_l hx hb hr hlk (Option.some.inj hf) dX5_heatMade_53
      · have hf := (if_neg c1).symm.trans hf
        refine lv_iload (pc := 14) hx hb dX5_heatMade_14 (lv_at hl 3 rfl) ?_
        refine lv_bipush (pc := 16) (v := 12) hx hb dX5_heatMade_16 (by decide) ?_
        refine lv_icmp_ge (pc := 18) (tgt := 52) hx hb dX5_heatMade_18 (by decide) (fun c2 => ?_) (fun c2 => ?_)
        · have hf := (if_pos c2).symm.trans hf
          refine lv_lload_n (pc := 52) hx hb dX5_heatMade_52 rfl (lv_at hl 2 rfl) ?_
          exact ro_l hx hb hr hlk (Option.some.inj hf) dX5_heatMade_53
        · have hf := (if_neg c2).symm.trans hf
          refine lv_lload_n (pc := 21) hx hb dX5_heatMade_21 rfl (lv_at hl 2 rfl) ?_
          refine lv_aload_n (pc := 22) hx hb dX5_heatMade_22 rfl (lv_at hl 0 rfl) ?_
          refine va_get (pc := 23) (D := Z.1) (ci := 5) (v := .ref (a0 2)) (C := RX5) (T := TX5) (N := 9) hx hb hts u5 hown hK hP 0 rfl rfl 1 (by decide) w1 (fun _ h9 => h9) rfl dX5_heatMade_23 ?_
          refine lv_iload (pc := 26) hx hb dX5_heatMade_26 (lv_at hl 3 rfl) ?_
          obtain ⟨g28, hf⟩ := gd hf
          refine va_iald (pc := 28) (D := Z.1) (n := 12) (f := o0.1 1) hx hb hK hP 1 0 rfl rfl (inb_in g28) dX5_heatMade_28 ?_
          refine lv_if_ne (pc := 29) (tgt := 43) hx hb dX5_heatMade_29 (by decide) (fun c3 => ?_) (fun c3 => ?_)
          · have hf := (if_neg c3).symm.trans hf
            refine lv_lconst (pc := 43) (v := 0) hx hb dX5_heatMade_43 (by decide) ?_
            refine lv_ladd (pc := 44) hx hb dX5_heatMade_44 ?_
            refine lv_lstore_n (pc := 45) (lv' := [(2, .long (v5_2 + 0)), (0, .ref (a0 0)), (1, .ref (a1 0)), (4, .int v5_4)]) hx hb dX5_heatMade_45 rfl hl (by decide) rfl (fun ls hl => ?_)
            refine lv_iinc (pc := 46) (v := v5_4 + 1) (lv' := [(4, .int (v5_4 + 1)), (2, .long (v5_2 + 0)), (0, .ref (a0 0)), (1, .ref (a1 0))]) hx hb dX5_heatMade_46 hl (k := 3) rfl rfl (by decide) rfl (fun ls hl => ?_)
            refine lv_goto (pc := 49) (tgt := 5) hx hb dX5_heatMade_49 (by decide) ?_
            exact ih (v5_4 + 1) (v5_2 + 0) _ (lv_sub hl [2, 3, 1, 0] rfl) hf
          · have hf := (if_pos c3).symm.trans hf
            refine lv_aload_n (pc := 32) hx hb dX5_heatMade_32 rfl (lv_at hl 1 rfl) ?_
            refine lv_iconst (pc := 33) (v := 2) hx hb dX5_heatMade_33 (by decide) ?_
            refine lv_iload (pc := 34) hx hb dX5_heatMade_34 (lv_at hl 3 rfl) ?_
            refine lv_imul (pc := 36) hx hb dX5_heatMade_36 ?_
            obtain ⟨r37, h_37, hf⟩ := bd hf
            refine ro_V (pc := 37) (C := RX3) (As := [.int (2 * v5_4)]) (rest := [.long v5_2]) (st1 := [.long r37, .long v5_2]) ⟨hx, hb, hml, hown, hts⟩ (c_X3_heatOf Z l a1 o1 (2 * v5_4) r37 h_37) (cwV 1 hts gX5_heatMade_X3_heatOf rfl rfl rfl hv_X3_heatOf ⟨Nat.le_of_ble_eq_true rfl, Nat.le_of_ble_eq_true rfl⟩) hK hE (hP.sub (ws' := wX3 Z a1 o1) [9, 10, 11] rfl) 3 rfl rfl rfl hl.1 rfl (lv_room (Nat.le_of_ble_eq_true rfl)) dX5_heatMade_37 ⟨Nat.le_of_ble_eq_true rfl, Nat.le_of_ble_eq_true rfl⟩ rfl ?_
            refine lv_goto (pc := 40) (tgt := 44) hx hb dX5_heatMade_40 (by decide) ?_
            refine lv_ladd (pc := 44) hx hb dX5_heatMade_44 ?_
            refine lv_lstore_n (pc := 45) (lv' := [(2, .long (v5_2 + r37)), (0, .ref (a0 0)), (1, .ref (a1 0)), (4, .int v5_4)]) hx hb dX5_heatMade_45 rfl hl (by decide) rfl (fun ls hl => ?_)
            refine lv_iinc (pc := 46) (v := v5_4 + 1) (lv' := [(4, .int (v5_4 + 1)), (2, .long (v5_2 + r37)), (0, .ref (a0 0)), (1, .ref (a1 0))]) hx hb dX5_heatMade_46 hl (k := 3) rfl rfl (by decide) rfl (fun ls hl => ?_)
            refine lv_goto (pc := 49) (tgt := 5) hx hb dX5_heatMade_49 (by decide) ?_
            exact ih (v5_4 + 1) (v5_2 + r37) _ (lv_sub hl [2, 3, 1, 0] rfl) hf
  rw [f_X5_heatMade] at hf
  refine lv_lconst (pc := 0) (v := 0) hx hb dX5_heatMade_0 (by decide) ?_
  refine lv_lstore_n (pc := 1) (lv' := [(2, .long 0), (0, .ref (a0 0)), (1, .ref (a1 0))]) hx hb dX5_heatMade_1 rfl hl (by decide) rfl (fun ls hl => ?_)
  refine lv_iconst (pc := 2) (v := 0) hx hb dX5_heatMade_2 (by decide) ?_
  refine lv_istore (pc := 3) (lv' := [(4, .int 0), (2, .long 0), (0, .ref (a0 0)), (1, .ref (a1 0))]) hx hb dX5_heatMade_3 hl (by decide) rfl (fun ls hl => ?_)
  exact B5 64 0 0 _ (lv_sub hl [2, 3, 1, 0] rfl) hf
def f_X5_heatCooledAway_b4 (o0 : ObS) : Nat → Int32 → Int64 → Option (Int64)
  | 0, _, _ => none
  | n + 1, v4_3, v4_1 =>
  if (o0.1 0 0) ≤ v4_3 then
    some (v4_1)
  else
    if 12 ≤ v4_3 then
      some (v4_1)
    else
      if inb v4_3 12 then
      if (o0.1 1 (v4_3).toNatClampNeg) = 4 then
        if inb v4_3 12 then
        f_X5_heatCooledAway_b4 o0 n (v4_3 + 1) (v4_1 + (o0.2 7 (v4_3).toNatClampNeg))
        else none
      else
        f_X5_heatCooledAway_b4 o0 n (v4_3 + 1) (v4_1 + 0)
      else none
def f_X5_heatCooledAway (o0 : ObS) : Option (Int64) :=
  f_X5_heatCooledAway_b4 o0 64 0 0
set_option maxHeartbeats 4000000 in
set_option maxRecDepth 100000 in
theorem c_X5_heatCooledAway (Z : EnvT) (l : Launch) (a0 : Nat → Nat) (o0 : ObS) (R : Int64) (hf : f_X5_heatCooledAway o0 = some R) : RO Z l yX5_heatCooledAway wsX5_heatCooledAway { frames := 0, cells := 0, slots := 0, locals := 0 } [.ref (a0 0)] (wX5 Z a0 o0) (some (.long R)) := by
  refine ro_of (cc := cX5_heatCooledAway) (maxL := 4) (ret := (some .long)) (by decide) rfl (Nat.le_of_ble_eq_true rfl) ?_
  intro p e s m below meth c ls hx hb hr hml hts hown hlk hP hK hE hl
  have hown : s.vm.findClass RX5 = some m.cls := hown
  have hl : lv_has ls 4 [(0, .ref (a0 0))] := hl
  have w0 := hts (.fieldLink RX5 9 "HeatTrain$Units" "made" "I") (by decide +kernel)
  have w1 := hts (.fieldLink RX5 15 "HeatTrain$Units" "kind" "[I") (by decide +kernel)
  have w2 := hts (.fieldLink RX5 31 "HeatTrain$Units" "moved" "[J") (by decide +kernel)
  have u5 : ∀ w ∈ wsX50, w ∈ wsX5_heatCooledAway := by decide +kernel
  have B4 : ∀ (n : Nat), ∀ (v4_3 : Int32) (v4_1 : Int64) (ls : Array Slot), lv_has ls 4 [(0, .ref (a0 0)), (1, .long v4_1), (3, .int v4_3)] → f_X5_heatCooledAway_b4 o0 n v4_3 v4_1 = some R → W p l e { frames := 0, cells := 0, slots := 0, locals := 0 } s m ([.ref (a0 0)] : List Value).toArray below meth c s.heap [] 0 0 (MQ below (roQ (some (.long R))) ([.ref (a0 0)] : List Value).toArray s 0 0 (fun _ => False)) (F0 m 4 ls []) := by
    intro n
    induction n with
    | zero => intro v4_3 v4_1 ls hl hf; rw [f_X5_heatCooledAway_b4] at hf; exact nomatch hf
    | succ n ih =>
      intro v4_3 v4_1 ls hl hf
      rw [f_X5_heatCooledAway_b4] at hf
      refine lv_iload_n (pc := 4) hx hb dX5_heatCooledAway_4 rfl (lv_at hl 2 rfl) ?_
      refine lv_aload_n (pc := 5) hx hb dX5_heatCooledAway_5 rfl (lv_at hl 0 rfl) ?_
      refine va_get (pc := 6) (D := Z.1) (ci := 5) (v := .int (o0.1 0 0)) (C := RX5) (T := TX5) (N := 9) hx hb hts u5 hown hK hP 0 rfl rfl 0 (by decide) w0 (fun _ h9 => h9) rfl dX5_heatCooledAway_6 ?_
      refine lv_icmp_ge (pc := 9) (tgt := 47) hx hb dX5_heatCooledAway_9 (by decide) (fun c1 => ?_) (fun c1 => ?_)
      · have hf := (if_pos c1).symm.trans hf
        refine lv_lload_n (pc := 47) hx hb dX5_heatCooledAway_47 rfl (lv_at hl 1 rfl) ?_
        exact ro_l hx hb hr hlk (Option.some.inj hf) dX5_heatCooledAway_48
      · have hf := (if_neg c1).symm.trans hf
        refine lv_iload_n (pc := 12) hx hb dX5_heatCooledAway_12 rfl (lv_at hl 2 rfl) ?_
        refine lv_bipush (pc := 13) (v := 12) hx hb dX5_heatCooledAway_13 (by decide) ?_
        refine lv_icmp_ge (pc := 15) (tgt := 47) hx hb dX5_heatCooledAway_15 (by decide) (fun c2 => ?_) (fun c2 => ?_)
        · have hf := (if_pos c2).symm.trans hf
          refine lv_lload_n (pc := 47) hx hb dX5_heatCooledAway_47 rfl (lv_at hl 1 rfl) ?_
          exact ro_l hx hb hr hlk (Option.some.inj hf) dX5_heatCooledAway_48
        · have hf := (if_neg c2).symm.trans hf
          refine lv_lload_n (pc := 18) hx hb dX5_heatCooledAway_18 rfl (lv_at hl 1 rfl) ?_
          refine lv_aload_n (pc := 19) hx hb dX5_heatCooledAway_19 rfl (lv_at hl 0 rfl) ?_
          refine va_get (pc := 20) (D := Z.1) (ci := 5) (v := .ref (a0 2)) (C := RX5) (T := TX5) (N := 9) hx hb hts u5 hown hK hP 0 rfl rfl 1 (by decide) w1 (fun _ h9 => h9) rfl dX5_heatCooledAway_20 ?_
          refine lv_iload_n (pc := 23) hx hb dX5_heatCooledAway_23 rfl (lv_at hl 2 rfl) ?_
          obtain ⟨g24, hf⟩ := gd hf
          refine va_iald (pc := 24) (D := Z.1) (n := 12) (f := o0.1 1) hx hb hK hP 1 0 rfl rfl (inb_in g24) dX5_heatCooledAway_24 ?_
          refine lv_iconst (pc := 25) (v := 4) hx hb dX5_heatCooledAway_25 (by decide) ?_
          refine lv_icmp_ne (pc := 26) (tgt := 38) hx hb dX5_heatCooledAway_26 (by decide) (fun c3 => ?_) (fun c3 => ?_)
          · have hf := (if_neg c3).symm.trans hf
            refine lv_lconst (pc := 38) (v := 0) hx hb dX5_heatCooledAway_38 (by decide) ?_
            refine lv_ladd (pc := 39) hx hb dX5_heatCooledAway_39 ?_
            refine lv_lstore_n (pc := 40) (lv' := [(1, .long (v4_1 + 0)), (0, .ref (a0 0)), (3, .int v4_3)]) hx hb dX5_heatCooledAway_40 rfl hl (by decide) rfl (fun ls hl => ?_)
            refine lv_iinc (pc := 41) (v := v4_3 + 1) (lv' := [(3, .int (v4_3 + 1)), (1, .long (v4_1 + 0)), (0, .ref (a0 0))]) hx hb dX5_heatCooledAway_41 hl (k := 2) rfl rfl (by decide) rfl (fun ls hl => ?_)
            refine lv_goto (pc := 44) (tgt := 4) hx hb dX5_heatCooledAway_44 (by decide) ?_
            exact ih (v4_3 + 1) (v4_1 + 0) _ (lv_sub hl [2, 1, 0] rfl) hf
          · have hf := (if_pos c3).symm.trans hf
            refine lv_aload_n (pc := 29) hx hb dX5_heatCooledAway_29 rfl (lv_at hl 0 rfl) ?_
            refine va_get (pc := 30) (D := Z.1) (ci := 5) (v := .ref (a0 8)) (C := RX5) (T := TX5) (N := 9) hx hb hts u5 hown hK hP 0 rfl rfl 7 (by decide) w2 (fun _ h9 => h9) rfl dX5_heatCooledAway_30 ?_
            refine lv_iload_n (pc := 33) hx hb dX5_heatCooledAway_33 rfl (lv_at hl 2 rfl) ?_
            obtain ⟨g34, hf⟩ := gd hf
            refine va_lald (pc := 34) (D := Z.1) (n := 12) (f := o0.2 7) hx hb hK hP 7 1 rfl rfl (inb_in g34) dX5_heatCooledAway_34 ?_
            refine lv_goto (pc := 35) (tgt := 39) hx hb dX5_heatCooledAway_35 (by decide) ?_
            refine lv_ladd (pc := 39) hx hb dX5_heatCooledAway_39 ?_
            refine lv_lstore_n (pc := 40) (lv' := [(1, .long (v4_1 + (o0.2 7 (v4_3).toNatClampNeg))), (0, .ref (a0 0)), (3, .int v4_3)]) hx hb dX5_heatCooledAway_40 rfl hl (by decide) rfl (fun ls hl => ?_)
            refine lv_iinc (pc := 41) (v := v4_3 + 1) (lv' := [(3, .int (v4_3 + 1)), (1, .long (v4_1 + (o0.2 7 (v4_3).toNatClampNeg))), (0, .ref (a0 0))]) hx hb dX5_heatCooledAway_41 hl (k := 2) rfl rfl (by decide) rfl (fun ls hl => ?_)
            refine lv_goto (pc := 44) (tgt := 4) hx hb dX5_heatCooledAway_44 (by decide) ?_
            exact ih (v4_3 + 1) (v4_1 + (o0.2 7 (v4_3).toNatClampNeg)) _ (lv_sub hl [2, 1, 0] rfl) hf
  rw [f_X5_heatCooledAway] at hf
  refine lv_lconst (pc := 0) (v := 0) hx hb dX5_heatCooledAway_0 (by decide) ?_
  refine lv_lstore_n (pc := 1) (lv' := [(1, .long 0), (0, .ref (a0 0))]) hx hb dX5_heatCooledAway_1 rfl hl (by decide) rfl (fun ls hl => ?_)
  refine lv_iconst (pc := 2) (v := 0) hx hb dX5_heatCooledAway_2 (by decide) ?_
  refine lv_istore_n (pc := 3) (lv' := [(3, .int 0), (1, .long 0), (0, .ref (a0 0))]) hx hb dX5_heatCooledAway_3 rfl hl (by decide) rfl (fun ls hl => ?_)
  exact B4 64 0 0 _ (lv_sub hl [2, 1, 0] rfl) hf
def f_X5_heatUntaken_b5 (o0 : ObS) (o1 : ObS) : Nat → Int32 → Int64 → Option (Int64)
  | 0, _, _ => none
  | n + 1, v5_4, v5_2 =>
  if 24 ≤ v5_4 then
    some (v5_2)
  else
    if inb v5_4 24 then
    if (o0.1 6 (v5_4).toNatClampNeg) = (-1) then
      (f_X3_heatOf o1 v5_4).bind fun r27 =>
      f_X5_heatUntaken_b5 o0 o1 n (v5_4 + 1) (v5_2 + r27)
    else
      f_X5_heatUntaken_b5 o0 o1 n (v5_4 + 1) (v5_2 + 0)
    else none
def f_X5_heatUntaken (o0 : ObS) (o1 : ObS) : Option (Int64) :=
  f_X5_heatUntaken_b5 o0 o1 64 0 0
set_option maxHeartbeats 4000000 in
set_option maxRecDepth 100000 in
theorem c_X5_heatUntaken (Z : EnvT) (l : Launch) (a0 : Nat → Nat) (o0 : ObS) (a1 : Nat → Nat) (o1 : ObS) (R : Int64) (hf : f_X5_heatUntaken o0 o1 = some R) : RO Z l yX5_heatUntaken wsX5_heatUntaken { frames := 2, cells := 0, slots := 0, locals := 41 } [.ref (a0 0), .ref (a1 0)] (wX5 Z a0 o0 ++ wX3 Z a1 o1) (some (.long R)) := by
  refine ro_of (cc := cX5_heatUntaken) (maxL := 5) (ret := (some .long)) (by decide) rfl (Nat.le_of_ble_eq_true rfl) ?_
  intro p e s m below meth c ls hx hb hr hml hts hown hlk hP hK hE hl
  have hown : s.vm.findClass RX5 = some m.cls := hown
  have hl : lv_has ls 5 [(0, .ref (a0 0)), (1, .ref (a1 0))] := hl
  have w0 := hts (.fieldLink RX5 39 "HeatTrain$Units" "taker" "[I") (by decide +kernel)
  have u5 : ∀ w ∈ wsX50, w ∈ wsX5_heatUntaken := by decide +kernel
  have B5 : ∀ (n : Nat), ∀ (v5_4 : Int32) (v5_2 : Int64) (ls : Array Slot), lv_has ls 5 [(0, .ref (a0 0)), (1, .ref (a1 0)), (2, .long v5_2), (4, .int v5_4)] → f_X5_heatUntaken_b5 o0 o1 n v5_4 v5_2 = some R → W p l e { frames := 2, cells := 0, slots := 0, locals := 41 } s m ([.ref (a0 0), .ref (a1 0)] : List Value).toArray below meth c s.heap [] 0 0 (MQ below (roQ (some (.long R))) ([.ref (a0 0), .ref (a1 0)] : List Value).toArray s 0 0 (fun _ => False)) (F0 m 5 ls []) := by
    intro n
    induction n with
    | zero => intro v5_4 v5_2 ls hl hf; rw [f_X5_heatUntaken_b5] at hf; exact nomatch hf
    | succ n ih =>
      intro v5_4 v5_2 ls hl hf
      rw [f_X5_heatUntaken_b5] at hf
      refine lv_iload (pc := 5) hx hb dX5_heatUntaken_5 (lv_at hl 3 rfl) ?_
      refine lv_bipush (pc := 7) (v := 24) hx hb dX5_heatUntaken_7 (by decide) ?_
      refine lv_icmp_ge (pc := 9) (tgt := 42) hx hb dX5_heatUntaken_9 (by decide) (fun c1 => ?_) (fun c1 => ?_)
      · have hf := (if_pos c1).symm.trans hf
        refine lv_lload_n (pc := 42) hx hb dX5_heatUntaken_42 rfl (lv_at hl 2 rfl) ?_
        exact ro_l hx hb hr hlk (Option.some.inj hf) dX5_heatUntaken_43
      · have hf := (if_neg c1).symm.trans hf
        refine lv_lload_n (pc := 12) hx hb dX5_heatUntaken_12 rfl (lv_at hl 2 rfl) ?_
        refine lv_aload_n (pc := 13) hx hb dX5_heatUntaken_13 rfl (lv_at hl 0 rfl) ?_
        refine va_get (pc := 14) (D := Z.1) (ci := 5) (v := .ref (a0 7)) (C := RX5) (T := TX5) (N := 9) hx hb hts u5 hown hK hP 0 rfl rfl 6 (by decide) w0 (fun _ h9 => h9) rfl dX5_heatUntaken_14 ?_
        refine lv_iload (pc := 17) hx hb dX5_heatUntaken_17 (lv_at hl 3 rfl) ?_
        obtain ⟨g19, hf⟩ := gd hf
        refine va_iald (pc := 19) (D := Z.1) (n := 24) (f := o0.1 6) hx hb hK hP 6 0 rfl rfl (inb_in g19) dX5_heatUntaken_19 ?_
        refine lv_iconst (pc := 20) (v := (-1)) hx hb dX5_heatUntaken_20 (by decide) ?_
        refine lv_icmp_ne (pc := 21) (tgt := 33) hx hb dX5_heatUntaken_21 (by decide) (fun c2 => ?_) (fun c2 => ?_)
        · have hf := (if_neg c2).symm.trans hf
          refine lv_lconst (pc := 33) (v := 0) hx hb dX5_heatUntaken_33 (by decide) ?_
          refine lv_ladd (pc := 34) hx hb dX5_heatUntaken_34 ?_
          refine lv_lstore_n (pc := 35) (lv' := [(2, .long (v5_2 + 0)), (0, .ref (a0 0)), (1, .ref (a1 0)), (4, .int v5_4)]) hx hb dX5_heatUntaken_35 rfl hl (by decide) rfl (fun ls hl => ?_)
          refine lv_iinc (pc := 36) (v := v5_4 + 1) (lv' := [(4, .int (v5_4 + 1)), (2, .long (v5_2 + 0)), (0, .ref (a0 0)), (1, .ref (a1 0))]) hx hb dX5_heatUntaken_36 hl (k := 3) rfl rfl (by decide) rfl (fun ls hl => ?_)
          refine lv_goto (pc := 39) (tgt := 5) hx hb dX5_heatUntaken_39 (by decide) ?_
          exact ih (v5_4 + 1) (v5_2 + 0) _ (lv_sub hl [2, 3, 1, 0] rfl) hf
        · have hf := (if_pos c2).symm.trans hf
          refine lv_aload_n (pc := 24) hx hb dX5_heatUntaken_24 rfl (lv_at hl 1 rfl) ?_
          refine lv_iload (pc := 25) hx hb dX5_heatUntaken_25 (lv_at hl 3 rfl) ?_
          obtain ⟨r27, h_27, hf⟩ := bd hf
          refine ro_V (pc := 27) (C := RX3) (As := [.int v5_4]) (rest := [.long v5_2]) (st1 := [.long r27, .long v5_2]) ⟨hx, hb, hml, hown, hts⟩ (c_X3_heatOf Z l a1 o1 v5_4 r27 h_27) (cwV 1 hts gX5_heatUntaken_X3_heatOf rfl rfl rfl hv_X3_heatOf ⟨Nat.le_of_ble_eq_true rfl, Nat.le_of_ble_eq_true rfl⟩) hK hE (hP.sub (ws' := wX3 Z a1 o1) [9, 10, 11] rfl) 3 rfl rfl rfl hl.1 rfl (lv_room (Nat.le_of_ble_eq_true rfl)) dX5_heatUntaken_27 ⟨Nat.le_of_ble_eq_true rfl, Nat.le_of_ble_eq_true rfl⟩ rfl ?_
          refine lv_goto (pc := 30) (tgt := 34) hx hb dX5_heatUntaken_30 (by decide) ?_
          refine lv_ladd (pc := 34) hx hb dX5_heatUntaken_34 ?_
          refine lv_lstore_n (pc := 35) (lv' := [(2, .long (v5_2 + r27)), (0, .ref (a0 0)), (1, .ref (a1 0)), (4, .int v5_4)]) hx hb dX5_heatUntaken_35 rfl hl (by decide) rfl (fun ls hl => ?_)
          refine lv_iinc (pc := 36) (v := v5_4 + 1) (lv' := [(4, .int (v5_4 + 1)), (2, .long (v5_2 + r27)), (0, .ref (a0 0)), (1, .ref (a1 0))]) hx hb dX5_heatUntaken_36 hl (k := 3) rfl rfl (by decide) rfl (fun ls hl => ?_)
          refine lv_goto (pc := 39) (tgt := 5) hx hb dX5_heatUntaken_39 (by decide) ?_
          exact ih (v5_4 + 1) (v5_2 + r27) _ (lv_sub hl [2, 3, 1, 0] rfl) hf
  rw [f_X5_heatUntaken] at hf
  refine lv_lconst (pc := 0) (v := 0) hx hb dX5_heatUntaken_0 (by decide) ?_
  refine lv_lstore_n (pc := 1) (lv' := [(2, .long 0), (0, .ref (a0 0)), (1, .ref (a1 0))]) hx hb dX5_heatUntaken_1 rfl hl (by decide) rfl (fun ls hl => ?_)
  refine lv_iconst (pc := 2) (v := 0) hx hb dX5_heatUntaken_2 (by decide) ?_
  refine lv_istore (pc := 3) (lv' := [(4, .int 0), (2, .long 0), (0, .ref (a0 0)), (1, .ref (a1 0))]) hx hb dX5_heatUntaken_3 hl (by decide) rfl (fun ls hl => ?_)
  exact B5 64 0 0 _ (lv_sub hl [2, 3, 1, 0] rfl) hf
def f_X5_heatHeldOver_b5 (o0 : ObS) (o1 : ObS) : Nat → Int32 → Int64 → Option (Int64)
  | 0, _, _ => none
  | n + 1, v5_4, v5_2 =>
  if 24 ≤ v5_4 then
    some (v5_2)
  else
    if inb v5_4 24 then
    if (o0.1 6 (v5_4).toNatClampNeg) = (-1) then
      f_X5_heatHeldOver_b5 o0 o1 n (v5_4 + 1) (v5_2 + 0)
    else
      if inb v5_4 24 then
      if (v5_4 / 2) < (o0.1 6 (v5_4).toNatClampNeg) then
        f_X5_heatHeldOver_b5 o0 o1 n (v5_4 + 1) (v5_2 + 0)
      else
        (f_X3_heatOf o1 v5_4).bind fun r41 =>
        f_X5_heatHeldOver_b5 o0 o1 n (v5_4 + 1) (v5_2 + r41)
      else none
    else none
def f_X5_heatHeldOver (o0 : ObS) (o1 : ObS) : Option (Int64) :=
  f_X5_heatHeldOver_b5 o0 o1 64 0 0
set_option maxHeartbeats 4000000 in
set_option maxRecDepth 100000 in
theorem c_X5_heatHeldOver (Z : EnvT) (l : Launch) (a0 : Nat → Nat) (o0 : ObS) (a1 : Nat → Nat) (o1 : ObS) (R : Int64) (hf : f_X5_heatHeldOver o0 o1 = some R) : RO Z l yX5_heatHeldOver wsX5_heatHeldOver { frames := 2, cells := 0, slots := 0, locals := 41 } [.ref (a0 0), .ref (a1 0)] (wX5 Z a0 o0 ++ wX3 Z a1 o1) (some (.long R)) := by
  refine ro_of (cc := cX5_heatHeldOver) (maxL := 5) (ret := (some .long)) (by decide) rfl (Nat.le_of_ble_eq_true rfl) ?_
  intro p e s m below meth c ls hx hb hr hml hts hown hlk hP hK hE hl
  have hown : s.vm.findClass RX5 = some m.cls := hown
  have hl : lv_has ls 5 [(0, .ref (a0 0)), (1, .ref (a1 0))] := hl
  have w0 := hts (.fieldLink RX5 39 "HeatTrain$Units" "taker" "[I") (by decide +kernel)
  have u5 : ∀ w ∈ wsX50, w ∈ wsX5_heatHeldOver := by decide +kernel
  have B5 : ∀ (n : Nat), ∀ (v5_4 : Int32) (v5_2 : Int64) (ls : Array Slot), lv_has ls 5 [(0, .ref (a0 0)), (1, .ref (a1 0)), (2, .long v5_2), (4, .int v5_4)] → f_X5_heatHeldOver_b5 o0 o1 n v5_4 v5_2 = some R → W p l e { frames := 2, cells := 0, slots := 0, locals := 41 } s m ([.ref (a0 0), .ref (a1 0)] : List Value).toArray below meth c s.heap [] 0 0 (MQ below (roQ (some (.long R))) ([.ref (a0 0), .ref (a1 0)] : List Value).toArray s 0 0 (fun _ => False)) (F0 m 5 ls []) := by
    intro n
    induction n with
    | zero => intro v5_4 v5_2 ls hl hf; rw [f_X5_heatHeldOver_b5] at hf; exact nomatch hf
    | succ n ih =>
      intro v5_4 v5_2 ls hl hf
      rw [f_X5_heatHeldOver_b5] at hf
      refine lv_iload (pc := 5) hx hb dX5_heatHeldOver_5 (lv_at hl 3 rfl) ?_
      refine lv_bipush (pc := 7) (v := 24) hx hb dX5_heatHeldOver_7 (by decide) ?_
      refine lv_icmp_ge (pc := 9) (tgt := 56) hx hb dX5_heatHeldOver_9 (by decide) (fun c1 => ?_) (fun c1 => ?_)
      · have hf := (if_pos c1).symm.trans hf
        refine lv_lload_n (pc := 56) hx hb dX5_heatHeldOver_56 rfl (lv_at hl 2 rfl) ?_
        exact ro_l hx hb hr hlk (Option.some.inj hf) dX5_heatHeldOver_57
      · have hf := (if_neg c1).symm.trans hf
        refine lv_lload_n (pc := 12) hx hb dX5_heatHeldOver_12 rfl (lv_at hl 2 rfl) ?_
        refine lv_aload_n (pc := 13) hx hb dX5_heatHeldOver_13 rfl (lv_at hl 0 rfl) ?_
        refine va_get (pc := 14) (D := Z.1) (ci := 5) (v := .ref (a0 7)) (C := RX5) (T := TX5) (N := 9) hx hb hts u5 hown hK hP 0 rfl rfl 6 (by decide) w0 (fun _ h9 => h9) rfl dX5_heatHeldOver_14 ?_
        refine lv_iload (pc := 17) hx hb dX5_heatHeldOver_17 (lv_at hl 3 rfl) ?_
        obtain ⟨g19, hf⟩ := gd hf
        refine va_iald (pc := 19) (D := Z.1) (n := 24) (f := o0.1 6) hx hb hK hP 6 0 rfl rfl (inb_in g19) dX5_heatHeldOver_19 ?_
        refine lv_iconst (pc := 20) (v := (-1)) hx hb dX5_heatHeldOver_20 (by decide) ?_
        refine lv_icmp_eq (pc := 21) (tgt := 47) hx hb dX5_heatHeldOver_21 (by decide) (fun c2 => ?_) (fun c2 => ?_)
        · have hf := (if_pos c2).symm.trans hf
          refine lv_lconst (pc := 47) (v := 0) hx hb dX5_heatHeldOver_47 (by decide) ?_
          refine lv_ladd (pc := 48) hx hb dX5_heatHeldOver_48 ?_
          refine lv_lstore_n (pc := 49) (lv' := [(2, .long (v5_2 + 0)), (0, .ref (a0 0)), (1, .ref (a1 0)), (4, .int v5_4)]) hx hb dX5_heatHeldOver_49 rfl hl (by decide) rfl (fun ls hl => ?_)
          refine lv_iinc (pc := 50) (v := v5_4 + 1) (lv' := [(4, .int (v5_4 + 1)), (2, .long (v5_2 + 0)), (0, .ref (a0 0)), (1, .ref (a1 0))]) hx hb dX5_heatHeldOver_50 hl (k := 3) rfl rfl (by decide) rfl (fun ls hl => ?_)
          refine lv_goto (pc := 53) (tgt := 5) hx hb dX5_heatHeldOver_53 (by decide) ?_
          exact ih (v5_4 + 1) (v5_2 + 0) _ (lv_sub hl [2, 3, 1, 0] rfl) hf
        · have hf := (if_neg c2).symm.trans hf
          refine lv_aload_n (pc := 24) hx hb dX5_heatHeldOver_24 rfl (lv_at hl 0 rfl) ?_
          refine va_get (pc := 25) (D := Z.1) (ci := 5) (v := .ref (a0 7)) (C := RX5) (T := TX5) (N := 9) hx hb hts u5 hown hK hP 0 rfl rfl 6 (by decide) w0 (fun _ h9 => h9) rfl dX5_heatHeldOver_25 ?_
          refine lv_iload (pc := 28) hx hb dX5_heatHeldOver_28 (lv_at hl 3 rfl) ?_
          obtain ⟨g30, hf⟩ := gd hf
          refine va_iald (pc := 30) (D := Z.1) (n := 24) (f := o0.1 6) hx hb hK hP 6 0 rfl rfl (inb_in g30) dX5_heatHeldOver_30 ?_
          refine lv_iload (pc := 31) hx hb dX5_heatHeldOver_31 (lv_at hl 3 rfl) ?_
          refine lv_iconst (pc := 33) (v := 2) hx hb dX5_heatHeldOver_33 (by decide) ?_
          refine lv_idiv (pc := 34) hx hb dX5_heatHeldOver_34 (by decide) ?_
          refine lv_icmp_gt (pc := 35) (tgt := 47) hx hb dX5_heatHeldOver_35 (by decide) (fun c3 => ?_) (fun c3 => ?_)
          · have hf := (if_pos c3).symm.trans hf
            refine lv_lconst (pc := 47) (v := 0) hx hb dX5_heatHeldOver_47 (by decide) ?_
            refine lv_ladd (pc := 48) hx hb dX5_heatHeldOver_48 ?_
            refine lv_lstore_n (pc := 49) (lv' := [(2, .long (v5_2 + 0)), (0, .ref (a0 0)), (1, .ref (a1 0)), (4, .int v5_4)]) hx hb dX5_heatHeldOver_49 rfl hl (by decide) rfl (fun ls hl => ?_)
            refine lv_iinc (pc := 50) (v := v5_4 + 1) (lv' := [(4, .int (v5_4 + 1)), (2, .long (v5_2 + 0)), (0, .ref (a0 0)), (1, .ref (a1 0))]) hx hb dX5_heatHeldOver_50 hl (k := 3) rfl rfl (by decide) rfl (fun ls hl => ?_)
            refine lv_goto (pc := 53) (tgt := 5) hx hb dX5_heatHeldOver_53 (by decide) ?_
            exact ih (v5_4 + 1) (v5_2 + 0) _ (lv_sub hl [2, 3, 1, 0] rfl) hf
          · have hf := (if_neg c3).symm.trans hf
            refine lv_aload_n (pc := 38) hx hb dX5_heatHeldOver_38 rfl (lv_at hl 1 rfl) ?_
            refine lv_iload (pc := 39) hx hb dX5_heatHeldOver_39 (lv_at hl 3 rfl) ?_
            obtain ⟨r41, h_41, hf⟩ := bd hf
            refine ro_V (pc := 41) (C := RX3) (As := [.int v5_4]) (rest := [.long v5_2]) (st1 := [.long r41, .long v5_2]) ⟨hx, hb, hml, hown, hts⟩ (c_X3_heatOf Z l a1 o1 v5_4 r41 h_41) (cwV 1 hts gX5_heatHeldOver_X3_heatOf rfl rfl rfl hv_X3_heatOf ⟨Nat.le_of_ble_eq_true rfl, Nat.le_of_ble_eq_true rfl⟩) hK hE (hP.sub (ws' := wX3 Z a1 o1) [9, 10, 11] rfl) 3 rfl rfl rfl hl.1 rfl (lv_room (Nat.le_of_ble_eq_true rfl)) dX5_heatHeldOver_41 ⟨Nat.le_of_ble_eq_true rfl, Nat.le_of_ble_eq_true rfl⟩ rfl ?_
            refine lv_goto (pc := 44) (tgt := 48) hx hb dX5_heatHeldOver_44 (by decide) ?_
            refine lv_ladd (pc := 48) hx hb dX5_heatHeldOver_48 ?_
            refine lv_lstore_n (pc := 49) (lv' := [(2, .long (v5_2 + r41)), (0, .ref (a0 0)), (1, .ref (a1 0)), (4, .int v5_4)]) hx hb dX5_heatHeldOver_49 rfl hl (by decide) rfl (fun ls hl => ?_)
            refine lv_iinc (pc := 50) (v := v5_4 + 1) (lv' := [(4, .int (v5_4 + 1)), (2, .long (v5_2 + r41)), (0, .ref (a0 0)), (1, .ref (a1 0))]) hx hb dX5_heatHeldOver_50 hl (k := 3) rfl rfl (by decide) rfl (fun ls hl => ?_)
            refine lv_goto (pc := 53) (tgt := 5) hx hb dX5_heatHeldOver_53 (by decide) ?_
            exact ih (v5_4 + 1) (v5_2 + r41) _ (lv_sub hl [2, 3, 1, 0] rfl) hf
  rw [f_X5_heatHeldOver] at hf
  refine lv_lconst (pc := 0) (v := 0) hx hb dX5_heatHeldOver_0 (by decide) ?_
  refine lv_lstore_n (pc := 1) (lv' := [(2, .long 0), (0, .ref (a0 0)), (1, .ref (a1 0))]) hx hb dX5_heatHeldOver_1 rfl hl (by decide) rfl (fun ls hl => ?_)
  refine lv_iconst (pc := 2) (v := 0) hx hb dX5_heatHeldOver_2 (by decide) ?_
  refine lv_istore (pc := 3) (lv' := [(4, .int 0), (2, .long 0), (0, .ref (a0 0)), (1, .ref (a1 0))]) hx hb dX5_heatHeldOver_3 hl (by decide) rfl (fun ls hl => ?_)
  exact B5 64 0 0 _ (lv_sub hl [2, 3, 1, 0] rfl) hf
