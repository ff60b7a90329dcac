def f_X0_count (o0 : ObS) : Int32 :=
  o0.1 0 0
set_option maxHeartbeats 4000000 in
set_option maxRecDepth 100000 in
theorem c_X0_count (Z : EnvT) (l : Launch) (a0 : Nat → Nat) (o0 : ObS) (R : Int32) (hf : f_X0_count o0 = R) : RO Z l yX0_count wsX0_count { frames := 0, cells := 0, slots := 0, locals := 0 } [.ref (a0 0)] (wX0 Z a0 o0) (some (.int R)) := by
  refine ro_of (cc := cX0_count) (maxL := 1) (ret := (some .int)) (by decide) rfl (Nat.le_of_ble_eq_true rfl) ?_
  intro p e s m below meth c ls hx hb hr hml hts hown hlk hP hK hE hl
  have hown : s.vm.findClass RX0 = some m.cls := hown
  have hl : lv_has ls 1 [(0, .ref (a0 0))] := hl
  have w0 := hts (.fieldLink RX0 9 "HeatTrain$Alarms" "there" "I") (by decide +kernel)
  have u0 : ∀ w ∈ wsX00, w ∈ wsX0_count := by decide +kernel
  rw [f_X0_count] at hf
  refine lv_aload_n (pc := 0) hx hb dX0_count_0 rfl (lv_at hl 0 rfl) ?_
  refine va_get (pc := 1) (D := Z.1) (ci := 0) (v := .int (o0.1 0 0)) (C := RX0) (T := TX0) (N := 3) hx hb hts u0 hown hK hP 0 rfl rfl 0 (by decide) w0 (fun _ h9 => h9) rfl dX0_count_1 ?_
  exact ro_i hx hb hr hlk hf dX0_count_4
def f_X0_put (o0 : ObS) (x1 : Int32) (x2 : Int64) : Option (ObS) :=
  if 900 ≤ (o0.1 0 0) then
    some (o0)
  else
    if inb (o0.1 0 0) 900 then
    (some (oi o0 1 (o0.1 0 0).toNatClampNeg x1)).bind fun s19 =>
    if inb (s19.1 0 0) 900 then
    (some (oj s19 2 (s19.1 0 0).toNatClampNeg x2)).bind fun s29 =>
    (some (oi s29 0 0 ((s29.1 0 0) + 1))).bind fun s37 =>
    some (s37)
    else none
    else none
set_option maxHeartbeats 4000000 in
set_option maxRecDepth 100000 in
theorem c_X0_put (Z : EnvT) (l : Launch) (a0 : Nat → Nat) (o0 : ObS) (x1 : Int32) (x2 : Int64) (R : ObS) (hf : f_X0_put o0 x1 x2 = some R) : RW Z l yX0_put wsX0_put { frames := 0, cells := 0, slots := 0, locals := 0 } [.ref (a0 0), .int x1, .long x2] (wX0 Z a0 o0) none (fun _ => wX0 Z a0 R) 0 0 := by
  refine rw_of (cc := cX0_put) (maxL := 4) (ret := none) (by decide) rfl (Nat.le_of_ble_eq_true rfl) ?_
  intro p e s m below meth c A ls hx hb hr hml hts hown hlk hin hP hK hE hD hA hS hl
  have hown : s.vm.findClass RX0 = some m.cls := hown
  have hl : lv_has ls 4 [(0, .ref (a0 0)), (1, .int x1), (2, .long x2)] := hl
  have w0 := hts (.fieldLink RX0 9 "HeatTrain$Alarms" "there" "I") (by decide +kernel)
  have w1 := hts (.fieldLink RX0 15 "HeatTrain$Alarms" "controller" "[I") (by decide +kernel)
  have w2 := hts (.fieldLink RX0 19 "HeatTrain$Alarms" "excess" "[J") (by decide +kernel)
  have u0 : ∀ w ∈ wsX00, w ∈ wsX0_put := by decide +kernel
  rw [f_X0_put] at hf
  refine lv_aload_n (pc := 0) hx hb dX0_put_0 rfl (lv_at hl 0 rfl) ?_
  refine va_get (pc := 1) (D := Z.1) (ci := 0) (v := .int (o0.1 0 0)) (C := RX0) (T := TX0) (N := 3) hx hb hts u0 hown hK hP 0 rfl rfl 0 (by decide) w0 (fun _ h9 => h9) rfl dX0_put_1 ?_
  refine lv_sipush (pc := 4) (v := 900) hx hb dX0_put_4 (by decide) ?_
  refine lv_icmp_ge (pc := 7) (tgt := 40) hx hb dX0_put_7 (by decide) (fun c1 => ?_) (fun c1 => ?_)
  · have hf := (if_pos c1).symm.trans hf
    have hf := (Option.some.inj hf)
    subst hf
    exact rw_v (fun _ => 0) hx hb hr hlk hP hD hS dX0_put_40
  · have hf := (if_neg c1).symm.trans hf
    refine lv_aload_n (pc := 10) hx hb dX0_put_10 rfl (lv_at hl 0 rfl) ?_
    refine va_get (pc := 11) (D := Z.1) (ci := 0) (v := .ref (a0 2)) (C := RX0) (T := TX0) (N := 3) hx hb hts u0 hown hK hP 0 rfl rfl 1 (by decide) w1 (fun _ h9 => h9) rfl dX0_put_11 ?_
    refine lv_aload_n (pc := 14) hx hb dX0_put_14 rfl (lv_at hl 0 rfl) ?_
    refine va_get (pc := 15) (D := Z.1) (ci := 0) (v := .int (o0.1 0 0)) (C := RX0) (T := TX0) (N := 3) hx hb hts u0 hown hK hP 0 rfl rfl 0 (by decide) w0 (fun _ h9 => h9) rfl dX0_put_15 ?_
    refine lv_iload_n (pc := 18) hx hb dX0_put_18 rfl (lv_at hl 1 rfl) ?_
    obtain ⟨g19, hf⟩ := gd hf
    refine va_iast (pc := 19) (D := Z.1) (n := 900) (f := o0.1 1) hx hb hK hP hD hS 1 0 rfl rfl (inb_in g19) dX0_put_19 (fun H locs hP hD hS => ?_)
    obtain ⟨s19, h_19, hf⟩ := bd hf
    have hP : va_P Z.1 vwCl (wX0 Z a0 s19) H := st_P (f := fun z => wX0 Z a0 z) h_19 hP
    have hD : va_D A (wX0 Z a0 s19) := st_D (f := fun z => wX0 Z a0 z) h_19 hD
    refine lv_aload_n (pc := 20) hx hb dX0_put_20 rfl (lv_at hl 0 rfl) ?_
    refine va_get (pc := 21) (D := Z.1) (ci := 0) (v := .ref (a0 3)) (C := RX0) (T := TX0) (N := 3) hx hb hts u0 hown hK hP 0 rfl rfl 2 (by decide) w2 (fun _ h9 => h9) rfl dX0_put_21 ?_
    refine lv_aload_n (pc := 24) hx hb dX0_put_24 rfl (lv_at hl 0 rfl) ?_
    refine va_get (pc := 25) (D := Z.1) (ci := 0) (v := .int (s19.1 0 0)) (C := RX0) (T := TX0) (N := 3) hx hb hts u0 hown hK hP 0 rfl rfl 0 (by decide) w0 (fun _ h9 => h9) rfl dX0_put_25 ?_
    refine lv_lload_n (pc := 28) hx hb dX0_put_28 rfl (lv_at hl 2 rfl) ?_
    obtain ⟨g29, hf⟩ := gd hf
    refine va_last (pc := 29) (D := Z.1) (n := 900) (f := s19.2 2) hx hb hK hP hD hS 2 1 rfl rfl (inb_in g29) dX0_put_29 (fun H locs hP hD hS => ?_)
    obtain ⟨s29, h_29, hf⟩ := bd hf
    have hP : va_P Z.1 vwCl (wX0 Z a0 s29) H := st_P (f := fun z => wX0 Z a0 z) h_29 hP
    have hD : va_D A (wX0 Z a0 s29) := st_D (f := fun z => wX0 Z a0 z) h_29 hD
    refine lv_aload_n (pc := 30) hx hb dX0_put_30 rfl (lv_at hl 0 rfl) ?_
    refine lv_dup (pc := 31) hx hb dX0_put_31 rfl ?_
    refine va_get (pc := 32) (D := Z.1) (ci := 0) (v := .int (s29.1 0 0)) (C := RX0) (T := TX0) (N := 3) hx hb hts u0 hown hK hP 0 rfl rfl 0 (by decide) w0 (fun _ h9 => h9) rfl dX0_put_32 ?_
    refine lv_iconst (pc := 35) (v := 1) hx hb dX0_put_35 (by decide) ?_
    refine lv_iadd (pc := 36) hx hb dX0_put_36 ?_
    refine va_put (pc := 37) (D := Z.1) (ci := 0) (v := .int ((s29.1 0 0) + 1)) (ty := .int) (C := RX0) (T := TX0) (N := 3) hx hb hts u0 tyX0 tyX0_ok nmX0 hown hK hP hD hS 0 rfl rfl 0 (by decide) w0 (fun _ h9 => h9) rfl (by decide +kernel) rfl rfl (Nat.le_of_ble_eq_true rfl) dX0_put_37 (fun H locs hP hD hS => ?_)
    obtain ⟨s37, h_37, hf⟩ := bd hf
    have hP : va_P Z.1 vwCl (wX0 Z a0 s37) H := st_P (f := fun z => wX0 Z a0 z) h_37 hP
    have hD : va_D A (wX0 Z a0 s37) := st_D (f := fun z => wX0 Z a0 z) h_37 hD
    have hf := (Option.some.inj hf)
    subst hf
    exact rw_v (fun _ => 0) hx hb hr hlk hP hD hS dX0_put_40
def f_X0_toldFirst_b7 (o0 : ObS) : Nat → Int32 → Int64 → Int32 → Option (Int32)
  | 0, _, _, _ => none
  | n + 1, v7_4, v7_2, v7_1 =>
  if (o0.1 0 0) ≤ v7_4 then
    some (v7_1)
  else
    if 900 ≤ v7_4 then
      some (v7_1)
    else
      if inb v7_4 900 then
      if (lg_cmp (o0.2 2 (v7_4).toNatClampNeg) v7_2) ≤ (0 : Int32) then
        f_X0_toldFirst_b7 o0 n (v7_4 + 1) v7_2 v7_1
      else
        if inb v7_4 900 then
        f_X0_toldFirst_b7 o0 n (v7_4 + 1) (o0.2 2 (v7_4).toNatClampNeg) v7_4
        else none
      else none
def f_X0_toldFirst (o0 : ObS) : Option (Int32) :=
  f_X0_toldFirst_b7 o0 1000 0 0 (-1)
set_option maxHeartbeats 4000000 in
set_option maxRecDepth 100000 in
theorem c_X0_toldFirst (Z : EnvT) (l : Launch) (a0 : Nat → Nat) (o0 : ObS) (R : Int32) (hf : f_X0_toldFirst o0 = some R) : RO Z l yX0_toldFirst wsX0_toldFirst { frames := 0, cells := 0, slots := 0, locals := 0 } [.ref (a0 0)] (wX0 Z a0 o0) (some (.int R)) := by
  refine ro_of (cc := cX0_toldFirst) (maxL := 5) (ret := (some .int)) (by decide) rfl (Nat.le_of_ble_eq_true rfl) ?_
  intro p e s m below meth c ls hx hb hr hml hts hown hlk hP hK hE hl
  have hown : s.vm.findClass RX0 = some m.cls := hown
  have hl : lv_has ls 5 [(0, .ref (a0 0))] := hl
  have w0 := hts (.fieldLink RX0 9 "HeatTrain$Alarms" "there" "I") (by decide +kernel)
  have w1 := hts (.fieldLink RX0 19 "HeatTrain$Alarms" "excess" "[J") (by decide +kernel)
  have u0 : ∀ w ∈ wsX00, w ∈ wsX0_toldFirst := by decide +kernel
  have B7 : ∀ (n : Nat), ∀ (v7_4 : Int32) (v7_2 : Int64) (v7_1 : Int32) (ls : Array Slot), lv_has ls 5 [(0, .ref (a0 0)), (1, .int v7_1), (2, .long v7_2), (4, .int v7_4)] → f_X0_toldFirst_b7 o0 n v7_4 v7_2 v7_1 = some R → W p l e { frames := 0, cells := 0, slots := 0, locals := 0 } s m ([.ref (a0 0)] : List Value).toArray below meth c s.heap [] 0 0 (MQ below (roQ (some (.int R))) ([.ref (a0 0)] : List Value).toArray s 0 0 (fun _ => False)) (F0 m 7 ls []) := by
    intro n
    induction n with
    | zero => intro v7_4 v7_2 v7_1 ls hl hf; rw [f_X0_toldFirst_b7] at hf; exact nomatch hf
    | succ n ih =>
      intro v7_4 v7_2 v7_1 ls hl hf
      rw [f_X0_toldFirst_b7] at hf
      refine lv_iload (pc := 7) hx hb dX0_toldFirst_7 (lv_at hl 3 rfl) ?_
      refine lv_aload_n (pc := 9) hx hb dX0_toldFirst_9 rfl (lv_at hl 0 rfl) ?_
      refine va_get (pc := 10) (D := Z.1) (ci := 0) (v := .int (o0.1 0 0)) (C := RX0) (T := TX0) (N := 3) hx hb hts u0 hown hK hP 0 rfl rfl 0 (by decide) w0 (fun _ h9 => h9) rfl dX0_toldFirst_10 ?_
      refine lv_icmp_ge (pc := 13) (tgt := 53) hx hb dX0_toldFirst_13 (by decide) (fun c1 => ?_) (fun c1 => ?_)
      · have hf := (if_pos c1).symm.trans hf
        refine lv_iload_n (pc := 53) hx hb dX0_toldFirst_53 rfl (lv_at hl 1 rfl) ?_
        exact ro_i hx hb hr hlk (Option.some.inj hf) dX0_toldFirst_54
      · have hf := (if_neg c1).symm.trans hf
        refine lv_iload (pc := 16) hx hb dX0_toldFirst_16 (lv_at hl 3 rfl) ?_
        refine lv_sipush (pc := 18) (v := 900) hx hb dX0_toldFirst_18 (by decide) ?_
        refine lv_icmp_ge (pc := 21) (tgt := 53) hx hb dX0_toldFirst_21 (by decide) (fun c2 => ?_) (fun c2 => ?_)
        · have hf := (if_pos c2).symm.trans hf
          refine lv_iload_n (pc := 53) hx hb dX0_toldFirst_53 rfl (lv_at hl 1 rfl) ?_
          exact ro_i hx hb hr hlk (Option.some.inj hf) dX0_toldFirst_54
        · have hf := (if_neg c2).symm.trans hf
          refine lv_aload_n (pc := 24) hx hb dX0_toldFirst_24 rfl (lv_at hl 0 rfl) ?_
          refine va_get (pc := 25) (D := Z.1) (ci := 0) (v := .ref (a0 3)) (C := RX0) (T := TX0) (N := 3) hx hb hts u0 hown hK hP 0 rfl rfl 2 (by decide) w1 (fun _ h9 => h9) rfl dX0_toldFirst_25 ?_
          refine lv_iload (pc := 28) hx hb dX0_toldFirst_28 (lv_at hl 3 rfl) ?_
          obtain ⟨g30, hf⟩ := gd hf
          refine va_lald (pc := 30) (D := Z.1) (n := 900) (f := o0.2 2) hx hb hK hP 2 1 rfl rfl (inb_in g30) dX0_toldFirst_30 ?_
          refine lv_lload_n (pc := 31) hx hb dX0_toldFirst_31 rfl (lv_at hl 2 rfl) ?_
          refine W.lcmp (pc := 32) hx hb dX0_toldFirst_32 ?_
          refine lv_if_le (pc := 33) (tgt := 47) hx hb dX0_toldFirst_33 (by decide) (fun c3 => ?_) (fun c3 => ?_)
          · have hf := (if_pos c3).symm.trans hf
            refine lv_iinc (pc := 47) (v := v7_4 + 1) (lv' := [(4, .int (v7_4 + 1)), (0, .ref (a0 0)), (1, .int v7_1), (2, .long v7_2)]) hx hb dX0_toldFirst_47 hl (k := 3) rfl rfl (by decide) rfl (fun ls hl => ?_)
            refine lv_goto (pc := 50) (tgt := 7) hx hb dX0_toldFirst_50 (by decide) ?_
            exact ih (v7_4 + 1) v7_2 v7_1 _ (lv_sub hl [1, 2, 3, 0] rfl) hf
          · have hf := (if_neg c3).symm.trans hf
            refine lv_iload (pc := 36) hx hb dX0_toldFirst_36 (lv_at hl 3 rfl) ?_
            refine lv_istore_n (pc := 38) (lv' := [(1, .int v7_4), (0, .ref (a0 0)), (2, .long v7_2), (4, .int v7_4)]) hx hb dX0_toldFirst_38 rfl hl (by decide) rfl (fun ls hl => ?_)
            refine lv_aload_n (pc := 39) hx hb dX0_toldFirst_39 rfl (lv_at hl 1 rfl) ?_
            refine va_get (pc := 40) (D := Z.1) (ci := 0) (v := .ref (a0 3)) (C := RX0) (T := TX0) (N := 3) hx hb hts u0 hown hK hP 0 rfl rfl 2 (by decide) w1 (fun _ h9 => h9) rfl dX0_toldFirst_40 ?_
            refine lv_iload (pc := 43) hx hb dX0_toldFirst_43 (lv_at hl 3 rfl) ?_
            obtain ⟨g45, hf⟩ := gd hf
            refine va_lald (pc := 45) (D := Z.1) (n := 900) (f := o0.2 2) hx hb hK hP 2 1 rfl rfl (inb_in g45) dX0_toldFirst_45 ?_
            refine lv_lstore_n (pc := 46) (lv' := [(2, .long (o0.2 2 (v7_4).toNatClampNeg)), (1, .int v7_4), (0, .ref (a0 0)), (4, .int v7_4)]) hx hb dX0_toldFirst_46 rfl hl (by decide) rfl (fun ls hl => ?_)
            refine lv_iinc (pc := 47) (v := v7_4 + 1) (lv' := [(4, .int (v7_4 + 1)), (2, .long (o0.2 2 (v7_4).toNatClampNeg)), (1, .int v7_4), (0, .ref (a0 0))]) hx hb dX0_toldFirst_47 hl (k := 3) rfl rfl (by decide) rfl (fun ls hl => ?_)
            refine lv_goto (pc := 50) (tgt := 7) hx hb dX0_toldFirst_50 (by decide) ?_
            exact ih (v7_4 + 1) (o0.2 2 (v7_4).toNatClampNeg) v7_4 _ (lv_sub hl [3, 2, 1, 0] rfl) hf
  rw [f_X0_toldFirst] at hf
  refine lv_iconst (pc := 0) (v := (-1)) hx hb dX0_toldFirst_0 (by decide) ?_
  refine lv_istore_n (pc := 1) (lv' := [(1, .int (-1)), (0, .ref (a0 0))]) hx hb dX0_toldFirst_1 rfl hl (by decide) rfl (fun ls hl => ?_)
  refine lv_lconst (pc := 2) (v := 0) hx hb dX0_toldFirst_2 (by decide) ?_
  refine lv_lstore_n (pc := 3) (lv' := [(2, .long 0), (1, .int (-1)), (0, .ref (a0 0))]) hx hb dX0_toldFirst_3 rfl hl (by decide) rfl (fun ls hl => ?_)
  refine lv_iconst (pc := 4) (v := 0) hx hb dX0_toldFirst_4 (by decide) ?_
  refine lv_istore (pc := 5) (lv' := [(4, .int 0), (2, .long 0), (1, .int (-1)), (0, .ref (a0 0))]) hx hb dX0_toldFirst_5 hl (by decide) rfl (fun ls hl => ?_)
  exact B7 1000 0 0 (-1) _ (lv_sub hl [3, 2, 1, 0] rfl) hf
def f_X0_takeFirst_b35 (o0 : ObS) (r1 : Int32) : Nat → Int32 → ObS → Option (Int32 × ObS)
  | 0, _, _ => none
  | n + 1, v35_3, o35_0 =>
  if (o35_0.1 0 0) ≤ (v35_3 + 1) then
    (some (oi o35_0 0 0 ((o35_0.1 0 0) - 1))).bind fun s95 =>
    some (o0.1 1 (r1).toNatClampNeg, s95)
  else
    if 900 ≤ (v35_3 + 1) then
      (some (oi o35_0 0 0 ((o35_0.1 0 0) - 1))).bind fun s95 =>
      some (o0.1 1 (r1).toNatClampNeg, s95)
    else
      if inb (v35_3 + 1) 900 then
      if inb v35_3 900 then
      (some (oi o35_0 1 (v35_3).toNatClampNeg (o35_0.1 1 (v35_3 + 1).toNatClampNeg))).bind fun s67 =>
      if inb (v35_3 + 1) 900 then
      if inb v35_3 900 then
      (some (oj s67 2 (v35_3).toNatClampNeg (s67.2 2 (v35_3 + 1).toNatClampNeg))).bind fun s81 =>
      f_X0_takeFirst_b35 o0 r1 n (v35_3 + 1) s81
      else none
      else none
      else none
      else none
def f_X0_takeFirst (o0 : ObS) : Option (Int32 × ObS) :=
  (f_X0_toldFirst o0).bind fun r1 =>
  if r1 < (0 : Int32) then
    some ((-1 : Int32), o0)
  else
    if (o0.1 0 0) ≤ r1 then
      some ((-1 : Int32), o0)
    else
      if r1 < 900 then
        if inb r1 900 then
        f_X0_takeFirst_b35 o0 r1 1000 r1 o0
        else none
      else
        some ((-1 : Int32), o0)
set_option maxHeartbeats 4000000 in
set_option maxRecDepth 100000 in
theorem c_X0_takeFirst (Z : EnvT) (l : Launch) (a0 : Nat → Nat) (o0 : ObS) (R : Int32 × ObS) (hf : f_X0_takeFirst o0 = some R) : RW Z l yX0_takeFirst wsX0_takeFirst { frames := 1, cells := 0, slots := 0, locals := 24 } [.ref (a0 0)] (wX0 Z a0 o0) (some (.int R.1)) (fun _ => wX0 Z a0 R.2) 0 0 := by
  refine rw_of (cc := cX0_takeFirst) (maxL := 4) (ret := (some .int)) (by decide) rfl (Nat.le_of_ble_eq_true rfl) ?_
  intro p e s m below meth c A ls hx hb hr hml hts hown hlk hin hP hK hE hD hA hS hl
  have hown : s.vm.findClass RX0 = some m.cls := hown
  have hl : lv_has ls 4 [(0, .ref (a0 0))] := hl
  have w0 := hts (.fieldLink RX0 9 "HeatTrain$Alarms" "there" "I") (by decide +kernel)
  have w1 := hts (.fieldLink RX0 15 "HeatTrain$Alarms" "controller" "[I") (by decide +kernel)
  have w2 := hts (.fieldLink RX0 19 "HeatTrain$Alarms" "excess" "[J") (by decide +kernel)
  have u0 : ∀ w ∈ wsX00, w ∈ wsX0_takeFirst := by decide +kernel
  have B35 : ∀ (r1 : Int32) (n : Nat), ∀ (v35_3 : Int32) (o35_0 : ObS) (ls : Array Slot), lv_has ls 4 [(0, .ref (a0 0)), (2, .int (o0.1 1 (r1).toNatClampNeg)), (3, .int v35_3)] → ∀ (H : Heap) (locs : List Loc), va_P Z.1 vwCl (wX0 Z a0 o35_0) H → va_D A (wX0 Z a0 o35_0) → va_S A s.heap H locs → f_X0_takeFirst_b35 o0 r1 n v35_3 o35_0 = some R → W p l e { frames := 1, cells := 0, slots := 0, locals := 24 } s m ([.ref (a0 0)] : List Value).toArray below meth c H locs 0 0 (MQ below (rwQ Z (some (.int R.1)) (fun _ => wX0 Z a0 R.2) A) ([.ref (a0 0)] : List Value).toArray s 0 0 A) (F0 m 35 ls []) := by
    intro r1 n
    induction n with
    | zero => intro v35_3 o35_0 ls hl H locs hP hD hS hf; rw [f_X0_takeFirst_b35] at hf; exact nomatch hf
    | succ n ih =>
      intro v35_3 o35_0 ls hl H locs hP hD hS hf
      rw [f_X0_takeFirst_b35] at hf
      refine lv_iload_n (pc := 35) hx hb dX0_takeFirst_35 rfl (lv_at hl 2 rfl) ?_
      refine lv_iconst (pc := 36) (v := 1) hx hb dX0_takeFirst_36 (by decide) ?_
      refine lv_iadd (pc := 37) hx hb dX0_takeFirst_37 ?_
      refine lv_aload_n (pc := 38) hx hb dX0_takeFirst_38 rfl (lv_at hl 0 rfl) ?_
      refine va_get (pc := 39) (D := Z.1) (ci := 0) (v := .int (o35_0.1 0 0)) (C := RX0) (T := TX0) (N := 3) hx hb hts u0 hown hK hP 0 rfl rfl 0 (by decide) w0 (fun _ h9 => h9) rfl dX0_takeFirst_39 ?_
      refine lv_icmp_ge (pc := 42) (tgt := 88) hx hb dX0_takeFirst_42 (by decide) (fun c1 => ?_) (fun c1 => ?_)
      · have hf := (if_pos c1).symm.trans hf
        refine lv_aload_n (pc := 88) hx hb dX0_takeFirst_88 rfl (lv_at hl 0 rfl) ?_
        refine lv_dup (pc := 89) hx hb dX0_takeFirst_89 rfl ?_
        refine va_get (pc := 90) (D := Z.1) (ci := 0) (v := .int (o35_0.1 0 0)) (C := RX0) (T := TX0) (N := 3) hx hb hts u0 hown hK hP 0 rfl rfl 0 (by decide) w0 (fun _ h9 => h9) rfl dX0_takeFirst_90 ?_
        refine lv_iconst (pc := 93) (v := 1) hx hb dX0_takeFirst_93 (by decide) ?_
        refine lv_isub (pc := 94) hx hb dX0_takeFirst_94 ?_
        refine va_put (pc := 95) (D := Z.1) (ci := 0) (v := .int ((o35_0.1 0 0) - 1)) (ty := .int) (C := RX0) (T := TX0) (N := 3) hx hb hts u0 tyX0 tyX0_ok nmX0 hown hK hP hD hS 0 rfl rfl 0 (by decide) w0 (fun _ h9 => h9) rfl (by decide +kernel) rfl rfl (Nat.le_of_ble_eq_true rfl) dX0_takeFirst_95 (fun H locs hP hD hS => ?_)
        obtain ⟨s95, h_95, hf⟩ := bd hf
        have hP : va_P Z.1 vwCl (wX0 Z a0 s95) H := st_P (f := fun z => wX0 Z a0 z) h_95 hP
        have hD : va_D A (wX0 Z a0 s95) := st_D (f := fun z => wX0 Z a0 z) h_95 hD
        refine lv_iload_n (pc := 98) hx hb dX0_takeFirst_98 rfl (lv_at hl 1 rfl) ?_
        have hf := (Option.some.inj hf)
        subst hf
        exact rw_i (fun _ => 0) hx hb hr hlk rfl hP hD hS dX0_takeFirst_99
      · have hf := (if_neg c1).symm.trans hf
        refine lv_iload_n (pc := 45) hx hb dX0_takeFirst_45 rfl (lv_at hl 2 rfl) ?_
        refine lv_iconst (pc := 46) (v := 1) hx hb dX0_takeFirst_46 (by decide) ?_
        refine lv_iadd (pc := 47) hx hb dX0_takeFirst_47 ?_
        refine lv_sipush (pc := 48) (v := 900) hx hb dX0_takeFirst_48 (by decide) ?_
        refine lv_icmp_ge (pc := 51) (tgt := 88) hx hb dX0_takeFirst_51 (by decide) (fun c2 => ?_) (fun c2 => ?_)
        · have hf := (if_pos c2).symm.trans hf
          refine lv_aload_n (pc := 88) hx hb dX0_takeFirst_88 rfl (lv_at hl 0 rfl) ?_
          refine lv_dup (pc := 89) hx hb dX0_takeFirst_89 rfl ?_
          refine va_get (pc := 90) (D := Z.1) (ci := 0) (v := .int (o35_0.1 0 0)) (C := RX0) (T := TX0) (N := 3) hx hb hts u0 hown hK hP 0 rfl rfl 0 (by decide) w0 (fun _ h9 => h9) rfl dX0_takeFirst_90 ?_
          refine lv_iconst (pc := 93) (v := 1) hx hb dX0_takeFirst_93 (by decide) ?_
          refine lv_isub (pc := 94) hx hb dX0_takeFirst_94 ?_
          refine va_put (pc := 95) (D := Z.1) (ci := 0) (v := .int ((o35_0.1 0 0) - 1)) (ty := .int) (C := RX0) (T := TX0) (N := 3) hx hb hts u0 tyX0 tyX0_ok nmX0 hown hK hP hD hS 0 rfl rfl 0 (by decide) w0 (fun _ h9 => h9) rfl (by decide +kernel) rfl rfl (Nat.le_of_ble_eq_true rfl) dX0_takeFirst_95 (fun H locs hP hD hS => ?_)
          obtain ⟨s95, h_95, hf⟩ := bd hf
          have hP : va_P Z.1 vwCl (wX0 Z a0 s95) H := st_P (f := fun z => wX0 Z a0 z) h_95 hP
          have hD : va_D A (wX0 Z a0 s95) := st_D (f := fun z => wX0 Z a0 z) h_95 hD
          refine lv_iload_n (pc := 98) hx hb dX0_takeFirst_98 rfl (lv_at hl 1 rfl) ?_
          have hf := (Option.some.inj hf)
          subst hf
          exact rw_i (fun _ => 0) hx hb hr hlk rfl hP hD hS dX0_takeFirst_99
        · have hf := (if_neg c2).symm.trans hf
          refine lv_aload_n (pc := 54) hx hb dX0_takeFirst_54 rfl (lv_at hl 0 rfl) ?_
          refine va_get (pc := 55) (D := Z.1) (ci := 0) (v := .ref (a0 2)) (C := RX0) (T := TX0) (N := 3) hx hb hts u0 hown hK hP 0 rfl rfl 1 (by decide) w1 (fun _ h9 => h9) rfl dX0_takeFirst_55 ?_
          refine lv_iload_n (pc := 58) hx hb dX0_takeFirst_58 rfl (lv_at hl 2 rfl) ?_
          refine lv_aload_n (pc := 59) hx hb dX0_takeFirst_59 rfl (lv_at hl 0 rfl) ?_
          refine va_get (pc := 60) (D := Z.1) (ci := 0) (v := .ref (a0 2)) (C := RX0) (T := TX0) (N := 3) hx hb hts u0 hown hK hP 0 rfl rfl 1 (by decide) w1 (fun _ h9 => h9) rfl dX0_takeFirst_60 ?_
          refine lv_iload_n (pc := 63) hx hb dX0_takeFirst_63 rfl (lv_at hl 2 rfl) ?_
          refine lv_iconst (pc := 64) (v := 1) hx hb dX0_takeFirst_64 (by decide) ?_
          refine lv_iadd (pc := 65) hx hb dX0_takeFirst_65 ?_
          obtain ⟨g66, hf⟩ := gd hf
          refine va_iald (pc := 66) (D := Z.1) (n := 900) (f := o35_0.1 1) hx hb hK hP 1 0 rfl rfl (inb_in g66) dX0_takeFirst_66 ?_
          obtain ⟨g67, hf⟩ := gd hf
          refine va_iast (pc := 67) (D := Z.1) (n := 900) (f := o35_0.1 1) hx hb hK hP hD hS 1 0 rfl rfl (inb_in g67) dX0_takeFirst_67 (fun H locs hP hD hS => ?_)
          obtain ⟨s67, h_67, hf⟩ := bd hf
          have hP : va_P Z.1 vwCl (wX0 Z a0 s67) H := st_P (f := fun z => wX0 Z a0 z) h_67 hP
          have hD : va_D A (wX0 Z a0 s67) := st_D (f := fun z => wX0 Z a0 z) h_67 hD
          refine lv_aload_n (pc := 68) hx hb dX0_takeFirst_68 rfl (lv_at hl 0 rfl) ?_
          refine va_get (pc := 69) (D := Z.1) (ci := 0) (v := .ref (a0 3)) (C := RX0) (T := TX0) (N := 3) hx hb hts u0 hown hK hP 0 rfl rfl 2 (by decide) w2 (fun _ h9 => h9) rfl dX0_takeFirst_69 ?_
          refine lv_iload_n (pc := 72) hx hb dX0_takeFirst_72 rfl (lv_at hl 2 rfl) ?_
          refine lv_aload_n (pc := 73) hx hb dX0_takeFirst_73 rfl (lv_at hl 0 rfl) ?_
          refine va_get (pc := 74) (D := Z.1) (ci := 0) (v := .ref (a0 3)) (C := RX0) (T := TX0) (N := 3) hx hb hts u0 hown hK hP 0 rfl rfl 2 (by decide) w2 (fun _ h9 => h9) rfl dX0_takeFirst_74 ?_
          refine lv_iload_n (pc := 77) hx hb dX0_takeFirst_77 rfl (lv_at hl 2 rfl) ?_
          refine lv_iconst (pc := 78) (v := 1) hx hb dX0_takeFirst_78 (by decide) ?_
          refine lv_iadd (pc := 79) hx hb dX0_takeFirst_79 ?_
          obtain ⟨g80, hf⟩ := gd hf
          refine va_lald (pc := 80) (D := Z.1) (n := 900) (f := s67.2 2) hx hb hK hP 2 1 rfl rfl (inb_in g80) dX0_takeFirst_80 ?_
          obtain ⟨g81, hf⟩ := gd hf
          refine va_last (pc := 81) (D := Z.1) (n := 900) (f := s67.2 2) hx hb hK hP hD hS 2 1 rfl rfl (inb_in g81) dX0_takeFirst_81 (fun H locs hP hD hS => ?_)
          obtain ⟨s81, h_81, hf⟩ := bd hf
          have hP : va_P Z.1 vwCl (wX0 Z a0 s81) H := st_P (f := fun z => wX0 Z a0 z) h_81 hP
          have hD : va_D A (wX0 Z a0 s81) := st_D (f := fun z => wX0 Z a0 z) h_81 hD
          refine lv_iinc (pc := 82) (v := v35_3 + 1) (lv' := [(3, .int (v35_3 + 1)), (0, .ref (a0 0)), (2, .int (o0.1 1 (r1).toNatClampNeg))]) hx hb dX0_takeFirst_82 hl (k := 2) rfl rfl (by decide) rfl (fun ls hl => ?_)
          refine lv_goto (pc := 85) (tgt := 35) hx hb dX0_takeFirst_85 (by decide) ?_
          exact ih (v35_3 + 1) s81 _ (lv_sub hl [1, 2, 0] rfl) _ _ hP hD hS hf
  rw [f_X0_takeFirst] at hf
  refine lv_aload_n (pc := 0) hx hb dX0_takeFirst_0 rfl (lv_at hl 0 rfl) ?_
  obtain ⟨r1, h_1, hf⟩ := bd hf
  refine ro_V (pc := 1) (C := RX0) (As := []) (rest := []) (st1 := [.int r1]) ⟨hx, hb, hml, hown, hts⟩ (c_X0_toldFirst Z l a0 o0 r1 h_1) (cwV 0 hts gX0_takeFirst_X0_toldFirst rfl rfl rfl hv_X0_toldFirst ⟨Nat.le_of_ble_eq_true rfl, Nat.le_of_ble_eq_true rfl⟩) hK hE hP 0 rfl rfl rfl hl.1 rfl (lv_room (Nat.le_of_ble_eq_true rfl)) dX0_takeFirst_1 ⟨Nat.le_of_ble_eq_true rfl, Nat.le_of_ble_eq_true rfl⟩ rfl ?_
  refine lv_istore_n (pc := 4) (lv' := [(1, .int r1), (0, .ref (a0 0))]) hx hb dX0_takeFirst_4 rfl hl (by decide) rfl (fun ls hl => ?_)
  refine lv_iload_n (pc := 5) hx hb dX0_takeFirst_5 rfl (lv_at hl 0 rfl) ?_
  refine lv_if_lt (pc := 6) (tgt := 24) hx hb dX0_takeFirst_6 (by decide) (fun c1 => ?_) (fun c1 => ?_)
  · have hf := (if_pos c1).symm.trans hf
    refine lv_iconst (pc := 24) (v := (-1)) hx hb dX0_takeFirst_24 (by decide) ?_
    have hf := (Option.some.inj hf)
    subst hf
    exact rw_i (fun _ => 0) hx hb hr hlk rfl hP hD hS dX0_takeFirst_25
  · have hf := (if_neg c1).symm.trans hf
    refine lv_iload_n (pc := 9) hx hb dX0_takeFirst_9 rfl (lv_at hl 0 rfl) ?_
    refine lv_aload_n (pc := 10) hx hb dX0_takeFirst_10 rfl (lv_at hl 1 rfl) ?_
    refine va_get (pc := 11) (D := Z.1) (ci := 0) (v := .int (o0.1 0 0)) (C := RX0) (T := TX0) (N := 3) hx hb hts u0 hown hK hP 0 rfl rfl 0 (by decide) w0 (fun _ h9 => h9) rfl dX0_takeFirst_11 ?_
    refine lv_icmp_ge (pc := 14) (tgt := 24) hx hb dX0_takeFirst_14 (by decide) (fun c2 => ?_) (fun c2 => ?_)
    · have hf := (if_pos c2).symm.trans hf
      refine lv_iconst (pc := 24) (v := (-1)) hx hb dX0_takeFirst_24 (by decide) ?_
      have hf := (Option.some.inj hf)
      subst hf
      exact rw_i (fun _ => 0) hx hb hr hlk rfl hP hD hS dX0_takeFirst_25
    · have hf := (if_neg c2).symm.trans hf
      refine lv_iload_n (pc := 17) hx hb dX0_takeFirst_17 rfl (lv_at hl 0 rfl) ?_
      refine lv_sipush (pc := 18) (v := 900) hx hb dX0_takeFirst_18 (by decide) ?_
      refine lv_icmp_lt (pc := 21) (tgt := 26) hx hb dX0_takeFirst_21 (by decide) (fun c3 => ?_) (fun c3 => ?_)
      · have hf := (if_pos c3).symm.trans hf
        refine lv_aload_n (pc := 26) hx hb dX0_takeFirst_26 rfl (lv_at hl 1 rfl) ?_
        refine va_get (pc := 27) (D := Z.1) (ci := 0) (v := .ref (a0 2)) (C := RX0) (T := TX0) (N := 3) hx hb hts u0 hown hK hP 0 rfl rfl 1 (by decide) w1 (fun _ h9 => h9) rfl dX0_takeFirst_27 ?_
        refine lv_iload_n (pc := 30) hx hb dX0_takeFirst_30 rfl (lv_at hl 0 rfl) ?_
        obtain ⟨g31, hf⟩ := gd hf
        refine va_iald (pc := 31) (D := Z.1) (n := 900) (f := o0.1 1) hx hb hK hP 1 0 rfl rfl (inb_in g31) dX0_takeFirst_31 ?_
        refine lv_istore_n (pc := 32) (lv' := [(2, .int (o0.1 1 (r1).toNatClampNeg)), (1, .int r1), (0, .ref (a0 0))]) hx hb dX0_takeFirst_32 rfl hl (by decide) rfl (fun ls hl => ?_)
        refine lv_iload_n (pc := 33) hx hb dX0_takeFirst_33 rfl (lv_at hl 1 rfl) ?_
        refine lv_istore_n (pc := 34) (lv' := [(3, .int r1), (2, .int (o0.1 1 (r1).toNatClampNeg)), (1, .int r1), (0, .ref (a0 0))]) hx hb dX0_takeFirst_34 rfl hl (by decide) rfl (fun ls hl => ?_)
        exact B35 r1 1000 r1 o0 _ (lv_sub hl [3, 1, 0] rfl) _ _ hP hD hS hf
      · have hf := (if_neg c3).symm.trans hf
        refine lv_iconst (pc := 24) (v := (-1)) hx hb dX0_takeFirst_24 (by decide) ?_
        have hf := (Option.some.inj hf)
        subst hf
        exact rw_i (fun _ => 0) hx hb hr hlk rfl hP hD hS dX0_takeFirst_25
