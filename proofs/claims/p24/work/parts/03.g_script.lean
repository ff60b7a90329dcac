def f_X2_toCome (o0 : ObS) : Int32 :=
  o0.1 0 0
set_option maxHeartbeats 4000000 in
set_option maxRecDepth 100000 in
theorem c_X2_toCome (Z : EnvT) (l : Launch) (a0 : Nat → Nat) (o0 : ObS) (R : Int32) (hf : f_X2_toCome o0 = R) : RO Z l yX2_toCome wsX2_toCome { frames := 0, cells := 0, slots := 0, locals := 0 } [.ref (a0 0)] (wX2 Z a0 o0) (some (.int R)) := by
  refine ro_of (cc := cX2_toCome) (maxL := 1) (ret := (some .int)) (by decide) rfl (Nat.le_of_ble_eq_true rfl) ?_
  intro p e s m below meth c ls hx hb hr hml hts hown hlk hP hK hE hl
  have hown : s.vm.findClass RX2 = some m.cls := hown
  have hl : lv_has ls 1 [(0, .ref (a0 0))] := hl
  have w0 := hts (.fieldLink RX2 9 "HeatTrain$Script" "there" "I") (by decide +kernel)
  have u2 : ∀ w ∈ wsX20, w ∈ wsX2_toCome := by decide +kernel
  rw [f_X2_toCome] at hf
  refine lv_aload_n (pc := 0) hx hb dX2_toCome_0 rfl (lv_at hl 0 rfl) ?_
  refine va_get (pc := 1) (D := Z.1) (ci := 2) (v := .int (o0.1 0 0)) (C := RX2) (T := TX2) (N := 4) hx hb hts u2 hown hK hP 0 rfl rfl 0 (by decide) w0 (fun _ h9 => h9) rfl dX2_toCome_1 ?_
  exact ro_i hx hb hr hlk hf dX2_toCome_4
def f_X2_write (o0 : ObS) (x1 : Int32) (x2 : Int32) (x3 : Int32) (x4 : Int32) : Option (ObS) :=
  if x1 < (0 : Int32) then
    some (o0)
  else
    if 40 ≤ x1 then
      some (o0)
    else
      if inb x1 40 then
      (some (oi o0 1 (x1).toNatClampNeg x2)).bind fun s16 =>
      if inb x1 40 then
      (some (oi s16 2 (x1).toNatClampNeg x3)).bind fun s23 =>
      if inb x1 40 then
      (some (oi s23 3 (x1).toNatClampNeg x4)).bind fun s31 =>
      some (s31)
      else none
      else none
      else none
set_option maxHeartbeats 4000000 in
set_option maxRecDepth 100000 in
theorem c_X2_write (Z : EnvT) (l : Launch) (a0 : Nat → Nat) (o0 : ObS) (x1 : Int32) (x2 : Int32) (x3 : Int32) (x4 : Int32) (R : ObS) (hf : f_X2_write o0 x1 x2 x3 x4 = some R) : RW Z l yX2_write wsX2_write { frames := 0, cells := 0, slots := 0, locals := 0 } [.ref (a0 0), .int x1, .int x2, .int x3, .int x4] (wX2 Z a0 o0) none (fun _ => wX2 Z a0 R) 0 0 := by
  refine rw_of (cc := cX2_write) (maxL := 5) (ret := none) (by decide) rfl (Nat.le_of_ble_eq_true rfl) ?_
  intro p e s m below meth c A ls hx hb hr hml hts hown hlk hin hP hK hE hD hA hS hl
  have hown : s.vm.findClass RX2 = some m.cls := hown
  have hl : lv_has ls 5 [(0, .ref (a0 0)), (1, .int x1), (2, .int x2), (3, .int x3), (4, .int x4)] := hl
  have w0 := hts (.fieldLink RX2 15 "HeatTrain$Script" "tick" "[I") (by decide +kernel)
  have w1 := hts (.fieldLink RX2 19 "HeatTrain$Script" "unit" "[I") (by decide +kernel)
  have w2 := hts (.fieldLink RX2 22 "HeatTrain$Script" "number" "[I") (by decide +kernel)
  have u2 : ∀ w ∈ wsX20, w ∈ wsX2_write := by decide +kernel
  rw [f_X2_write] at hf
  refine lv_iload_n (pc := 0) hx hb dX2_write_0 rfl (lv_at hl 1 rfl) ?_
  refine lv_if_lt (pc := 1) (tgt := 32) hx hb dX2_write_1 (by decide) (fun c1 => ?_) (fun c1 => ?_)
  · have hf := (if_pos c1).symm.trans hf
    have hf := (Option.some.inj hf)
    subst hf
    exact rw_v (fun _ => 0) hx hb hr hlk hP hD hS dX2_write_32
  · have hf := (if_neg c1).symm.trans hf
    refine lv_iload_n (pc := 4) hx hb dX2_write_4 rfl (lv_at hl 1 rfl) ?_
    refine lv_bipush (pc := 5) (v := 40) hx hb dX2_write_5 (by decide) ?_
    refine lv_icmp_ge (pc := 7) (tgt := 32) hx hb dX2_write_7 (by decide) (fun c2 => ?_) (fun c2 => ?_)
    · have hf := (if_pos c2).symm.trans hf
      have hf := (Option.some.inj hf)
      subst hf
      exact rw_v (fun _ => 0) hx hb hr hlk hP hD hS dX2_write_32
    · have hf := (if_neg c2).symm.trans hf
      refine lv_aload_n (pc := 10) hx hb dX2_write_10 rfl (lv_at hl 0 rfl) ?_
      refine va_get (pc := 11) (D := Z.1) (ci := 2) (v := .ref (a0 2)) (C := RX2) (T := TX2) (N := 4) hx hb hts u2 hown hK hP 0 rfl rfl 1 (by decide) w0 (fun _ h9 => h9) rfl dX2_write_11 ?_
      refine lv_iload_n (pc := 14) hx hb dX2_write_14 rfl (lv_at hl 1 rfl) ?_
      refine lv_iload_n (pc := 15) hx hb dX2_write_15 rfl (lv_at hl 2 rfl) ?_
      obtain ⟨g16, hf⟩ := gd hf
      refine va_iast (pc := 16) (D := Z.1) (n := 40) (f := o0.1 1) hx hb hK hP hD hS 1 0 rfl rfl (inb_in g16) dX2_write_16 (fun H locs hP hD hS => ?_)
      obtain ⟨s16, h_16, hf⟩ := bd hf
      have hP : va_P Z.1 vwCl (wX2 Z a0 s16) H := st_P (f := fun z => wX2 Z a0 z) h_16 hP
      have hD : va_D A (wX2 Z a0 s16) := st_D (f := fun z => wX2 Z a0 z) h_16 hD
      refine lv_aload_n (pc := 17) hx hb dX2_write_17 rfl (lv_at hl 0 rfl) ?_
      refine va_get (pc := 18) (D := Z.1) (ci := 2) (v := .ref (a0 3)) (C := RX2) (T := TX2) (N := 4) hx hb hts u2 hown hK hP 0 rfl rfl 2 (by decide) w1 (fun _ h9 => h9) rfl dX2_write_18 ?_
      refine lv_iload_n (pc := 21) hx hb dX2_write_21 rfl (lv_at hl 1 rfl) ?_
      refine lv_iload_n (pc := 22) hx hb dX2_write_22 rfl (lv_at hl 3 rfl) ?_
      obtain ⟨g23, hf⟩ := gd hf
      refine va_iast (pc := 23) (D := Z.1) (n := 40) (f := s16.1 2) hx hb hK hP hD hS 2 0 rfl rfl (inb_in g23) dX2_write_23 (fun H locs hP hD hS => ?_)
      obtain ⟨s23, h_23, hf⟩ := bd hf
      have hP : va_P Z.1 vwCl (wX2 Z a0 s23) H := st_P (f := fun z => wX2 Z a0 z) h_23 hP
      have hD : va_D A (wX2 Z a0 s23) := st_D (f := fun z => wX2 Z a0 z) h_23 hD
      refine lv_aload_n (pc := 24) hx hb dX2_write_24 rfl (lv_at hl 0 rfl) ?_
      refine va_get (pc := 25) (D := Z.1) (ci := 2) (v := .ref (a0 4)) (C := RX2) (T := TX2) (N := 4) hx hb hts u2 hown hK hP 0 rfl rfl 3 (by decide) w2 (fun _ h9 => h9) rfl dX2_write_25 ?_
      refine lv_iload_n (pc := 28) hx hb dX2_write_28 rfl (lv_at hl 1 rfl) ?_
      refine lv_iload (pc := 29) hx hb dX2_write_29 (lv_at hl 4 rfl) ?_
      obtain ⟨g31, hf⟩ := gd hf
      refine va_iast (pc := 31) (D := Z.1) (n := 40) (f := s23.1 3) hx hb hK hP hD hS 3 0 rfl rfl (inb_in g31) dX2_write_31 (fun H locs hP hD hS => ?_)
      obtain ⟨s31, h_31, hf⟩ := bd hf
      have hP : va_P Z.1 vwCl (wX2 Z a0 s31) H := st_P (f := fun z => wX2 Z a0 z) h_31 hP
      have hD : va_D A (wX2 Z a0 s31) := st_D (f := fun z => wX2 Z a0 z) h_31 hD
      have hf := (Option.some.inj hf)
      subst hf
      exact rw_v (fun _ => 0) hx hb hr hlk hP hD hS dX2_write_32
def f_X2_add (o0 : ObS) (x1 : Int32) (x2 : Int32) (x3 : Int32) : Option (ObS) :=
  if 40 ≤ (o0.1 0 0) then
    some (o0)
  else
    (f_X2_write o0 (o0.1 0 0) x1 x2 x3).bind fun r17 =>
    (some (oi r17 0 0 ((r17.1 0 0) + 1))).bind fun s27 =>
    some (s27)
set_option maxHeartbeats 4000000 in
set_option maxRecDepth 100000 in
theorem c_X2_add (Z : EnvT) (l : Launch) (a0 : Nat → Nat) (o0 : ObS) (x1 : Int32) (x2 : Int32) (x3 : Int32) (R : ObS) (hf : f_X2_add o0 x1 x2 x3 = some R) : RW Z l yX2_add wsX2_add { frames := 1, cells := 0, slots := 0, locals := 24 } [.ref (a0 0), .int x1, .int x2, .int x3] (wX2 Z a0 o0) none (fun _ => wX2 Z a0 R) 0 0 := by
  refine rw_of (cc := cX2_add) (maxL := 4) (ret := none) (by decide) rfl (Nat.le_of_ble_eq_true rfl) ?_
  intro p e s m below meth c A ls hx hb hr hml hts hown hlk hin hP hK hE hD hA hS hl
  have hown : s.vm.findClass RX2 = some m.cls := hown
  have hl : lv_has ls 4 [(0, .ref (a0 0)), (1, .int x1), (2, .int x2), (3, .int x3)] := hl
  have w0 := hts (.fieldLink RX2 9 "HeatTrain$Script" "there" "I") (by decide +kernel)
  have u2 : ∀ w ∈ wsX20, w ∈ wsX2_add := by decide +kernel
  rw [f_X2_add] at hf
  refine lv_aload_n (pc := 0) hx hb dX2_add_0 rfl (lv_at hl 0 rfl) ?_
  refine va_get (pc := 1) (D := Z.1) (ci := 2) (v := .int (o0.1 0 0)) (C := RX2) (T := TX2) (N := 4) hx hb hts u2 hown hK hP 0 rfl rfl 0 (by decide) w0 (fun _ h9 => h9) rfl dX2_add_1 ?_
  refine lv_bipush (pc := 4) (v := 40) hx hb dX2_add_4 (by decide) ?_
  refine lv_icmp_ge (pc := 6) (tgt := 30) hx hb dX2_add_6 (by decide) (fun c1 => ?_) (fun c1 => ?_)
  · have hf := (if_pos c1).symm.trans hf
    have hf := (Option.some.inj hf)
    subst hf
    exact rw_v (fun _ => 0) hx hb hr hlk hP hD hS dX2_add_30
  · have hf := (if_neg c1).symm.trans hf
    refine lv_aload_n (pc := 9) hx hb dX2_add_9 rfl (lv_at hl 0 rfl) ?_
    refine lv_aload_n (pc := 10) hx hb dX2_add_10 rfl (lv_at hl 0 rfl) ?_
    refine va_get (pc := 11) (D := Z.1) (ci := 2) (v := .int (o0.1 0 0)) (C := RX2) (T := TX2) (N := 4) hx hb hts u2 hown hK hP 0 rfl rfl 0 (by decide) w0 (fun _ h9 => h9) rfl dX2_add_11 ?_
    refine lv_iload_n (pc := 14) hx hb dX2_add_14 rfl (lv_at hl 1 rfl) ?_
    refine lv_iload_n (pc := 15) hx hb dX2_add_15 rfl (lv_at hl 2 rfl) ?_
    refine lv_iload_n (pc := 16) hx hb dX2_add_16 rfl (lv_at hl 3 rfl) ?_
    obtain ⟨r17, h_17, hf⟩ := bd hf
    refine rw_V (pc := 17) (C := RX2) (As := [.int (o0.1 0 0), .int x1, .int x2, .int x3]) (rest := []) (st1 := []) (wn := fun _ => wX2 Z a0 r17) ⟨hx, hb, hml, hown, hts⟩ (c_X2_write Z l a0 o0 (o0.1 0 0) x1 x2 x3 r17 h_17) (cwV 4 hts gX2_add_X2_write rfl rfl rfl hv_X2_write ⟨Nat.le_of_ble_eq_true rfl, Nat.le_of_ble_eq_true rfl⟩) hK hE hP hD hS hA [0, 1, 2, 3] [] [0, 1, 2, 3] rfl rfl rfl (fun _ => rfl) 2 rfl rfl rfl hl.1 rfl (lv_room (Nat.le_of_ble_eq_true rfl)) dX2_add_17 ⟨Nat.le_of_ble_eq_true rfl, Nat.le_of_ble_eq_true rfl⟩ rfl (fun _ H locs hP hD hS => ?_)
    refine lv_aload_n (pc := 20) hx hb dX2_add_20 rfl (lv_at hl 0 rfl) ?_
    refine lv_dup (pc := 21) hx hb dX2_add_21 rfl ?_
    refine va_get (pc := 22) (D := Z.1) (ci := 2) (v := .int (r17.1 0 0)) (C := RX2) (T := TX2) (N := 4) hx hb hts u2 hown hK hP 0 rfl rfl 0 (by decide) w0 (fun _ h9 => h9) rfl dX2_add_22 ?_
    refine lv_iconst (pc := 25) (v := 1) hx hb dX2_add_25 (by decide) ?_
    refine lv_iadd (pc := 26) hx hb dX2_add_26 ?_
    refine va_put (pc := 27) (D := Z.1) (ci := 2) (v := .int ((r17.1 0 0) + 1)) (ty := .int) (C := RX2) (T := TX2) (N := 4) hx hb hts u2 tyX2 tyX2_ok nmX2 hown hK hP hD hS 0 rfl rfl 0 (by decide) w0 (fun _ h9 => h9) rfl (by decide +kernel) rfl rfl (Nat.le_of_ble_eq_true rfl) dX2_add_27 (fun H locs hP hD hS => ?_)
    obtain ⟨s27, h_27, hf⟩ := bd hf
    have hP : va_P Z.1 vwCl (wX2 Z a0 s27) H := st_P (f := fun z => wX2 Z a0 z) h_27 hP
    have hD : va_D A (wX2 Z a0 s27) := st_D (f := fun z => wX2 Z a0 z) h_27 hD
    have hf := (Option.some.inj hf)
    subst hf
    exact rw_v (fun _ => 0) hx hb hr hlk hP hD hS dX2_add_30
def f_X2_playInto_b5 (x1 : Int32) : Nat → Int32 → Int32 → ObS → ObS → Option (ObS × ObS)
  | 0, _, _, _, _ => none
  | n + 1, v5_4, v5_3, o5_0, o5_1 =>
  if (o5_0.1 0 0) ≤ v5_4 then
    (some (oi o5_0 0 0 v5_3)).bind fun s90 =>
    some (s90, o5_1)
  else
    if 40 ≤ v5_4 then
      (some (oi o5_0 0 0 v5_3)).bind fun s90 =>
      some (s90, o5_1)
    else
      if inb v5_4 40 then
      if (o5_0.1 1 (v5_4).toNatClampNeg) = x1 then
        if inb v5_4 40 then
        if inb v5_4 40 then
        (f_X5_putNumber o5_1 (o5_0.1 2 (v5_4).toNatClampNeg) (o5_0.1 3 (v5_4).toNatClampNeg)).bind fun r47 =>
        f_X2_playInto_b5 x1 n (v5_4 + 1) v5_3 o5_0 r47
        else none
        else none
      else
        if inb v5_4 40 then
        if inb v5_4 40 then
        if inb v5_4 40 then
        (f_X2_write o5_0 v5_3 (o5_0.1 1 (v5_4).toNatClampNeg) (o5_0.1 2 (v5_4).toNatClampNeg) (o5_0.1 3 (v5_4).toNatClampNeg)).bind fun r76 =>
        f_X2_playInto_b5 x1 n (v5_4 + 1) (v5_3 + 1) r76 o5_1
        else none
        else none
        else none
      else none
def f_X2_playInto (o0 : ObS) (o1 : ObS) (x1 : Int32) : Option (ObS × ObS) :=
  f_X2_playInto_b5 x1 64 0 0 o0 o1
set_option maxHeartbeats 4000000 in
set_option maxRecDepth 100000 in
theorem c_X2_playInto (Z : EnvT) (l : Launch) (a0 : Nat → Nat) (o0 : ObS) (a1 : Nat → Nat) (o1 : ObS) (x1 : Int32) (R : ObS × ObS) (hf : f_X2_playInto o0 o1 x1 = some R) : RW Z l yX2_playInto wsX2_playInto { frames := 2, cells := 0, slots := 0, locals := 43 } [.ref (a0 0), .ref (a1 0), .int x1] (wX2 Z a0 o0 ++ wX5 Z a1 o1) none (fun _ => wX2 Z a0 R.1 ++ wX5 Z a1 R.2) 0 0 := by
  refine rw_of (cc := cX2_playInto) (maxL := 5) (ret := none) (by decide) rfl (Nat.le_of_ble_eq_true rfl) ?_
  intro p e s m below meth c A ls hx hb hr hml hts hown hlk hin hP hK hE hD hA hS hl
  have hown : s.vm.findClass RX2 = some m.cls := hown
  have hl : lv_has ls 5 [(0, .ref (a0 0)), (1, .ref (a1 0)), (2, .int x1)] := hl
  have w0 := hts (.fieldLink RX2 9 "HeatTrain$Script" "there" "I") (by decide +kernel)
  have w1 := hts (.fieldLink RX2 15 "HeatTrain$Script" "tick" "[I") (by decide +kernel)
  have w2 := hts (.fieldLink RX2 19 "HeatTrain$Script" "unit" "[I") (by decide +kernel)
  have w3 := hts (.fieldLink RX2 22 "HeatTrain$Script" "number" "[I") (by decide +kernel)
  have u2 : ∀ w ∈ wsX20, w ∈ wsX2_playInto := by decide +kernel
  have B5 : ∀ (n : Nat), ∀ (v5_4 : Int32) (v5_3 : Int32) (o5_0 : ObS) (o5_1 : ObS) (ls : Array Slot), lv_has ls 5 [(0, .ref (a0 0)), (1, .ref (a1 0)), (2, .int x1), (3, .int v5_3), (4, .int v5_4)] → ∀ (H : Heap) (locs : List Loc), va_P Z.1 vwCl (wX2 Z a0 o5_0 ++ wX5 Z a1 o5_1) H → va_D A (wX2 Z a0 o5_0 ++ wX5 Z a1 o5_1) → va_S A s.heap H locs → f_X2_playInto_b5 x1 n v5_4 v5_3 o5_0 o5_1 = some R → W p l e { frames := 2, cells := 0, slots := 0, locals := 43 } s m ([.ref (a0 0), .ref (a1 0), .int x1] : List Value).toArray below meth c H locs 0 0 (MQ below (rwQ Z none (fun _ => wX2 Z a0 R.1 ++ wX5 Z a1 R.2) A) ([.ref (a0 0), .ref (a1 0), .int x1] : List Value).toArray s 0 0 A) (F0 m 5 ls []) := by
    intro n
    induction n with
    | zero => intro v5_4 v5_3 o5_0 o5_1 ls hl H locs hP hD hS hf; rw [f_X2_playInto_b5] at hf; exact nomatch hf
    | succ n ih =>
      intro v5_4 v5_3 o5_0 o5_1 ls hl H locs hP hD hS hf
      rw [f_X2_playInto_b5] at hf
      refine lv_iload (pc := 5) hx hb dX2_playInto_5 (lv_at hl 4 rfl) ?_
      refine lv_aload_n (pc := 7) hx hb dX2_playInto_7 rfl (lv_at hl 0 rfl) ?_
      refine va_get (pc := 8) (D := Z.1) (ci := 2) (v := .int (o5_0.1 0 0)) (C := RX2) (T := TX2) (N := 4) hx hb hts u2 hown hK hP 0 rfl rfl 0 (by decide) w0 (fun _ h9 => h9) rfl dX2_playInto_8 ?_
      refine lv_icmp_ge (pc := 11) (tgt := 88) hx hb dX2_playInto_11 (by decide) (fun c1 => ?_) (fun c1 => ?_)
      · have hf := (if_pos c1).symm.trans hf
        refine lv_aload_n (pc := 88) hx hb dX2_playInto_88 rfl (lv_at hl 0 rfl) ?_
        refine lv_iload_n (pc := 89) hx hb dX2_playInto_89 rfl (lv_at hl 3 rfl) ?_
        refine va_put (pc := 90) (D := Z.1) (ci := 2) (v := .int v5_3) (ty := .int) (C := RX2) (T := TX2) (N := 4) hx hb hts u2 tyX2 tyX2_ok nmX2 hown hK hP hD hS 0 rfl rfl 0 (by decide) w0 (fun _ h9 => h9) rfl (by decide +kernel) rfl rfl (Nat.le_of_ble_eq_true rfl) dX2_playInto_90 (fun H locs hP hD hS => ?_)
        obtain ⟨s90, h_90, hf⟩ := bd hf
        have hP : va_P Z.1 vwCl (wX2 Z a0 s90 ++ wX5 Z a1 o5_1) H := st_P (f := fun z => wX2 Z a0 z ++ wX5 Z a1 o5_1) h_90 hP
        have hD : va_D A (wX2 Z a0 s90 ++ wX5 Z a1 o5_1) := st_D (f := fun z => wX2 Z a0 z ++ wX5 Z a1 o5_1) h_90 hD
        have hf := (Option.some.inj hf)
        subst hf
        exact rw_v (fun _ => 0) hx hb hr hlk hP hD hS dX2_playInto_93
      · have hf := (if_neg c1).symm.trans hf
        refine lv_iload (pc := 14) hx hb dX2_playInto_14 (lv_at hl 4 rfl) ?_
        refine lv_bipush (pc := 16) (v := 40) hx hb dX2_playInto_16 (by decide) ?_
        refine lv_icmp_ge (pc := 18) (tgt := 88) hx hb dX2_playInto_18 (by decide) (fun c2 => ?_) (fun c2 => ?_)
        · have hf := (if_pos c2).symm.trans hf
          refine lv_aload_n (pc := 88) hx hb dX2_playInto_88 rfl (lv_at hl 0 rfl) ?_
          refine lv_iload_n (pc := 89) hx hb dX2_playInto_89 rfl (lv_at hl 3 rfl) ?_
          refine va_put (pc := 90) (D := Z.1) (ci := 2) (v := .int v5_3) (ty := .int) (C := RX2) (T := TX2) (N := 4) hx hb hts u2 tyX2 tyX2_ok nmX2 hown hK hP hD hS 0 rfl rfl 0 (by decide) w0 (fun _ h9 => h9) rfl (by decide +kernel) rfl rfl (Nat.le_of_ble_eq_true rfl) dX2_playInto_90 (fun H locs hP hD hS => ?_)
          obtain ⟨s90, h_90, hf⟩ := bd hf
          have hP : va_P Z.1 vwCl (wX2 Z a0 s90 ++ wX5 Z a1 o5_1) H := st_P (f := fun z => wX2 Z a0 z ++ wX5 Z a1 o5_1) h_90 hP
          have hD : va_D A (wX2 Z a0 s90 ++ wX5 Z a1 o5_1) := st_D (f := fun z => wX2 Z a0 z ++ wX5 Z a1 o5_1) h_90 hD
          have hf := (Option.some.inj hf)
          subst hf
          exact rw_v (fun _ => 0) hx hb hr hlk hP hD hS dX2_playInto_93
        · have hf := (if_neg c2).symm.trans hf
          refine lv_aload_n (pc := 21) hx hb dX2_playInto_21 rfl (lv_at hl 0 rfl) ?_
          refine va_get (pc := 22) (D := Z.1) (ci := 2) (v := .ref (a0 2)) (C := RX2) (T := TX2) (N := 4) hx hb hts u2 hown hK hP 0 rfl rfl 1 (by decide) w1 (fun _ h9 => h9) rfl dX2_playInto_22 ?_
          refine lv_iload (pc := 25) hx hb dX2_playInto_25 (lv_at hl 4 rfl) ?_
          obtain ⟨g27, hf⟩ := gd hf
          refine va_iald (pc := 27) (D := Z.1) (n := 40) (f := o5_0.1 1) hx hb hK hP 1 0 rfl rfl (inb_in g27) dX2_playInto_27 ?_
          refine lv_iload_n (pc := 28) hx hb dX2_playInto_28 rfl (lv_at hl 2 rfl) ?_
          refine lv_icmp_ne (pc := 29) (tgt := 53) hx hb dX2_playInto_29 (by decide) (fun c3 => ?_) (fun c3 => ?_)
          · have hf := (if_neg c3).symm.trans hf
            refine lv_aload_n (pc := 53) hx hb dX2_playInto_53 rfl (lv_at hl 0 rfl) ?_
            refine lv_iload_n (pc := 54) hx hb dX2_playInto_54 rfl (lv_at hl 3 rfl) ?_
            refine lv_aload_n (pc := 55) hx hb dX2_playInto_55 rfl (lv_at hl 0 rfl) ?_
            refine va_get (pc := 56) (D := Z.1) (ci := 2) (v := .ref (a0 2)) (C := RX2) (T := TX2) (N := 4) hx hb hts u2 hown hK hP 0 rfl rfl 1 (by decide) w1 (fun _ h9 => h9) rfl dX2_playInto_56 ?_
            refine lv_iload (pc := 59) hx hb dX2_playInto_59 (lv_at hl 4 rfl) ?_
            obtain ⟨g61, hf⟩ := gd hf
            refine va_iald (pc := 61) (D := Z.1) (n := 40) (f := o5_0.1 1) hx hb hK hP 1 0 rfl rfl (inb_in g61) dX2_playInto_61 ?_
            refine lv_aload_n (pc := 62) hx hb dX2_playInto_62 rfl (lv_at hl 0 rfl) ?_
            refine va_get (pc := 63) (D := Z.1) (ci := 2) (v := .ref (a0 3)) (C := RX2) (T := TX2) (N := 4) hx hb hts u2 hown hK hP 0 rfl rfl 2 (by decide) w2 (fun _ h9 => h9) rfl dX2_playInto_63 ?_
            refine lv_iload (pc := 66) hx hb dX2_playInto_66 (lv_at hl 4 rfl) ?_
            obtain ⟨g68, hf⟩ := gd hf
            refine va_iald (pc := 68) (D := Z.1) (n := 40) (f := o5_0.1 2) hx hb hK hP 2 0 rfl rfl (inb_in g68) dX2_playInto_68 ?_
            refine lv_aload_n (pc := 69) hx hb dX2_playInto_69 rfl (lv_at hl 0 rfl) ?_
            refine va_get (pc := 70) (D := Z.1) (ci := 2) (v := .ref (a0 4)) (C := RX2) (T := TX2) (N := 4) hx hb hts u2 hown hK hP 0 rfl rfl 3 (by decide) w3 (fun _ h9 => h9) rfl dX2_playInto_70 ?_
            refine lv_iload (pc := 73) hx hb dX2_playInto_73 (lv_at hl 4 rfl) ?_
            obtain ⟨g75, hf⟩ := gd hf
            refine va_iald (pc := 75) (D := Z.1) (n := 40) (f := o5_0.1 3) hx hb hK hP 3 0 rfl rfl (inb_in g75) dX2_playInto_75 ?_
            obtain ⟨r76, h_76, hf⟩ := bd hf
            refine rw_V (pc := 76) (C := RX2) (As := [.int v5_3, .int (o5_0.1 1 (v5_4).toNatClampNeg), .int (o5_0.1 2 (v5_4).toNatClampNeg), .int (o5_0.1 3 (v5_4).toNatClampNeg)]) (rest := []) (st1 := []) (wn := fun _ => wX2 Z a0 r76 ++ wX5 Z a1 o5_1) ⟨hx, hb, hml, hown, hts⟩ (c_X2_write Z l a0 o5_0 v5_3 (o5_0.1 1 (v5_4).toNatClampNeg) (o5_0.1 2 (v5_4).toNatClampNeg) (o5_0.1 3 (v5_4).toNatClampNeg) r76 h_76) (cwV 4 hts gX2_playInto_X2_write rfl rfl rfl hv_X2_write ⟨Nat.le_of_ble_eq_true rfl, Nat.le_of_ble_eq_true rfl⟩) hK hE hP hD hS hA [0, 1, 2, 3] [4, 5, 6, 7, 8, 9, 10, 11, 12] [9, 10, 11, 12, 0, 1, 2, 3, 4, 5, 6, 7, 8] rfl rfl rfl (fun _ => rfl) 2 rfl rfl rfl hl.1 rfl (lv_room (Nat.le_of_ble_eq_true rfl)) dX2_playInto_76 ⟨Nat.le_of_ble_eq_true rfl, Nat.le_of_ble_eq_true rfl⟩ rfl (fun _ H locs hP hD hS => ?_)
            refine lv_iinc (pc := 79) (v := v5_3 + 1) (lv' := [(3, .int (v5_3 + 1)), (0, .ref (a0 0)), (1, .ref (a1 0)), (2, .int x1), (4, .int v5_4)]) hx hb dX2_playInto_79 hl (k := 3) rfl rfl (by decide) rfl (fun ls hl => ?_)
            refine lv_iinc (pc := 82) (v := v5_4 + 1) (lv' := [(4, .int (v5_4 + 1)), (3, .int (v5_3 + 1)), (0, .ref (a0 0)), (1, .ref (a1 0)), (2, .int x1)]) hx hb dX2_playInto_82 hl (k := 4) rfl rfl (by decide) rfl (fun ls hl => ?_)
            refine lv_goto (pc := 85) (tgt := 5) hx hb dX2_playInto_85 (by decide) ?_
            exact ih (v5_4 + 1) (v5_3 + 1) r76 o5_1 _ (lv_sub hl [2, 3, 4, 1, 0] rfl) _ _ hP hD hS hf
          · have hf := (if_pos c3).symm.trans hf
            refine lv_aload_n (pc := 32) hx hb dX2_playInto_32 rfl (lv_at hl 1 rfl) ?_
            refine lv_aload_n (pc := 33) hx hb dX2_playInto_33 rfl (lv_at hl 0 rfl) ?_
            refine va_get (pc := 34) (D := Z.1) (ci := 2) (v := .ref (a0 3)) (C := RX2) (T := TX2) (N := 4) hx hb hts u2 hown hK hP 0 rfl rfl 2 (by decide) w2 (fun _ h9 => h9) rfl dX2_playInto_34 ?_
            refine lv_iload (pc := 37) hx hb dX2_playInto_37 (lv_at hl 4 rfl) ?_
            obtain ⟨g39, hf⟩ := gd hf
            refine va_iald (pc := 39) (D := Z.1) (n := 40) (f := o5_0.1 2) hx hb hK hP 2 0 rfl rfl (inb_in g39) dX2_playInto_39 ?_
            refine lv_aload_n (pc := 40) hx hb dX2_playInto_40 rfl (lv_at hl 0 rfl) ?_
            refine va_get (pc := 41) (D := Z.1) (ci := 2) (v := .ref (a0 4)) (C := RX2) (T := TX2) (N := 4) hx hb hts u2 hown hK hP 0 rfl rfl 3 (by decide) w3 (fun _ h9 => h9) rfl dX2_playInto_41 ?_
            refine lv_iload (pc := 44) hx hb dX2_playInto_44 (lv_at hl 4 rfl) ?_
            obtain ⟨g46, hf⟩ := gd hf
            refine va_iald (pc := 46) (D := Z.1) (n := 40) (f := o5_0.1 3) hx hb hK hP 3 0 rfl rfl (inb_in g46) dX2_playInto_46 ?_
            obtain ⟨r47, h_47, hf⟩ := bd hf
            refine rw_V (pc := 47) (C := RX5) (As := [.int (o5_0.1 2 (v5_4).toNatClampNeg), .int (o5_0.1 3 (v5_4).toNatClampNeg)]) (rest := []) (st1 := []) (wn := fun _ => wX2 Z a0 o5_0 ++ wX5 Z a1 r47) ⟨hx, hb, hml, hown, hts⟩ (c_X5_putNumber Z l a1 o5_1 (o5_0.1 2 (v5_4).toNatClampNeg) (o5_0.1 3 (v5_4).toNatClampNeg) r47 h_47) (cwV 2 hts gX2_playInto_X5_putNumber rfl rfl rfl hv_X5_putNumber ⟨Nat.le_of_ble_eq_true rfl, Nat.le_of_ble_eq_true rfl⟩) hK hE hP hD hS hA [4, 5, 6, 7, 8, 9, 10, 11, 12] [0, 1, 2, 3] [0, 1, 2, 3, 4, 5, 6, 7, 8, 9, 10, 11, 12] rfl rfl rfl (fun _ => rfl) 5 rfl rfl rfl hl.1 rfl (lv_room (Nat.le_of_ble_eq_true rfl)) dX2_playInto_47 ⟨Nat.le_of_ble_eq_true rfl, Nat.le_of_ble_eq_true rfl⟩ rfl (fun _ H locs hP hD hS => ?_)
            refine lv_goto (pc := 50) (tgt := 82) hx hb dX2_playInto_50 (by decide) ?_
            refine lv_iinc (pc := 82) (v := v5_4 + 1) (lv' := [(4, .int (v5_4 + 1)), (0, .ref (a0 0)), (1, .ref (a1 0)), (2, .int x1), (3, .int v5_3)]) hx hb dX2_playInto_82 hl (k := 4) rfl rfl (by decide) rfl (fun ls hl => ?_)
            refine lv_goto (pc := 85) (tgt := 5) hx hb dX2_playInto_85 (by decide) ?_
            exact ih (v5_4 + 1) v5_3 o5_0 r47 _ (lv_sub hl [1, 2, 3, 4, 0] rfl) _ _ hP hD hS hf
  rw [f_X2_playInto] at hf
  refine lv_iconst (pc := 0) (v := 0) hx hb dX2_playInto_0 (by decide) ?_
  refine lv_istore_n (pc := 1) (lv' := [(3, .int 0), (0, .ref (a0 0)), (1, .ref (a1 0)), (2, .int x1)]) hx hb dX2_playInto_1 rfl hl (by decide) rfl (fun ls hl => ?_)
  refine lv_iconst (pc := 2) (v := 0) hx hb dX2_playInto_2 (by decide) ?_
  refine lv_istore (pc := 3) (lv' := [(4, .int 0), (3, .int 0), (0, .ref (a0 0)), (1, .ref (a1 0)), (2, .int x1)]) hx hb dX2_playInto_3 hl (by decide) rfl (fun ls hl => ?_)
  exact B5 64 0 0 o0 o1 _ (lv_sub hl [2, 3, 4, 1, 0] rfl) _ _ hP hD hS hf
