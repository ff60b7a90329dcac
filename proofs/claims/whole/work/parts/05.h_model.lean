def f_X7_trend_b26 (o0 : ObS) (x1 : Int32) (x2 : Int32) (k26_0 : Int32) : Option (Int32 × ObS) :=
  (f_X7_holds o0 k26_0).bind fun r26 =>
  if r26.1 = (0 : Int32) then
    some ((0 : Int32), r26.2)
  else
    if inb ((24 * (x2 - 1)) + x1) 7200 then
    some (r26.2.1 17 ((24 * (x2 - 1)) + x1).toNatClampNeg, r26.2)
    else none
def f_X7_trend_b25 (o0 : ObS) (x1 : Int32) (x2 : Int32)  : Option (Int32 × ObS) :=
  f_X7_trend_b26 o0 x1 x2 1
def f_X7_trend (o0 : ObS) (x1 : Int32) (x2 : Int32) : Option (Int32 × ObS) :=
  (f_X7_isStream o0 x1).bind fun r3 =>
  if r3 = (0 : Int32) then
    f_X7_trend_b25 o0 x1 x2
  else
    if (f_X7_in x2 1 (o0.1 1 0)) = (0 : Int32) then
      f_X7_trend_b25 o0 x1 x2
    else
      f_X7_trend_b26 o0 x1 x2 0
set_option maxHeartbeats 4000000 in
set_option maxRecDepth 100000 in
theorem c_X7_trend (Z : EnvT) (l : Launch) (a0 : Nat → Nat) (o0 : ObS) (x1 : Int32) (x2 : Int32) (R : Int32 × ObS) (hf : f_X7_trend o0 x1 x2 = some R) : RW Z l yX7_trend wsX7_trend { frames := 2, cells := 0, slots := 0, locals := 43 } [.ref (a0 0), .int x1, .int x2] (wX7 Z a0 o0) (some (.int R.1)) (fun _ => wX7 Z a0 R.2) 0 0 := by
  refine rw_of (cc := cX7_trend) (maxL := 3) (ret := (some .int)) (by decide) rfl (Nat.le_of_ble_eq_true rfl) ?_
  intro p e s m below meth c A ls hx hb hr hml hts hown hlk hin hP hK hE hD hA hS hl
  have hown : s.vm.findClass RX7 = some m.cls := hown
  have hl : lv_has ls 3 [(0, .ref (a0 0)), (1, .int x1), (2, .int x2)] := hl
  have w0 := hts (.fieldLink RX7 132 "HeatTrainModel" "now" "I") (by decide +kernel)
  have w1 := hts (.fieldLink RX7 54 "HeatTrainModel" "trends" "[I") (by decide +kernel)
  have u7 : ∀ w ∈ wsX70, w ∈ wsX7_trend := by decide +kernel
  have B26 : ∀ (k26_0 : Int32) (ls : Array Slot), lv_has ls 3 [(0, .ref (a0 0)), (1, .int x1), (2, .int x2)] → ∀ (H : Heap) (locs : List Loc), va_P Z.1 vwCl (wX7 Z a0 o0) H → va_D A (wX7 Z a0 o0) → va_S A s.heap H locs → f_X7_trend_b26 o0 x1 x2 k26_0 = some R → W p l e { frames := 2, cells := 0, slots := 0, locals := 43 } s m ([.ref (a0 0), .int x1, .int x2] : List Value).toArray below meth c H locs 0 0 (MQ below (rwQ Z (some (.int R.1)) (fun _ => wX7 Z a0 R.2) A) ([.ref (a0 0), .int x1, .int x2] : List Value).toArray s 0 0 A) (F0 m 26 ls [.int k26_0, .ref (a0 0)]) := by
    intro k26_0 ls hl H locs hP hD hS hf
    rw [f_X7_trend_b26] at hf
    obtain ⟨r26, h_26, hf⟩ := bd hf
    refine rw_V (pc := 26) (C := RX7) (As := [.int k26_0]) (rest := []) (st1 := [.int r26.1]) (wn := fun _ => wX7 Z a0 r26.2) ⟨hx, hb, hml, hown, hts⟩ (c_X7_holds Z l a0 o0 k26_0 r26 h_26) (cwV 1 hts gX7_trend_X7_holds rfl rfl rfl hv_X7_holds ⟨Nat.le_of_ble_eq_true rfl, Nat.le_of_ble_eq_true rfl⟩) hK hE hP hD hS hA [0, 1, 2, 3, 4, 5, 6, 7, 8, 9, 10, 11, 12, 13, 14, 15, 16, 17, 18, 19, 20, 21, 22, 23, 24, 25, 26, 27, 28, 29, 30, 31, 32, 33, 34, 35] [] [0, 1, 2, 3, 4, 5, 6, 7, 8, 9, 10, 11, 12, 13, 14, 15, 16, 17, 18, 19, 20, 21, 22, 23, 24, 25, 26, 27, 28, 29, 30, 31, 32, 33, 34, 35] rfl rfl rfl (fun _ => rfl) 7 rfl rfl rfl hl.1 rfl (lv_room (Nat.le_of_ble_eq_true rfl)) dX7_trend_26 ⟨Nat.le_of_ble_eq_true rfl, Nat.le_of_ble_eq_true rfl⟩ rfl (fun _ H locs hP hD hS => ?_)
    refine lv_if_ne (pc := 29) (tgt := 34) hx hb dX7_trend_29 (by decide) (fun c1 => ?_) (fun c1 => ?_)
    · have hf := (if_neg c1).symm.trans hf
      refine lv_aload_n (pc := 34) hx hb dX7_trend_34 rfl (lv_at hl 0 rfl) ?_
      refine va_get (pc := 35) (D := Z.1) (ci := 7) (v := .ref (a0 18)) (C := RX7) (T := TX7) (N := 41) hx hb hts u7 hown hK hP 0 rfl rfl 17 (by decide) w1 (fun _ h9 => h9) rfl dX7_trend_35 ?_
      refine lv_bipush (pc := 38) (v := 24) hx hb dX7_trend_38 (by decide) ?_
      refine lv_iload_n (pc := 40) hx hb dX7_trend_40 rfl (lv_at hl 2 rfl) ?_
      refine lv_iconst (pc := 41) (v := 1) hx hb dX7_trend_41 (by decide) ?_
      refine lv_isub (pc := 42) hx hb dX7_trend_42 ?_
      refine lv_imul (pc := 43) hx hb dX7_trend_43 ?_
      refine lv_iload_n (pc := 44) hx hb dX7_trend_44 rfl (lv_at hl 1 rfl) ?_
      refine lv_iadd (pc := 45) hx hb dX7_trend_45 ?_
      obtain ⟨g46, hf⟩ := gd hf
      refine va_iald (pc := 46) (D := Z.1) (n := 7200) (f := r26.2.1 17) hx hb hK hP 15 0 rfl rfl (inb_in g46) dX7_trend_46 ?_
      have hf := (Option.some.inj hf)
      subst hf
      exact rw_i (fun _ => 0) hx hb hr hlk rfl hP hD hS dX7_trend_47
    · have hf := (if_pos c1).symm.trans hf
      refine lv_iconst (pc := 32) (v := 0) hx hb dX7_trend_32 (by decide) ?_
      have hf := (Option.some.inj hf)
      subst hf
      exact rw_i (fun _ => 0) hx hb hr hlk rfl hP hD hS dX7_trend_33
  have B25 : ∀ (ls : Array Slot), lv_has ls 3 [(0, .ref (a0 0)), (1, .int x1), (2, .int x2)] → ∀ (H : Heap) (locs : List Loc), va_P Z.1 vwCl (wX7 Z a0 o0) H → va_D A (wX7 Z a0 o0) → va_S A s.heap H locs → f_X7_trend_b25 o0 x1 x2 = some R → W p l e { frames := 2, cells := 0, slots := 0, locals := 43 } s m ([.ref (a0 0), .int x1, .int x2] : List Value).toArray below meth c H locs 0 0 (MQ below (rwQ Z (some (.int R.1)) (fun _ => wX7 Z a0 R.2) A) ([.ref (a0 0), .int x1, .int x2] : List Value).toArray s 0 0 A) (F0 m 25 ls [.ref (a0 0)]) := by
    intro ls hl H locs hP hD hS hf
    rw [f_X7_trend_b25] at hf
    refine lv_iconst (pc := 25) (v := 1) hx hb dX7_trend_25 (by decide) ?_
    exact B26 1 _ (lv_sub hl [0, 1, 2] rfl) _ _ hP hD hS hf
  rw [f_X7_trend] at hf
  refine lv_aload_n (pc := 0) hx hb dX7_trend_0 rfl (lv_at hl 0 rfl) ?_
  refine lv_aload_n (pc := 1) hx hb dX7_trend_1 rfl (lv_at hl 0 rfl) ?_
  refine lv_iload_n (pc := 2) hx hb dX7_trend_2 rfl (lv_at hl 1 rfl) ?_
  obtain ⟨r3, h_3, hf⟩ := bd hf
  refine ro_V (pc := 3) (C := RX7) (As := [.int x1]) (rest := [.ref (a0 0)]) (st1 := [.int r3, .ref (a0 0)]) ⟨hx, hb, hml, hown, hts⟩ (c_X7_isStream Z l a0 o0 x1 r3 h_3) (cwV 1 hts gX7_trend_X7_isStream rfl rfl rfl hv_X7_isStream ⟨Nat.le_of_ble_eq_true rfl, Nat.le_of_ble_eq_true rfl⟩) hK hE hP 7 rfl rfl rfl hl.1 rfl (lv_room (Nat.le_of_ble_eq_true rfl)) dX7_trend_3 ⟨Nat.le_of_ble_eq_true rfl, Nat.le_of_ble_eq_true rfl⟩ rfl ?_
  refine lv_if_eq (pc := 6) (tgt := 25) hx hb dX7_trend_6 (by decide) (fun c1 => ?_) (fun c1 => ?_)
  · have hf := (if_pos c1).symm.trans hf
    exact B25 _ (lv_sub hl [0, 1, 2] rfl) _ _ hP hD hS hf
  · have hf := (if_neg c1).symm.trans hf
    refine lv_iload_n (pc := 9) hx hb dX7_trend_9 rfl (lv_at hl 2 rfl) ?_
    refine lv_iconst (pc := 10) (v := 1) hx hb dX7_trend_10 (by decide) ?_
    refine lv_aload_n (pc := 11) hx hb dX7_trend_11 rfl (lv_at hl 0 rfl) ?_
    refine va_get (pc := 12) (D := Z.1) (ci := 7) (v := .int (o0.1 1 0)) (C := RX7) (T := TX7) (N := 41) hx hb hts u7 hown hK hP 0 rfl rfl 1 (by decide) w0 (fun _ h9 => h9) rfl dX7_trend_12 ?_
    refine ro_S (pc := 15) (As := [.int x2, .int 1, .int (o0.1 1 0)]) (rest := [.ref (a0 0)]) (st1 := [.int (f_X7_in x2 1 (o0.1 1 0)), .ref (a0 0)]) ⟨hx, hb, hml, hown, hts⟩ (c_X7_in Z l x2 1 (o0.1 1 0) _ rfl) (va_cwS 3 hts gX7_trend_X7_in rfl rfl rfl hs_X7_in ⟨Nat.le_of_ble_eq_true rfl, Nat.le_of_ble_eq_true rfl⟩) hK hE (hP.sub (ws' := []) [] rfl) rfl hl.1 rfl (lv_room (Nat.le_of_ble_eq_true rfl)) dX7_trend_15 ⟨Nat.le_of_ble_eq_true rfl, Nat.le_of_ble_eq_true rfl⟩ rfl ?_
    refine lv_if_eq (pc := 18) (tgt := 25) hx hb dX7_trend_18 (by decide) (fun c2 => ?_) (fun c2 => ?_)
    · have hf := (if_pos c2).symm.trans hf
      exact B25 _ (lv_sub hl [0, 1, 2] rfl) _ _ hP hD hS hf
    · have hf := (if_neg c2).symm.trans hf
      refine lv_iconst (pc := 21) (v := 0) hx hb dX7_trend_21 (by decide) ?_
      refine lv_goto (pc := 22) (tgt := 26) hx hb dX7_trend_22 (by decide) ?_
      exact B26 0 _ (lv_sub hl [0, 1, 2] rfl) _ _ hP hD hS hf
def f_X7_balance (o0 : ObS) : Option (Int32 × ObS) :=
  (some (oi o0 0 0 0)).bind fun s2 =>
  some ((0 : Int32), s2)
set_option maxHeartbeats 4000000 in
set_option maxRecDepth 100000 in
theorem c_X7_balance (Z : EnvT) (l : Launch) (a0 : Nat → Nat) (o0 : ObS) (R : Int32 × ObS) (hf : f_X7_balance o0 = some R) : RW Z l yX7_balance wsX7_balance { frames := 0, cells := 0, slots := 0, locals := 0 } [.ref (a0 0)] (wX7 Z a0 o0) (some (.int R.1)) (fun _ => wX7 Z a0 R.2) 0 0 := by
  refine rw_of (cc := cX7_balance) (maxL := 1) (ret := (some .int)) (by decide) rfl (Nat.le_of_ble_eq_true rfl) ?_
  intro p e s m below meth c A ls hx hb hr hml hts hown hlk hin hP hK hE hD hA hS hl
  have hown : s.vm.findClass RX7 = some m.cls := hown
  have hl : lv_has ls 1 [(0, .ref (a0 0))] := hl
  have w0 := hts (.fieldLink RX7 117 "HeatTrainModel" "thrown" "I") (by decide +kernel)
  have u7 : ∀ w ∈ wsX70, w ∈ wsX7_balance := by decide +kernel
  rw [f_X7_balance] at hf
  refine lv_aload_n (pc := 0) hx hb dX7_balance_0 rfl (lv_at hl 0 rfl) ?_
  refine lv_iconst (pc := 1) (v := 0) hx hb dX7_balance_1 (by decide) ?_
  refine va_put (pc := 2) (D := Z.1) (ci := 7) (v := .int 0) (ty := .int) (C := RX7) (T := TX7) (N := 41) hx hb hts u7 tyX7 tyX7_ok nmX7 hown hK hP hD hS 0 rfl rfl 0 (by decide) w0 (fun _ h9 => h9) rfl (by decide +kernel) rfl rfl (Nat.le_of_ble_eq_true rfl) dX7_balance_2 (fun H locs hP hD hS => ?_)
  obtain ⟨s2, h_2, hf⟩ := bd hf
  have hP : va_P Z.1 vwCl (wX7 Z a0 s2) H := st_P (f := fun z => wX7 Z a0 z) h_2 hP
  have hD : va_D A (wX7 Z a0 s2) := st_D (f := fun z => wX7 Z a0 z) h_2 hD
  refine lv_iconst (pc := 5) (v := 0) hx hb dX7_balance_5 (by decide) ?_
  have hf := (Option.some.inj hf)
  subst hf
  exact rw_i (fun _ => 0) hx hb hr hlk rfl hP hD hS dX7_balance_6
def f_X7_alarms (o0 : ObS) : Option (Int32 × ObS) :=
  (some (oi o0 0 0 0)).bind fun s2 =>
  some (s2.1 37 0, s2)
set_option maxHeartbeats 4000000 in
set_option maxRecDepth 100000 in
theorem c_X7_alarms (Z : EnvT) (l : Launch) (a0 : Nat → Nat) (o0 : ObS) (R : Int32 × ObS) (hf : f_X7_alarms o0 = some R) : RW Z l yX7_alarms wsX7_alarms { frames := 0, cells := 0, slots := 0, locals := 0 } [.ref (a0 0)] (wX7 Z a0 o0) (some (.int R.1)) (fun _ => wX7 Z a0 R.2) 0 0 := by
  refine rw_of (cc := cX7_alarms) (maxL := 1) (ret := (some .int)) (by decide) rfl (Nat.le_of_ble_eq_true rfl) ?_
  intro p e s m below meth c A ls hx hb hr hml hts hown hlk hin hP hK hE hD hA hS hl
  have hown : s.vm.findClass RX7 = some m.cls := hown
  have hl : lv_has ls 1 [(0, .ref (a0 0))] := hl
  have w0 := hts (.fieldLink RX7 117 "HeatTrainModel" "thrown" "I") (by decide +kernel)
  have w1 := hts (.fieldLink RX7 188 "HeatTrainModel" "alarms" "I") (by decide +kernel)
  have u7 : ∀ w ∈ wsX70, w ∈ wsX7_alarms := by decide +kernel
  rw [f_X7_alarms] at hf
  refine lv_aload_n (pc := 0) hx hb dX7_alarms_0 rfl (lv_at hl 0 rfl) ?_
  refine lv_iconst (pc := 1) (v := 0) hx hb dX7_alarms_1 (by decide) ?_
  refine va_put (pc := 2) (D := Z.1) (ci := 7) (v := .int 0) (ty := .int) (C := RX7) (T := TX7) (N := 41) hx hb hts u7 tyX7 tyX7_ok nmX7 hown hK hP hD hS 0 rfl rfl 0 (by decide) w0 (fun _ h9 => h9) rfl (by decide +kernel) rfl rfl (Nat.le_of_ble_eq_true rfl) dX7_alarms_2 (fun H locs hP hD hS => ?_)
  obtain ⟨s2, h_2, hf⟩ := bd hf
  have hP : va_P Z.1 vwCl (wX7 Z a0 s2) H := st_P (f := fun z => wX7 Z a0 z) h_2 hP
  have hD : va_D A (wX7 Z a0 s2) := st_D (f := fun z => wX7 Z a0 z) h_2 hD
  refine lv_aload_n (pc := 5) hx hb dX7_alarms_5 rfl (lv_at hl 0 rfl) ?_
  refine va_get (pc := 6) (D := Z.1) (ci := 7) (v := .int (s2.1 37 0)) (C := RX7) (T := TX7) (N := 41) hx hb hts u7 hown hK hP 0 rfl rfl 37 (by decide) w1 (fun _ h9 => h9) rfl dX7_alarms_6 ?_
  have hf := (Option.some.inj hf)
  subst hf
  exact rw_i (fun _ => 0) hx hb hr hlk rfl hP hD hS dX7_alarms_9
def f_X7_keeps_b120 (k : Int32 → ObS → Option (ObS)) (v90_2 : Int32) (o90_0 : ObS) (k120_0 : Int32) : Option (ObS) :=
  if inb v90_2 12 then
  (some (oi o90_0 16 (v90_2).toNatClampNeg k120_0)).bind fun s120 =>
  if inb v90_2 12 then
  if inb v90_2 12 then
  (some (oi s120 8 (v90_2).toNatClampNeg (s120.1 16 (v90_2).toNatClampNeg))).bind fun s132 =>
  k (v90_2 + 1) s132
  else none
  else none
  else none
def f_X7_keeps_b90 (x1 : Int32) : Nat → Int32 → ObS → Option (ObS)
  | 0, _, _ => none
  | n + 1, v90_2, o90_0 =>
  if 12 ≤ v90_2 then
    some (o90_0)
  else
    if x1 = (0 : Int32) then
      if inb v90_2 12 then
      f_X7_keeps_b120 (f_X7_keeps_b90 x1 n) v90_2 o90_0 (o90_0.1 8 (v90_2).toNatClampNeg)
      else none
    else
      if inb v90_2 12 then
      f_X7_keeps_b120 (f_X7_keeps_b90 x1 n) v90_2 o90_0 (o90_0.1 16 (v90_2).toNatClampNeg)
      else none
def f_X7_keeps_b57 (k : Int32 → ObS → Option (ObS)) (s32 : ObS) (v2_2 : Int32) (k57_0 : Int64) : Option (ObS) :=
  if inb v2_2 24 then
  (some (oj s32 15 (v2_2).toNatClampNeg k57_0)).bind fun s57 =>
  if inb v2_2 24 then
  if inb v2_2 24 then
  (some (oj s57 10 (v2_2).toNatClampNeg (s57.2 14 (v2_2).toNatClampNeg))).bind fun s69 =>
  if inb v2_2 24 then
  if inb v2_2 24 then
  (some (oj s69 11 (v2_2).toNatClampNeg (s69.2 15 (v2_2).toNatClampNeg))).bind fun s81 =>
  k (v2_2 + 1) s81
  else none
  else none
  else none
  else none
  else none
def f_X7_keeps_b32 (k : Int32 → ObS → Option (ObS)) (x1 : Int32) (v2_2 : Int32) (o2_0 : ObS) (k32_0 : Int64) : Option (ObS) :=
  if inb v2_2 24 then
  (some (oj o2_0 14 (v2_2).toNatClampNeg k32_0)).bind fun s32 =>
  if x1 = (0 : Int32) then
    if inb v2_2 24 then
    f_X7_keeps_b57 k s32 v2_2 (s32.2 11 (v2_2).toNatClampNeg)
    else none
  else
    if inb v2_2 24 then
    f_X7_keeps_b57 k s32 v2_2 (s32.2 15 (v2_2).toNatClampNeg)
    else none
  else none
def f_X7_keeps_b2 (x1 : Int32) : Nat → Int32 → ObS → Option (ObS)
  | 0, _, _ => none
  | n + 1, v2_2, o2_0 =>
  if 24 ≤ v2_2 then
    f_X7_keeps_b90 x1 64 0 o2_0
  else
    if x1 = (0 : Int32) then
      if inb v2_2 24 then
      f_X7_keeps_b32 (f_X7_keeps_b2 x1 n) x1 v2_2 o2_0 (o2_0.2 10 (v2_2).toNatClampNeg)
      else none
    else
      if inb v2_2 24 then
      f_X7_keeps_b32 (f_X7_keeps_b2 x1 n) x1 v2_2 o2_0 (o2_0.2 14 (v2_2).toNatClampNeg)
      else none
def f_X7_keeps (o0 : ObS) (x1 : Int32) : Option (ObS) :=
  f_X7_keeps_b2 x1 64 0 o0
set_option maxHeartbeats 4000000 in
set_option maxRecDepth 100000 in
theorem c_X7_keeps (Z : EnvT) (l : Launch) (a0 : Nat → Nat) (o0 : ObS) (x1 : Int32) (R : ObS) (hf : f_X7_keeps o0 x1 = some R) : RW Z l yX7_keeps wsX7_keeps { frames := 0, cells := 0, slots := 0, locals := 0 } [.ref (a0 0), .int x1] (wX7 Z a0 o0) none (fun _ => wX7 Z a0 R) 0 0 := by
  refine rw_of (cc := cX7_keeps) (maxL := 3) (ret := none) (by decide) rfl (Nat.le_of_ble_eq_true rfl) ?_
  intro p e s m below meth c A ls hx hb hr hml hts hown hlk hin hP hK hE hD hA hS hl
  have hown : s.vm.findClass RX7 = some m.cls := hown
  have hl : lv_has ls 3 [(0, .ref (a0 0)), (1, .int x1)] := hl
  have w0 := hts (.fieldLink RX7 45 "HeatTrainModel" "keptFlows" "[J") (by decide +kernel)
  have w1 := hts (.fieldLink RX7 32 "HeatTrainModel" "flows" "[J") (by decide +kernel)
  have w2 := hts (.fieldLink RX7 48 "HeatTrainModel" "keptHeats" "[J") (by decide +kernel)
  have w3 := hts (.fieldLink RX7 36 "HeatTrainModel" "heats" "[J") (by decide +kernel)
  have w4 := hts (.fieldLink RX7 51 "HeatTrainModel" "keptMoved" "[I") (by decide +kernel)
  have w5 := hts (.fieldLink RX7 25 "HeatTrainModel" "moved" "[I") (by decide +kernel)
  have u7 : ∀ w ∈ wsX70, w ∈ wsX7_keeps := by decide +kernel
  have B120 : ∀ (v90_2 : Int32) (o90_0 : ObS) (k : Int32 → ObS → Option (ObS)) (hk : ∀ (v90_2 : Int32) (o90_0 : ObS) (ls : Array Slot), lv_has ls 3 [(0, .ref (a0 0)), (1, .int x1), (2, .int v90_2)] → ∀ (H : Heap) (locs : List Loc), va_P Z.1 vwCl (wX7 Z a0 o90_0) H → va_D A (wX7 Z a0 o90_0) → va_S A s.heap H locs → k v90_2 o90_0 = some R → W p l e { frames := 0, cells := 0, slots := 0, locals := 0 } s m ([.ref (a0 0), .int x1] : List Value).toArray below meth c H locs 0 0 (MQ below (rwQ Z none (fun _ => wX7 Z a0 R) A) ([.ref (a0 0), .int x1] : List Value).toArray s 0 0 A) (F0 m 90 ls [])), ∀ (k120_0 : Int32) (ls : Array Slot), lv_has ls 3 [(0, .ref (a0 0)), (1, .int x1), (2, .int v90_2)] → ∀ (H : Heap) (locs : List Loc), va_P Z.1 vwCl (wX7 Z a0 o90_0) H → va_D A (wX7 Z a0 o90_0) → va_S A s.heap H locs → f_X7_keeps_b120 k v90_2 o90_0 k120_0 = some R → W p l e { frames := 0, cells := 0, slots := 0, locals := 0 } s m ([.ref (a0 0), .int x1] : List Value).toArray below meth c H locs 0 0 (MQ below (rwQ Z none (fun _ => wX7 Z a0 R) A) ([.ref (a0 0), .int x1] : List Value).toArray s 0 0 A) (F0 m 120 ls [.int k120_0, .int v90_2, .ref (a0 17)]) := by
    intro v90_2 o90_0 k hk k120_0 ls hl H locs hP hD hS hf
    rw [f_X7_keeps_b120] at hf
    obtain ⟨g120, hf⟩ := gd hf
    refine va_iast (pc := 120) (D := Z.1) (n := 12) (f := o90_0.1 16) hx hb hK hP hD hS 14 0 rfl rfl (inb_in g120) dX7_keeps_120 (fun H locs hP hD hS => ?_)
    obtain ⟨s120, h_120, hf⟩ := bd hf
    have hP : va_P Z.1 vwCl (wX7 Z a0 s120) H := st_P (f := fun z => wX7 Z a0 z) h_120 hP
    have hD : va_D A (wX7 Z a0 s120) := st_D (f := fun z => wX7 Z a0 z) h_120 hD
    refine lv_aload_n (pc := 121) hx hb dX7_keeps_121 rfl (lv_at hl 0 rfl) ?_
    refine va_get (pc := 122) (D := Z.1) (ci := 7) (v := .ref (a0 9)) (C := RX7) (T := TX7) (N := 41) hx hb hts u7 hown hK hP 0 rfl rfl 8 (by decide) w5 (fun _ h9 => h9) rfl dX7_keeps_122 ?_
    refine lv_iload_n (pc := 125) hx hb dX7_keeps_125 rfl (lv_at hl 2 rfl) ?_
    refine lv_aload_n (pc := 126) hx hb dX7_keeps_126 rfl (lv_at hl 0 rfl) ?_
    refine va_get (pc := 127) (D := Z.1) (ci := 7) (v := .ref (a0 17)) (C := RX7) (T := TX7) (N := 41) hx hb hts u7 hown hK hP 0 rfl rfl 16 (by decide) w4 (fun _ h9 => h9) rfl dX7_keeps_127 ?_
    refine lv_iload_n (pc := 130) hx hb dX7_keeps_130 rfl (lv_at hl 2 rfl) ?_
    obtain ⟨g131, hf⟩ := gd hf
    refine va_iald (pc := 131) (D := Z.1) (n := 12) (f := s120.1 16) hx hb hK hP 14 0 rfl rfl (inb_in g131) dX7_keeps_131 ?_
    obtain ⟨g132, hf⟩ := gd hf
    refine va_iast (pc := 132) (D := Z.1) (n := 12) (f := s120.1 8) hx hb hK hP hD hS 6 0 rfl rfl (inb_in g132) dX7_keeps_132 (fun H locs hP hD hS => ?_)
    obtain ⟨s132, h_132, hf⟩ := bd hf
    have hP : va_P Z.1 vwCl (wX7 Z a0 s132) H := st_P (f := fun z => wX7 Z a0 z) h_132 hP
    have hD : va_D A (wX7 Z a0 s132) := st_D (f := fun z => wX7 Z a0 z) h_132 hD
    refine lv_iinc (pc := 133) (v := v90_2 + 1) (lv' := [(2, .int (v90_2 + 1)), (0, .ref (a0 0)), (1, .int x1)]) hx hb dX7_keeps_133 hl (k := 2) rfl rfl (by decide) rfl (fun ls hl => ?_)
    refine lv_goto (pc := 136) (tgt := 90) hx hb dX7_keeps_136 (by decide) ?_
    exact hk (v90_2 + 1) s132 _ (lv_sub hl [1, 2, 0] rfl) _ _ hP hD hS hf
  have B90 : ∀ (n : Nat), ∀ (v90_2 : Int32) (o90_0 : ObS) (ls : Array Slot), lv_has ls 3 [(0, .ref (a0 0)), (1, .int x1), (2, .int v90_2)] → ∀ (H : Heap) (locs : List Loc), va_P Z.1 vwCl (wX7 Z a0 o90_0) H → va_D A (wX7 Z a0 o90_0) → va_S A s.heap H locs → f_X7_keeps_b90 x1 n v90_2 o90_0 = some R → W p l e { frames := 0, cells := 0, slots := 0, locals := 0 } s m ([.ref (a0 0), .int x1] : List Value).toArray below meth c H locs 0 0 (MQ below (rwQ Z none (fun _ => wX7 Z a0 R) A) ([.ref (a0 0), .int x1] : List Value).toArray s 0 0 A) (F0 m 90 ls []) := by
    intro n
    induction n with
    | zero => intro v90_2 o90_0 ls hl H locs hP hD hS hf; rw [f_X7_keeps_b90] at hf; exact nomatch hf
    | succ n ih =>
      intro v90_2 o90_0 ls hl H locs hP hD hS hf
      rw [f_X7_keeps_b90] at hf
      refine lv_iload_n (pc := 90) hx hb dX7_keeps_90 rfl (lv_at hl 2 rfl) ?_
      refine lv_bipush (pc := 91) (v := 12) hx hb dX7_keeps_91 (by decide) ?_
      refine lv_icmp_ge (pc := 93) (tgt := 139) hx hb dX7_keeps_93 (by decide) (fun c1 => ?_) (fun c1 => ?_)
      · have hf := (if_pos c1).symm.trans hf
        have hf := (Option.some.inj hf)
        subst hf
        exact rw_v (fun _ => 0) hx hb hr hlk hP hD hS dX7_keeps_139
      · have hf := (if_neg c1).symm.trans hf
        refine lv_aload_n (pc := 96) hx hb dX7_keeps_96 rfl (lv_at hl 0 rfl) ?_
        refine va_get (pc := 97) (D := Z.1) (ci := 7) (v := .ref (a0 17)) (C := RX7) (T := TX7) (N := 41) hx hb hts u7 hown hK hP 0 rfl rfl 16 (by decide) w4 (fun _ h9 => h9) rfl dX7_keeps_97 ?_
        refine lv_iload_n (pc := 100) hx hb dX7_keeps_100 rfl (lv_at hl 2 rfl) ?_
        refine lv_iload_n (pc := 101) hx hb dX7_keeps_101 rfl (lv_at hl 1 rfl) ?_
        refine lv_if_eq (pc := 102) (tgt := 114) hx hb dX7_keeps_102 (by decide) (fun c2 => ?_) (fun c2 => ?_)
        · have hf := (if_pos c2).symm.trans hf
          refine lv_aload_n (pc := 114) hx hb dX7_keeps_114 rfl (lv_at hl 0 rfl) ?_
          refine va_get (pc := 115) (D := Z.1) (ci := 7) (v := .ref (a0 9)) (C := RX7) (T := TX7) (N := 41) hx hb hts u7 hown hK hP 0 rfl rfl 8 (by decide) w5 (fun _ h9 => h9) rfl dX7_keeps_115 ?_
          refine lv_iload_n (pc := 118) hx hb dX7_keeps_118 rfl (lv_at hl 2 rfl) ?_
          obtain ⟨g119, hf⟩ := gd hf
          refine va_iald (pc := 119) (D := Z.1) (n := 12) (f := o90_0.1 8) hx hb hK hP 6 0 rfl rfl (inb_in g119) dX7_keeps_119 ?_
          exact B120 v90_2 o90_0 (f_X7_keeps_b90 x1 n) ih (o90_0.1 8 (v90_2).toNatClampNeg) _ (lv_sub hl [0, 1, 2] rfl) _ _ hP hD hS hf
        · have hf := (if_neg c2).symm.trans hf
          refine lv_aload_n (pc := 105) hx hb dX7_keeps_105 rfl (lv_at hl 0 rfl) ?_
          refine va_get (pc := 106) (D := Z.1) (ci := 7) (v := .ref (a0 17)) (C := RX7) (T := TX7) (N := 41) hx hb hts u7 hown hK hP 0 rfl rfl 16 (by decide) w4 (fun _ h9 => h9) rfl dX7_keeps_106 ?_
          refine lv_iload_n (pc := 109) hx hb dX7_keeps_109 rfl (lv_at hl 2 rfl) ?_
          obtain ⟨g110, hf⟩ := gd hf
          refine va_iald (pc := 110) (D := Z.1) (n := 12) (f := o90_0.1 16) hx hb hK hP 14 0 rfl rfl (inb_in g110) dX7_keeps_110 ?_
          refine lv_goto (pc := 111) (tgt := 120) hx hb dX7_keeps_111 (by decide) ?_
          exact B120 v90_2 o90_0 (f_X7_keeps_b90 x1 n) ih (o90_0.1 16 (v90_2).toNatClampNeg) _ (lv_sub hl [0, 1, 2] rfl) _ _ hP hD hS hf
  have B57 : ∀ (s32 : ObS) (v2_2 : Int32) (k : Int32 → ObS → Option (ObS)) (hk : ∀ (v2_2 : Int32) (o2_0 : ObS) (ls : Array Slot), lv_has ls 3 [(0, .ref (a0 0)), (1, .int x1), (2, .int v2_2)] → ∀ (H : Heap) (locs : List Loc), va_P Z.1 vwCl (wX7 Z a0 o2_0) H → va_D A (wX7 Z a0 o2_0) → va_S A s.heap H locs → k v2_2 o2_0 = some R → W p l e { frames := 0, cells := 0, slots := 0, locals := 0 } s m ([.ref (a0 0), .int x1] : List Value).toArray below meth c H locs 0 0 (MQ below (rwQ Z none (fun _ => wX7 Z a0 R) A) ([.ref (a0 0), .int x1] : List Value).toArray s 0 0 A) (F0 m 2 ls [])), ∀ (k57_0 : Int64) (ls : Array Slot), lv_has ls 3 [(0, .ref (a0 0)), (1, .int x1), (2, .int v2_2)] → ∀ (H : Heap) (locs : List Loc), va_P Z.1 vwCl (wX7 Z a0 s32) H → va_D A (wX7 Z a0 s32) → va_S A s.heap H locs → f_X7_keeps_b57 k s32 v2_2 k57_0 = some R → W p l e { frames := 0, cells := 0, slots := 0, locals := 0 } s m ([.ref (a0 0), .int x1] : List Value).toArray below meth c H locs 0 0 (MQ below (rwQ Z none (fun _ => wX7 Z a0 R) A) ([.ref (a0 0), .int x1] : List Value).toArray s 0 0 A) (F0 m 57 ls [.long k57_0, .int v2_2, .ref (a0 16)]) := by
    intro s32 v2_2 k hk k57_0 ls hl H locs hP hD hS hf
    rw [f_X7_keeps_b57] at hf
    obtain ⟨g57, hf⟩ := gd hf
    refine va_last (pc := 57) (D := Z.1) (n := 24) (f := s32.2 15) hx hb hK hP hD hS 13 1 rfl rfl (inb_in g57) dX7_keeps_57 (fun H locs hP hD hS => ?_)
    obtain ⟨s57, h_57, hf⟩ := bd hf
    have hP : va_P Z.1 vwCl (wX7 Z a0 s57) H := st_P (f := fun z => wX7 Z a0 z) h_57 hP
    have hD : va_D A (wX7 Z a0 s57) := st_D (f := fun z => wX7 Z a0 z) h_57 hD
    refine lv_aload_n (pc := 58) hx hb dX7_keeps_58 rfl (lv_at hl 0 rfl) ?_
    refine va_get (pc := 59) (D := Z.1) (ci := 7) (v := .ref (a0 11)) (C := RX7) (T := TX7) (N := 41) hx hb hts u7 hown hK hP 0 rfl rfl 10 (by decide) w1 (fun _ h9 => h9) rfl dX7_keeps_59 ?_
    refine lv_iload_n (pc := 62) hx hb dX7_keeps_62 rfl (lv_at hl 2 rfl) ?_
    refine lv_aload_n (pc := 63) hx hb dX7_keeps_63 rfl (lv_at hl 0 rfl) ?_
    refine va_get (pc := 64) (D := Z.1) (ci := 7) (v := .ref (a0 15)) (C := RX7) (T := TX7) (N := 41) hx hb hts u7 hown hK hP 0 rfl rfl 14 (by decide) w0 (fun _ h9 => h9) rfl dX7_keeps_64 ?_
    refine lv_iload_n (pc := 67) hx hb dX7_keeps_67 rfl (lv_at hl 2 rfl) ?_
    obtain ⟨g68, hf⟩ := gd hf
    refine va_lald (pc := 68) (D := Z.1) (n := 24) (f := s57.2 14) hx hb hK hP 12 1 rfl rfl (inb_in g68) dX7_keeps_68 ?_
    obtain ⟨g69, hf⟩ := gd hf
    refine va_last (pc := 69) (D := Z.1) (n := 24) (f := s57.2 10) hx hb hK hP hD hS 8 1 rfl rfl (inb_in g69) dX7_keeps_69 (fun H locs hP hD hS => ?_)
    obtain ⟨s69, h_69, hf⟩ := bd hf
    have hP : va_P Z.1 vwCl (wX7 Z a0 s69) H := st_P (f := fun z => wX7 Z a0 z) h_69 hP
    have hD : va_D A (wX7 Z a0 s69) := st_D (f := fun z => wX7 Z a0 z) h_69 hD
    refine lv_aload_n (pc := 70) hx hb dX7_keeps_70 rfl (lv_at hl 0 rfl) ?_
    refine va_get (pc := 71) (D := Z.1) (ci := 7) (v := .ref (a0 12)) (C := RX7) (T := TX7) (N := 41) hx hb hts u7 hown hK hP 0 rfl rfl 11 (by decide) w3 (fun _ h9 => h9) rfl dX7_keeps_71 ?_
    refine lv_iload_n (pc := 74) hx hb dX7_keeps_74 rfl (lv_at hl 2 rfl) ?_
    refine lv_aload_n (pc := 75) hx hb dX7_keeps_75 rfl (lv_at hl 0 rfl) ?_
    refine va_get (pc := 76) (D := Z.1) (ci := 7) (v := .ref (a0 16)) (C := RX7) (T := TX7) (N := 41) hx hb hts u7 hown hK hP 0 rfl rfl 15 (by decide) w2 (fun _ h9 => h9) rfl dX7_keeps_76 ?_
    refine lv_iload_n (pc := 79) hx hb dX7_keeps_79 rfl (lv_at hl 2 rfl) ?_
    obtain ⟨g80, hf⟩ := gd hf
    refine va_lald (pc := 80) (D := Z.1) (n := 24) (f := s69.2 15) hx hb hK hP 13 1 rfl rfl (inb_in g80) dX7_keeps_80 ?_
    obtain ⟨g81, hf⟩ := gd hf
    refine va_last (pc := 81) (D := Z.1) (n := 24) (f := s69.2 11) hx hb hK hP hD hS 9 1 rfl rfl (inb_in g81) dX7_keeps_81 (fun H locs hP hD hS => ?_)
    obtain ⟨s81, h_81, hf⟩ := bd hf
    have hP : va_P Z.1 vwCl (wX7 Z a0 s81) H := st_P (f := fun z => wX7 Z a0 z) h_81 hP
    have hD : va_D A (wX7 Z a0 s81) := st_D (f := fun z => wX7 Z a0 z) h_81 hD
    refine lv_iinc (pc := 82) (v := v2_2 + 1) (lv' := [(2, .int (v2_2 + 1)), (0, .ref (a0 0)), (1, .int x1)]) hx hb dX7_keeps_82 hl (k := 2) rfl rfl (by decide) rfl (fun ls hl => ?_)
    refine lv_goto (pc := 85) (tgt := 2) hx hb dX7_keeps_85 (by decide) ?_
    exact hk (v2_2 + 1) s81 _ (lv_sub hl [1, 2, 0] rfl) _ _ hP hD hS hf
  have B32 : ∀ (v2_2 : Int32) (o2_0 : ObS) (k : Int32 → ObS → Option (ObS)) (hk : ∀ (v2_2 : Int32) (o2_0 : ObS) (ls : Array Slot), lv_has ls 3 [(0, .ref (a0 0)), (1, .int x1), (2, .int v2_2)] → ∀ (H : Heap) (locs : List Loc), va_P Z.1 vwCl (wX7 Z a0 o2_0) H → va_D A (wX7 Z a0 o2_0) → va_S A s.heap H locs → k v2_2 o2_0 = some R → W p l e { frames := 0, cells := 0, slots := 0, locals := 0 } s m ([.ref (a0 0), .int x1] : List Value).toArray below meth c H locs 0 0 (MQ below (rwQ Z none (fun _ => wX7 Z a0 R) A) ([.ref (a0 0), .int x1] : List Value).toArray s 0 0 A) (F0 m 2 ls [])), ∀ (k32_0 : Int64) (ls : Array Slot), lv_has ls 3 [(0, .ref (a0 0)), (1, .int x1), (2, .int v2_2)] → ∀ (H : Heap) (locs : List Loc), va_P Z.1 vwCl (wX7 Z a0 o2_0) H → va_D A (wX7 Z a0 o2_0) → va_S A s.heap H locs → f_X7_keeps_b32 k x1 v2_2 o2_0 k32_0 = some R → W p l e { frames := 0, cells := 0, slots := 0, locals := 0 } s m ([.ref (a0 0), .int x1] : List Value).toArray below meth c H locs 0 0 (MQ below (rwQ Z none (fun _ => wX7 Z a0 R) A) ([.ref (a0 0), .int x1] : List Value).toArray s 0 0 A) (F0 m 32 ls [.long k32_0, .int v2_2, .ref (a0 15)]) := by
    intro v2_2 o2_0 k hk k32_0 ls hl H locs hP hD hS hf
    rw [f_X7_keeps_b32] at hf
    obtain ⟨g32, hf⟩ := gd hf
    refine va_last (pc := 32) (D := Z.1) (n := 24) (f := o2_0.2 14) hx hb hK hP hD hS 12 1 rfl rfl (inb_in g32) dX7_keeps_32 (fun H locs hP hD hS => ?_)
    obtain ⟨s32, h_32, hf⟩ := bd hf
    have hP : va_P Z.1 vwCl (wX7 Z a0 s32) H := st_P (f := fun z => wX7 Z a0 z) h_32 hP
    have hD : va_D A (wX7 Z a0 s32) := st_D (f := fun z => wX7 Z a0 z) h_32 hD
    refine lv_aload_n (pc := 33) hx hb dX7_keeps_33 rfl (lv_at hl 0 rfl) ?_
    refine va_get (pc := 34) (D := Z.1) (ci := 7) (v := .ref (a0 16)) (C := RX7) (T := TX7) (N := 41) hx hb hts u7 hown hK hP 0 rfl rfl 15 (by decide) w2 (fun _ h9 => h9) rfl dX7_keeps_34 ?_
    refine lv_iload_n (pc := 37) hx hb dX7_keeps_37 rfl (lv_at hl 2 rfl) ?_
    refine lv_iload_n (pc := 38) hx hb dX7_keeps_38 rfl (lv_at hl 1 rfl) ?_
    refine lv_if_eq (pc := 39) (tgt := 51) hx hb dX7_keeps_39 (by decide) (fun c1 => ?_) (fun c1 => ?_)
    · have hf := (if_pos c1).symm.trans hf
      refine lv_aload_n (pc := 51) hx hb dX7_keeps_51 rfl (lv_at hl 0 rfl) ?_
      refine va_get (pc := 52) (D := Z.1) (ci := 7) (v := .ref (a0 12)) (C := RX7) (T := TX7) (N := 41) hx hb hts u7 hown hK hP 0 rfl rfl 11 (by decide) w3 (fun _ h9 => h9) rfl dX7_keeps_52 ?_
      refine lv_iload_n (pc := 55) hx hb dX7_keeps_55 rfl (lv_at hl 2 rfl) ?_
      obtain ⟨g56, hf⟩ := gd hf
      refine va_lald (pc := 56) (D := Z.1) (n := 24) (f := s32.2 11) hx hb hK hP 9 1 rfl rfl (inb_in g56) dX7_keeps_56 ?_
      exact B57 s32 v2_2 k hk (s32.2 11 (v2_2).toNatClampNeg) _ (lv_sub hl [0, 1, 2] rfl) _ _ hP hD hS hf
    · have hf := (if_neg c1).symm.trans hf
      refine lv_aload_n (pc := 42) hx hb dX7_keeps_42 rfl (lv_at hl 0 rfl) ?_
      refine va_get (pc := 43) (D := Z.1) (ci := 7) (v := .ref (a0 16)) (C := RX7) (T := TX7) (N := 41) hx hb hts u7 hown hK hP 0 rfl rfl 15 (by decide) w2 (fun _ h9 => h9) rfl dX7_keeps_43 ?_
      refine lv_iload_n (pc := 46) hx hb dX7_keeps_46 rfl (lv_at hl 2 rfl) ?_
      obtain ⟨g47, hf⟩ := gd hf
      refine va_lald (pc := 47) (D := Z.1) (n := 24) (f := s32.2 15) hx hb hK hP 13 1 rfl rfl (inb_in g47) dX7_keeps_47 ?_
      refine lv_goto (pc := 48) (tgt := 57) hx hb dX7_keeps_48 (by decide) ?_
      exact B57 s32 v2_2 k hk (s32.2 15 (v2_2).toNatClampNeg) _ (lv_sub hl [0, 1, 2] rfl) _ _ hP hD hS hf
  have B2 : ∀ (n : Nat), ∀ (v2_2 : Int32) (o2_0 : ObS) (ls : Array Slot), lv_has ls 3 [(0, .ref (a0 0)), (1, .int x1), (2, .int v2_2)] → ∀ (H : Heap) (locs : List Loc), va_P Z.1 vwCl (wX7 Z a0 o2_0) H → va_D A (wX7 Z a0 o2_0) → va_S A s.heap H locs → f_X7_keeps_b2 x1 n v2_2 o2_0 = some R → W p l e { frames := 0, cells := 0, slots := 0, locals := 0 } s m ([.ref (a0 0), .int x1] : List Value).toArray below meth c H locs 0 0 (MQ below (rwQ Z none (fun _ => wX7 Z a0 R) A) ([.ref (a0 0), .int x1] : List Value).toArray s 0 0 A) (F0 m 2 ls []) := by
    intro n
    induction n with
    | zero => intro v2_2 o2_0 ls hl H locs hP hD hS hf; rw [f_X7_keeps_b2] at hf; exact nomatch hf
    | succ n ih =>
      intro v2_2 o2_0 ls hl H locs hP hD hS hf
      rw [f_X7_keeps_b2] at hf
      refine lv_iload_n (pc := 2) hx hb dX7_keeps_2 rfl (lv_at hl 2 rfl) ?_
      refine lv_bipush (pc := 3) (v := 24) hx hb dX7_keeps_3 (by decide) ?_
      refine lv_icmp_ge (pc := 5) (tgt := 88) hx hb dX7_keeps_5 (by decide) (fun c1 => ?_) (fun c1 => ?_)
      · have hf := (if_pos c1).symm.trans hf
        refine lv_iconst (pc := 88) (v := 0) hx hb dX7_keeps_88 (by decide) ?_
        refine lv_istore_n (pc := 89) (lv' := [(2, .int 0), (0, .ref (a0 0)), (1, .int x1)]) hx hb dX7_keeps_89 rfl hl (by decide) rfl (fun ls hl => ?_)
        exact B90 64 0 o2_0 _ (lv_sub hl [1, 2, 0] rfl) _ _ hP hD hS hf
      · have hf := (if_neg c1).symm.trans hf
        refine lv_aload_n (pc := 8) hx hb dX7_keeps_8 rfl (lv_at hl 0 rfl) ?_
        refine va_get (pc := 9) (D := Z.1) (ci := 7) (v := .ref (a0 15)) (C := RX7) (T := TX7) (N := 41) hx hb hts u7 hown hK hP 0 rfl rfl 14 (by decide) w0 (fun _ h9 => h9) rfl dX7_keeps_9 ?_
        refine lv_iload_n (pc := 12) hx hb dX7_keeps_12 rfl (lv_at hl 2 rfl) ?_
        refine lv_iload_n (pc := 13) hx hb dX7_keeps_13 rfl (lv_at hl 1 rfl) ?_
        refine lv_if_eq (pc := 14) (tgt := 26) hx hb dX7_keeps_14 (by decide) (fun c2 => ?_) (fun c2 => ?_)
        · have hf := (if_pos c2).symm.trans hf
          refine lv_aload_n (pc := 26) hx hb dX7_keeps_26 rfl (lv_at hl 0 rfl) ?_
          refine va_get (pc := 27) (D := Z.1) (ci := 7) (v := .ref (a0 11)) (C := RX7) (T := TX7) (N := 41) hx hb hts u7 hown hK hP 0 rfl rfl 10 (by decide) w1 (fun _ h9 => h9) rfl dX7_keeps_27 ?_
          refine lv_iload_n (pc := 30) hx hb dX7_keeps_30 rfl (lv_at hl 2 rfl) ?_
          obtain ⟨g31, hf⟩ := gd hf
          refine va_lald (pc := 31) (D := Z.1) (n := 24) (f := o2_0.2 10) hx hb hK hP 8 1 rfl rfl (inb_in g31) dX7_keeps_31 ?_
          exact B32 v2_2 o2_0 (f_X7_keeps_b2 x1 n) ih (o2_0.2 10 (v2_2).toNatClampNeg) _ (lv_sub hl [0, 1, 2] rfl) _ _ hP hD hS hf
        · have hf := (if_neg c2).symm.trans hf
          refine lv_aload_n (pc := 17) hx hb dX7_keeps_17 rfl (lv_at hl 0 rfl) ?_
          refine va_get (pc := 18) (D := Z.1) (ci := 7) (v := .ref (a0 15)) (C := RX7) (T := TX7) (N := 41) hx hb hts u7 hown hK hP 0 rfl rfl 14 (by decide) w0 (fun _ h9 => h9) rfl dX7_keeps_18 ?_
          refine lv_iload_n (pc := 21) hx hb dX7_keeps_21 rfl (lv_at hl 2 rfl) ?_
          obtain ⟨g22, hf⟩ := gd hf
          refine va_lald (pc := 22) (D := Z.1) (n := 24) (f := o2_0.2 14) hx hb hK hP 12 1 rfl rfl (inb_in g22) dX7_keeps_22 ?_
          refine lv_goto (pc := 23) (tgt := 32) hx hb dX7_keeps_23 (by decide) ?_
          exact B32 v2_2 o2_0 (f_X7_keeps_b2 x1 n) ih (o2_0.2 14 (v2_2).toNatClampNeg) _ (lv_sub hl [0, 1, 2] rfl) _ _ hP hD hS hf
  rw [f_X7_keeps] at hf
  refine lv_iconst (pc := 0) (v := 0) hx hb dX7_keeps_0 (by decide) ?_
  refine lv_istore_n (pc := 1) (lv' := [(2, .int 0), (0, .ref (a0 0)), (1, .int x1)]) hx hb dX7_keeps_1 rfl hl (by decide) rfl (fun ls hl => ?_)
  exact B2 64 0 o0 _ (lv_sub hl [1, 2, 0] rfl) _ _ hP hD hS hf
def f_X7_now (o0 : ObS) : Option (Int32 × ObS) :=
  (some (oi o0 0 0 0)).bind fun s2 =>
  some (s2.1 1 0, s2)
set_option maxHeartbeats 4000000 in
set_option maxRecDepth 100000 in
theorem c_X7_now (Z : EnvT) (l : Launch) (a0 : Nat → Nat) (o0 : ObS) (R : Int32 × ObS) (hf : f_X7_now o0 = some R) : RW Z l yX7_now wsX7_now { frames := 0, cells := 0, slots := 0, locals := 0 } [.ref (a0 0)] (wX7 Z a0 o0) (some (.int R.1)) (fun _ => wX7 Z a0 R.2) 0 0 := by
  refine rw_of (cc := cX7_now) (maxL := 1) (ret := (some .int)) (by decide) rfl (Nat.le_of_ble_eq_true rfl) ?_
  intro p e s m below meth c A ls hx hb hr hml hts hown hlk hin hP hK hE hD hA hS hl
  have hown : s.vm.findClass RX7 = some m.cls := hown
  have hl : lv_has ls 1 [(0, .ref (a0 0))] := hl
  have w0 := hts (.fieldLink RX7 117 "HeatTrainModel" "thrown" "I") (by decide +kernel)
  have w1 := hts (.fieldLink RX7 132 "HeatTrainModel" "now" "I") (by decide +kernel)
  have u7 : ∀ w ∈ wsX70, w ∈ wsX7_now := by decide +kernel
  rw [f_X7_now] at hf
  refine lv_aload_n (pc := 0) hx hb dX7_now_0 rfl (lv_at hl 0 rfl) ?_
  refine lv_iconst (pc := 1) (v := 0) hx hb dX7_now_1 (by decide) ?_
  refine va_put (pc := 2) (D := Z.1) (ci := 7) (v := .int 0) (ty := .int) (C := RX7) (T := TX7) (N := 41) hx hb hts u7 tyX7 tyX7_ok nmX7 hown hK hP hD hS 0 rfl rfl 0 (by decide) w0 (fun _ h9 => h9) rfl (by decide +kernel) rfl rfl (Nat.le_of_ble_eq_true rfl) dX7_now_2 (fun H locs hP hD hS => ?_)
  obtain ⟨s2, h_2, hf⟩ := bd hf
  have hP : va_P Z.1 vwCl (wX7 Z a0 s2) H := st_P (f := fun z => wX7 Z a0 z) h_2 hP
  have hD : va_D A (wX7 Z a0 s2) := st_D (f := fun z => wX7 Z a0 z) h_2 hD
  refine lv_aload_n (pc := 5) hx hb dX7_now_5 rfl (lv_at hl 0 rfl) ?_
  refine va_get (pc := 6) (D := Z.1) (ci := 7) (v := .int (s2.1 1 0)) (C := RX7) (T := TX7) (N := 41) hx hb hts u7 hown hK hP 0 rfl rfl 1 (by decide) w1 (fun _ h9 => h9) rfl dX7_now_6 ?_
  have hf := (Option.some.inj hf)
  subst hf
  exact rw_i (fun _ => 0) hx hb hr hlk rfl hP hD hS dX7_now_9
