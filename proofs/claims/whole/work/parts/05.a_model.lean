def f_X7_thrown (o0 : ObS) : Int32 :=
  o0.1 0 0
set_option maxHeartbeats 4000000 in
set_option maxRecDepth 100000 in
theorem c_X7_thrown (Z : EnvT) (l : Launch) (a0 : Nat → Nat) (o0 : ObS) (R : Int32) (hf : f_X7_thrown o0 = R) : RO Z l yX7_thrown wsX7_thrown { frames := 0, cells := 0, slots := 0, locals := 0 } [.ref (a0 0)] (wX7 Z a0 o0) (some (.int R)) := by
  refine ro_of (cc := cX7_thrown) (maxL := 1) (ret := (some .int)) (by decide) rfl (Nat.le_of_ble_eq_true rfl) ?_
  intro p e s m below meth c ls hx hb hr hml hts hown hlk hP hK hE hl
  have hown : s.vm.findClass RX7 = some m.cls := hown
  have hl : lv_has ls 1 [(0, .ref (a0 0))] := hl
  have w0 := hts (.fieldLink RX7 117 "HeatTrainModel" "thrown" "I") (by decide +kernel)
  have u7 : ∀ w ∈ wsX70, w ∈ wsX7_thrown := by decide +kernel
  rw [f_X7_thrown] at hf
  refine lv_aload_n (pc := 0) hx hb dX7_thrown_0 rfl (lv_at hl 0 rfl) ?_
  refine va_get (pc := 1) (D := Z.1) (ci := 7) (v := .int (o0.1 0 0)) (C := RX7) (T := TX7) (N := 41) hx hb hts u7 hown hK hP 0 rfl rfl 0 (by decide) w0 (fun _ h9 => h9) rfl dX7_thrown_1 ?_
  exact ro_i hx hb hr hlk hf dX7_thrown_4
def f_X7_holds (o0 : ObS) (x1 : Int32) : Option (Int32 × ObS) :=
  (some (oi o0 0 0 x1)).bind fun s2 =>
  if x1 = (0 : Int32) then
    some ((1 : Int32), s2)
  else
    some ((0 : Int32), s2)
set_option maxHeartbeats 4000000 in
set_option maxRecDepth 100000 in
theorem c_X7_holds (Z : EnvT) (l : Launch) (a0 : Nat → Nat) (o0 : ObS) (x1 : Int32) (R : Int32 × ObS) (hf : f_X7_holds o0 x1 = some R) : RW Z l yX7_holds wsX7_holds { frames := 0, cells := 0, slots := 0, locals := 0 } [.ref (a0 0), .int x1] (wX7 Z a0 o0) (some (.int R.1)) (fun _ => wX7 Z a0 R.2) 0 0 := by
  refine rw_of (cc := cX7_holds) (maxL := 2) (ret := (some .boolean)) (by decide) rfl (Nat.le_of_ble_eq_true rfl) ?_
  intro p e s m below meth c A ls hx hb hr hml hts hown hlk hin hP hK hE hD hA hS hl
  have hown : s.vm.findClass RX7 = some m.cls := hown
  have hl : lv_has ls 2 [(0, .ref (a0 0)), (1, .int x1)] := hl
  have w0 := hts (.fieldLink RX7 117 "HeatTrainModel" "thrown" "I") (by decide +kernel)
  have u7 : ∀ w ∈ wsX70, w ∈ wsX7_holds := by decide +kernel
  rw [f_X7_holds] at hf
  refine lv_aload_n (pc := 0) hx hb dX7_holds_0 rfl (lv_at hl 0 rfl) ?_
  refine lv_iload_n (pc := 1) hx hb dX7_holds_1 rfl (lv_at hl 1 rfl) ?_
  refine va_put (pc := 2) (D := Z.1) (ci := 7) (v := .int x1) (ty := .int) (C := RX7) (T := TX7) (N := 41) hx hb hts u7 tyX7 tyX7_ok nmX7 hown hK hP hD hS 0 rfl rfl 0 (by decide) w0 (fun _ h9 => h9) rfl (by decide +kernel) rfl rfl (Nat.le_of_ble_eq_true rfl) dX7_holds_2 (fun H locs hP hD hS => ?_)
  obtain ⟨s2, h_2, hf⟩ := bd hf
  have hP : va_P Z.1 vwCl (wX7 Z a0 s2) H := st_P (f := fun z => wX7 Z a0 z) h_2 hP
  have hD : va_D A (wX7 Z a0 s2) := st_D (f := fun z => wX7 Z a0 z) h_2 hD
  refine lv_iload_n (pc := 5) hx hb dX7_holds_5 rfl (lv_at hl 1 rfl) ?_
  refine lv_if_ne (pc := 6) (tgt := 13) hx hb dX7_holds_6 (by decide) (fun c1 => ?_) (fun c1 => ?_)
  · have hf := (if_neg c1).symm.trans hf
    refine lv_iconst (pc := 13) (v := 0) hx hb dX7_holds_13 (by decide) ?_
    have hf := (Option.some.inj hf)
    subst hf
    exact rw_z (fun _ => 0) hx hb hr hlk rfl rfl hP hD hS dX7_holds_14
  · have hf := (if_pos c1).symm.trans hf
    refine lv_iconst (pc := 9) (v := 1) hx hb dX7_holds_9 (by decide) ?_
    refine lv_goto (pc := 10) (tgt := 14) hx hb dX7_holds_10 (by decide) ?_
    have hf := (Option.some.inj hf)
    subst hf
    exact rw_z (fun _ => 0) hx hb hr hlk rfl rfl hP hD hS dX7_holds_14
def f_X7_in (x1 : Int32) (x2 : Int32) (x3 : Int32) : Int32 :=
  if x1 < x2 then
    (0 : Int32)
  else
    if x3 < x1 then
      (0 : Int32)
    else
      (1 : Int32)
set_option maxHeartbeats 4000000 in
set_option maxRecDepth 100000 in
theorem c_X7_in (Z : EnvT) (l : Launch) (x1 : Int32) (x2 : Int32) (x3 : Int32) (R : Int32) (hf : f_X7_in x1 x2 x3 = R) : RO Z l yX7_in wsX7_in { frames := 0, cells := 0, slots := 0, locals := 0 } [.int x1, .int x2, .int x3] ([]) (some (.int R)) := by
  refine ro_of (cc := cX7_in) (maxL := 3) (ret := (some .boolean)) (by decide) rfl (Nat.le_of_ble_eq_true rfl) ?_
  intro p e s m below meth c ls hx hb hr hml hts hown hlk hP hK hE hl
  have hown : s.vm.findClass RX7 = some m.cls := hown
  have hl : lv_has ls 3 [(0, .int x1), (1, .int x2), (2, .int x3)] := hl
  rw [f_X7_in] at hf
  refine lv_iload_n (pc := 0) hx hb dX7_in_0 rfl (lv_at hl 0 rfl) ?_
  refine lv_iload_n (pc := 1) hx hb dX7_in_1 rfl (lv_at hl 1 rfl) ?_
  refine lv_icmp_lt (pc := 2) (tgt := 14) hx hb dX7_in_2 (by decide) (fun c1 => ?_) (fun c1 => ?_)
  · have hf := (if_pos c1).symm.trans hf
    refine lv_iconst (pc := 14) (v := 0) hx hb dX7_in_14 (by decide) ?_
    exact ro_z hx hb hr hlk hf rfl dX7_in_15
  · have hf := (if_neg c1).symm.trans hf
    refine lv_iload_n (pc := 5) hx hb dX7_in_5 rfl (lv_at hl 0 rfl) ?_
    refine lv_iload_n (pc := 6) hx hb dX7_in_6 rfl (lv_at hl 2 rfl) ?_
    refine lv_icmp_gt (pc := 7) (tgt := 14) hx hb dX7_in_7 (by decide) (fun c2 => ?_) (fun c2 => ?_)
    · have hf := (if_pos c2).symm.trans hf
      refine lv_iconst (pc := 14) (v := 0) hx hb dX7_in_14 (by decide) ?_
      exact ro_z hx hb hr hlk hf rfl dX7_in_15
    · have hf := (if_neg c2).symm.trans hf
      refine lv_iconst (pc := 10) (v := 1) hx hb dX7_in_10 (by decide) ?_
      refine lv_goto (pc := 11) (tgt := 15) hx hb dX7_in_11 (by decide) ?_
      exact ro_z hx hb hr hlk hf rfl dX7_in_15
def f_X7_isUnit (o0 : ObS) (x1 : Int32) : Option (Int32) :=
  if isb (f_X7_in x1 0 ((o0.1 2 0) - 1)) then
  some ((f_X7_in x1 0 ((o0.1 2 0) - 1)))
  else none
set_option maxHeartbeats 4000000 in
set_option maxRecDepth 100000 in
theorem c_X7_isUnit (Z : EnvT) (l : Launch) (a0 : Nat → Nat) (o0 : ObS) (x1 : Int32) (R : Int32) (hf : f_X7_isUnit o0 x1 = some R) : RO Z l yX7_isUnit wsX7_isUnit { frames := 1, cells := 0, slots := 0, locals := 22 } [.ref (a0 0), .int x1] (wX7 Z a0 o0) (some (.int R)) := by
  refine ro_of (cc := cX7_isUnit) (maxL := 2) (ret := (some .boolean)) (by decide) rfl (Nat.le_of_ble_eq_true rfl) ?_
  intro p e s m below meth c ls hx hb hr hml hts hown hlk hP hK hE hl
  have hown : s.vm.findClass RX7 = some m.cls := hown
  have hl : lv_has ls 2 [(0, .ref (a0 0)), (1, .int x1)] := hl
  have w0 := hts (.fieldLink RX7 121 "HeatTrainModel" "units" "I") (by decide +kernel)
  have u7 : ∀ w ∈ wsX70, w ∈ wsX7_isUnit := by decide +kernel
  rw [f_X7_isUnit] at hf
  refine lv_iload_n (pc := 0) hx hb dX7_isUnit_0 rfl (lv_at hl 1 rfl) ?_
  refine lv_iconst (pc := 1) (v := 0) hx hb dX7_isUnit_1 (by decide) ?_
  refine lv_aload_n (pc := 2) hx hb dX7_isUnit_2 rfl (lv_at hl 0 rfl) ?_
  refine va_get (pc := 3) (D := Z.1) (ci := 7) (v := .int (o0.1 2 0)) (C := RX7) (T := TX7) (N := 41) hx hb hts u7 hown hK hP 0 rfl rfl 2 (by decide) w0 (fun _ h9 => h9) rfl dX7_isUnit_3 ?_
  refine lv_iconst (pc := 6) (v := 1) hx hb dX7_isUnit_6 (by decide) ?_
  refine lv_isub (pc := 7) hx hb dX7_isUnit_7 ?_
  refine ro_S (pc := 8) (As := [.int x1, .int 0, .int ((o0.1 2 0) - 1)]) (rest := []) (st1 := [.int (f_X7_in x1 0 ((o0.1 2 0) - 1))]) ⟨hx, hb, hml, hown, hts⟩ (c_X7_in Z l x1 0 ((o0.1 2 0) - 1) _ rfl) (va_cwS 3 hts gX7_isUnit_X7_in rfl rfl rfl hs_X7_in ⟨Nat.le_of_ble_eq_true rfl, Nat.le_of_ble_eq_true rfl⟩) hK hE (hP.sub (ws' := []) [] rfl) rfl hl.1 rfl (lv_room (Nat.le_of_ble_eq_true rfl)) dX7_isUnit_8 ⟨Nat.le_of_ble_eq_true rfl, Nat.le_of_ble_eq_true rfl⟩ rfl ?_
  obtain ⟨gz, hf⟩ := gd hf
  exact ro_z hx hb hr hlk (Option.some.inj hf) (isb_n gz) dX7_isUnit_11
def f_X7_isStream (o0 : ObS) (x1 : Int32) : Option (Int32) :=
  if isb (f_X7_in x1 0 ((2 * (o0.1 2 0)) - 1)) then
  some ((f_X7_in x1 0 ((2 * (o0.1 2 0)) - 1)))
  else none
set_option maxHeartbeats 4000000 in
set_option maxRecDepth 100000 in
theorem c_X7_isStream (Z : EnvT) (l : Launch) (a0 : Nat → Nat) (o0 : ObS) (x1 : Int32) (R : Int32) (hf : f_X7_isStream o0 x1 = some R) : RO Z l yX7_isStream wsX7_isStream { frames := 1, cells := 0, slots := 0, locals := 22 } [.ref (a0 0), .int x1] (wX7 Z a0 o0) (some (.int R)) := by
  refine ro_of (cc := cX7_isStream) (maxL := 2) (ret := (some .boolean)) (by decide) rfl (Nat.le_of_ble_eq_true rfl) ?_
  intro p e s m below meth c ls hx hb hr hml hts hown hlk hP hK hE hl
  have hown : s.vm.findClass RX7 = some m.cls := hown
  have hl : lv_has ls 2 [(0, .ref (a0 0)), (1, .int x1)] := hl
  have w0 := hts (.fieldLink RX7 121 "HeatTrainModel" "units" "I") (by decide +kernel)
  have u7 : ∀ w ∈ wsX70, w ∈ wsX7_isStream := by decide +kernel
  rw [f_X7_isStream] at hf
  refine lv_iload_n (pc := 0) hx hb dX7_isStream_0 rfl (lv_at hl 1 rfl) ?_
  refine lv_iconst (pc := 1) (v := 0) hx hb dX7_isStream_1 (by decide) ?_
  refine lv_iconst (pc := 2) (v := 2) hx hb dX7_isStream_2 (by decide) ?_
  refine lv_aload_n (pc := 3) hx hb dX7_isStream_3 rfl (lv_at hl 0 rfl) ?_
  refine va_get (pc := 4) (D := Z.1) (ci := 7) (v := .int (o0.1 2 0)) (C := RX7) (T := TX7) (N := 41) hx hb hts u7 hown hK hP 0 rfl rfl 2 (by decide) w0 (fun _ h9 => h9) rfl dX7_isStream_4 ?_
  refine lv_imul (pc := 7) hx hb dX7_isStream_7 ?_
  refine lv_iconst (pc := 8) (v := 1) hx hb dX7_isStream_8 (by decide) ?_
  refine lv_isub (pc := 9) hx hb dX7_isStream_9 ?_
  refine ro_S (pc := 10) (As := [.int x1, .int 0, .int ((2 * (o0.1 2 0)) - 1)]) (rest := []) (st1 := [.int (f_X7_in x1 0 ((2 * (o0.1 2 0)) - 1))]) ⟨hx, hb, hml, hown, hts⟩ (c_X7_in Z l x1 0 ((2 * (o0.1 2 0)) - 1) _ rfl) (va_cwS 3 hts gX7_isStream_X7_in rfl rfl rfl hs_X7_in ⟨Nat.le_of_ble_eq_true rfl, Nat.le_of_ble_eq_true rfl⟩) hK hE (hP.sub (ws' := []) [] rfl) rfl hl.1 rfl (lv_room (Nat.le_of_ble_eq_true rfl)) dX7_isStream_10 ⟨Nat.le_of_ble_eq_true rfl, Nat.le_of_ble_eq_true rfl⟩ rfl ?_
  obtain ⟨gz, hf⟩ := gd hf
  exact ro_z hx hb hr hlk (Option.some.inj hf) (isb_n gz) dX7_isStream_13
def f_X7_isController (o0 : ObS) (x1 : Int32) : Option (Int32) :=
  if isb (f_X7_in x1 0 ((o0.1 22 0) - 1)) then
  some ((f_X7_in x1 0 ((o0.1 22 0) - 1)))
  else none
set_option maxHeartbeats 4000000 in
set_option maxRecDepth 100000 in
theorem c_X7_isController (Z : EnvT) (l : Launch) (a0 : Nat → Nat) (o0 : ObS) (x1 : Int32) (R : Int32) (hf : f_X7_isController o0 x1 = some R) : RO Z l yX7_isController wsX7_isController { frames := 1, cells := 0, slots := 0, locals := 22 } [.ref (a0 0), .int x1] (wX7 Z a0 o0) (some (.int R)) := by
  refine ro_of (cc := cX7_isController) (maxL := 2) (ret := (some .boolean)) (by decide) rfl (Nat.le_of_ble_eq_true rfl) ?_
  intro p e s m below meth c ls hx hb hr hml hts hown hlk hP hK hE hl
  have hown : s.vm.findClass RX7 = some m.cls := hown
  have hl : lv_has ls 2 [(0, .ref (a0 0)), (1, .int x1)] := hl
  have w0 := hts (.fieldLink RX7 128 "HeatTrainModel" "controllers" "I") (by decide +kernel)
  have u7 : ∀ w ∈ wsX70, w ∈ wsX7_isController := by decide +kernel
  rw [f_X7_isController] at hf
  refine lv_iload_n (pc := 0) hx hb dX7_isController_0 rfl (lv_at hl 1 rfl) ?_
  refine lv_iconst (pc := 1) (v := 0) hx hb dX7_isController_1 (by decide) ?_
  refine lv_aload_n (pc := 2) hx hb dX7_isController_2 rfl (lv_at hl 0 rfl) ?_
  refine va_get (pc := 3) (D := Z.1) (ci := 7) (v := .int (o0.1 22 0)) (C := RX7) (T := TX7) (N := 41) hx hb hts u7 hown hK hP 0 rfl rfl 22 (by decide) w0 (fun _ h9 => h9) rfl dX7_isController_3 ?_
  refine lv_iconst (pc := 6) (v := 1) hx hb dX7_isController_6 (by decide) ?_
  refine lv_isub (pc := 7) hx hb dX7_isController_7 ?_
  refine ro_S (pc := 8) (As := [.int x1, .int 0, .int ((o0.1 22 0) - 1)]) (rest := []) (st1 := [.int (f_X7_in x1 0 ((o0.1 22 0) - 1))]) ⟨hx, hb, hml, hown, hts⟩ (c_X7_in Z l x1 0 ((o0.1 22 0) - 1) _ rfl) (va_cwS 3 hts gX7_isController_X7_in rfl rfl rfl hs_X7_in ⟨Nat.le_of_ble_eq_true rfl, Nat.le_of_ble_eq_true rfl⟩) hK hE (hP.sub (ws' := []) [] rfl) rfl hl.1 rfl (lv_room (Nat.le_of_ble_eq_true rfl)) dX7_isController_8 ⟨Nat.le_of_ble_eq_true rfl, Nat.le_of_ble_eq_true rfl⟩ rfl ?_
  obtain ⟨gz, hf⟩ := gd hf
  exact ro_z hx hb hr hlk (Option.some.inj hf) (isb_n gz) dX7_isController_11
def f_X7_mostOf (x1 : Int32) : Int32 :=
  if x1 = (0 : Int32) then
    (999 : Int32)
  else
    if x1 = 1 then
      (100 : Int32)
    else
      if x1 = 3 then
        (9999 : Int32)
      else
        (99999 : Int32)
set_option maxHeartbeats 4000000 in
set_option maxRecDepth 100000 in
theorem c_X7_mostOf (Z : EnvT) (l : Launch) (x1 : Int32) (R : Int32) (hf : f_X7_mostOf x1 = R) : RO Z l yX7_mostOf wsX7_mostOf { frames := 0, cells := 0, slots := 0, locals := 0 } [.int x1] ([]) (some (.int R)) := by
  refine ro_of (cc := cX7_mostOf) (maxL := 1) (ret := (some .int)) (by decide) rfl (Nat.le_of_ble_eq_true rfl) ?_
  intro p e s m below meth c ls hx hb hr hml hts hown hlk hP hK hE hl
  have hown : s.vm.findClass RX7 = some m.cls := hown
  have hl : lv_has ls 1 [(0, .int x1)] := hl
  have w0 := hts (.constant RX7 131 (99999)) (by decide +kernel)
  rw [f_X7_mostOf] at hf
  refine lv_iload_n (pc := 0) hx hb dX7_mostOf_0 rfl (lv_at hl 0 rfl) ?_
  refine lv_if_ne (pc := 1) (tgt := 10) hx hb dX7_mostOf_1 (by decide) (fun c1 => ?_) (fun c1 => ?_)
  · have hf := (if_neg c1).symm.trans hf
    refine lv_iload_n (pc := 10) hx hb dX7_mostOf_10 rfl (lv_at hl 0 rfl) ?_
    refine lv_iconst (pc := 11) (v := 1) hx hb dX7_mostOf_11 (by decide) ?_
    refine lv_icmp_ne (pc := 12) (tgt := 20) hx hb dX7_mostOf_12 (by decide) (fun c2 => ?_) (fun c2 => ?_)
    · have hf := (if_neg c2).symm.trans hf
      refine lv_iload_n (pc := 20) hx hb dX7_mostOf_20 rfl (lv_at hl 0 rfl) ?_
      refine lv_iconst (pc := 21) (v := 3) hx hb dX7_mostOf_21 (by decide) ?_
      refine lv_icmp_ne (pc := 22) (tgt := 31) hx hb dX7_mostOf_22 (by decide) (fun c3 => ?_) (fun c3 => ?_)
      · have hf := (if_neg c3).symm.trans hf
        refine lv_ldc (pc := 31) (v := 99999) hx hb hown w0 dX7_mostOf_31 ?_
        exact ro_i hx hb hr hlk hf dX7_mostOf_33
      · have hf := (if_pos c3).symm.trans hf
        refine lv_sipush (pc := 25) (v := 9999) hx hb dX7_mostOf_25 (by decide) ?_
        refine lv_goto (pc := 28) (tgt := 33) hx hb dX7_mostOf_28 (by decide) ?_
        exact ro_i hx hb hr hlk hf dX7_mostOf_33
    · have hf := (if_pos c2).symm.trans hf
      refine lv_bipush (pc := 15) (v := 100) hx hb dX7_mostOf_15 (by decide) ?_
      refine lv_goto (pc := 17) (tgt := 33) hx hb dX7_mostOf_17 (by decide) ?_
      exact ro_i hx hb hr hlk hf dX7_mostOf_33
  · have hf := (if_pos c1).symm.trans hf
    refine lv_sipush (pc := 4) (v := 999) hx hb dX7_mostOf_4 (by decide) ?_
    refine lv_goto (pc := 7) (tgt := 33) hx hb dX7_mostOf_7 (by decide) ?_
    exact ro_i hx hb hr hlk hf dX7_mostOf_33
def f_X7_held (x1 : Int64) (x2 : Int64) (x3 : Int64) : Int64 :=
  if (0 : Int32) ≤ (lg_cmp x1 x2) then
    if (lg_cmp x1 x3) ≤ (0 : Int32) then
      x1
    else
      x3
  else
    x2
set_option maxHeartbeats 4000000 in
set_option maxRecDepth 100000 in
theorem c_X7_held (Z : EnvT) (l : Launch) (x1 : Int64) (x2 : Int64) (x3 : Int64) (R : Int64) (hf : f_X7_held x1 x2 x3 = R) : RO Z l yX7_held wsX7_held { frames := 0, cells := 0, slots := 0, locals := 0 } [.long x1, .long x2, .long x3] ([]) (some (.long R)) := by
  refine ro_of (cc := cX7_held) (maxL := 6) (ret := (some .long)) (by decide) rfl (Nat.le_of_ble_eq_true rfl) ?_
  intro p e s m below meth c ls hx hb hr hml hts hown hlk hP hK hE hl
  have hown : s.vm.findClass RX7 = some m.cls := hown
  have hl : lv_has ls 6 [(0, .long x1), (2, .long x2), (4, .long x3)] := hl
  rw [f_X7_held] at hf
  refine lv_lload_n (pc := 0) hx hb dX7_held_0 rfl (lv_at hl 0 rfl) ?_
  refine lv_lload_n (pc := 1) hx hb dX7_held_1 rfl (lv_at hl 1 rfl) ?_
  refine W.lcmp (pc := 2) hx hb dX7_held_2 ?_
  refine lv_if_ge (pc := 3) (tgt := 10) hx hb dX7_held_3 (by decide) (fun c1 => ?_) (fun c1 => ?_)
  · have hf := (if_pos c1).symm.trans hf
    refine lv_lload_n (pc := 10) hx hb dX7_held_10 rfl (lv_at hl 0 rfl) ?_
    refine lv_lload (pc := 11) hx hb dX7_held_11 (lv_at hl 2 rfl) ?_
    refine W.lcmp (pc := 13) hx hb dX7_held_13 ?_
    refine lv_if_le (pc := 14) (tgt := 22) hx hb dX7_held_14 (by decide) (fun c2 => ?_) (fun c2 => ?_)
    · have hf := (if_pos c2).symm.trans hf
      refine lv_lload_n (pc := 22) hx hb dX7_held_22 rfl (lv_at hl 0 rfl) ?_
      exact ro_l hx hb hr hlk hf dX7_held_23
    · have hf := (if_neg c2).symm.trans hf
      refine lv_lload (pc := 17) hx hb dX7_held_17 (lv_at hl 2 rfl) ?_
      refine lv_goto (pc := 19) (tgt := 23) hx hb dX7_held_19 (by decide) ?_
      exact ro_l hx hb hr hlk hf dX7_held_23
  · have hf := (if_neg c1).symm.trans hf
    refine lv_lload_n (pc := 6) hx hb dX7_held_6 rfl (lv_at hl 1 rfl) ?_
    refine lv_goto (pc := 7) (tgt := 23) hx hb dX7_held_7 (by decide) ?_
    exact ro_l hx hb hr hlk hf dX7_held_23
def f_X7_takesTwo (x1 : Int32) : Int32 :=
  if x1 = 2 then
    (1 : Int32)
  else
    if x1 = 3 then
      (1 : Int32)
    else
      (0 : Int32)
set_option maxHeartbeats 4000000 in
set_option maxRecDepth 100000 in
theorem c_X7_takesTwo (Z : EnvT) (l : Launch) (x1 : Int32) (R : Int32) (hf : f_X7_takesTwo x1 = R) : RO Z l yX7_takesTwo wsX7_takesTwo { frames := 0, cells := 0, slots := 0, locals := 0 } [.int x1] ([]) (some (.int R)) := by
  refine ro_of (cc := cX7_takesTwo) (maxL := 1) (ret := (some .boolean)) (by decide) rfl (Nat.le_of_ble_eq_true rfl) ?_
  intro p e s m below meth c ls hx hb hr hml hts hown hlk hP hK hE hl
  have hown : s.vm.findClass RX7 = some m.cls := hown
  have hl : lv_has ls 1 [(0, .int x1)] := hl
  rw [f_X7_takesTwo] at hf
  refine lv_iload_n (pc := 0) hx hb dX7_takesTwo_0 rfl (lv_at hl 0 rfl) ?_
  refine lv_iconst (pc := 1) (v := 2) hx hb dX7_takesTwo_1 (by decide) ?_
  refine lv_icmp_eq (pc := 2) (tgt := 10) hx hb dX7_takesTwo_2 (by decide) (fun c1 => ?_) (fun c1 => ?_)
  · have hf := (if_pos c1).symm.trans hf
    refine lv_iconst (pc := 10) (v := 1) hx hb dX7_takesTwo_10 (by decide) ?_
    refine lv_goto (pc := 11) (tgt := 15) hx hb dX7_takesTwo_11 (by decide) ?_
    exact ro_z hx hb hr hlk hf rfl dX7_takesTwo_15
  · have hf := (if_neg c1).symm.trans hf
    refine lv_iload_n (pc := 5) hx hb dX7_takesTwo_5 rfl (lv_at hl 0 rfl) ?_
    refine lv_iconst (pc := 6) (v := 3) hx hb dX7_takesTwo_6 (by decide) ?_
    refine lv_icmp_ne (pc := 7) (tgt := 14) hx hb dX7_takesTwo_7 (by decide) (fun c2 => ?_) (fun c2 => ?_)
    · have hf := (if_neg c2).symm.trans hf
      refine lv_iconst (pc := 14) (v := 0) hx hb dX7_takesTwo_14 (by decide) ?_
      exact ro_z hx hb hr hlk hf rfl dX7_takesTwo_15
    · have hf := (if_pos c2).symm.trans hf
      refine lv_iconst (pc := 10) (v := 1) hx hb dX7_takesTwo_10 (by decide) ?_
      refine lv_goto (pc := 11) (tgt := 15) hx hb dX7_takesTwo_11 (by decide) ?_
      exact ro_z hx hb hr hlk hf rfl dX7_takesTwo_15
def f_X7_isTaken_b4 (o0 : ObS) (x1 : Int32) : Nat → Int32 → Int32 → Option (Int32)
  | 0, _, _ => none
  | n + 1, v4_3, v4_2 =>
  if (o0.1 2 0) ≤ v4_3 then
    if isb v4_2 then
    some (v4_2)
    else none
  else
    if v4_2 = (0 : Int32) then
      if inb v4_3 12 then
      if (o0.1 6 (v4_3).toNatClampNeg) = x1 then
        f_X7_isTaken_b4 o0 x1 n (v4_3 + 1) 1
      else
        if inb v4_3 12 then
        if (o0.1 7 (v4_3).toNatClampNeg) = x1 then
          f_X7_isTaken_b4 o0 x1 n (v4_3 + 1) 1
        else
          f_X7_isTaken_b4 o0 x1 n (v4_3 + 1) 0
        else none
      else none
    else
      f_X7_isTaken_b4 o0 x1 n (v4_3 + 1) 1
def f_X7_isTaken (o0 : ObS) (x1 : Int32) : Option (Int32) :=
  f_X7_isTaken_b4 o0 x1 64 0 0
set_option maxHeartbeats 4000000 in
set_option maxRecDepth 100000 in
theorem c_X7_isTaken (Z : EnvT) (l : Launch) (a0 : Nat → Nat) (o0 : ObS) (x1 : Int32) (R : Int32) (hf : f_X7_isTaken o0 x1 = some R) : RO Z l yX7_isTaken wsX7_isTaken { frames := 0, cells := 0, slots := 0, locals := 0 } [.ref (a0 0), .int x1] (wX7 Z a0 o0) (some (.int R)) := by
  refine ro_of (cc := cX7_isTaken) (maxL := 4) (ret := (some .boolean)) (by decide) rfl (Nat.le_of_ble_eq_true rfl) ?_
  intro p e s m below meth c ls hx hb hr hml hts hown hlk hP hK hE hl
  have hown : s.vm.findClass RX7 = some m.cls := hown
  have hl : lv_has ls 4 [(0, .ref (a0 0)), (1, .int x1)] := hl
  have w0 := hts (.fieldLink RX7 121 "HeatTrainModel" "units" "I") (by decide +kernel)
  have w1 := hts (.fieldLink RX7 19 "HeatTrainModel" "firsts" "[I") (by decide +kernel)
  have w2 := hts (.fieldLink RX7 22 "HeatTrainModel" "seconds" "[I") (by decide +kernel)
  have u7 : ∀ w ∈ wsX70, w ∈ wsX7_isTaken := by decide +kernel
  have B4 : ∀ (n : Nat), ∀ (v4_3 : Int32) (v4_2 : Int32) (ls : Array Slot), lv_has ls 4 [(0, .ref (a0 0)), (1, .int x1), (2, .int v4_2), (3, .int v4_3)] → f_X7_isTaken_b4 o0 x1 n v4_3 v4_2 = some R → W p l e { frames := 0, cells := 0, slots := 0, locals := 0 } s m ([.ref (a0 0), .int x1] : List Value).toArray below meth c s.heap [] 0 0 (MQ below (roQ (some (.int R))) ([.ref (a0 0), .int x1] : List Value).toArray s 0 0 (fun _ => False)) (F0 m 4 ls []) := by
    intro n
    induction n with
    | zero => intro v4_3 v4_2 ls hl hf; rw [f_X7_isTaken_b4] at hf; exact nomatch hf
    | succ n ih =>
      intro v4_3 v4_2 ls hl hf
      rw [f_X7_isTaken_b4] at hf
      refine lv_iload_n (pc := 4) hx hb dX7_isTaken_4 rfl (lv_at hl 3 rfl) ?_
      refine lv_aload_n (pc := 5) hx hb dX7_isTaken_5 rfl (lv_at hl 0 rfl) ?_
      refine va_get (pc := 6) (D := Z.1) (ci := 7) (v := .int (o0.1 2 0)) (C := RX7) (T := TX7) (N := 41) hx hb hts u7 hown hK hP 0 rfl rfl 2 (by decide) w0 (fun _ h9 => h9) rfl dX7_isTaken_6 ?_
      refine lv_icmp_ge (pc := 9) (tgt := 48) hx hb dX7_isTaken_9 (by decide) (fun c1 => ?_) (fun c1 => ?_)
      · have hf := (if_pos c1).symm.trans hf
        refine lv_iload_n (pc := 48) hx hb dX7_isTaken_48 rfl (lv_at hl 2 rfl) ?_
        obtain ⟨gz, hf⟩ := gd hf
        exact ro_z hx hb hr hlk (Option.some.inj hf) (isb_n gz) dX7_isTaken_49
      · have hf := (if_neg c1).symm.trans hf
        refine lv_iload_n (pc := 12) hx hb dX7_isTaken_12 rfl (lv_at hl 2 rfl) ?_
        refine lv_if_ne (pc := 13) (tgt := 36) hx hb dX7_isTaken_13 (by decide) (fun c2 => ?_) (fun c2 => ?_)
        · have hf := (if_neg c2).symm.trans hf
          refine lv_iconst (pc := 36) (v := 1) hx hb dX7_isTaken_36 (by decide) ?_
          refine lv_goto (pc := 37) (tgt := 41) hx hb dX7_isTaken_37 (by decide) ?_
          refine lv_istore_n (pc := 41) (lv' := [(2, .int 1), (0, .ref (a0 0)), (1, .int x1), (3, .int v4_3)]) hx hb dX7_isTaken_41 rfl hl (by decide) rfl (fun ls hl => ?_)
          refine lv_iinc (pc := 42) (v := v4_3 + 1) (lv' := [(3, .int (v4_3 + 1)), (2, .int 1), (0, .ref (a0 0)), (1, .int x1)]) hx hb dX7_isTaken_42 hl (k := 3) rfl rfl (by decide) rfl (fun ls hl => ?_)
          refine lv_goto (pc := 45) (tgt := 4) hx hb dX7_isTaken_45 (by decide) ?_
          exact ih (v4_3 + 1) 1 _ (lv_sub hl [2, 3, 1, 0] rfl) hf
        · have hf := (if_pos c2).symm.trans hf
          refine lv_aload_n (pc := 16) hx hb dX7_isTaken_16 rfl (lv_at hl 0 rfl) ?_
          refine va_get (pc := 17) (D := Z.1) (ci := 7) (v := .ref (a0 7)) (C := RX7) (T := TX7) (N := 41) hx hb hts u7 hown hK hP 0 rfl rfl 6 (by decide) w1 (fun _ h9 => h9) rfl dX7_isTaken_17 ?_
          refine lv_iload_n (pc := 20) hx hb dX7_isTaken_20 rfl (lv_at hl 3 rfl) ?_
          obtain ⟨g21, hf⟩ := gd hf
          refine va_iald (pc := 21) (D := Z.1) (n := 12) (f := o0.1 6) hx hb hK hP 4 0 rfl rfl (inb_in g21) dX7_isTaken_21 ?_
          refine lv_iload_n (pc := 22) hx hb dX7_isTaken_22 rfl (lv_at hl 1 rfl) ?_
          refine lv_icmp_eq (pc := 23) (tgt := 36) hx hb dX7_isTaken_23 (by decide) (fun c3 => ?_) (fun c3 => ?_)
          · have hf := (if_pos c3).symm.trans hf
            refine lv_iconst (pc := 36) (v := 1) hx hb dX7_isTaken_36 (by decide) ?_
            refine lv_goto (pc := 37) (tgt := 41) hx hb dX7_isTaken_37 (by decide) ?_
            refine lv_istore_n (pc := 41) (lv' := [(2, .int 1), (0, .ref (a0 0)), (1, .int x1), (3, .int v4_3)]) hx hb dX7_isTaken_41 rfl hl (by decide) rfl (fun ls hl => ?_)
            refine lv_iinc (pc := 42) (v := v4_3 + 1) (lv' := [(3, .int (v4_3 + 1)), (2, .int 1), (0, .ref (a0 0)), (1, .int x1)]) hx hb dX7_isTaken_42 hl (k := 3) rfl rfl (by decide) rfl (fun ls hl => ?_)
            refine lv_goto (pc := 45) (tgt := 4) hx hb dX7_isTaken_45 (by decide) ?_
            exact ih (v4_3 + 1) 1 _ (lv_sub hl [2, 3, 1, 0] rfl) hf
          · have hf := (if_neg c3).symm.trans hf
            refine lv_aload_n (pc := 26) hx hb dX7_isTaken_26 rfl (lv_at hl 0 rfl) ?_
            refine va_get (pc := 27) (D := Z.1) (ci := 7) (v := .ref (a0 8)) (C := RX7) (T := TX7) (N := 41) hx hb hts u7 hown hK hP 0 rfl rfl 7 (by decide) w2 (fun _ h9 => h9) rfl dX7_isTaken_27 ?_
            refine lv_iload_n (pc := 30) hx hb dX7_isTaken_30 rfl (lv_at hl 3 rfl) ?_
            obtain ⟨g31, hf⟩ := gd hf
            refine va_iald (pc := 31) (D := Z.1) (n := 12) (f := o0.1 7) hx hb hK hP 5 0 rfl rfl (inb_in g31) dX7_isTaken_31 ?_
            refine lv_iload_n (pc := 32) hx hb dX7_isTaken_32 rfl (lv_at hl 1 rfl) ?_
            refine lv_icmp_ne (pc := 33) (tgt := 40) hx hb dX7_isTaken_33 (by decide) (fun c4 => ?_) (fun c4 => ?_)
            · have hf := (if_neg c4).symm.trans hf
              refine lv_iconst (pc := 40) (v := 0) hx hb dX7_isTaken_40 (by decide) ?_
              refine lv_istore_n (pc := 41) (lv' := [(2, .int 0), (0, .ref (a0 0)), (1, .int x1), (3, .int v4_3)]) hx hb dX7_isTaken_41 rfl hl (by decide) rfl (fun ls hl => ?_)
              refine lv_iinc (pc := 42) (v := v4_3 + 1) (lv' := [(3, .int (v4_3 + 1)), (2, .int 0), (0, .ref (a0 0)), (1, .int x1)]) hx hb dX7_isTaken_42 hl (k := 3) rfl rfl (by decide) rfl (fun ls hl => ?_)
              refine lv_goto (pc := 45) (tgt := 4) hx hb dX7_isTaken_45 (by decide) ?_
              exact ih (v4_3 + 1) 0 _ (lv_sub hl [2, 3, 1, 0] rfl) hf
            · have hf := (if_pos c4).symm.trans hf
              refine lv_iconst (pc := 36) (v := 1) hx hb dX7_isTaken_36 (by decide) ?_
              refine lv_goto (pc := 37) (tgt := 41) hx hb dX7_isTaken_37 (by decide) ?_
              refine lv_istore_n (pc := 41) (lv' := [(2, .int 1), (0, .ref (a0 0)), (1, .int x1), (3, .int v4_3)]) hx hb dX7_isTaken_41 rfl hl (by decide) rfl (fun ls hl => ?_)
              refine lv_iinc (pc := 42) (v := v4_3 + 1) (lv' := [(3, .int (v4_3 + 1)), (2, .int 1), (0, .ref (a0 0)), (1, .int x1)]) hx hb dX7_isTaken_42 hl (k := 3) rfl rfl (by decide) rfl (fun ls hl => ?_)
              refine lv_goto (pc := 45) (tgt := 4) hx hb dX7_isTaken_45 (by decide) ?_
              exact ih (v4_3 + 1) 1 _ (lv_sub hl [2, 3, 1, 0] rfl) hf
  rw [f_X7_isTaken] at hf
  refine lv_iconst (pc := 0) (v := 0) hx hb dX7_isTaken_0 (by decide) ?_
  refine lv_istore_n (pc := 1) (lv' := [(2, .int 0), (0, .ref (a0 0)), (1, .int x1)]) hx hb dX7_isTaken_1 rfl hl (by decide) rfl (fun ls hl => ?_)
  refine lv_iconst (pc := 2) (v := 0) hx hb dX7_isTaken_2 (by decide) ?_
  refine lv_istore_n (pc := 3) (lv' := [(3, .int 0), (2, .int 0), (0, .ref (a0 0)), (1, .int x1)]) hx hb dX7_isTaken_3 rfl hl (by decide) rfl (fun ls hl => ?_)
  exact B4 64 0 0 _ (lv_sub hl [2, 3, 1, 0] rfl) hf
def f_X7_makes (o0 : ObS) (x1 : Int32) (x2 : Int32) (x3 : Int32) (x4 : Int32) (x5 : Int32) : Option (Int32 × ObS) :=
  if inb (o0.1 2 0) 12 then
  (some (oi o0 3 (o0.1 2 0).toNatClampNeg x1)).bind fun s9 =>
  if inb (s9.1 2 0) 12 then
  (some (oi s9 6 (s9.1 2 0).toNatClampNeg x2)).bind fun s19 =>
  if inb (s19.1 2 0) 12 then
  (some (oi s19 7 (s19.1 2 0).toNatClampNeg x3)).bind fun s29 =>
  if inb (s29.1 2 0) 12 then
  (some (oi s29 4 (s29.1 2 0).toNatClampNeg x4)).bind fun s40 =>
  if inb (s40.1 2 0) 12 then
  (some (oi s40 5 (s40.1 2 0).toNatClampNeg x5)).bind fun s51 =>
  (some (oi s51 2 0 ((s51.1 2 0) + 1))).bind fun s59 =>
  some ((s59.1 2 0) - 1, s59)
  else none
  else none
  else none
  else none
  else none
set_option maxHeartbeats 4000000 in
set_option maxRecDepth 100000 in
theorem c_X7_makes (Z : EnvT) (l : Launch) (a0 : Nat → Nat) (o0 : ObS) (x1 : Int32) (x2 : Int32) (x3 : Int32) (x4 : Int32) (x5 : Int32) (R : Int32 × ObS) (hf : f_X7_makes o0 x1 x2 x3 x4 x5 = some R) : RW Z l yX7_makes wsX7_makes { frames := 0, cells := 0, slots := 0, locals := 0 } [.ref (a0 0), .int x1, .int x2, .int x3, .int x4, .int x5] (wX7 Z a0 o0) (some (.int R.1)) (fun _ => wX7 Z a0 R.2) 0 0 := by
  refine rw_of (cc := cX7_makes) (maxL := 6) (ret := (some .int)) (by decide) rfl (Nat.le_of_ble_eq_true rfl) ?_
  intro p e s m below meth c A ls hx hb hr hml hts hown hlk hin hP hK hE hD hA hS hl
  have hown : s.vm.findClass RX7 = some m.cls := hown
  have hl : lv_has ls 6 [(0, .ref (a0 0)), (1, .int x1), (2, .int x2), (3, .int x3), (4, .int x4), (5, .int x5)] := hl
  have w0 := hts (.fieldLink RX7 7 "HeatTrainModel" "kinds" "[I") (by decide +kernel)
  have w1 := hts (.fieldLink RX7 121 "HeatTrainModel" "units" "I") (by decide +kernel)
  have w2 := hts (.fieldLink RX7 19 "HeatTrainModel" "firsts" "[I") (by decide +kernel)
  have w3 := hts (.fieldLink RX7 22 "HeatTrainModel" "seconds" "[I") (by decide +kernel)
  have w4 := hts (.fieldLink RX7 13 "HeatTrainModel" "numbers" "[I") (by decide +kernel)
  have w5 := hts (.fieldLink RX7 16 "HeatTrainModel" "warmths" "[I") (by decide +kernel)
  have u7 : ∀ w ∈ wsX70, w ∈ wsX7_makes := by decide +kernel
  rw [f_X7_makes] at hf
  refine lv_aload_n (pc := 0) hx hb dX7_makes_0 rfl (lv_at hl 0 rfl) ?_
  refine va_get (pc := 1) (D := Z.1) (ci := 7) (v := .ref (a0 4)) (C := RX7) (T := TX7) (N := 41) hx hb hts u7 hown hK hP 0 rfl rfl 3 (by decide) w0 (fun _ h9 => h9) rfl dX7_makes_1 ?_
  refine lv_aload_n (pc := 4) hx hb dX7_makes_4 rfl (lv_at hl 0 rfl) ?_
  refine va_get (pc := 5) (D := Z.1) (ci := 7) (v := .int (o0.1 2 0)) (C := RX7) (T := TX7) (N := 41) hx hb hts u7 hown hK hP 0 rfl rfl 2 (by decide) w1 (fun _ h9 => h9) rfl dX7_makes_5 ?_
  refine lv_iload_n (pc := 8) hx hb dX7_makes_8 rfl (lv_at hl 1 rfl) ?_
  obtain ⟨g9, hf⟩ := gd hf
  refine va_iast (pc := 9) (D := Z.1) (n := 12) (f := o0.1 3) hx hb hK hP hD hS 1 0 rfl rfl (inb_in g9) dX7_makes_9 (fun H locs hP hD hS => ?_)
  obtain ⟨s9, h_9, hf⟩ := bd hf
  have hP : va_P Z.1 vwCl (wX7 Z a0 s9) H := st_P (f := fun z => wX7 Z a0 z) h_9 hP
  have hD : va_D A (wX7 Z a0 s9) := st_D (f := fun z => wX7 Z a0 z) h_9 hD
  refine lv_aload_n (pc := 10) hx hb dX7_makes_10 rfl (lv_at hl 0 rfl) ?_
  refine va_get (pc := 11) (D := Z.1) (ci := 7) (v := .ref (a0 7)) (C := RX7) (T := TX7) (N := 41) hx hb hts u7 hown hK hP 0 rfl rfl 6 (by decide) w2 (fun _ h9 => h9) rfl dX7_makes_11 ?_
  refine lv_aload_n (pc := 14) hx hb dX7_makes_14 rfl (lv_at hl 0 rfl) ?_
  refine va_get (pc := 15) (D := Z.1) (ci := 7) (v := .int (s9.1 2 0)) (C := RX7) (T := TX7) (N := 41) hx hb hts u7 hown hK hP 0 rfl rfl 2 (by decide) w1 (fun _ h9 => h9) rfl dX7_makes_15 ?_
  refine lv_iload_n (pc := 18) hx hb dX7_makes_18 rfl (lv_at hl 2 rfl) ?_
  obtain ⟨g19, hf⟩ := gd hf
  refine va_iast (pc := 19) (D := Z.1) (n := 12) (f := s9.1 6) hx hb hK hP hD hS 4 0 rfl rfl (inb_in g19) dX7_makes_19 (fun H locs hP hD hS => ?_)
  obtain ⟨s19, h_19, hf⟩ := bd hf
  have hP : va_P Z.1 vwCl (wX7 Z a0 s19) H := st_P (f := fun z => wX7 Z a0 z) h_19 hP
  have hD : va_D A (wX7 Z a0 s19) := st_D (f := fun z => wX7 Z a0 z) h_19 hD
  refine lv_aload_n (pc := 20) hx hb dX7_makes_20 rfl (lv_at hl 0 rfl) ?_
  refine va_get (pc := 21) (D := Z.1) (ci := 7) (v := .ref (a0 8)) (C := RX7) (T := TX7) (N := 41) hx hb hts u7 hown hK hP 0 rfl rfl 7 (by decide) w3 (fun _ h9 => h9) rfl dX7_makes_21 ?_
  refine lv_aload_n (pc := 24) hx hb dX7_makes_24 rfl (lv_at hl 0 rfl) ?_
  refine va_get (pc := 25) (D := Z.1) (ci := 7) (v := .int (s19.1 2 0)) (C := RX7) (T := TX7) (N := 41) hx hb hts u7 hown hK hP 0 rfl rfl 2 (by decide) w1 (fun _ h9 => h9) rfl dX7_makes_25 ?_
  refine lv_iload_n (pc := 28) hx hb dX7_makes_28 rfl (lv_at hl 3 rfl) ?_
  obtain ⟨g29, hf⟩ := gd hf
  refine va_iast (pc := 29) (D := Z.1) (n := 12) (f := s19.1 7) hx hb hK hP hD hS 5 0 rfl rfl (inb_in g29) dX7_makes_29 (fun H locs hP hD hS => ?_)
  obtain ⟨s29, h_29, hf⟩ := bd hf
  have hP : va_P Z.1 vwCl (wX7 Z a0 s29) H := st_P (f := fun z => wX7 Z a0 z) h_29 hP
  have hD : va_D A (wX7 Z a0 s29) := st_D (f := fun z => wX7 Z a0 z) h_29 hD
  refine lv_aload_n (pc := 30) hx hb dX7_makes_30 rfl (lv_at hl 0 rfl) ?_
  refine va_get (pc := 31) (D := Z.1) (ci := 7) (v := .ref (a0 5)) (C := RX7) (T := TX7) (N := 41) hx hb hts u7 hown hK hP 0 rfl rfl 4 (by decide) w4 (fun _ h9 => h9) rfl dX7_makes_31 ?_
  refine lv_aload_n (pc := 34) hx hb dX7_makes_34 rfl (lv_at hl 0 rfl) ?_
  refine va_get (pc := 35) (D := Z.1) (ci := 7) (v := .int (s29.1 2 0)) (C := RX7) (T := TX7) (N := 41) hx hb hts u7 hown hK hP 0 rfl rfl 2 (by decide) w1 (fun _ h9 => h9) rfl dX7_makes_35 ?_
  refine lv_iload (pc := 38) hx hb dX7_makes_38 (lv_at hl 4 rfl) ?_
  obtain ⟨g40, hf⟩ := gd hf
  refine va_iast (pc := 40) (D := Z.1) (n := 12) (f := s29.1 4) hx hb hK hP hD hS 2 0 rfl rfl (inb_in g40) dX7_makes_40 (fun H locs hP hD hS => ?_)
  obtain ⟨s40, h_40, hf⟩ := bd hf
  have hP : va_P Z.1 vwCl (wX7 Z a0 s40) H := st_P (f := fun z => wX7 Z a0 z) h_40 hP
  have hD : va_D A (wX7 Z a0 s40) := st_D (f := fun z => wX7 Z a0 z) h_40 hD
  refine lv_aload_n (pc := 41) hx hb dX7_makes_41 rfl (lv_at hl 0 rfl) ?_
  refine va_get (pc := 42) (D := Z.1) (ci := 7) (v := .ref (a0 6)) (C := RX7) (T := TX7) (N := 41) hx hb hts u7 hown hK hP 0 rfl rfl 5 (by decide) w5 (fun _ h9 => h9) rfl dX7_makes_42 ?_
  refine lv_aload_n (pc := 45) hx hb dX7_makes_45 rfl (lv_at hl 0 rfl) ?_
  refine va_get (pc := 46) (D := Z.1) (ci := 7) (v := .int (s40.1 2 0)) (C := RX7) (T := TX7) (N := 41) hx hb hts u7 hown hK hP 0 rfl rfl 2 (by decide) w1 (fun _ h9 => h9) rfl dX7_makes_46 ?_
  refine lv_iload (pc := 49) hx hb dX7_makes_49 (lv_at hl 5 rfl) ?_
  obtain ⟨g51, hf⟩ := gd hf
  refine va_iast (pc := 51) (D := Z.1) (n := 12) (f := s40.1 5) hx hb hK hP hD hS 3 0 rfl rfl (inb_in g51) dX7_makes_51 (fun H locs hP hD hS => ?_)
  obtain ⟨s51, h_51, hf⟩ := bd hf
  have hP : va_P Z.1 vwCl (wX7 Z a0 s51) H := st_P (f := fun z => wX7 Z a0 z) h_51 hP
  have hD : va_D A (wX7 Z a0 s51) := st_D (f := fun z => wX7 Z a0 z) h_51 hD
  refine lv_aload_n (pc := 52) hx hb dX7_makes_52 rfl (lv_at hl 0 rfl) ?_
  refine lv_dup (pc := 53) hx hb dX7_makes_53 rfl ?_
  refine va_get (pc := 54) (D := Z.1) (ci := 7) (v := .int (s51.1 2 0)) (C := RX7) (T := TX7) (N := 41) hx hb hts u7 hown hK hP 0 rfl rfl 2 (by decide) w1 (fun _ h9 => h9) rfl dX7_makes_54 ?_
  refine lv_iconst (pc := 57) (v := 1) hx hb dX7_makes_57 (by decide) ?_
  refine lv_iadd (pc := 58) hx hb dX7_makes_58 ?_
  refine va_put (pc := 59) (D := Z.1) (ci := 7) (v := .int ((s51.1 2 0) + 1)) (ty := .int) (C := RX7) (T := TX7) (N := 41) hx hb hts u7 tyX7 tyX7_ok nmX7 hown hK hP hD hS 0 rfl rfl 2 (by decide) w1 (fun _ h9 => h9) rfl (by decide +kernel) rfl rfl (Nat.le_of_ble_eq_true rfl) dX7_makes_59 (fun H locs hP hD hS => ?_)
  obtain ⟨s59, h_59, hf⟩ := bd hf
  have hP : va_P Z.1 vwCl (wX7 Z a0 s59) H := st_P (f := fun z => wX7 Z a0 z) h_59 hP
  have hD : va_D A (wX7 Z a0 s59) := st_D (f := fun z => wX7 Z a0 z) h_59 hD
  refine lv_aload_n (pc := 62) hx hb dX7_makes_62 rfl (lv_at hl 0 rfl) ?_
  refine va_get (pc := 63) (D := Z.1) (ci := 7) (v := .int (s59.1 2 0)) (C := RX7) (T := TX7) (N := 41) hx hb hts u7 hown hK hP 0 rfl rfl 2 (by decide) w1 (fun _ h9 => h9) rfl dX7_makes_63 ?_
  refine lv_iconst (pc := 66) (v := 1) hx hb dX7_makes_66 (by decide) ?_
  refine lv_isub (pc := 67) hx hb dX7_makes_67 ?_
  have hf := (Option.some.inj hf)
  subst hf
  exact rw_i (fun _ => 0) hx hb hr hlk rfl hP hD hS dX7_makes_68
def f_X7_source_b58 (o0 : ObS) (x1 : Int32) (x2 : Int32) (k58_0 : Int32) : Option (Int32 × ObS) :=
  (f_X7_holds o0 k58_0).bind fun r58 =>
  if r58.1 = (0 : Int32) then
    some ((0 : Int32), r58.2)
  else
    (f_X7_makes r58.2 0 (-1) (-1) x1 x2).bind fun r72 =>
    some (r72.1, r72.2)
def f_X7_source_b53 (o0 : ObS) (x1 : Int32) (x2 : Int32)  : Option (Int32 × ObS) :=
  f_X7_source_b58 o0 x1 x2 2
def f_X7_source_b27 (o0 : ObS) (x1 : Int32) (x2 : Int32) (k27_0 : Int32) : Option (Int32 × ObS) :=
  if k27_0 = (0 : Int32) then
    f_X7_source_b58 o0 x1 x2 1
  else
    if (o0.1 2 0) = 12 then
      f_X7_source_b53 o0 x1 x2
    else
      if (o0.1 1 0) ≤ (0 : Int32) then
        f_X7_source_b58 o0 x1 x2 0
      else
        f_X7_source_b53 o0 x1 x2
def f_X7_source_b26 (o0 : ObS) (x1 : Int32) (x2 : Int32)  : Option (Int32 × ObS) :=
  f_X7_source_b27 o0 x1 x2 0
def f_X7_source (o0 : ObS) (x1 : Int32) (x2 : Int32) : Option (Int32 × ObS) :=
  if (f_X7_in x1 0 999) = (0 : Int32) then
    f_X7_source_b26 o0 x1 x2
  else
    if (f_X7_in x2 0 300) = (0 : Int32) then
      f_X7_source_b26 o0 x1 x2
    else
      f_X7_source_b27 o0 x1 x2 1
set_option maxHeartbeats 4000000 in
set_option maxRecDepth 100000 in
theorem c_X7_source (Z : EnvT) (l : Launch) (a0 : Nat → Nat) (o0 : ObS) (x1 : Int32) (x2 : Int32) (R : Int32 × ObS) (hf : f_X7_source o0 x1 x2 = some R) : RW Z l yX7_source wsX7_source { frames := 1, cells := 0, slots := 0, locals := 25 } [.ref (a0 0), .int x1, .int x2] (wX7 Z a0 o0) (some (.int R.1)) (fun _ => wX7 Z a0 R.2) 0 0 := by
  refine rw_of (cc := cX7_source) (maxL := 4) (ret := (some .int)) (by decide) rfl (Nat.le_of_ble_eq_true rfl) ?_
  intro p e s m below meth c A ls hx hb hr hml hts hown hlk hin hP hK hE hD hA hS hl
  have hown : s.vm.findClass RX7 = some m.cls := hown
  have hl : lv_has ls 4 [(0, .ref (a0 0)), (1, .int x1), (2, .int x2)] := hl
  have w0 := hts (.fieldLink RX7 121 "HeatTrainModel" "units" "I") (by decide +kernel)
  have w1 := hts (.fieldLink RX7 132 "HeatTrainModel" "now" "I") (by decide +kernel)
  have u7 : ∀ w ∈ wsX70, w ∈ wsX7_source := by decide +kernel
  have B58 : ∀ (k58_0 : Int32) (ls : Array Slot), lv_has ls 4 [(0, .ref (a0 0)), (1, .int x1), (2, .int x2)] → ∀ (H : Heap) (locs : List Loc), va_P Z.1 vwCl (wX7 Z a0 o0) H → va_D A (wX7 Z a0 o0) → va_S A s.heap H locs → f_X7_source_b58 o0 x1 x2 k58_0 = some R → W p l e { frames := 1, cells := 0, slots := 0, locals := 25 } s m ([.ref (a0 0), .int x1, .int x2] : List Value).toArray below meth c H locs 0 0 (MQ below (rwQ Z (some (.int R.1)) (fun _ => wX7 Z a0 R.2) A) ([.ref (a0 0), .int x1, .int x2] : List Value).toArray s 0 0 A) (F0 m 58 ls [.int k58_0, .ref (a0 0)]) := by
    intro k58_0 ls hl H locs hP hD hS hf
    rw [f_X7_source_b58] at hf
    obtain ⟨r58, h_58, hf⟩ := bd hf
    refine rw_V (pc := 58) (C := RX7) (As := [.int k58_0]) (rest := []) (st1 := [.int r58.1]) (wn := fun _ => wX7 Z a0 r58.2) ⟨hx, hb, hml, hown, hts⟩ (c_X7_holds Z l a0 o0 k58_0 r58 h_58) (cwV 1 hts gX7_source_X7_holds rfl rfl rfl hv_X7_holds ⟨Nat.le_of_ble_eq_true rfl, Nat.le_of_ble_eq_true rfl⟩) hK hE hP hD hS hA [0, 1, 2, 3, 4, 5, 6, 7, 8, 9, 10, 11, 12, 13, 14, 15, 16, 17, 18, 19, 20, 21, 22, 23, 24, 25, 26, 27, 28, 29, 30, 31, 32, 33, 34, 35] [] [0, 1, 2, 3, 4, 5, 6, 7, 8, 9, 10, 11, 12, 13, 14, 15, 16, 17, 18, 19, 20, 21, 22, 23, 24, 25, 26, 27, 28, 29, 30, 31, 32, 33, 34, 35] rfl rfl rfl (fun _ => rfl) 7 rfl rfl rfl hl.1 rfl (lv_room (Nat.le_of_ble_eq_true rfl)) dX7_source_58 ⟨Nat.le_of_ble_eq_true rfl, Nat.le_of_ble_eq_true rfl⟩ rfl (fun _ H locs hP hD hS => ?_)
    refine lv_if_ne (pc := 61) (tgt := 66) hx hb dX7_source_61 (by decide) (fun c1 => ?_) (fun c1 => ?_)
    · have hf := (if_neg c1).symm.trans hf
      refine lv_aload_n (pc := 66) hx hb dX7_source_66 rfl (lv_at hl 0 rfl) ?_
      refine lv_iconst (pc := 67) (v := 0) hx hb dX7_source_67 (by decide) ?_
      refine lv_iconst (pc := 68) (v := (-1)) hx hb dX7_source_68 (by decide) ?_
      refine lv_iconst (pc := 69) (v := (-1)) hx hb dX7_source_69 (by decide) ?_
      refine lv_iload_n (pc := 70) hx hb dX7_source_70 rfl (lv_at hl 1 rfl) ?_
      refine lv_iload_n (pc := 71) hx hb dX7_source_71 rfl (lv_at hl 2 rfl) ?_
      obtain ⟨r72, h_72, hf⟩ := bd hf
      refine rw_V (pc := 72) (C := RX7) (As := [.int 0, .int (-1), .int (-1), .int x1, .int x2]) (rest := []) (st1 := [.int r72.1]) (wn := fun _ => wX7 Z a0 r72.2) ⟨hx, hb, hml, hown, hts⟩ (c_X7_makes Z l a0 r58.2 0 (-1) (-1) x1 x2 r72 h_72) (cwV 5 hts gX7_source_X7_makes rfl rfl rfl hv_X7_makes ⟨Nat.le_of_ble_eq_true rfl, Nat.le_of_ble_eq_true rfl⟩) hK hE hP hD hS hA [0, 1, 2, 3, 4, 5, 6, 7, 8, 9, 10, 11, 12, 13, 14, 15, 16, 17, 18, 19, 20, 21, 22, 23, 24, 25, 26, 27, 28, 29, 30, 31, 32, 33, 34, 35] [] [0, 1, 2, 3, 4, 5, 6, 7, 8, 9, 10, 11, 12, 13, 14, 15, 16, 17, 18, 19, 20, 21, 22, 23, 24, 25, 26, 27, 28, 29, 30, 31, 32, 33, 34, 35] rfl rfl rfl (fun _ => rfl) 7 rfl rfl rfl hl.1 rfl (lv_room (Nat.le_of_ble_eq_true rfl)) dX7_source_72 ⟨Nat.le_of_ble_eq_true rfl, Nat.le_of_ble_eq_true rfl⟩ rfl (fun _ H locs hP hD hS => ?_)
      have hf := (Option.some.inj hf)
      subst hf
      exact rw_i (fun _ => 0) hx hb hr hlk rfl hP hD hS dX7_source_75
    · have hf := (if_pos c1).symm.trans hf
      refine lv_iconst (pc := 64) (v := 0) hx hb dX7_source_64 (by decide) ?_
      have hf := (Option.some.inj hf)
      subst hf
      exact rw_i (fun _ => 0) hx hb hr hlk rfl hP hD hS dX7_source_65
  have B53 : ∀ (ls : Array Slot), lv_has ls 4 [(0, .ref (a0 0)), (1, .int x1), (2, .int x2)] → ∀ (H : Heap) (locs : List Loc), va_P Z.1 vwCl (wX7 Z a0 o0) H → va_D A (wX7 Z a0 o0) → va_S A s.heap H locs → f_X7_source_b53 o0 x1 x2 = some R → W p l e { frames := 1, cells := 0, slots := 0, locals := 25 } s m ([.ref (a0 0), .int x1, .int x2] : List Value).toArray below meth c H locs 0 0 (MQ below (rwQ Z (some (.int R.1)) (fun _ => wX7 Z a0 R.2) A) ([.ref (a0 0), .int x1, .int x2] : List Value).toArray s 0 0 A) (F0 m 53 ls [.ref (a0 0)]) := by
    intro ls hl H locs hP hD hS hf
    rw [f_X7_source_b53] at hf
    refine lv_iconst (pc := 53) (v := 2) hx hb dX7_source_53 (by decide) ?_
    refine lv_goto (pc := 54) (tgt := 58) hx hb dX7_source_54 (by decide) ?_
    exact B58 2 _ (lv_sub hl [0, 1, 2] rfl) _ _ hP hD hS hf
  have B27 : ∀ (k27_0 : Int32) (ls : Array Slot), lv_has ls 4 [(0, .ref (a0 0)), (1, .int x1), (2, .int x2)] → ∀ (H : Heap) (locs : List Loc), va_P Z.1 vwCl (wX7 Z a0 o0) H → va_D A (wX7 Z a0 o0) → va_S A s.heap H locs → f_X7_source_b27 o0 x1 x2 k27_0 = some R → W p l e { frames := 1, cells := 0, slots := 0, locals := 25 } s m ([.ref (a0 0), .int x1, .int x2] : List Value).toArray below meth c H locs 0 0 (MQ below (rwQ Z (some (.int R.1)) (fun _ => wX7 Z a0 R.2) A) ([.ref (a0 0), .int x1, .int x2] : List Value).toArray s 0 0 A) (F0 m 27 ls [.int k27_0]) := by
    intro k27_0 ls hl H locs hP hD hS hf
    rw [f_X7_source_b27] at hf
    refine lv_istore_n (pc := 27) (lv' := [(3, .int k27_0), (0, .ref (a0 0)), (1, .int x1), (2, .int x2)]) hx hb dX7_source_27 rfl hl (by decide) rfl (fun ls hl => ?_)
    refine lv_aload_n (pc := 28) hx hb dX7_source_28 rfl (lv_at hl 1 rfl) ?_
    refine lv_iload_n (pc := 29) hx hb dX7_source_29 rfl (lv_at hl 0 rfl) ?_
    refine lv_if_ne (pc := 30) (tgt := 37) hx hb dX7_source_30 (by decide) (fun c1 => ?_) (fun c1 => ?_)
    · have hf := (if_neg c1).symm.trans hf
      refine lv_aload_n (pc := 37) hx hb dX7_source_37 rfl (lv_at hl 1 rfl) ?_
      refine va_get (pc := 38) (D := Z.1) (ci := 7) (v := .int (o0.1 2 0)) (C := RX7) (T := TX7) (N := 41) hx hb hts u7 hown hK hP 0 rfl rfl 2 (by decide) w0 (fun _ h9 => h9) rfl dX7_source_38 ?_
      refine lv_bipush (pc := 41) (v := 12) hx hb dX7_source_41 (by decide) ?_
      refine lv_icmp_eq (pc := 43) (tgt := 53) hx hb dX7_source_43 (by decide) (fun c2 => ?_) (fun c2 => ?_)
      · have hf := (if_pos c2).symm.trans hf
        exact B53 _ (lv_sub hl [1, 2, 3] rfl) _ _ hP hD hS hf
      · have hf := (if_neg c2).symm.trans hf
        refine lv_aload_n (pc := 46) hx hb dX7_source_46 rfl (lv_at hl 1 rfl) ?_
        refine va_get (pc := 47) (D := Z.1) (ci := 7) (v := .int (o0.1 1 0)) (C := RX7) (T := TX7) (N := 41) hx hb hts u7 hown hK hP 0 rfl rfl 1 (by decide) w1 (fun _ h9 => h9) rfl dX7_source_47 ?_
        refine lv_if_le (pc := 50) (tgt := 57) hx hb dX7_source_50 (by decide) (fun c3 => ?_) (fun c3 => ?_)
        · have hf := (if_pos c3).symm.trans hf
          refine lv_iconst (pc := 57) (v := 0) hx hb dX7_source_57 (by decide) ?_
          exact B58 0 _ (lv_sub hl [1, 2, 3] rfl) _ _ hP hD hS hf
        · have hf := (if_neg c3).symm.trans hf
          exact B53 _ (lv_sub hl [1, 2, 3] rfl) _ _ hP hD hS hf
    · have hf := (if_pos c1).symm.trans hf
      refine lv_iconst (pc := 33) (v := 1) hx hb dX7_source_33 (by decide) ?_
      refine lv_goto (pc := 34) (tgt := 58) hx hb dX7_source_34 (by decide) ?_
      exact B58 1 _ (lv_sub hl [1, 2, 3] rfl) _ _ hP hD hS hf
  have B26 : ∀ (ls : Array Slot), lv_has ls 4 [(0, .ref (a0 0)), (1, .int x1), (2, .int x2)] → ∀ (H : Heap) (locs : List Loc), va_P Z.1 vwCl (wX7 Z a0 o0) H → va_D A (wX7 Z a0 o0) → va_S A s.heap H locs → f_X7_source_b26 o0 x1 x2 = some R → W p l e { frames := 1, cells := 0, slots := 0, locals := 25 } s m ([.ref (a0 0), .int x1, .int x2] : List Value).toArray below meth c H locs 0 0 (MQ below (rwQ Z (some (.int R.1)) (fun _ => wX7 Z a0 R.2) A) ([.ref (a0 0), .int x1, .int x2] : List Value).toArray s 0 0 A) (F0 m 26 ls []) := by
    intro ls hl H locs hP hD hS hf
    rw [f_X7_source_b26] at hf
    refine lv_iconst (pc := 26) (v := 0) hx hb dX7_source_26 (by decide) ?_
    exact B27 0 _ (lv_sub hl [0, 1, 2] rfl) _ _ hP hD hS hf
  rw [f_X7_source] at hf
  refine lv_iload_n (pc := 0) hx hb dX7_source_0 rfl (lv_at hl 1 rfl) ?_
  refine lv_iconst (pc := 1) (v := 0) hx hb dX7_source_1 (by decide) ?_
  refine lv_sipush (pc := 2) (v := 999) hx hb dX7_source_2 (by decide) ?_
  refine ro_S (pc := 5) (As := [.int x1, .int 0, .int 999]) (rest := []) (st1 := [.int (f_X7_in x1 0 999)]) ⟨hx, hb, hml, hown, hts⟩ (c_X7_in Z l x1 0 999 _ rfl) (va_cwS 3 hts gX7_source_X7_in rfl rfl rfl hs_X7_in ⟨Nat.le_of_ble_eq_true rfl, Nat.le_of_ble_eq_true rfl⟩) hK hE (hP.sub (ws' := []) [] rfl) rfl hl.1 rfl (lv_room (Nat.le_of_ble_eq_true rfl)) dX7_source_5 ⟨Nat.le_of_ble_eq_true rfl, Nat.le_of_ble_eq_true rfl⟩ rfl ?_
  refine lv_if_eq (pc := 8) (tgt := 26) hx hb dX7_source_8 (by decide) (fun c1 => ?_) (fun c1 => ?_)
  · have hf := (if_pos c1).symm.trans hf
    exact B26 _ (lv_sub hl [0, 1, 2] rfl) _ _ hP hD hS hf
  · have hf := (if_neg c1).symm.trans hf
    refine lv_iload_n (pc := 11) hx hb dX7_source_11 rfl (lv_at hl 2 rfl) ?_
    refine lv_iconst (pc := 12) (v := 0) hx hb dX7_source_12 (by decide) ?_
    refine lv_sipush (pc := 13) (v := 300) hx hb dX7_source_13 (by decide) ?_
    refine ro_S (pc := 16) (As := [.int x2, .int 0, .int 300]) (rest := []) (st1 := [.int (f_X7_in x2 0 300)]) ⟨hx, hb, hml, hown, hts⟩ (c_X7_in Z l x2 0 300 _ rfl) (va_cwS 3 hts gX7_source_X7_in rfl rfl rfl hs_X7_in ⟨Nat.le_of_ble_eq_true rfl, Nat.le_of_ble_eq_true rfl⟩) hK hE (hP.sub (ws' := []) [] rfl) rfl hl.1 rfl (lv_room (Nat.le_of_ble_eq_true rfl)) dX7_source_16 ⟨Nat.le_of_ble_eq_true rfl, Nat.le_of_ble_eq_true rfl⟩ rfl ?_
    refine lv_if_eq (pc := 19) (tgt := 26) hx hb dX7_source_19 (by decide) (fun c2 => ?_) (fun c2 => ?_)
    · have hf := (if_pos c2).symm.trans hf
      exact B26 _ (lv_sub hl [0, 1, 2] rfl) _ _ hP hD hS hf
    · have hf := (if_neg c2).symm.trans hf
      refine lv_iconst (pc := 22) (v := 1) hx hb dX7_source_22 (by decide) ?_
      refine lv_goto (pc := 23) (tgt := 27) hx hb dX7_source_23 (by decide) ?_
      exact B27 1 _ (lv_sub hl [0, 1, 2] rfl) _ _ hP hD hS hf
