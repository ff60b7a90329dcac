def f_X6_needNoTickGone (h : Nat → ObS) : Option (Nat ⊕ Unit) :=
  if ((h 0).1 7 0) ≤ (0 : Int32) then
    some (.inr (()))
  else
    some (.inl 2)
set_option maxHeartbeats 4000000 in
set_option maxRecDepth 100000 in
theorem c_X6_needNoTickGone (Z : EnvT) (l : Launch) (hst : l.stackTraces = false) (b : Nat → Nat → Nat) (h : Nat → ObS) (R : Nat ⊕ Unit) (hf : f_X6_needNoTickGone h = some R) : TH Z l yX6_needNoTickGone wsX6_needNoTickGone { frames := 6, cells := 1, slots := 6, locals := 92 } [.ref (b 0 0)] (wH Z b h) R (fun (r : Unit) => none) (fun (r : Unit) _ => wH Z b h) 1 6 := by
  refine th_of (cc := cX6_needNoTickGone) (maxL := 1) (ret := none) (by decide) rfl (Nat.le_of_ble_eq_true rfl) ?_
  intro p e s m below meth c A ls hx hb hr hml hts hown hlk hno hP hK hE hD hA hS hZ hl
  have hown : s.vm.findClass RX6 = some m.cls := hown
  have hl : lv_has ls 1 [(0, .ref (b 0 0))] := hl
  have w0 := hts (.fieldLink RX6 54 "HeatTrain" "ticksGone" "I") (by decide +kernel)
  have w1 := hts (.classLink RX6 90 "java/lang/IllegalStateException") (by decide +kernel)
  have w2 := hts (.initialized "java/lang/IllegalStateException") (by decide +kernel)
  have u6 : ∀ w ∈ wsX60, w ∈ wsX6_needNoTickGone := by decide +kernel
  have he2 : ∀ w ∈ (vx_atS RX6 94 (exN 2) exS).filter goodWord, w.before _ s = true := fun w h => hts w ((show ∀ w ∈ (vx_atS RX6 94 (exN 2) exS).filter goodWord, w ∈ wsX6_needNoTickGone by decide +kernel) w h)
  rw [f_X6_needNoTickGone] at hf
  refine lv_aload_n (pc := 0) hx hb dX6_needNoTickGone_0 rfl (lv_at hl 0 rfl) ?_
  refine va_get (pc := 1) (D := Z.1) (ci := 6) (v := .int ((h 0).1 7 0)) (C := RX6) (T := TX6) (N := 9) hx hb hts u6 hown hK hP 0 rfl rfl 7 (by decide) w0 (fun _ h9 => h9) rfl dX6_needNoTickGone_1 ?_
  refine lv_if_le (pc := 4) (tgt := 18) hx hb dX6_needNoTickGone_4 (by decide) (fun c1 => ?_) (fun c1 => ?_)
  · have hf := (if_pos c1).symm.trans hf
    have hf := (Option.some.inj hf).symm
    refine W.widen (k := 1) (n := 6) (Nat.le_of_ble_eq_true rfl) (Nat.le_of_ble_eq_true rfl) ?_
    refine th_ret hf ?_
    exact rw_v (fun _ => 0) hx hb hr hlk hP hD hS dX6_needNoTickGone_18
  · have hf := (if_neg c1).symm.trans hf
    exact th_throwW (pc := 7) (i := 19) (text := "a tick has gone by") hx hb hst hown hno hlk thW_2 w1 w2 hE (by decide) rfl he2 hZ hS hP hD (hl.1.trans hml.symm) dX6_needNoTickGone_7 dX6_needNoTickGone_10 dX6_needNoTickGone_11 dX6_needNoTickGone_14 dX6_needNoTickGone_17 (Nat.le_of_ble_eq_true rfl) (Nat.le_of_ble_eq_true rfl) (Nat.le_of_ble_eq_true rfl) (Nat.le_of_ble_eq_true rfl) (Nat.le_of_ble_eq_true rfl) (Nat.le_of_ble_eq_true rfl) (Option.some.inj hf).symm
def f_X6_needUnit (h : Nat → ObS) (x1 : Int32) : Option (Nat ⊕ Unit) :=
  if (f_X6_isOutside x1 0 ((f_X5_count (h 3)) - 1)) = (0 : Int32) then
    some (.inr (()))
  else
    some (.inl 3)
set_option maxHeartbeats 4000000 in
set_option maxRecDepth 100000 in
theorem c_X6_needUnit (Z : EnvT) (l : Launch) (hst : l.stackTraces = false) (b : Nat → Nat → Nat) (h : Nat → ObS) (x1 : Int32) (R : Nat ⊕ Unit) (hf : f_X6_needUnit h x1 = some R) : TH Z l yX6_needUnit wsX6_needUnit { frames := 6, cells := 1, slots := 6, locals := 92 } [.ref (b 0 0), .int x1] (wH Z b h) R (fun (r : Unit) => none) (fun (r : Unit) _ => wH Z b h) 1 6 := by
  refine th_of (cc := cX6_needUnit) (maxL := 2) (ret := none) (by decide) rfl (Nat.le_of_ble_eq_true rfl) ?_
  intro p e s m below meth c A ls hx hb hr hml hts hown hlk hno hP hK hE hD hA hS hZ hl
  have hown : s.vm.findClass RX6 = some m.cls := hown
  have hl : lv_has ls 2 [(0, .ref (b 0 0)), (1, .int x1)] := hl
  have w0 := hts (.fieldLink RX6 22 "HeatTrain" "units" "LHeatTrain$Units;") (by decide +kernel)
  have w1 := hts (.classLink RX6 221 "java/lang/IndexOutOfBoundsException") (by decide +kernel)
  have w2 := hts (.initialized "java/lang/IndexOutOfBoundsException") (by decide +kernel)
  have u6 : ∀ w ∈ wsX60, w ∈ wsX6_needUnit := by decide +kernel
  have he3 : ∀ w ∈ (vx_atS RX6 225 (exN 3) exS).filter goodWord, w.before _ s = true := fun w h => hts w ((show ∀ w ∈ (vx_atS RX6 225 (exN 3) exS).filter goodWord, w ∈ wsX6_needUnit by decide +kernel) w h)
  rw [f_X6_needUnit] at hf
  refine lv_iload_n (pc := 0) hx hb dX6_needUnit_0 rfl (lv_at hl 1 rfl) ?_
  refine lv_iconst (pc := 1) (v := 0) hx hb dX6_needUnit_1 (by decide) ?_
  refine lv_aload_n (pc := 2) hx hb dX6_needUnit_2 rfl (lv_at hl 0 rfl) ?_
  refine va_get (pc := 3) (D := Z.1) (ci := 6) (v := .ref (b 3 0)) (C := RX6) (T := TX6) (N := 9) hx hb hts u6 hown hK hP 0 rfl rfl 2 (by decide) w0 (fun _ h9 => h9) rfl dX6_needUnit_3 ?_
  refine ro_V (pc := 6) (C := RX5) (As := []) (rest := [.int 0, .int x1]) (st1 := [.int (f_X5_count (h 3)), .int 0, .int x1]) ⟨hx, hb, hml, hown, hts⟩ (c_X5_count Z l (b 3) (h 3) _ rfl) (cwV 0 hts gX6_needUnit_X5_count rfl rfl rfl hv_X5_count ⟨Nat.le_of_ble_eq_true rfl, Nat.le_of_ble_eq_true rfl⟩) hK hE (hP.sub (ws' := wX5 Z (b 3) (h 3)) [7, 8, 9, 10, 11, 12, 13, 14, 15] rfl) 5 rfl rfl rfl hl.1 rfl (lv_room (Nat.le_of_ble_eq_true rfl)) dX6_needUnit_6 ⟨Nat.le_of_ble_eq_true rfl, Nat.le_of_ble_eq_true rfl⟩ rfl ?_
  refine lv_iconst (pc := 9) (v := 1) hx hb dX6_needUnit_9 (by decide) ?_
  refine lv_isub (pc := 10) hx hb dX6_needUnit_10 ?_
  refine ro_S (pc := 11) (As := [.int x1, .int 0, .int ((f_X5_count (h 3)) - 1)]) (rest := []) (st1 := [.int (f_X6_isOutside x1 0 ((f_X5_count (h 3)) - 1))]) ⟨hx, hb, hml, hown, hts⟩ (c_X6_isOutside Z l x1 0 ((f_X5_count (h 3)) - 1) _ rfl) (va_cwS 3 hts gX6_needUnit_X6_isOutside rfl rfl rfl hs_X6_isOutside ⟨Nat.le_of_ble_eq_true rfl, Nat.le_of_ble_eq_true rfl⟩) hK hE (hP.sub (ws' := []) [] rfl) rfl hl.1 rfl (lv_room (Nat.le_of_ble_eq_true rfl)) dX6_needUnit_11 ⟨Nat.le_of_ble_eq_true rfl, Nat.le_of_ble_eq_true rfl⟩ rfl ?_
  refine lv_if_eq (pc := 14) (tgt := 27) hx hb dX6_needUnit_14 (by decide) (fun c1 => ?_) (fun c1 => ?_)
  · have hf := (if_pos c1).symm.trans hf
    have hf := (Option.some.inj hf).symm
    refine W.widen (k := 1) (n := 6) (Nat.le_of_ble_eq_true rfl) (Nat.le_of_ble_eq_true rfl) ?_
    refine th_ret hf ?_
    exact rw_v (fun _ => 0) hx hb hr hlk hP hD hS dX6_needUnit_27
  · have hf := (if_neg c1).symm.trans hf
    exact th_throw (pc := 17) (i := 14) (text := "there is no such unit") hx hb hst hown hno hlk thW_3 w1 w2 hE (by decide) rfl he3 hZ hS hP hD (hl.1.trans hml.symm) dX6_needUnit_17 dX6_needUnit_20 dX6_needUnit_21 dX6_needUnit_23 dX6_needUnit_26 (Nat.le_of_ble_eq_true rfl) (Nat.le_of_ble_eq_true rfl) (Nat.le_of_ble_eq_true rfl) (Nat.le_of_ble_eq_true rfl) (Nat.le_of_ble_eq_true rfl) (Nat.le_of_ble_eq_true rfl) (Option.some.inj hf).symm
def f_X6_needStream (h : Nat → ObS) (x1 : Int32) : Option (Nat ⊕ Unit) :=
  if (f_X6_isOutside x1 0 ((2 * (f_X5_count (h 3))) - 1)) = (0 : Int32) then
    some (.inr (()))
  else
    some (.inl 3)
set_option maxHeartbeats 4000000 in
set_option maxRecDepth 100000 in
theorem c_X6_needStream (Z : EnvT) (l : Launch) (hst : l.stackTraces = false) (b : Nat → Nat → Nat) (h : Nat → ObS) (x1 : Int32) (R : Nat ⊕ Unit) (hf : f_X6_needStream h x1 = some R) : TH Z l yX6_needStream wsX6_needStream { frames := 6, cells := 1, slots := 6, locals := 92 } [.ref (b 0 0), .int x1] (wH Z b h) R (fun (r : Unit) => none) (fun (r : Unit) _ => wH Z b h) 1 6 := by
  refine th_of (cc := cX6_needStream) (maxL := 2) (ret := none) (by decide) rfl (Nat.le_of_ble_eq_true rfl) ?_
  intro p e s m below meth c A ls hx hb hr hml hts hown hlk hno hP hK hE hD hA hS hZ hl
  have hown : s.vm.findClass RX6 = some m.cls := hown
  have hl : lv_has ls 2 [(0, .ref (b 0 0)), (1, .int x1)] := hl
  have w0 := hts (.fieldLink RX6 22 "HeatTrain" "units" "LHeatTrain$Units;") (by decide +kernel)
  have w1 := hts (.classLink RX6 221 "java/lang/IndexOutOfBoundsException") (by decide +kernel)
  have w2 := hts (.initialized "java/lang/IndexOutOfBoundsException") (by decide +kernel)
  have u6 : ∀ w ∈ wsX60, w ∈ wsX6_needStream := by decide +kernel
  have he3 : ∀ w ∈ (vx_atS RX6 225 (exN 3) exS).filter goodWord, w.before _ s = true := fun w h => hts w ((show ∀ w ∈ (vx_atS RX6 225 (exN 3) exS).filter goodWord, w ∈ wsX6_needStream by decide +kernel) w h)
  rw [f_X6_needStream] at hf
  refine lv_iload_n (pc := 0) hx hb dX6_needStream_0 rfl (lv_at hl 1 rfl) ?_
  refine lv_iconst (pc := 1) (v := 0) hx hb dX6_needStream_1 (by decide) ?_
  refine lv_iconst (pc := 2) (v := 2) hx hb dX6_needStream_2 (by decide) ?_
  refine lv_aload_n (pc := 3) hx hb dX6_needStream_3 rfl (lv_at hl 0 rfl) ?_
  refine va_get (pc := 4) (D := Z.1) (ci := 6) (v := .ref (b 3 0)) (C := RX6) (T := TX6) (N := 9) hx hb hts u6 hown hK hP 0 rfl rfl 2 (by decide) w0 (fun _ h9 => h9) rfl dX6_needStream_4 ?_
  refine ro_V (pc := 7) (C := RX5) (As := []) (rest := [.int 2, .int 0, .int x1]) (st1 := [.int (f_X5_count (h 3)), .int 2, .int 0, .int x1]) ⟨hx, hb, hml, hown, hts⟩ (c_X5_count Z l (b 3) (h 3) _ rfl) (cwV 0 hts gX6_needStream_X5_count rfl rfl rfl hv_X5_count ⟨Nat.le_of_ble_eq_true rfl, Nat.le_of_ble_eq_true rfl⟩) hK hE (hP.sub (ws' := wX5 Z (b 3) (h 3)) [7, 8, 9, 10, 11, 12, 13, 14, 15] rfl) 5 rfl rfl rfl hl.1 rfl (lv_room (Nat.le_of_ble_eq_true rfl)) dX6_needStream_7 ⟨Nat.le_of_ble_eq_true rfl, Nat.le_of_ble_eq_true rfl⟩ rfl ?_
  refine lv_imul (pc := 10) hx hb dX6_needStream_10 ?_
  refine lv_iconst (pc := 11) (v := 1) hx hb dX6_needStream_11 (by decide) ?_
  refine lv_isub (pc := 12) hx hb dX6_needStream_12 ?_
  refine ro_S (pc := 13) (As := [.int x1, .int 0, .int ((2 * (f_X5_count (h 3))) - 1)]) (rest := []) (st1 := [.int (f_X6_isOutside x1 0 ((2 * (f_X5_count (h 3))) - 1))]) ⟨hx, hb, hml, hown, hts⟩ (c_X6_isOutside Z l x1 0 ((2 * (f_X5_count (h 3))) - 1) _ rfl) (va_cwS 3 hts gX6_needStream_X6_isOutside rfl rfl rfl hs_X6_isOutside ⟨Nat.le_of_ble_eq_true rfl, Nat.le_of_ble_eq_true rfl⟩) hK hE (hP.sub (ws' := []) [] rfl) rfl hl.1 rfl (lv_room (Nat.le_of_ble_eq_true rfl)) dX6_needStream_13 ⟨Nat.le_of_ble_eq_true rfl, Nat.le_of_ble_eq_true rfl⟩ rfl ?_
  refine lv_if_eq (pc := 16) (tgt := 30) hx hb dX6_needStream_16 (by decide) (fun c1 => ?_) (fun c1 => ?_)
  · have hf := (if_pos c1).symm.trans hf
    have hf := (Option.some.inj hf).symm
    refine W.widen (k := 1) (n := 6) (Nat.le_of_ble_eq_true rfl) (Nat.le_of_ble_eq_true rfl) ?_
    refine th_ret hf ?_
    exact rw_v (fun _ => 0) hx hb hr hlk hP hD hS dX6_needStream_30
  · have hf := (if_neg c1).symm.trans hf
    exact th_throwW (pc := 19) (i := 15) (text := "there is no such stream") hx hb hst hown hno hlk thW_3 w1 w2 hE (by decide) rfl he3 hZ hS hP hD (hl.1.trans hml.symm) dX6_needStream_19 dX6_needStream_22 dX6_needStream_23 dX6_needStream_26 dX6_needStream_29 (Nat.le_of_ble_eq_true rfl) (Nat.le_of_ble_eq_true rfl) (Nat.le_of_ble_eq_true rfl) (Nat.le_of_ble_eq_true rfl) (Nat.le_of_ble_eq_true rfl) (Nat.le_of_ble_eq_true rfl) (Option.some.inj hf).symm
def f_X6_needStreamForNewUnit (h : Nat → ObS) (x1 : Int32) : Option (Nat ⊕ Unit) :=
  if (f_X6_isOutside x1 0 ((2 * (f_X5_count (h 3))) + 1)) = (0 : Int32) then
    some (.inr (()))
  else
    some (.inl 3)
set_option maxHeartbeats 4000000 in
set_option maxRecDepth 100000 in
theorem c_X6_needStreamForNewUnit (Z : EnvT) (l : Launch) (hst : l.stackTraces = false) (b : Nat → Nat → Nat) (h : Nat → ObS) (x1 : Int32) (R : Nat ⊕ Unit) (hf : f_X6_needStreamForNewUnit h x1 = some R) : TH Z l yX6_needStreamForNewUnit wsX6_needStreamForNewUnit { frames := 6, cells := 1, slots := 6, locals := 92 } [.ref (b 0 0), .int x1] (wH Z b h) R (fun (r : Unit) => none) (fun (r : Unit) _ => wH Z b h) 1 6 := by
  refine th_of (cc := cX6_needStreamForNewUnit) (maxL := 2) (ret := none) (by decide) rfl (Nat.le_of_ble_eq_true rfl) ?_
  intro p e s m below meth c A ls hx hb hr hml hts hown hlk hno hP hK hE hD hA hS hZ hl
  have hown : s.vm.findClass RX6 = some m.cls := hown
  have hl : lv_has ls 2 [(0, .ref (b 0 0)), (1, .int x1)] := hl
  have w0 := hts (.fieldLink RX6 22 "HeatTrain" "units" "LHeatTrain$Units;") (by decide +kernel)
  have w1 := hts (.classLink RX6 221 "java/lang/IndexOutOfBoundsException") (by decide +kernel)
  have w2 := hts (.initialized "java/lang/IndexOutOfBoundsException") (by decide +kernel)
  have u6 : ∀ w ∈ wsX60, w ∈ wsX6_needStreamForNewUnit := by decide +kernel
  have he3 : ∀ w ∈ (vx_atS RX6 225 (exN 3) exS).filter goodWord, w.before _ s = true := fun w h => hts w ((show ∀ w ∈ (vx_atS RX6 225 (exN 3) exS).filter goodWord, w ∈ wsX6_needStreamForNewUnit by decide +kernel) w h)
  rw [f_X6_needStreamForNewUnit] at hf
  refine lv_iload_n (pc := 0) hx hb dX6_needStreamForNewUnit_0 rfl (lv_at hl 1 rfl) ?_
  refine lv_iconst (pc := 1) (v := 0) hx hb dX6_needStreamForNewUnit_1 (by decide) ?_
  refine lv_iconst (pc := 2) (v := 2) hx hb dX6_needStreamForNewUnit_2 (by decide) ?_
  refine lv_aload_n (pc := 3) hx hb dX6_needStreamForNewUnit_3 rfl (lv_at hl 0 rfl) ?_
  refine va_get (pc := 4) (D := Z.1) (ci := 6) (v := .ref (b 3 0)) (C := RX6) (T := TX6) (N := 9) hx hb hts u6 hown hK hP 0 rfl rfl 2 (by decide) w0 (fun _ h9 => h9) rfl dX6_needStreamForNewUnit_4 ?_
  refine ro_V (pc := 7) (C := RX5) (As := []) (rest := [.int 2, .int 0, .int x1]) (st1 := [.int (f_X5_count (h 3)), .int 2, .int 0, .int x1]) ⟨hx, hb, hml, hown, hts⟩ (c_X5_count Z l (b 3) (h 3) _ rfl) (cwV 0 hts gX6_needStreamForNewUnit_X5_count rfl rfl rfl hv_X5_count ⟨Nat.le_of_ble_eq_true rfl, Nat.le_of_ble_eq_true rfl⟩) hK hE (hP.sub (ws' := wX5 Z (b 3) (h 3)) [7, 8, 9, 10, 11, 12, 13, 14, 15] rfl) 5 rfl rfl rfl hl.1 rfl (lv_room (Nat.le_of_ble_eq_true rfl)) dX6_needStreamForNewUnit_7 ⟨Nat.le_of_ble_eq_true rfl, Nat.le_of_ble_eq_true rfl⟩ rfl ?_
  refine lv_imul (pc := 10) hx hb dX6_needStreamForNewUnit_10 ?_
  refine lv_iconst (pc := 11) (v := 1) hx hb dX6_needStreamForNewUnit_11 (by decide) ?_
  refine lv_iadd (pc := 12) hx hb dX6_needStreamForNewUnit_12 ?_
  refine ro_S (pc := 13) (As := [.int x1, .int 0, .int ((2 * (f_X5_count (h 3))) + 1)]) (rest := []) (st1 := [.int (f_X6_isOutside x1 0 ((2 * (f_X5_count (h 3))) + 1))]) ⟨hx, hb, hml, hown, hts⟩ (c_X6_isOutside Z l x1 0 ((2 * (f_X5_count (h 3))) + 1) _ rfl) (va_cwS 3 hts gX6_needStreamForNewUnit_X6_isOutside rfl rfl rfl hs_X6_isOutside ⟨Nat.le_of_ble_eq_true rfl, Nat.le_of_ble_eq_true rfl⟩) hK hE (hP.sub (ws' := []) [] rfl) rfl hl.1 rfl (lv_room (Nat.le_of_ble_eq_true rfl)) dX6_needStreamForNewUnit_13 ⟨Nat.le_of_ble_eq_true rfl, Nat.le_of_ble_eq_true rfl⟩ rfl ?_
  refine lv_if_eq (pc := 16) (tgt := 30) hx hb dX6_needStreamForNewUnit_16 (by decide) (fun c1 => ?_) (fun c1 => ?_)
  · have hf := (if_pos c1).symm.trans hf
    have hf := (Option.some.inj hf).symm
    refine W.widen (k := 1) (n := 6) (Nat.le_of_ble_eq_true rfl) (Nat.le_of_ble_eq_true rfl) ?_
    refine th_ret hf ?_
    exact rw_v (fun _ => 0) hx hb hr hlk hP hD hS dX6_needStreamForNewUnit_30
  · have hf := (if_neg c1).symm.trans hf
    exact th_throwW (pc := 19) (i := 16) (text := "there is no such stream for the new unit") hx hb hst hown hno hlk thW_3 w1 w2 hE (by decide) rfl he3 hZ hS hP hD (hl.1.trans hml.symm) dX6_needStreamForNewUnit_19 dX6_needStreamForNewUnit_22 dX6_needStreamForNewUnit_23 dX6_needStreamForNewUnit_26 dX6_needStreamForNewUnit_29 (Nat.le_of_ble_eq_true rfl) (Nat.le_of_ble_eq_true rfl) (Nat.le_of_ble_eq_true rfl) (Nat.le_of_ble_eq_true rfl) (Nat.le_of_ble_eq_true rfl) (Nat.le_of_ble_eq_true rfl) (Option.some.inj hf).symm
def f_X6_needFreeStream (h : Nat → ObS) (x1 : Int32) : Option (Nat ⊕ Unit) :=
  (f_X5_isTaken (h 3) x1).bind fun r5 =>
  if r5 = (0 : Int32) then
    some (.inr (()))
  else
    some (.inl 2)
set_option maxHeartbeats 4000000 in
set_option maxRecDepth 100000 in
theorem c_X6_needFreeStream (Z : EnvT) (l : Launch) (hst : l.stackTraces = false) (b : Nat → Nat → Nat) (h : Nat → ObS) (x1 : Int32) (R : Nat ⊕ Unit) (hf : f_X6_needFreeStream h x1 = some R) : TH Z l yX6_needFreeStream wsX6_needFreeStream { frames := 6, cells := 1, slots := 6, locals := 92 } [.ref (b 0 0), .int x1] (wH Z b h) R (fun (r : Unit) => none) (fun (r : Unit) _ => wH Z b h) 1 6 := by
  refine th_of (cc := cX6_needFreeStream) (maxL := 2) (ret := none) (by decide) rfl (Nat.le_of_ble_eq_true rfl) ?_
  intro p e s m below meth c A ls hx hb hr hml hts hown hlk hno hP hK hE hD hA hS hZ hl
  have hown : s.vm.findClass RX6 = some m.cls := hown
  have hl : lv_has ls 2 [(0, .ref (b 0 0)), (1, .int x1)] := hl
  have w0 := hts (.fieldLink RX6 22 "HeatTrain" "units" "LHeatTrain$Units;") (by decide +kernel)
  have w1 := hts (.classLink RX6 90 "java/lang/IllegalStateException") (by decide +kernel)
  have w2 := hts (.initialized "java/lang/IllegalStateException") (by decide +kernel)
  have u6 : ∀ w ∈ wsX60, w ∈ wsX6_needFreeStream := by decide +kernel
  have he2 : ∀ w ∈ (vx_atS RX6 94 (exN 2) exS).filter goodWord, w.before _ s = true := fun w h => hts w ((show ∀ w ∈ (vx_atS RX6 94 (exN 2) exS).filter goodWord, w ∈ wsX6_needFreeStream by decide +kernel) w h)
  rw [f_X6_needFreeStream] at hf
  refine lv_aload_n (pc := 0) hx hb dX6_needFreeStream_0 rfl (lv_at hl 0 rfl) ?_
  refine va_get (pc := 1) (D := Z.1) (ci := 6) (v := .ref (b 3 0)) (C := RX6) (T := TX6) (N := 9) hx hb hts u6 hown hK hP 0 rfl rfl 2 (by decide) w0 (fun _ h9 => h9) rfl dX6_needFreeStream_1 ?_
  refine lv_iload_n (pc := 4) hx hb dX6_needFreeStream_4 rfl (lv_at hl 1 rfl) ?_
  obtain ⟨r5, h_5, hf⟩ := bd hf
  refine ro_V (pc := 5) (C := RX5) (As := [.int x1]) (rest := []) (st1 := [.int r5]) ⟨hx, hb, hml, hown, hts⟩ (c_X5_isTaken Z l (b 3) (h 3) x1 r5 h_5) (cwV 1 hts gX6_needFreeStream_X5_isTaken rfl rfl rfl hv_X5_isTaken ⟨Nat.le_of_ble_eq_true rfl, Nat.le_of_ble_eq_true rfl⟩) hK hE (hP.sub (ws' := wX5 Z (b 3) (h 3)) [7, 8, 9, 10, 11, 12, 13, 14, 15] rfl) 5 rfl rfl rfl hl.1 rfl (lv_room (Nat.le_of_ble_eq_true rfl)) dX6_needFreeStream_5 ⟨Nat.le_of_ble_eq_true rfl, Nat.le_of_ble_eq_true rfl⟩ rfl ?_
  refine lv_if_eq (pc := 8) (tgt := 22) hx hb dX6_needFreeStream_8 (by decide) (fun c1 => ?_) (fun c1 => ?_)
  · have hf := (if_pos c1).symm.trans hf
    have hf := (Option.some.inj hf).symm
    refine W.widen (k := 1) (n := 6) (Nat.le_of_ble_eq_true rfl) (Nat.le_of_ble_eq_true rfl) ?_
    refine th_ret hf ?_
    exact rw_v (fun _ => 0) hx hb hr hlk hP hD hS dX6_needFreeStream_22
  · have hf := (if_neg c1).symm.trans hf
    exact th_throwW (pc := 11) (i := 17) (text := "the stream is taken already") hx hb hst hown hno hlk thW_2 w1 w2 hE (by decide) rfl he2 hZ hS hP hD (hl.1.trans hml.symm) dX6_needFreeStream_11 dX6_needFreeStream_14 dX6_needFreeStream_15 dX6_needFreeStream_18 dX6_needFreeStream_21 (Nat.le_of_ble_eq_true rfl) (Nat.le_of_ble_eq_true rfl) (Nat.le_of_ble_eq_true rfl) (Nat.le_of_ble_eq_true rfl) (Nat.le_of_ble_eq_true rfl) (Nat.le_of_ble_eq_true rfl) (Option.some.inj hf).symm
def f_X6_needRoomForUnit (h : Nat → ObS) : Option (Nat ⊕ Unit) :=
  if (f_X5_count (h 3)) < 12 then
    tb (f_X6_needNoTickGone h) fun r24 =>
    some (.inr (()))
  else
    some (.inl 2)
set_option maxHeartbeats 4000000 in
set_option maxRecDepth 100000 in
theorem c_X6_needRoomForUnit (Z : EnvT) (l : Launch) (hst : l.stackTraces = false) (b : Nat → Nat → Nat) (h : Nat → ObS) (R : Nat ⊕ Unit) (hf : f_X6_needRoomForUnit h = some R) : TH Z l yX6_needRoomForUnit wsX6_needRoomForUnit { frames := 7, cells := 1, slots := 6, locals := 112 } [.ref (b 0 0)] (wH Z b h) R (fun (r : Unit) => none) (fun (r : Unit) _ => wH Z b h) 1 6 := by
  refine th_of (cc := cX6_needRoomForUnit) (maxL := 1) (ret := none) (by decide) rfl (Nat.le_of_ble_eq_true rfl) ?_
  intro p e s m below meth c A ls hx hb hr hml hts hown hlk hno hP hK hE hD hA hS hZ hl
  have hown : s.vm.findClass RX6 = some m.cls := hown
  have hl : lv_has ls 1 [(0, .ref (b 0 0))] := hl
  have w0 := hts (.fieldLink RX6 22 "HeatTrain" "units" "LHeatTrain$Units;") (by decide +kernel)
  have w1 := hts (.classLink RX6 90 "java/lang/IllegalStateException") (by decide +kernel)
  have w2 := hts (.initialized "java/lang/IllegalStateException") (by decide +kernel)
  have u6 : ∀ w ∈ wsX60, w ∈ wsX6_needRoomForUnit := by decide +kernel
  have he2 : ∀ w ∈ (vx_atS RX6 94 (exN 2) exS).filter goodWord, w.before _ s = true := fun w h => hts w ((show ∀ w ∈ (vx_atS RX6 94 (exN 2) exS).filter goodWord, w ∈ wsX6_needRoomForUnit by decide +kernel) w h)
  rw [f_X6_needRoomForUnit] at hf
  refine lv_aload_n (pc := 0) hx hb dX6_needRoomForUnit_0 rfl (lv_at hl 0 rfl) ?_
  refine va_get (pc := 1) (D := Z.1) (ci := 6) (v := .ref (b 3 0)) (C := RX6) (T := TX6) (N := 9) hx hb hts u6 hown hK hP 0 rfl rfl 2 (by decide) w0 (fun _ h9 => h9) rfl dX6_needRoomForUnit_1 ?_
  refine ro_V (pc := 4) (C := RX5) (As := []) (rest := []) (st1 := [.int (f_X5_count (h 3))]) ⟨hx, hb, hml, hown, hts⟩ (c_X5_count Z l (b 3) (h 3) _ rfl) (cwV 0 hts gX6_needRoomForUnit_X5_count rfl rfl rfl hv_X5_count ⟨Nat.le_of_ble_eq_true rfl, Nat.le_of_ble_eq_true rfl⟩) hK hE (hP.sub (ws' := wX5 Z (b 3) (h 3)) [7, 8, 9, 10, 11, 12, 13, 14, 15] rfl) 5 rfl rfl rfl hl.1 rfl (lv_room (Nat.le_of_ble_eq_true rfl)) dX6_needRoomForUnit_4 ⟨Nat.le_of_ble_eq_true rfl, Nat.le_of_ble_eq_true rfl⟩ rfl ?_
  refine lv_bipush (pc := 7) (v := 12) hx hb dX6_needRoomForUnit_7 (by decide) ?_
  refine lv_icmp_lt (pc := 9) (tgt := 23) hx hb dX6_needRoomForUnit_9 (by decide) (fun c1 => ?_) (fun c1 => ?_)
  · have hf := (if_pos c1).symm.trans hf
    refine lv_aload_n (pc := 23) hx hb dX6_needRoomForUnit_23 rfl (lv_at hl 0 rfl) ?_
    rcases tbd hf with ⟨k24, h_24, hf⟩ | ⟨r24, h_24, hf⟩
    · exact th_Vx (pc := 24) (C := RX6) (As := []) (rest := []) ⟨hx, hb, hml, hown, hts⟩ (c_X6_needNoTickGone Z l hst b h (.inl k24) h_24) (cwV 0 hts gX6_needRoomForUnit_X6_needNoTickGone rfl rfl rfl hv_X6_needNoTickGone ⟨Nat.le_of_ble_eq_true rfl, Nat.le_of_ble_eq_true rfl⟩) hK hE hP hD hS hA hZ 6 rfl rfl rfl hl.1 rfl (lv_room (Nat.le_of_ble_eq_true rfl)) dX6_needRoomForUnit_24 ⟨Nat.le_of_ble_eq_true rfl, Nat.le_of_ble_eq_true rfl⟩ hno hlk (Nat.le_of_ble_eq_true rfl) (Nat.le_of_ble_eq_true rfl) hf
    · refine th_Vn (pc := 24) (C := RX6) (As := []) (rest := []) (st1 := []) ⟨hx, hb, hml, hown, hts⟩ (c_X6_needNoTickGone Z l hst b h (.inr r24) h_24) (cwV 0 hts gX6_needRoomForUnit_X6_needNoTickGone rfl rfl rfl hv_X6_needNoTickGone ⟨Nat.le_of_ble_eq_true rfl, Nat.le_of_ble_eq_true rfl⟩) hK hE hP hD hS hA hZ 6 rfl rfl rfl hl.1 rfl (lv_room (Nat.le_of_ble_eq_true rfl)) dX6_needRoomForUnit_24 ⟨Nat.le_of_ble_eq_true rfl, Nat.le_of_ble_eq_true rfl⟩ rfl (fun _ H locs hP hD hS => ?_)
      have hf := (Option.some.inj hf).symm
      refine th_ret hf ?_
      exact rw_v (fun _ => 0) hx hb hr hlk hP hD hS dX6_needRoomForUnit_27
  · have hf := (if_neg c1).symm.trans hf
    exact th_throwW (pc := 12) (i := 18) (text := "there are 12 units") hx hb hst hown hno hlk thW_2 w1 w2 hE (by decide) rfl he2 hZ hS hP hD (hl.1.trans hml.symm) dX6_needRoomForUnit_12 dX6_needRoomForUnit_15 dX6_needRoomForUnit_16 dX6_needRoomForUnit_19 dX6_needRoomForUnit_22 (Nat.le_of_ble_eq_true rfl) (Nat.le_of_ble_eq_true rfl) (Nat.le_of_ble_eq_true rfl) (Nat.le_of_ble_eq_true rfl) (Nat.le_of_ble_eq_true rfl) (Nat.le_of_ble_eq_true rfl) (Option.some.inj hf).symm
def f_X6_needNumberOf (h : Nat → ObS) (x1 : Int32) (x2 : Int32) : Option (Nat ⊕ Unit) :=
  (f_X5_kindOf (h 3) x1).bind fun r5 =>
  if (f_X6_isNumberOf r5 x2) = (0 : Int32) then
    some (.inl 1)
  else
    some (.inr (()))
set_option maxHeartbeats 4000000 in
set_option maxRecDepth 100000 in
theorem c_X6_needNumberOf (Z : EnvT) (l : Launch) (hst : l.stackTraces = false) (b : Nat → Nat → Nat) (h : Nat → ObS) (x1 : Int32) (x2 : Int32) (R : Nat ⊕ Unit) (hf : f_X6_needNumberOf h x1 x2 = some R) : TH Z l yX6_needNumberOf wsX6_needNumberOf { frames := 6, cells := 1, slots := 6, locals := 92 } [.ref (b 0 0), .int x1, .int x2] (wH Z b h) R (fun (r : Unit) => none) (fun (r : Unit) _ => wH Z b h) 1 6 := by
  refine th_of (cc := cX6_needNumberOf) (maxL := 3) (ret := none) (by decide) rfl (Nat.le_of_ble_eq_true rfl) ?_
  intro p e s m below meth c A ls hx hb hr hml hts hown hlk hno hP hK hE hD hA hS hZ hl
  have hown : s.vm.findClass RX6 = some m.cls := hown
  have hl : lv_has ls 3 [(0, .ref (b 0 0)), (1, .int x1), (2, .int x2)] := hl
  have w0 := hts (.fieldLink RX6 22 "HeatTrain" "units" "LHeatTrain$Units;") (by decide +kernel)
  have w1 := hts (.classLink RX6 66 "java/lang/IllegalArgumentException") (by decide +kernel)
  have w2 := hts (.initialized "java/lang/IllegalArgumentException") (by decide +kernel)
  have u6 : ∀ w ∈ wsX60, w ∈ wsX6_needNumberOf := by decide +kernel
  have he1 : ∀ w ∈ (vx_atS RX6 70 (exN 1) exS).filter goodWord, w.before _ s = true := fun w h => hts w ((show ∀ w ∈ (vx_atS RX6 70 (exN 1) exS).filter goodWord, w ∈ wsX6_needNumberOf by decide +kernel) w h)
  rw [f_X6_needNumberOf] at hf
  refine lv_aload_n (pc := 0) hx hb dX6_needNumberOf_0 rfl (lv_at hl 0 rfl) ?_
  refine va_get (pc := 1) (D := Z.1) (ci := 6) (v := .ref (b 3 0)) (C := RX6) (T := TX6) (N := 9) hx hb hts u6 hown hK hP 0 rfl rfl 2 (by decide) w0 (fun _ h9 => h9) rfl dX6_needNumberOf_1 ?_
  refine lv_iload_n (pc := 4) hx hb dX6_needNumberOf_4 rfl (lv_at hl 1 rfl) ?_
  obtain ⟨r5, h_5, hf⟩ := bd hf
  refine ro_V (pc := 5) (C := RX5) (As := [.int x1]) (rest := []) (st1 := [.int r5]) ⟨hx, hb, hml, hown, hts⟩ (c_X5_kindOf Z l (b 3) (h 3) x1 r5 h_5) (cwV 1 hts gX6_needNumberOf_X5_kindOf rfl rfl rfl hv_X5_kindOf ⟨Nat.le_of_ble_eq_true rfl, Nat.le_of_ble_eq_true rfl⟩) hK hE (hP.sub (ws' := wX5 Z (b 3) (h 3)) [7, 8, 9, 10, 11, 12, 13, 14, 15] rfl) 5 rfl rfl rfl hl.1 rfl (lv_room (Nat.le_of_ble_eq_true rfl)) dX6_needNumberOf_5 ⟨Nat.le_of_ble_eq_true rfl, Nat.le_of_ble_eq_true rfl⟩ rfl ?_
  refine lv_iload_n (pc := 8) hx hb dX6_needNumberOf_8 rfl (lv_at hl 2 rfl) ?_
  refine ro_S (pc := 9) (As := [.int r5, .int x2]) (rest := []) (st1 := [.int (f_X6_isNumberOf r5 x2)]) ⟨hx, hb, hml, hown, hts⟩ (c_X6_isNumberOf Z l r5 x2 _ rfl) (va_cwS 2 hts gX6_needNumberOf_X6_isNumberOf rfl rfl rfl hs_X6_isNumberOf ⟨Nat.le_of_ble_eq_true rfl, Nat.le_of_ble_eq_true rfl⟩) hK hE (hP.sub (ws' := []) [] rfl) rfl hl.1 rfl (lv_room (Nat.le_of_ble_eq_true rfl)) dX6_needNumberOf_9 ⟨Nat.le_of_ble_eq_true rfl, Nat.le_of_ble_eq_true rfl⟩ rfl ?_
  refine lv_if_ne (pc := 12) (tgt := 25) hx hb dX6_needNumberOf_12 (by decide) (fun c1 => ?_) (fun c1 => ?_)
  · have hf := (if_neg c1).symm.trans hf
    have hf := (Option.some.inj hf).symm
    refine W.widen (k := 1) (n := 6) (Nat.le_of_ble_eq_true rfl) (Nat.le_of_ble_eq_true rfl) ?_
    refine th_ret hf ?_
    exact rw_v (fun _ => 0) hx hb hr hlk hP hD hS dX6_needNumberOf_25
  · have hf := (if_pos c1).symm.trans hf
    exact th_throw (pc := 15) (i := 2) (text := "number is not in the range of its kind") hx hb hst hown hno hlk thW_1 w1 w2 hE (by decide) rfl he1 hZ hS hP hD (hl.1.trans hml.symm) dX6_needNumberOf_15 dX6_needNumberOf_18 dX6_needNumberOf_19 dX6_needNumberOf_21 dX6_needNumberOf_24 (Nat.le_of_ble_eq_true rfl) (Nat.le_of_ble_eq_true rfl) (Nat.le_of_ble_eq_true rfl) (Nat.le_of_ble_eq_true rfl) (Nat.le_of_ble_eq_true rfl) (Nat.le_of_ble_eq_true rfl) (Option.some.inj hf).symm
def f_X6_needController (h : Nat → ObS) (x1 : Int32) : Option (Nat ⊕ Unit) :=
  if (f_X6_isOutside x1 0 ((f_X1_count (h 4)) - 1)) = (0 : Int32) then
    some (.inr (()))
  else
    some (.inl 3)
set_option maxHeartbeats 4000000 in
set_option maxRecDepth 100000 in
theorem c_X6_needController (Z : EnvT) (l : Launch) (hst : l.stackTraces = false) (b : Nat → Nat → Nat) (h : Nat → ObS) (x1 : Int32) (R : Nat ⊕ Unit) (hf : f_X6_needController h x1 = some R) : TH Z l yX6_needController wsX6_needController { frames := 6, cells := 1, slots := 6, locals := 92 } [.ref (b 0 0), .int x1] (wH Z b h) R (fun (r : Unit) => none) (fun (r : Unit) _ => wH Z b h) 1 6 := by
  refine th_of (cc := cX6_needController) (maxL := 2) (ret := none) (by decide) rfl (Nat.le_of_ble_eq_true rfl) ?_
  intro p e s m below meth c A ls hx hb hr hml hts hown hlk hno hP hK hE hD hA hS hZ hl
  have hown : s.vm.findClass RX6 = some m.cls := hown
  have hl : lv_has ls 2 [(0, .ref (b 0 0)), (1, .int x1)] := hl
  have w0 := hts (.fieldLink RX6 29 "HeatTrain" "controllers" "LHeatTrain$Controllers;") (by decide +kernel)
  have w1 := hts (.classLink RX6 221 "java/lang/IndexOutOfBoundsException") (by decide +kernel)
  have w2 := hts (.initialized "java/lang/IndexOutOfBoundsException") (by decide +kernel)
  have u6 : ∀ w ∈ wsX60, w ∈ wsX6_needController := by decide +kernel
  have he3 : ∀ w ∈ (vx_atS RX6 225 (exN 3) exS).filter goodWord, w.before _ s = true := fun w h => hts w ((show ∀ w ∈ (vx_atS RX6 225 (exN 3) exS).filter goodWord, w ∈ wsX6_needController by decide +kernel) w h)
  rw [f_X6_needController] at hf
  refine lv_iload_n (pc := 0) hx hb dX6_needController_0 rfl (lv_at hl 1 rfl) ?_
  refine lv_iconst (pc := 1) (v := 0) hx hb dX6_needController_1 (by decide) ?_
  refine lv_aload_n (pc := 2) hx hb dX6_needController_2 rfl (lv_at hl 0 rfl) ?_
  refine va_get (pc := 3) (D := Z.1) (ci := 6) (v := .ref (b 4 0)) (C := RX6) (T := TX6) (N := 9) hx hb hts u6 hown hK hP 0 rfl rfl 3 (by decide) w0 (fun _ h9 => h9) rfl dX6_needController_3 ?_
  refine ro_V (pc := 6) (C := RX1) (As := []) (rest := [.int 0, .int x1]) (st1 := [.int (f_X1_count (h 4)), .int 0, .int x1]) ⟨hx, hb, hml, hown, hts⟩ (c_X1_count Z l (b 4) (h 4) _ rfl) (cwV 0 hts gX6_needController_X1_count rfl rfl rfl hv_X1_count ⟨Nat.le_of_ble_eq_true rfl, Nat.le_of_ble_eq_true rfl⟩) hK hE (hP.sub (ws' := wX1 Z (b 4) (h 4)) [16, 17, 18, 19, 20, 21, 22, 23, 24, 25, 26, 27, 28, 29, 30] rfl) 1 rfl rfl rfl hl.1 rfl (lv_room (Nat.le_of_ble_eq_true rfl)) dX6_needController_6 ⟨Nat.le_of_ble_eq_true rfl, Nat.le_of_ble_eq_true rfl⟩ rfl ?_
  refine lv_iconst (pc := 9) (v := 1) hx hb dX6_needController_9 (by decide) ?_
  refine lv_isub (pc := 10) hx hb dX6_needController_10 ?_
  refine ro_S (pc := 11) (As := [.int x1, .int 0, .int ((f_X1_count (h 4)) - 1)]) (rest := []) (st1 := [.int (f_X6_isOutside x1 0 ((f_X1_count (h 4)) - 1))]) ⟨hx, hb, hml, hown, hts⟩ (c_X6_isOutside Z l x1 0 ((f_X1_count (h 4)) - 1) _ rfl) (va_cwS 3 hts gX6_needController_X6_isOutside rfl rfl rfl hs_X6_isOutside ⟨Nat.le_of_ble_eq_true rfl, Nat.le_of_ble_eq_true rfl⟩) hK hE (hP.sub (ws' := []) [] rfl) rfl hl.1 rfl (lv_room (Nat.le_of_ble_eq_true rfl)) dX6_needController_11 ⟨Nat.le_of_ble_eq_true rfl, Nat.le_of_ble_eq_true rfl⟩ rfl ?_
  refine lv_if_eq (pc := 14) (tgt := 28) hx hb dX6_needController_14 (by decide) (fun c1 => ?_) (fun c1 => ?_)
  · have hf := (if_pos c1).symm.trans hf
    have hf := (Option.some.inj hf).symm
    refine W.widen (k := 1) (n := 6) (Nat.le_of_ble_eq_true rfl) (Nat.le_of_ble_eq_true rfl) ?_
    refine th_ret hf ?_
    exact rw_v (fun _ => 0) hx hb hr hlk hP hD hS dX6_needController_28
  · have hf := (if_neg c1).symm.trans hf
    exact th_throwW (pc := 17) (i := 20) (text := "there is no such controller") hx hb hst hown hno hlk thW_3 w1 w2 hE (by decide) rfl he3 hZ hS hP hD (hl.1.trans hml.symm) dX6_needController_17 dX6_needController_20 dX6_needController_21 dX6_needController_24 dX6_needController_27 (Nat.le_of_ble_eq_true rfl) (Nat.le_of_ble_eq_true rfl) (Nat.le_of_ble_eq_true rfl) (Nat.le_of_ble_eq_true rfl) (Nat.le_of_ble_eq_true rfl) (Nat.le_of_ble_eq_true rfl) (Option.some.inj hf).symm
def f_X6_needHigherController (h : Nat → ObS) (x1 : Int32) : Option (Nat ⊕ Unit) :=
  if (f_X6_isOutside x1 ((f_X1_count (h 4)) + 1) 5) = (0 : Int32) then
    some (.inr (()))
  else
    some (.inl 3)
set_option maxHeartbeats 4000000 in
set_option maxRecDepth 100000 in
theorem c_X6_needHigherController (Z : EnvT) (l : Launch) (hst : l.stackTraces = false) (b : Nat → Nat → Nat) (h : Nat → ObS) (x1 : Int32) (R : Nat ⊕ Unit) (hf : f_X6_needHigherController h x1 = some R) : TH Z l yX6_needHigherController wsX6_needHigherController { frames := 6, cells := 1, slots := 6, locals := 92 } [.ref (b 0 0), .int x1] (wH Z b h) R (fun (r : Unit) => none) (fun (r : Unit) _ => wH Z b h) 1 6 := by
  refine th_of (cc := cX6_needHigherController) (maxL := 2) (ret := none) (by decide) rfl (Nat.le_of_ble_eq_true rfl) ?_
  intro p e s m below meth c A ls hx hb hr hml hts hown hlk hno hP hK hE hD hA hS hZ hl
  have hown : s.vm.findClass RX6 = some m.cls := hown
  have hl : lv_has ls 2 [(0, .ref (b 0 0)), (1, .int x1)] := hl
  have w0 := hts (.fieldLink RX6 29 "HeatTrain" "controllers" "LHeatTrain$Controllers;") (by decide +kernel)
  have w1 := hts (.classLink RX6 221 "java/lang/IndexOutOfBoundsException") (by decide +kernel)
  have w2 := hts (.initialized "java/lang/IndexOutOfBoundsException") (by decide +kernel)
  have u6 : ∀ w ∈ wsX60, w ∈ wsX6_needHigherController := by decide +kernel
  have he3 : ∀ w ∈ (vx_atS RX6 225 (exN 3) exS).filter goodWord, w.before _ s = true := fun w h => hts w ((show ∀ w ∈ (vx_atS RX6 225 (exN 3) exS).filter goodWord, w ∈ wsX6_needHigherController by decide +kernel) w h)
  rw [f_X6_needHigherController] at hf
  refine lv_iload_n (pc := 0) hx hb dX6_needHigherController_0 rfl (lv_at hl 1 rfl) ?_
  refine lv_aload_n (pc := 1) hx hb dX6_needHigherController_1 rfl (lv_at hl 0 rfl) ?_
  refine va_get (pc := 2) (D := Z.1) (ci := 6) (v := .ref (b 4 0)) (C := RX6) (T := TX6) (N := 9) hx hb hts u6 hown hK hP 0 rfl rfl 3 (by decide) w0 (fun _ h9 => h9) rfl dX6_needHigherController_2 ?_
  refine ro_V (pc := 5) (C := RX1) (As := []) (rest := [.int x1]) (st1 := [.int (f_X1_count (h 4)), .int x1]) ⟨hx, hb, hml, hown, hts⟩ (c_X1_count Z l (b 4) (h 4) _ rfl) (cwV 0 hts gX6_needHigherController_X1_count rfl rfl rfl hv_X1_count ⟨Nat.le_of_ble_eq_true rfl, Nat.le_of_ble_eq_true rfl⟩) hK hE (hP.sub (ws' := wX1 Z (b 4) (h 4)) [16, 17, 18, 19, 20, 21, 22, 23, 24, 25, 26, 27, 28, 29, 30] rfl) 1 rfl rfl rfl hl.1 rfl (lv_room (Nat.le_of_ble_eq_true rfl)) dX6_needHigherController_5 ⟨Nat.le_of_ble_eq_true rfl, Nat.le_of_ble_eq_true rfl⟩ rfl ?_
  refine lv_iconst (pc := 8) (v := 1) hx hb dX6_needHigherController_8 (by decide) ?_
  refine lv_iadd (pc := 9) hx hb dX6_needHigherController_9 ?_
  refine lv_iconst (pc := 10) (v := 5) hx hb dX6_needHigherController_10 (by decide) ?_
  refine ro_S (pc := 11) (As := [.int x1, .int ((f_X1_count (h 4)) + 1), .int 5]) (rest := []) (st1 := [.int (f_X6_isOutside x1 ((f_X1_count (h 4)) + 1) 5)]) ⟨hx, hb, hml, hown, hts⟩ (c_X6_isOutside Z l x1 ((f_X1_count (h 4)) + 1) 5 _ rfl) (va_cwS 3 hts gX6_needHigherController_X6_isOutside rfl rfl rfl hs_X6_isOutside ⟨Nat.le_of_ble_eq_true rfl, Nat.le_of_ble_eq_true rfl⟩) hK hE (hP.sub (ws' := []) [] rfl) rfl hl.1 rfl (lv_room (Nat.le_of_ble_eq_true rfl)) dX6_needHigherController_11 ⟨Nat.le_of_ble_eq_true rfl, Nat.le_of_ble_eq_true rfl⟩ rfl ?_
  refine lv_if_eq (pc := 14) (tgt := 28) hx hb dX6_needHigherController_14 (by decide) (fun c1 => ?_) (fun c1 => ?_)
  · have hf := (if_pos c1).symm.trans hf
    have hf := (Option.some.inj hf).symm
    refine W.widen (k := 1) (n := 6) (Nat.le_of_ble_eq_true rfl) (Nat.le_of_ble_eq_true rfl) ?_
    refine th_ret hf ?_
    exact rw_v (fun _ => 0) hx hb hr hlk hP hD hS dX6_needHigherController_28
  · have hf := (if_neg c1).symm.trans hf
    exact th_throwW (pc := 17) (i := 21) (text := "the controller is above 5, or not higher") hx hb hst hown hno hlk thW_3 w1 w2 hE (by decide) rfl he3 hZ hS hP hD (hl.1.trans hml.symm) dX6_needHigherController_17 dX6_needHigherController_20 dX6_needHigherController_21 dX6_needHigherController_24 dX6_needHigherController_27 (Nat.le_of_ble_eq_true rfl) (Nat.le_of_ble_eq_true rfl) (Nat.le_of_ble_eq_true rfl) (Nat.le_of_ble_eq_true rfl) (Nat.le_of_ble_eq_true rfl) (Nat.le_of_ble_eq_true rfl) (Option.some.inj hf).symm
def f_X6_needMeasuring (h : Nat → ObS) (x1 : Int32) : Option (Nat ⊕ Unit) :=
  (f_X1_isMeasuring (h 4) x1).bind fun r5 =>
  if r5 = (0 : Int32) then
    some (.inl 2)
  else
    some (.inr (()))
set_option maxHeartbeats 4000000 in
set_option maxRecDepth 100000 in
theorem c_X6_needMeasuring (Z : EnvT) (l : Launch) (hst : l.stackTraces = false) (b : Nat → Nat → Nat) (h : Nat → ObS) (x1 : Int32) (R : Nat ⊕ Unit) (hf : f_X6_needMeasuring h x1 = some R) : TH Z l yX6_needMeasuring wsX6_needMeasuring { frames := 6, cells := 1, slots := 6, locals := 92 } [.ref (b 0 0), .int x1] (wH Z b h) R (fun (r : Unit) => none) (fun (r : Unit) _ => wH Z b h) 1 6 := by
  refine th_of (cc := cX6_needMeasuring) (maxL := 2) (ret := none) (by decide) rfl (Nat.le_of_ble_eq_true rfl) ?_
  intro p e s m below meth c A ls hx hb hr hml hts hown hlk hno hP hK hE hD hA hS hZ hl
  have hown : s.vm.findClass RX6 = some m.cls := hown
  have hl : lv_has ls 2 [(0, .ref (b 0 0)), (1, .int x1)] := hl
  have w0 := hts (.fieldLink RX6 29 "HeatTrain" "controllers" "LHeatTrain$Controllers;") (by decide +kernel)
  have w1 := hts (.classLink RX6 90 "java/lang/IllegalStateException") (by decide +kernel)
  have w2 := hts (.initialized "java/lang/IllegalStateException") (by decide +kernel)
  have u6 : ∀ w ∈ wsX60, w ∈ wsX6_needMeasuring := by decide +kernel
  have he2 : ∀ w ∈ (vx_atS RX6 94 (exN 2) exS).filter goodWord, w.before _ s = true := fun w h => hts w ((show ∀ w ∈ (vx_atS RX6 94 (exN 2) exS).filter goodWord, w ∈ wsX6_needMeasuring by decide +kernel) w h)
  rw [f_X6_needMeasuring] at hf
  refine lv_aload_n (pc := 0) hx hb dX6_needMeasuring_0 rfl (lv_at hl 0 rfl) ?_
  refine va_get (pc := 1) (D := Z.1) (ci := 6) (v := .ref (b 4 0)) (C := RX6) (T := TX6) (N := 9) hx hb hts u6 hown hK hP 0 rfl rfl 3 (by decide) w0 (fun _ h9 => h9) rfl dX6_needMeasuring_1 ?_
  refine lv_iload_n (pc := 4) hx hb dX6_needMeasuring_4 rfl (lv_at hl 1 rfl) ?_
  obtain ⟨r5, h_5, hf⟩ := bd hf
  refine ro_V (pc := 5) (C := RX1) (As := [.int x1]) (rest := []) (st1 := [.int r5]) ⟨hx, hb, hml, hown, hts⟩ (c_X1_isMeasuring Z l (b 4) (h 4) x1 r5 h_5) (cwV 1 hts gX6_needMeasuring_X1_isMeasuring rfl rfl rfl hv_X1_isMeasuring ⟨Nat.le_of_ble_eq_true rfl, Nat.le_of_ble_eq_true rfl⟩) hK hE (hP.sub (ws' := wX1 Z (b 4) (h 4)) [16, 17, 18, 19, 20, 21, 22, 23, 24, 25, 26, 27, 28, 29, 30] rfl) 1 rfl rfl rfl hl.1 rfl (lv_room (Nat.le_of_ble_eq_true rfl)) dX6_needMeasuring_5 ⟨Nat.le_of_ble_eq_true rfl, Nat.le_of_ble_eq_true rfl⟩ rfl ?_
  refine lv_if_ne (pc := 8) (tgt := 22) hx hb dX6_needMeasuring_8 (by decide) (fun c1 => ?_) (fun c1 => ?_)
  · have hf := (if_neg c1).symm.trans hf
    have hf := (Option.some.inj hf).symm
    refine W.widen (k := 1) (n := 6) (Nat.le_of_ble_eq_true rfl) (Nat.le_of_ble_eq_true rfl) ?_
    refine th_ret hf ?_
    exact rw_v (fun _ => 0) hx hb hr hlk hP hD hS dX6_needMeasuring_22
  · have hf := (if_pos c1).symm.trans hf
    exact th_throwW (pc := 11) (i := 22) (text := "it is a ratio station") hx hb hst hown hno hlk thW_2 w1 w2 hE (by decide) rfl he2 hZ hS hP hD (hl.1.trans hml.symm) dX6_needMeasuring_11 dX6_needMeasuring_14 dX6_needMeasuring_15 dX6_needMeasuring_18 dX6_needMeasuring_21 (Nat.le_of_ble_eq_true rfl) (Nat.le_of_ble_eq_true rfl) (Nat.le_of_ble_eq_true rfl) (Nat.le_of_ble_eq_true rfl) (Nat.le_of_ble_eq_true rfl) (Nat.le_of_ble_eq_true rfl) (Option.some.inj hf).symm
def f_X6_needNoMix (h : Nat → ObS) (x1 : Int32) : Option (Nat ⊕ Unit) :=
  (f_X5_kindOf (h 3) x1).bind fun r5 =>
  if r5 = 2 then
    some (.inl 1)
  else
    some (.inr (()))
set_option maxHeartbeats 4000000 in
set_option maxRecDepth 100000 in
theorem c_X6_needNoMix (Z : EnvT) (l : Launch) (hst : l.stackTraces = false) (b : Nat → Nat → Nat) (h : Nat → ObS) (x1 : Int32) (R : Nat ⊕ Unit) (hf : f_X6_needNoMix h x1 = some R) : TH Z l yX6_needNoMix wsX6_needNoMix { frames := 6, cells := 1, slots := 6, locals := 92 } [.ref (b 0 0), .int x1] (wH Z b h) R (fun (r : Unit) => none) (fun (r : Unit) _ => wH Z b h) 1 6 := by
  refine th_of (cc := cX6_needNoMix) (maxL := 2) (ret := none) (by decide) rfl (Nat.le_of_ble_eq_true rfl) ?_
  intro p e s m below meth c A ls hx hb hr hml hts hown hlk hno hP hK hE hD hA hS hZ hl
  have hown : s.vm.findClass RX6 = some m.cls := hown
  have hl : lv_has ls 2 [(0, .ref (b 0 0)), (1, .int x1)] := hl
  have w0 := hts (.fieldLink RX6 22 "HeatTrain" "units" "LHeatTrain$Units;") (by decide +kernel)
  have w1 := hts (.classLink RX6 66 "java/lang/IllegalArgumentException") (by decide +kernel)
  have w2 := hts (.initialized "java/lang/IllegalArgumentException") (by decide +kernel)
  have u6 : ∀ w ∈ wsX60, w ∈ wsX6_needNoMix := by decide +kernel
  have he1 : ∀ w ∈ (vx_atS RX6 70 (exN 1) exS).filter goodWord, w.before _ s = true := fun w h => hts w ((show ∀ w ∈ (vx_atS RX6 70 (exN 1) exS).filter goodWord, w ∈ wsX6_needNoMix by decide +kernel) w h)
  rw [f_X6_needNoMix] at hf
  refine lv_aload_n (pc := 0) hx hb dX6_needNoMix_0 rfl (lv_at hl 0 rfl) ?_
  refine va_get (pc := 1) (D := Z.1) (ci := 6) (v := .ref (b 3 0)) (C := RX6) (T := TX6) (N := 9) hx hb hts u6 hown hK hP 0 rfl rfl 2 (by decide) w0 (fun _ h9 => h9) rfl dX6_needNoMix_1 ?_
  refine lv_iload_n (pc := 4) hx hb dX6_needNoMix_4 rfl (lv_at hl 1 rfl) ?_
  obtain ⟨r5, h_5, hf⟩ := bd hf
  refine ro_V (pc := 5) (C := RX5) (As := [.int x1]) (rest := []) (st1 := [.int r5]) ⟨hx, hb, hml, hown, hts⟩ (c_X5_kindOf Z l (b 3) (h 3) x1 r5 h_5) (cwV 1 hts gX6_needNoMix_X5_kindOf rfl rfl rfl hv_X5_kindOf ⟨Nat.le_of_ble_eq_true rfl, Nat.le_of_ble_eq_true rfl⟩) hK hE (hP.sub (ws' := wX5 Z (b 3) (h 3)) [7, 8, 9, 10, 11, 12, 13, 14, 15] rfl) 5 rfl rfl rfl hl.1 rfl (lv_room (Nat.le_of_ble_eq_true rfl)) dX6_needNoMix_5 ⟨Nat.le_of_ble_eq_true rfl, Nat.le_of_ble_eq_true rfl⟩ rfl ?_
  refine lv_iconst (pc := 8) (v := 2) hx hb dX6_needNoMix_8 (by decide) ?_
  refine lv_icmp_ne (pc := 9) (tgt := 23) hx hb dX6_needNoMix_9 (by decide) (fun c1 => ?_) (fun c1 => ?_)
  · have hf := (if_neg c1).symm.trans hf
    have hf := (Option.some.inj hf).symm
    refine W.widen (k := 1) (n := 6) (Nat.le_of_ble_eq_true rfl) (Nat.le_of_ble_eq_true rfl) ?_
    refine th_ret hf ?_
    exact rw_v (fun _ => 0) hx hb hr hlk hP hD hS dX6_needNoMix_23
  · have hf := (if_pos c1).symm.trans hf
    exact th_throwW (pc := 12) (i := 23) (text := "a MIX can't be driven") hx hb hst hown hno hlk thW_1 w1 w2 hE (by decide) rfl he1 hZ hS hP hD (hl.1.trans hml.symm) dX6_needNoMix_12 dX6_needNoMix_15 dX6_needNoMix_16 dX6_needNoMix_19 dX6_needNoMix_22 (Nat.le_of_ble_eq_true rfl) (Nat.le_of_ble_eq_true rfl) (Nat.le_of_ble_eq_true rfl) (Nat.le_of_ble_eq_true rfl) (Nat.le_of_ble_eq_true rfl) (Nat.le_of_ble_eq_true rfl) (Option.some.inj hf).symm
def f_X6_needRoomForController (h : Nat → ObS) : Option (Nat ⊕ Unit) :=
  if (f_X1_count (h 4)) < 6 then
    some (.inr (()))
  else
    some (.inl 2)
set_option maxHeartbeats 4000000 in
set_option maxRecDepth 100000 in
theorem c_X6_needRoomForController (Z : EnvT) (l : Launch) (hst : l.stackTraces = false) (b : Nat → Nat → Nat) (h : Nat → ObS) (R : Nat ⊕ Unit) (hf : f_X6_needRoomForController h = some R) : TH Z l yX6_needRoomForController wsX6_needRoomForController { frames := 6, cells := 1, slots := 6, locals := 92 } [.ref (b 0 0)] (wH Z b h) R (fun (r : Unit) => none) (fun (r : Unit) _ => wH Z b h) 1 6 := by
  refine th_of (cc := cX6_needRoomForController) (maxL := 1) (ret := none) (by decide) rfl (Nat.le_of_ble_eq_true rfl) ?_
  intro p e s m below meth c A ls hx hb hr hml hts hown hlk hno hP hK hE hD hA hS hZ hl
  have hown : s.vm.findClass RX6 = some m.cls := hown
  have hl : lv_has ls 1 [(0, .ref (b 0 0))] := hl
  have w0 := hts (.fieldLink RX6 29 "HeatTrain" "controllers" "LHeatTrain$Controllers;") (by decide +kernel)
  have w1 := hts (.classLink RX6 90 "java/lang/IllegalStateException") (by decide +kernel)
  have w2 := hts (.initialized "java/lang/IllegalStateException") (by decide +kernel)
  have u6 : ∀ w ∈ wsX60, w ∈ wsX6_needRoomForController := by decide +kernel
  have he2 : ∀ w ∈ (vx_atS RX6 94 (exN 2) exS).filter goodWord, w.before _ s = true := fun w h => hts w ((show ∀ w ∈ (vx_atS RX6 94 (exN 2) exS).filter goodWord, w ∈ wsX6_needRoomForController by decide +kernel) w h)
  rw [f_X6_needRoomForController] at hf
  refine lv_aload_n (pc := 0) hx hb dX6_needRoomForController_0 rfl (lv_at hl 0 rfl) ?_
  refine va_get (pc := 1) (D := Z.1) (ci := 6) (v := .ref (b 4 0)) (C := RX6) (T := TX6) (N := 9) hx hb hts u6 hown hK hP 0 rfl rfl 3 (by decide) w0 (fun _ h9 => h9) rfl dX6_needRoomForController_1 ?_
  refine ro_V (pc := 4) (C := RX1) (As := []) (rest := []) (st1 := [.int (f_X1_count (h 4))]) ⟨hx, hb, hml, hown, hts⟩ (c_X1_count Z l (b 4) (h 4) _ rfl) (cwV 0 hts gX6_needRoomForController_X1_count rfl rfl rfl hv_X1_count ⟨Nat.le_of_ble_eq_true rfl, Nat.le_of_ble_eq_true rfl⟩) hK hE (hP.sub (ws' := wX1 Z (b 4) (h 4)) [16, 17, 18, 19, 20, 21, 22, 23, 24, 25, 26, 27, 28, 29, 30] rfl) 1 rfl rfl rfl hl.1 rfl (lv_room (Nat.le_of_ble_eq_true rfl)) dX6_needRoomForController_4 ⟨Nat.le_of_ble_eq_true rfl, Nat.le_of_ble_eq_true rfl⟩ rfl ?_
  refine lv_bipush (pc := 7) (v := 6) hx hb dX6_needRoomForController_7 (by decide) ?_
  refine lv_icmp_lt (pc := 9) (tgt := 23) hx hb dX6_needRoomForController_9 (by decide) (fun c1 => ?_) (fun c1 => ?_)
  · have hf := (if_pos c1).symm.trans hf
    have hf := (Option.some.inj hf).symm
    refine W.widen (k := 1) (n := 6) (Nat.le_of_ble_eq_true rfl) (Nat.le_of_ble_eq_true rfl) ?_
    refine th_ret hf ?_
    exact rw_v (fun _ => 0) hx hb hr hlk hP hD hS dX6_needRoomForController_23
  · have hf := (if_neg c1).symm.trans hf
    exact th_throwW (pc := 12) (i := 24) (text := "there are 6 controllers") hx hb hst hown hno hlk thW_2 w1 w2 hE (by decide) rfl he2 hZ hS hP hD (hl.1.trans hml.symm) dX6_needRoomForController_12 dX6_needRoomForController_15 dX6_needRoomForController_16 dX6_needRoomForController_19 dX6_needRoomForController_22 (Nat.le_of_ble_eq_true rfl) (Nat.le_of_ble_eq_true rfl) (Nat.le_of_ble_eq_true rfl) (Nat.le_of_ble_eq_true rfl) (Nat.le_of_ble_eq_true rfl) (Nat.le_of_ble_eq_true rfl) (Option.some.inj hf).symm
