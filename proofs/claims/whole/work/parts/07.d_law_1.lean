def f_law_c3 (xs : Nat → Int32) (L : Nat) (x4 : Int32) (h : Nat → ObS) (mo w : ObS) (kk : ((Nat → ObS) → ObS → ObS → Option Int32)) : Option Int32 :=
  if inb (x4 + 1) L then
  if inb (x4 + 2) L then
  (f_L_set h (xs (x4 + 1).toNatClampNeg) (xs (x4 + 2).toNatClampNeg) w).bind fun r382 =>
  if inb (x4 + 1) L then
  if inb (x4 + 2) L then
  (f_X7_set mo (xs (x4 + 1).toNatClampNeg) (xs (x4 + 2).toNatClampNeg)).bind fun r400 =>
  if (f_X7_thrown r400.2) = r382.1 then
    if r382.1 = (0 : Int32) then
      if (lg_cmp (r382.2.2.2 0 ((0 : Int32).toNatClampNeg)) r400.1.toInt64) = (0 : Int32) then
        kk r382.2.1 r400.2 r382.2.2
      else
        some (0 : Int32)
    else
      kk r382.2.1 r400.2 r382.2.2
  else
    some (0 : Int32)
  else none
  else none
  else none
  else none
set_option maxHeartbeats 4000000 in
set_option maxRecDepth 100000 in
theorem lc_3 {p : Program} {l : Launch} {e : Env} {s : State} {m : MethodId} {below : List Frame} {meth : Method} {c : Code} {Z : EnvT} {b0 L : Nat} {xs : Nat → Int32} (hst : l.stackTraces = false) (C0 : lw_At p s m meth c b0 L xs) (hK : va_K Z.1 vwCl (tyV Z) s) (hE : EV Z s) (hZ : ZQ (fun q : Nat => s.heap.size ≤ q) s s.heap) {CC SS : Nat} (hCC : CC + 5 ≤ 441704) (hSS : SS + 7200 ≤ 7770994) {x4 : Int32} {B : Nat → Nat → Nat} {h : Nat → ObS} {am ao : Nat → Nat} {mo w : ObS} {H : Heap} {locs : List Loc} {ls : Array Slot} (kk : ((Nat → ObS) → ObS → ObS → Option Int32))
    (ih : ∀ (B : Nat → Nat → Nat) (h : Nat → ObS) (mo w : ObS) (H : Heap) (locs : List Loc) (ls : Array Slot), lv_has ls 7 [(0, .ref b0), (1, .ref (B 0 0)), (2, .ref (am 0)), (3, .ref (ao 0)), (4, .int x4)] → va_P Z.1 vwCl (wH Z B h ++ (wX7 Z am mo ++ wO Z ao w)) H → va_D (fun q : Nat => s.heap.size ≤ q) (wH Z B h ++ (wX7 Z am mo ++ wO Z ao w)) → va_S (fun q : Nat => s.heap.size ≤ q) s.heap H locs → kk h mo w = some 1 → W p l e room_1 s m #[Value.ref b0] below meth c H locs (CC + 5) (SS + 7200) (lw_Z below #[Value.ref b0] s) (F0 m 1443 ls []))
    (hl : lv_has ls 7 [(0, .ref b0), (1, .ref (B 0 0)), (2, .ref (am 0)), (3, .ref (ao 0)), (4, .int x4)]) (hP : va_P Z.1 vwCl (wH Z B h ++ (wX7 Z am mo ++ wO Z ao w)) H) (hD : va_D (fun q : Nat => s.heap.size ≤ q) (wH Z B h ++ (wX7 Z am mo ++ wO Z ao w))) (hS : va_S (fun q : Nat => s.heap.size ≤ q) s.heap H locs) (hf : f_law_c3 xs L x4 h mo w kk = some 1) : W p l e room_1 s m #[Value.ref b0] below meth c H locs CC SS (lw_Z below #[Value.ref b0] s) (F0 m 368 ls []) := by
  obtain ⟨hx, hb, hr, hml, hown, hts, hX, hbl, hlocks, hgv⟩ := C0
  have hown : s.vm.findClass RL = some m.cls := hown
  have htsL : ∀ w ∈ wsL_law, w.before #[Value.ref b0] s = true := fun w h9 => hts w (wsL_law_in w h9)
  have hA : ∀ q : Nat, s.heap.size ≤ q → (fun q : Nat => s.heap.size ≤ q) q := fun _ h9 => h9
  have hbA : ¬ (fun q : Nat => s.heap.size ≤ q) b0 := Nat.not_le.mpr hbl
  rw [f_law_c3] at hf
  refine lv_aload_n (pc := 368) hx hb dL_law_368 rfl (lv_at hl 1 rfl) ?_
  refine lv_aload_n (pc := 369) hx hb dL_law_369 rfl (lv_at hl 0 rfl) ?_
  refine lv_iload (pc := 370) hx hb dL_law_370 (lv_at hl 4 rfl) ?_
  refine lv_iconst (pc := 372) (v := 1) hx hb dL_law_372 (by decide) ?_
  refine lv_iadd (pc := 373) hx hb dL_law_373 ?_
  obtain ⟨g374, hf⟩ := gd hf
  refine va_sld (pc := 374) hx hb hX hbl hbA hS (inb_in g374) dL_law_374 ?_
  refine lv_aload_n (pc := 375) hx hb dL_law_375 rfl (lv_at hl 0 rfl) ?_
  refine lv_iload (pc := 376) hx hb dL_law_376 (lv_at hl 4 rfl) ?_
  refine lv_iconst (pc := 378) (v := 2) hx hb dL_law_378 (by decide) ?_
  refine lv_iadd (pc := 379) hx hb dL_law_379 ?_
  obtain ⟨g380, hf⟩ := gd hf
  refine va_sld (pc := 380) hx hb hX hbl hbA hS (inb_in g380) dL_law_380 ?_
  refine lv_aload_n (pc := 381) hx hb dL_law_381 rfl (lv_at hl 3 rfl) ?_
  obtain ⟨r382, h_382, hf⟩ := bd hf
  refine wr_S (pc := 382) (As := [.ref (B 0 0), .int (xs (x4 + 1).toNatClampNeg), .int (xs (x4 + 2).toNatClampNeg), .ref (ao 0)]) (rest := []) (st1 := [.int r382.1]) (wn := fun _ => wH Z B r382.2.1 ++ (wX7 Z am mo ++ wO Z ao r382.2.2)) ⟨hx, hb, hml, hown, htsL⟩ (c_L_set Z l hst B h (xs (x4 + 1).toNatClampNeg) (xs (x4 + 2).toNatClampNeg) ao w r382 h_382) (vx_cwSW 4 htsL gL_law_L_set rfl rfl rfl hs_L_set ⟨Nat.le_of_ble_eq_true rfl, Nat.le_of_ble_eq_true rfl⟩) hK hE hP hD hS hA hZ (List.range' 0 40 ++ List.range' (40 + 36) 1) (List.range' 40 36) (List.range' 36 40 ++ (List.range' 0 36 ++ List.range' (36 + 40) 1)) (by decide +kernel) (bC13 rfl rfl rfl) (bR2 rfl rfl) (fun _ => bN13 rfl rfl rfl rfl) rfl hl.1 rfl (lv_room (Nat.le_of_ble_eq_true rfl)) dL_law_382 ⟨(show CC + 0 + 2 ≤ 441704 by omega), (show SS + 0 + 12 ≤ 7770994 by omega)⟩ rfl (fun _ H locs hP hD hS => ?_)
  refine lv_istore (pc := 385) (lv' := [(5, .int r382.1), (0, .ref b0), (1, .ref (B 0 0)), (2, .ref (am 0)), (3, .ref (ao 0)), (4, .int x4)]) hx hb dL_law_385 hl (by decide) rfl (fun ls hl => ?_)
  refine lv_aload_n (pc := 387) hx hb dL_law_387 rfl (lv_at hl 3 rfl) ?_
  refine lv_aload_n (pc := 388) hx hb dL_law_388 rfl (lv_at hl 1 rfl) ?_
  refine lv_iload (pc := 389) hx hb dL_law_389 (lv_at hl 5 rfl) ?_
  refine lv_iconst (pc := 391) (v := 1) hx hb dL_law_391 (by decide) ?_
  refine lv_iadd (pc := 392) hx hb dL_law_392 ?_
  obtain ⟨g393, hf⟩ := gd hf
  refine va_sld (pc := 393) hx hb hX hbl hbA hS (inb_in g393) dL_law_393 ?_
  refine lv_aload_n (pc := 394) hx hb dL_law_394 rfl (lv_at hl 1 rfl) ?_
  refine lv_iload (pc := 395) hx hb dL_law_395 (lv_at hl 5 rfl) ?_
  refine lv_iconst (pc := 397) (v := 2) hx hb dL_law_397 (by decide) ?_
  refine lv_iadd (pc := 398) hx hb dL_law_398 ?_
  obtain ⟨g399, hf⟩ := gd hf
  refine va_sld (pc := 399) hx hb hX hbl hbA hS (inb_in g399) dL_law_399 ?_
  obtain ⟨r400, h_400, hf⟩ := bd hf
  refine rw_V (pc := 400) (C := RX7) (As := [.int (xs (x4 + 1).toNatClampNeg), .int (xs (x4 + 2).toNatClampNeg)]) (rest := []) (st1 := [.int r400.1]) (wn := fun _ => wH Z B r382.2.1 ++ (wX7 Z am r400.2 ++ wO Z ao r382.2.2)) ⟨hx, hb, hml, hown, htsL⟩ (c_X7_set Z l am mo (xs (x4 + 1).toNatClampNeg) (xs (x4 + 2).toNatClampNeg) r400 h_400) (cwV 2 htsL gL_law_X7_set rfl rfl rfl hv_X7_set ⟨Nat.le_of_ble_eq_true rfl, Nat.le_of_ble_eq_true rfl⟩) hK hE hP hD hS hA (List.range' 40 36) (List.range' 0 40 ++ List.range' (40 + 36) 1) (List.range' 0 40 ++ (List.range' (40 + 1) 36 ++ List.range' 40 1)) (by decide +kernel) (bC2 rfl rfl) (bR13 rfl rfl rfl) (fun _ => bN2 rfl rfl rfl rfl) 7 rfl rfl rfl hl.1 rfl (lv_room (Nat.le_of_ble_eq_true rfl)) dL_law_400 ⟨(show CC + 2 + 0 ≤ 441704 by omega), (show SS + 12 + 0 ≤ 7770994 by omega)⟩ rfl (fun _ H locs hP hD hS => ?_)
  refine lv_istore (pc := 403) (lv' := [(6, .int r400.1), (5, .int r382.1), (0, .ref b0), (1, .ref (B 0 0)), (2, .ref (am 0)), (3, .ref (ao 0)), (4, .int x4)]) hx hb dL_law_403 hl (by decide) rfl (fun ls hl => ?_)
  refine lv_aload_n (pc := 405) hx hb dL_law_405 rfl (lv_at hl 4 rfl) ?_
  refine ro_V (pc := 406) (C := RX7) (As := []) (rest := []) (st1 := [.int (f_X7_thrown r400.2)]) ⟨hx, hb, hml, hown, htsL⟩ (c_X7_thrown Z l am r400.2 _ rfl) (cwV 0 htsL gL_law_X7_thrown rfl rfl rfl hv_X7_thrown ⟨Nat.le_of_ble_eq_true rfl, Nat.le_of_ble_eq_true rfl⟩) hK hE (hP.sub (ws' := wX7 Z am r400.2) (List.range' 40 36) (bF2 rfl rfl)) 7 rfl rfl rfl hl.1 rfl (lv_room (Nat.le_of_ble_eq_true rfl)) dL_law_406 ⟨(show CC + 2 ≤ 441704 by omega), (show SS + 12 ≤ 7770994 by omega)⟩ rfl ?_
  refine lv_iload (pc := 409) hx hb dL_law_409 (lv_at hl 1 rfl) ?_
  refine lv_icmp_eq (pc := 411) (tgt := 416) hx hb dL_law_411 (by decide) (fun c1 => ?_) (fun c1 => ?_)
  · have hf := (if_pos c1).symm.trans hf
    refine lv_iload (pc := 416) hx hb dL_law_416 (lv_at hl 1 rfl) ?_
    refine lv_if_ne (pc := 418) (tgt := 433) hx hb dL_law_418 (by decide) (fun c2 => ?_) (fun c2 => ?_)
    · have hf := (if_neg c2).symm.trans hf
      refine lv_goto (pc := 433) (tgt := 1443) hx hb dL_law_433 (by decide) ?_
      refine W.widen (k := CC + 5) (n := SS + 7200) (by omega) (by omega) ?_
      exact ih B r382.2.1 r400.2 r382.2.2 _ _ _ (lv_sub hl [2, 3, 4, 5, 6] rfl) hP hD hS hf
    · have hf := (if_pos c2).symm.trans hf
      refine lv_aload_n (pc := 421) hx hb dL_law_421 rfl (lv_at hl 5 rfl) ?_
      refine lv_iconst (pc := 422) (v := 0) hx hb dL_law_422 (by decide) ?_
      refine va_lald (pc := 423) (D := Z.1) (n := 1) (f := r382.2.2.2 0) hx hb hK hP 76 1 rfl rfl (inb_in (by decide)) dL_law_423 ?_
      refine lv_iload (pc := 424) hx hb dL_law_424 (lv_at hl 0 rfl) ?_
      refine lv_i2l (pc := 426) (v := r400.1.toInt64) hx hb dL_law_426 rfl ?_
      refine W.lcmp (pc := 427) hx hb dL_law_427 ?_
      refine lv_if_eq (pc := 428) (tgt := 433) hx hb dL_law_428 (by decide) (fun c3 => ?_) (fun c3 => ?_)
      · have hf := (if_pos c3).symm.trans hf
        refine lv_goto (pc := 433) (tgt := 1443) hx hb dL_law_433 (by decide) ?_
        refine W.widen (k := CC + 5) (n := SS + 7200) (by omega) (by omega) ?_
        exact ih B r382.2.1 r400.2 r382.2.2 _ _ _ (lv_sub hl [2, 3, 4, 5, 6] rfl) hP hD hS hf
      · have hf := (if_neg c3).symm.trans hf
        refine lv_iconst (pc := 431) (v := 0) hx hb dL_law_431 (by decide) ?_
        exact absurd (Option.some.inj hf) (by decide)
  · have hf := (if_neg c1).symm.trans hf
    refine lv_iconst (pc := 414) (v := 0) hx hb dL_law_414 (by decide) ?_
    exact absurd (Option.some.inj hf) (by decide)
def f_law_c4 (xs : Nat → Int32) (L : Nat) (x4 : Int32) (h : Nat → ObS) (mo w : ObS) (kk : ((Nat → ObS) → ObS → ObS → Option Int32)) : Option Int32 :=
  if inb (x4 + 1) L then
  if inb (x4 + 2) L then
  if inb (x4 + 3) L then
  (f_L_disturb h (xs (x4 + 1).toNatClampNeg) (xs (x4 + 2).toNatClampNeg) (xs (x4 + 3).toNatClampNeg) w).bind fun r456 =>
  if inb (x4 + 1) L then
  if inb (x4 + 2) L then
  if inb (x4 + 3) L then
  (f_X7_disturb mo (xs (x4 + 1).toNatClampNeg) (xs (x4 + 2).toNatClampNeg) (xs (x4 + 3).toNatClampNeg)).bind fun r480 =>
  if (f_X7_thrown r480.2) = r456.1 then
    if r456.1 = (0 : Int32) then
      if (lg_cmp (r456.2.2.2 0 ((0 : Int32).toNatClampNeg)) r480.1.toInt64) = (0 : Int32) then
        kk r456.2.1 r480.2 r456.2.2
      else
        some (0 : Int32)
    else
      kk r456.2.1 r480.2 r456.2.2
  else
    some (0 : Int32)
  else none
  else none
  else none
  else none
  else none
  else none
set_option maxHeartbeats 4000000 in
set_option maxRecDepth 100000 in
theorem lc_4 {p : Program} {l : Launch} {e : Env} {s : State} {m : MethodId} {below : List Frame} {meth : Method} {c : Code} {Z : EnvT} {b0 L : Nat} {xs : Nat → Int32} (hst : l.stackTraces = false) (C0 : lw_At p s m meth c b0 L xs) (hK : va_K Z.1 vwCl (tyV Z) s) (hE : EV Z s) (hZ : ZQ (fun q : Nat => s.heap.size ≤ q) s s.heap) {CC SS : Nat} (hCC : CC + 5 ≤ 441704) (hSS : SS + 7200 ≤ 7770994) {x4 : Int32} {B : Nat → Nat → Nat} {h : Nat → ObS} {am ao : Nat → Nat} {mo w : ObS} {H : Heap} {locs : List Loc} {ls : Array Slot} (kk : ((Nat → ObS) → ObS → ObS → Option Int32))
    (ih : ∀ (B : Nat → Nat → Nat) (h : Nat → ObS) (mo w : ObS) (H : Heap) (locs : List Loc) (ls : Array Slot), lv_has ls 7 [(0, .ref b0), (1, .ref (B 0 0)), (2, .ref (am 0)), (3, .ref (ao 0)), (4, .int x4)] → va_P Z.1 vwCl (wH Z B h ++ (wX7 Z am mo ++ wO Z ao w)) H → va_D (fun q : Nat => s.heap.size ≤ q) (wH Z B h ++ (wX7 Z am mo ++ wO Z ao w)) → va_S (fun q : Nat => s.heap.size ≤ q) s.heap H locs → kk h mo w = some 1 → W p l e room_1 s m #[Value.ref b0] below meth c H locs (CC + 5) (SS + 7200) (lw_Z below #[Value.ref b0] s) (F0 m 1443 ls []))
    (hl : lv_has ls 7 [(0, .ref b0), (1, .ref (B 0 0)), (2, .ref (am 0)), (3, .ref (ao 0)), (4, .int x4)]) (hP : va_P Z.1 vwCl (wH Z B h ++ (wX7 Z am mo ++ wO Z ao w)) H) (hD : va_D (fun q : Nat => s.heap.size ≤ q) (wH Z B h ++ (wX7 Z am mo ++ wO Z ao w))) (hS : va_S (fun q : Nat => s.heap.size ≤ q) s.heap H locs) (hf : f_law_c4 xs L x4 h mo w kk = some 1) : W p l e room_1 s m #[Value.ref b0] below meth c H locs CC SS (lw_Z below #[Value.ref b0] s) (F0 m 436 ls []) := by
  obtain ⟨hx, hb, hr, hml, hown, hts, hX, hbl, hlocks, hgv⟩ := C0
  have hown : s.vm.findClass RL = some m.cls := hown
  have htsL : ∀ w ∈ wsL_law, w.before #[Value.ref b0] s = true := fun w h9 => hts w (wsL_law_in w h9)
  have hA : ∀ q : Nat, s.heap.size ≤ q → (fun q : Nat => s.heap.size ≤ q) q := fun _ h9 => h9
  have hbA : ¬ (fun q : Nat => s.heap.size ≤ q) b0 := Nat.not_le.mpr hbl
  rw [f_law_c4] at hf
  refine lv_aload_n (pc := 436) hx hb dL_law_436 rfl (lv_at hl 1 rfl) ?_
  refine lv_aload_n (pc := 437) hx hb dL_law_437 rfl (lv_at hl 0 rfl) ?_
  refine lv_iload (pc := 438) hx hb dL_law_438 (lv_at hl 4 rfl) ?_
  refine lv_iconst (pc := 440) (v := 1) hx hb dL_law_440 (by decide) ?_
  refine lv_iadd (pc := 441) hx hb dL_law_441 ?_
  obtain ⟨g442, hf⟩ := gd hf
  refine va_sld (pc := 442) hx hb hX hbl hbA hS (inb_in g442) dL_law_442 ?_
  refine lv_aload_n (pc := 443) hx hb dL_law_443 rfl (lv_at hl 0 rfl) ?_
  refine lv_iload (pc := 444) hx hb dL_law_444 (lv_at hl 4 rfl) ?_
  refine lv_iconst (pc := 446) (v := 2) hx hb dL_law_446 (by decide) ?_
  refine lv_iadd (pc := 447) hx hb dL_law_447 ?_
  obtain ⟨g448, hf⟩ := gd hf
  refine va_sld (pc := 448) hx hb hX hbl hbA hS (inb_in g448) dL_law_448 ?_
  refine lv_aload_n (pc := 449) hx hb dL_law_449 rfl (lv_at hl 0 rfl) ?_
  refine lv_iload (pc := 450) hx hb dL_law_450 (lv_at hl 4 rfl) ?_
  refine lv_iconst (pc := 452) (v := 3) hx hb dL_law_452 (by decide) ?_
  refine lv_iadd (pc := 453) hx hb dL_law_453 ?_
  obtain ⟨g454, hf⟩ := gd hf
  refine va_sld (pc := 454) hx hb hX hbl hbA hS (inb_in g454) dL_law_454 ?_
  refine lv_aload_n (pc := 455) hx hb dL_law_455 rfl (lv_at hl 3 rfl) ?_
  obtain ⟨r456, h_456, hf⟩ := bd hf
  refine wr_S (pc := 456) (As := [.ref (B 0 0), .int (xs (x4 + 1).toNatClampNeg), .int (xs (x4 + 2).toNatClampNeg), .int (xs (x4 + 3).toNatClampNeg), .ref (ao 0)]) (rest := []) (st1 := [.int r456.1]) (wn := fun _ => wH Z B r456.2.1 ++ (wX7 Z am mo ++ wO Z ao r456.2.2)) ⟨hx, hb, hml, hown, htsL⟩ (c_L_disturb Z l hst B h (xs (x4 + 1).toNatClampNeg) (xs (x4 + 2).toNatClampNeg) (xs (x4 + 3).toNatClampNeg) ao w r456 h_456) (vx_cwSW 5 htsL gL_law_L_disturb rfl rfl rfl hs_L_disturb ⟨Nat.le_of_ble_eq_true rfl, Nat.le_of_ble_eq_true rfl⟩) hK hE hP hD hS hA hZ (List.range' 0 40 ++ List.range' (40 + 36) 1) (List.range' 40 36) (List.range' 36 40 ++ (List.range' 0 36 ++ List.range' (36 + 40) 1)) (by decide +kernel) (bC13 rfl rfl rfl) (bR2 rfl rfl) (fun _ => bN13 rfl rfl rfl rfl) rfl hl.1 rfl (lv_room (Nat.le_of_ble_eq_true rfl)) dL_law_456 ⟨(show CC + 0 + 3 ≤ 441704 by omega), (show SS + 0 + 18 ≤ 7770994 by omega)⟩ rfl (fun _ H locs hP hD hS => ?_)
  refine lv_istore (pc := 459) (lv' := [(5, .int r456.1), (0, .ref b0), (1, .ref (B 0 0)), (2, .ref (am 0)), (3, .ref (ao 0)), (4, .int x4)]) hx hb dL_law_459 hl (by decide) rfl (fun ls hl => ?_)
  refine lv_aload_n (pc := 461) hx hb dL_law_461 rfl (lv_at hl 3 rfl) ?_
  refine lv_aload_n (pc := 462) hx hb dL_law_462 rfl (lv_at hl 1 rfl) ?_
  refine lv_iload (pc := 463) hx hb dL_law_463 (lv_at hl 5 rfl) ?_
  refine lv_iconst (pc := 465) (v := 1) hx hb dL_law_465 (by decide) ?_
  refine lv_iadd (pc := 466) hx hb dL_law_466 ?_
  obtain ⟨g467, hf⟩ := gd hf
  refine va_sld (pc := 467) hx hb hX hbl hbA hS (inb_in g467) dL_law_467 ?_
  refine lv_aload_n (pc := 468) hx hb dL_law_468 rfl (lv_at hl 1 rfl) ?_
  refine lv_iload (pc := 469) hx hb dL_law_469 (lv_at hl 5 rfl) ?_
  refine lv_iconst (pc := 471) (v := 2) hx hb dL_law_471 (by decide) ?_
  refine lv_iadd (pc := 472) hx hb dL_law_472 ?_
  obtain ⟨g473, hf⟩ := gd hf
  refine va_sld (pc := 473) hx hb hX hbl hbA hS (inb_in g473) dL_law_473 ?_
  refine lv_aload_n (pc := 474) hx hb dL_law_474 rfl (lv_at hl 1 rfl) ?_
  refine lv_iload (pc := 475) hx hb dL_law_475 (lv_at hl 5 rfl) ?_
  refine lv_iconst (pc := 477) (v := 3) hx hb dL_law_477 (by decide) ?_
  refine lv_iadd (pc := 478) hx hb dL_law_478 ?_
  obtain ⟨g479, hf⟩ := gd hf
  refine va_sld (pc := 479) hx hb hX hbl hbA hS (inb_in g479) dL_law_479 ?_
  obtain ⟨r480, h_480, hf⟩ := bd hf
  refine rw_V (pc := 480) (C := RX7) (As := [.int (xs (x4 + 1).toNatClampNeg), .int (xs (x4 + 2).toNatClampNeg), .int (xs (x4 + 3).toNatClampNeg)]) (rest := []) (st1 := [.int r480.1]) (wn := fun _ => wH Z B r456.2.1 ++ (wX7 Z am r480.2 ++ wO Z ao r456.2.2)) ⟨hx, hb, hml, hown, htsL⟩ (c_X7_disturb Z l am mo (xs (x4 + 1).toNatClampNeg) (xs (x4 + 2).toNatClampNeg) (xs (x4 + 3).toNatClampNeg) r480 h_480) (cwV 3 htsL gL_law_X7_disturb rfl rfl rfl hv_X7_disturb ⟨Nat.le_of_ble_eq_true rfl, Nat.le_of_ble_eq_true rfl⟩) hK hE hP hD hS hA (List.range' 40 36) (List.range' 0 40 ++ List.range' (40 + 36) 1) (List.range' 0 40 ++ (List.range' (40 + 1) 36 ++ List.range' 40 1)) (by decide +kernel) (bC2 rfl rfl) (bR13 rfl rfl rfl) (fun _ => bN2 rfl rfl rfl rfl) 7 rfl rfl rfl hl.1 rfl (lv_room (Nat.le_of_ble_eq_true rfl)) dL_law_480 ⟨(show CC + 3 + 0 ≤ 441704 by omega), (show SS + 18 + 0 ≤ 7770994 by omega)⟩ rfl (fun _ H locs hP hD hS => ?_)
  refine lv_istore (pc := 483) (lv' := [(6, .int r480.1), (5, .int r456.1), (0, .ref b0), (1, .ref (B 0 0)), (2, .ref (am 0)), (3, .ref (ao 0)), (4, .int x4)]) hx hb dL_law_483 hl (by decide) rfl (fun ls hl => ?_)
  refine lv_aload_n (pc := 485) hx hb dL_law_485 rfl (lv_at hl 4 rfl) ?_
  refine ro_V (pc := 486) (C := RX7) (As := []) (rest := []) (st1 := [.int (f_X7_thrown r480.2)]) ⟨hx, hb, hml, hown, htsL⟩ (c_X7_thrown Z l am r480.2 _ rfl) (cwV 0 htsL gL_law_X7_thrown rfl rfl rfl hv_X7_thrown ⟨Nat.le_of_ble_eq_true rfl, Nat.le_of_ble_eq_true rfl⟩) hK hE (hP.sub (ws' := wX7 Z am r480.2) (List.range' 40 36) (bF2 rfl rfl)) 7 rfl rfl rfl hl.1 rfl (lv_room (Nat.le_of_ble_eq_true rfl)) dL_law_486 ⟨(show CC + 3 ≤ 441704 by omega), (show SS + 18 ≤ 7770994 by omega)⟩ rfl ?_
  refine lv_iload (pc := 489) hx hb dL_law_489 (lv_at hl 1 rfl) ?_
  refine lv_icmp_eq (pc := 491) (tgt := 496) hx hb dL_law_491 (by decide) (fun c1 => ?_) (fun c1 => ?_)
  · have hf := (if_pos c1).symm.trans hf
    refine lv_iload (pc := 496) hx hb dL_law_496 (lv_at hl 1 rfl) ?_
    refine lv_if_ne (pc := 498) (tgt := 513) hx hb dL_law_498 (by decide) (fun c2 => ?_) (fun c2 => ?_)
    · have hf := (if_neg c2).symm.trans hf
      refine lv_goto (pc := 513) (tgt := 1443) hx hb dL_law_513 (by decide) ?_
      refine W.widen (k := CC + 5) (n := SS + 7200) (by omega) (by omega) ?_
      exact ih B r456.2.1 r480.2 r456.2.2 _ _ _ (lv_sub hl [2, 3, 4, 5, 6] rfl) hP hD hS hf
    · have hf := (if_pos c2).symm.trans hf
      refine lv_aload_n (pc := 501) hx hb dL_law_501 rfl (lv_at hl 5 rfl) ?_
      refine lv_iconst (pc := 502) (v := 0) hx hb dL_law_502 (by decide) ?_
      refine va_lald (pc := 503) (D := Z.1) (n := 1) (f := r456.2.2.2 0) hx hb hK hP 76 1 rfl rfl (inb_in (by decide)) dL_law_503 ?_
      refine lv_iload (pc := 504) hx hb dL_law_504 (lv_at hl 0 rfl) ?_
      refine lv_i2l (pc := 506) (v := r480.1.toInt64) hx hb dL_law_506 rfl ?_
      refine W.lcmp (pc := 507) hx hb dL_law_507 ?_
      refine lv_if_eq (pc := 508) (tgt := 513) hx hb dL_law_508 (by decide) (fun c3 => ?_) (fun c3 => ?_)
      · have hf := (if_pos c3).symm.trans hf
        refine lv_goto (pc := 513) (tgt := 1443) hx hb dL_law_513 (by decide) ?_
        refine W.widen (k := CC + 5) (n := SS + 7200) (by omega) (by omega) ?_
        exact ih B r456.2.1 r480.2 r456.2.2 _ _ _ (lv_sub hl [2, 3, 4, 5, 6] rfl) hP hD hS hf
      · have hf := (if_neg c3).symm.trans hf
        refine lv_iconst (pc := 511) (v := 0) hx hb dL_law_511 (by decide) ?_
        exact absurd (Option.some.inj hf) (by decide)
  · have hf := (if_neg c1).symm.trans hf
    refine lv_iconst (pc := 494) (v := 0) hx hb dL_law_494 (by decide) ?_
    exact absurd (Option.some.inj hf) (by decide)
def f_law_c5 (xs : Nat → Int32) (L : Nat) (x4 : Int32) (h : Nat → ObS) (mo w : ObS) (kk : ((Nat → ObS) → ObS → ObS → Option Int32)) : Option Int32 :=
  if inb (x4 + 1) L then
  if inb (x4 + 2) L then
  if inb (x4 + 3) L then
  if inb (x4 + 4) L then
  if inb (x4 + 5) L then
  (f_L_control h (xs (x4 + 1).toNatClampNeg) (xs (x4 + 2).toNatClampNeg) (xs (x4 + 3).toNatClampNeg) (xs (x4 + 4).toNatClampNeg) (xs (x4 + 5).toNatClampNeg) w).bind fun r548 =>
  if inb (x4 + 1) L then
  if inb (x4 + 2) L then
  if inb (x4 + 3) L then
  if inb (x4 + 4) L then
  if inb (x4 + 5) L then
  (f_X7_control mo (xs (x4 + 1).toNatClampNeg) (xs (x4 + 2).toNatClampNeg) (xs (x4 + 3).toNatClampNeg) (xs (x4 + 4).toNatClampNeg) (xs (x4 + 5).toNatClampNeg)).bind fun r584 =>
  if (f_X7_thrown r584.2) = r548.1 then
    if r548.1 = (0 : Int32) then
      if (lg_cmp (r548.2.2.2 0 ((0 : Int32).toNatClampNeg)) r584.1.toInt64) = (0 : Int32) then
        kk r548.2.1 r584.2 r548.2.2
      else
        some (0 : Int32)
    else
      kk r548.2.1 r584.2 r548.2.2
  else
    some (0 : Int32)
  else none
  else none
  else none
  else none
  else none
  else none
  else none
  else none
  else none
  else none
set_option maxHeartbeats 4000000 in
set_option maxRecDepth 100000 in
theorem lc_5 {p : Program} {l : Launch} {e : Env} {s : State} {m : MethodId} {below : List Frame} {meth : Method} {c : Code} {Z : EnvT} {b0 L : Nat} {xs : Nat → Int32} (hst : l.stackTraces = false) (C0 : lw_At p s m meth c b0 L xs) (hK : va_K Z.1 vwCl (tyV Z) s) (hE : EV Z s) (hZ : ZQ (fun q : Nat => s.heap.size ≤ q) s s.heap) {CC SS : Nat} (hCC : CC + 5 ≤ 441704) (hSS : SS + 7200 ≤ 7770994) {x4 : Int32} {B : Nat → Nat → Nat} {h : Nat → ObS} {am ao : Nat → Nat} {mo w : ObS} {H : Heap} {locs : List Loc} {ls : Array Slot} (kk : ((Nat → ObS) → ObS → ObS → Option Int32))
    (ih : ∀ (B : Nat → Nat → Nat) (h : Nat → ObS) (mo w : ObS) (H : Heap) (locs : List Loc) (ls : Array Slot), lv_has ls 7 [(0, .ref b0), (1, .ref (B 0 0)), (2, .ref (am 0)), (3, .ref (ao 0)), (4, .int x4)] → va_P Z.1 vwCl (wH Z B h ++ (wX7 Z am mo ++ wO Z ao w)) H → va_D (fun q : Nat => s.heap.size ≤ q) (wH Z B h ++ (wX7 Z am mo ++ wO Z ao w)) → va_S (fun q : Nat => s.heap.size ≤ q) s.heap H locs → kk h mo w = some 1 → W p l e room_1 s m #[Value.ref b0] below meth c H locs (CC + 5) (SS + 7200) (lw_Z below #[Value.ref b0] s) (F0 m 1443 ls []))
    (hl : lv_has ls 7 [(0, .ref b0), (1, .ref (B 0 0)), (2, .ref (am 0)), (3, .ref (ao 0)), (4, .int x4)]) (hP : va_P Z.1 vwCl (wH Z B h ++ (wX7 Z am mo ++ wO Z ao w)) H) (hD : va_D (fun q : Nat => s.heap.size ≤ q) (wH Z B h ++ (wX7 Z am mo ++ wO Z ao w))) (hS : va_S (fun q : Nat => s.heap.size ≤ q) s.heap H locs) (hf : f_law_c5 xs L x4 h mo w kk = some 1) : W p l e room_1 s m #[Value.ref b0] below meth c H locs CC SS (lw_Z below #[Value.ref b0] s) (F0 m 516 ls []) := by
  obtain ⟨hx, hb, hr, hml, hown, hts, hX, hbl, hlocks, hgv⟩ := C0
  have hown : s.vm.findClass RL = some m.cls := hown
  have htsL : ∀ w ∈ wsL_law, w.before #[Value.ref b0] s = true := fun w h9 => hts w (wsL_law_in w h9)
  have hA : ∀ q : Nat, s.heap.size ≤ q → (fun q : Nat => s.heap.size ≤ q) q := fun _ h9 => h9
  have hbA : ¬ (fun q : Nat => s.heap.size ≤ q) b0 := Nat.not_le.mpr hbl
  rw [f_law_c5] at hf
  refine lv_aload_n (pc := 516) hx hb dL_law_516 rfl (lv_at hl 1 rfl) ?_
  refine lv_aload_n (pc := 517) hx hb dL_law_517 rfl (lv_at hl 0 rfl) ?_
  refine lv_iload (pc := 518) hx hb dL_law_518 (lv_at hl 4 rfl) ?_
  refine lv_iconst (pc := 520) (v := 1) hx hb dL_law_520 (by decide) ?_
  refine lv_iadd (pc := 521) hx hb dL_law_521 ?_
  obtain ⟨g522, hf⟩ := gd hf
  refine va_sld (pc := 522) hx hb hX hbl hbA hS (inb_in g522) dL_law_522 ?_
  refine lv_aload_n (pc := 523) hx hb dL_law_523 rfl (lv_at hl 0 rfl) ?_
  refine lv_iload (pc := 524) hx hb dL_law_524 (lv_at hl 4 rfl) ?_
  refine lv_iconst (pc := 526) (v := 2) hx hb dL_law_526 (by decide) ?_
  refine lv_iadd (pc := 527) hx hb dL_law_527 ?_
  obtain ⟨g528, hf⟩ := gd hf
  refine va_sld (pc := 528) hx hb hX hbl hbA hS (inb_in g528) dL_law_528 ?_
  refine lv_aload_n (pc := 529) hx hb dL_law_529 rfl (lv_at hl 0 rfl) ?_
  refine lv_iload (pc := 530) hx hb dL_law_530 (lv_at hl 4 rfl) ?_
  refine lv_iconst (pc := 532) (v := 3) hx hb dL_law_532 (by decide) ?_
  refine lv_iadd (pc := 533) hx hb dL_law_533 ?_
  obtain ⟨g534, hf⟩ := gd hf
  refine va_sld (pc := 534) hx hb hX hbl hbA hS (inb_in g534) dL_law_534 ?_
  refine lv_aload_n (pc := 535) hx hb dL_law_535 rfl (lv_at hl 0 rfl) ?_
  refine lv_iload (pc := 536) hx hb dL_law_536 (lv_at hl 4 rfl) ?_
  refine lv_iconst (pc := 538) (v := 4) hx hb dL_law_538 (by decide) ?_
  refine lv_iadd (pc := 539) hx hb dL_law_539 ?_
  obtain ⟨g540, hf⟩ := gd hf
  refine va_sld (pc := 540) hx hb hX hbl hbA hS (inb_in g540) dL_law_540 ?_
  refine lv_aload_n (pc := 541) hx hb dL_law_541 rfl (lv_at hl 0 rfl) ?_
  refine lv_iload (pc := 542) hx hb dL_law_542 (lv_at hl 4 rfl) ?_
  refine lv_iconst (pc := 544) (v := 5) hx hb dL_law_544 (by decide) ?_
  refine lv_iadd (pc := 545) hx hb dL_law_545 ?_
  obtain ⟨g546, hf⟩ := gd hf
  refine va_sld (pc := 546) hx hb hX hbl hbA hS (inb_in g546) dL_law_546 ?_
  refine lv_aload_n (pc := 547) hx hb dL_law_547 rfl (lv_at hl 3 rfl) ?_
  obtain ⟨r548, h_548, hf⟩ := bd hf
  refine wr_S (pc := 548) (As := [.ref (B 0 0), .int (xs (x4 + 1).toNatClampNeg), .int (xs (x4 + 2).toNatClampNeg), .int (xs (x4 + 3).toNatClampNeg), .int (xs (x4 + 4).toNatClampNeg), .int (xs (x4 + 5).toNatClampNeg), .ref (ao 0)]) (rest := []) (st1 := [.int r548.1]) (wn := fun _ => wH Z B r548.2.1 ++ (wX7 Z am mo ++ wO Z ao r548.2.2)) ⟨hx, hb, hml, hown, htsL⟩ (c_L_control Z l hst B h (xs (x4 + 1).toNatClampNeg) (xs (x4 + 2).toNatClampNeg) (xs (x4 + 3).toNatClampNeg) (xs (x4 + 4).toNatClampNeg) (xs (x4 + 5).toNatClampNeg) ao w r548 h_548) (vx_cwSW 7 htsL gL_law_L_control rfl rfl rfl hs_L_control ⟨Nat.le_of_ble_eq_true rfl, Nat.le_of_ble_eq_true rfl⟩) hK hE hP hD hS hA hZ (List.range' 0 40 ++ List.range' (40 + 36) 1) (List.range' 40 36) (List.range' 36 40 ++ (List.range' 0 36 ++ List.range' (36 + 40) 1)) (by decide +kernel) (bC13 rfl rfl rfl) (bR2 rfl rfl) (fun _ => bN13 rfl rfl rfl rfl) rfl hl.1 rfl (lv_room (Nat.le_of_ble_eq_true rfl)) dL_law_548 ⟨(show CC + 0 + 4 ≤ 441704 by omega), (show SS + 0 + 24 ≤ 7770994 by omega)⟩ rfl (fun _ H locs hP hD hS => ?_)
  refine lv_istore (pc := 551) (lv' := [(5, .int r548.1), (0, .ref b0), (1, .ref (B 0 0)), (2, .ref (am 0)), (3, .ref (ao 0)), (4, .int x4)]) hx hb dL_law_551 hl (by decide) rfl (fun ls hl => ?_)
  refine lv_aload_n (pc := 553) hx hb dL_law_553 rfl (lv_at hl 3 rfl) ?_
  refine lv_aload_n (pc := 554) hx hb dL_law_554 rfl (lv_at hl 1 rfl) ?_
  refine lv_iload (pc := 555) hx hb dL_law_555 (lv_at hl 5 rfl) ?_
  refine lv_iconst (pc := 557) (v := 1) hx hb dL_law_557 (by decide) ?_
  refine lv_iadd (pc := 558) hx hb dL_law_558 ?_
  obtain ⟨g559, hf⟩ := gd hf
  refine va_sld (pc := 559) hx hb hX hbl hbA hS (inb_in g559) dL_law_559 ?_
  refine lv_aload_n (pc := 560) hx hb dL_law_560 rfl (lv_at hl 1 rfl) ?_
  refine lv_iload (pc := 561) hx hb dL_law_561 (lv_at hl 5 rfl) ?_
  refine lv_iconst (pc := 563) (v := 2) hx hb dL_law_563 (by decide) ?_
  refine lv_iadd (pc := 564) hx hb dL_law_564 ?_
  obtain ⟨g565, hf⟩ := gd hf
  refine va_sld (pc := 565) hx hb hX hbl hbA hS (inb_in g565) dL_law_565 ?_
  refine lv_aload_n (pc := 566) hx hb dL_law_566 rfl (lv_at hl 1 rfl) ?_
  refine lv_iload (pc := 567) hx hb dL_law_567 (lv_at hl 5 rfl) ?_
  refine lv_iconst (pc := 569) (v := 3) hx hb dL_law_569 (by decide) ?_
  refine lv_iadd (pc := 570) hx hb dL_law_570 ?_
  obtain ⟨g571, hf⟩ := gd hf
  refine va_sld (pc := 571) hx hb hX hbl hbA hS (inb_in g571) dL_law_571 ?_
  refine lv_aload_n (pc := 572) hx hb dL_law_572 rfl (lv_at hl 1 rfl) ?_
  refine lv_iload (pc := 573) hx hb dL_law_573 (lv_at hl 5 rfl) ?_
  refine lv_iconst (pc := 575) (v := 4) hx hb dL_law_575 (by decide) ?_
  refine lv_iadd (pc := 576) hx hb dL_law_576 ?_
  obtain ⟨g577, hf⟩ := gd hf
  refine va_sld (pc := 577) hx hb hX hbl hbA hS (inb_in g577) dL_law_577 ?_
  refine lv_aload_n (pc := 578) hx hb dL_law_578 rfl (lv_at hl 1 rfl) ?_
  refine lv_iload (pc := 579) hx hb dL_law_579 (lv_at hl 5 rfl) ?_
  refine lv_iconst (pc := 581) (v := 5) hx hb dL_law_581 (by decide) ?_
  refine lv_iadd (pc := 582) hx hb dL_law_582 ?_
  obtain ⟨g583, hf⟩ := gd hf
  refine va_sld (pc := 583) hx hb hX hbl hbA hS (inb_in g583) dL_law_583 ?_
  obtain ⟨r584, h_584, hf⟩ := bd hf
  refine rw_V (pc := 584) (C := RX7) (As := [.int (xs (x4 + 1).toNatClampNeg), .int (xs (x4 + 2).toNatClampNeg), .int (xs (x4 + 3).toNatClampNeg), .int (xs (x4 + 4).toNatClampNeg), .int (xs (x4 + 5).toNatClampNeg)]) (rest := []) (st1 := [.int r584.1]) (wn := fun _ => wH Z B r548.2.1 ++ (wX7 Z am r584.2 ++ wO Z ao r548.2.2)) ⟨hx, hb, hml, hown, htsL⟩ (c_X7_control Z l am mo (xs (x4 + 1).toNatClampNeg) (xs (x4 + 2).toNatClampNeg) (xs (x4 + 3).toNatClampNeg) (xs (x4 + 4).toNatClampNeg) (xs (x4 + 5).toNatClampNeg) r584 h_584) (cwV 5 htsL gL_law_X7_control rfl rfl rfl hv_X7_control ⟨Nat.le_of_ble_eq_true rfl, Nat.le_of_ble_eq_true rfl⟩) hK hE hP hD hS hA (List.range' 40 36) (List.range' 0 40 ++ List.range' (40 + 36) 1) (List.range' 0 40 ++ (List.range' (40 + 1) 36 ++ List.range' 40 1)) (by decide +kernel) (bC2 rfl rfl) (bR13 rfl rfl rfl) (fun _ => bN2 rfl rfl rfl rfl) 7 rfl rfl rfl hl.1 rfl (lv_room (Nat.le_of_ble_eq_true rfl)) dL_law_584 ⟨(show CC + 4 + 0 ≤ 441704 by omega), (show SS + 24 + 0 ≤ 7770994 by omega)⟩ rfl (fun _ H locs hP hD hS => ?_)
  refine lv_istore (pc := 587) (lv' := [(6, .int r584.1), (5, .int r548.1), (0, .ref b0), (1, .ref (B 0 0)), (2, .ref (am 0)), (3, .ref (ao 0)), (4, .int x4)]) hx hb dL_law_587 hl (by decide) rfl (fun ls hl => ?_)
  refine lv_aload_n (pc := 589) hx hb dL_law_589 rfl (lv_at hl 4 rfl) ?_
  refine ro_V (pc := 590) (C := RX7) (As := []) (rest := []) (st1 := [.int (f_X7_thrown r584.2)]) ⟨hx, hb, hml, hown, htsL⟩ (c_X7_thrown Z l am r584.2 _ rfl) (cwV 0 htsL gL_law_X7_thrown rfl rfl rfl hv_X7_thrown ⟨Nat.le_of_ble_eq_true rfl, Nat.le_of_ble_eq_true rfl⟩) hK hE (hP.sub (ws' := wX7 Z am r584.2) (List.range' 40 36) (bF2 rfl rfl)) 7 rfl rfl rfl hl.1 rfl (lv_room (Nat.le_of_ble_eq_true rfl)) dL_law_590 ⟨(show CC + 4 ≤ 441704 by omega), (show SS + 24 ≤ 7770994 by omega)⟩ rfl ?_
  refine lv_iload (pc := 593) hx hb dL_law_593 (lv_at hl 1 rfl) ?_
  refine lv_icmp_eq (pc := 595) (tgt := 600) hx hb dL_law_595 (by decide) (fun c1 => ?_) (fun c1 => ?_)
  · have hf := (if_pos c1).symm.trans hf
    refine lv_iload (pc := 600) hx hb dL_law_600 (lv_at hl 1 rfl) ?_
    refine lv_if_ne (pc := 602) (tgt := 617) hx hb dL_law_602 (by decide) (fun c2 => ?_) (fun c2 => ?_)
    · have hf := (if_neg c2).symm.trans hf
      refine lv_goto (pc := 617) (tgt := 1443) hx hb dL_law_617 (by decide) ?_
      refine W.widen (k := CC + 5) (n := SS + 7200) (by omega) (by omega) ?_
      exact ih B r548.2.1 r584.2 r548.2.2 _ _ _ (lv_sub hl [2, 3, 4, 5, 6] rfl) hP hD hS hf
    · have hf := (if_pos c2).symm.trans hf
      refine lv_aload_n (pc := 605) hx hb dL_law_605 rfl (lv_at hl 5 rfl) ?_
      refine lv_iconst (pc := 606) (v := 0) hx hb dL_law_606 (by decide) ?_
      refine va_lald (pc := 607) (D := Z.1) (n := 1) (f := r548.2.2.2 0) hx hb hK hP 76 1 rfl rfl (inb_in (by decide)) dL_law_607 ?_
      refine lv_iload (pc := 608) hx hb dL_law_608 (lv_at hl 0 rfl) ?_
      refine lv_i2l (pc := 610) (v := r584.1.toInt64) hx hb dL_law_610 rfl ?_
      refine W.lcmp (pc := 611) hx hb dL_law_611 ?_
      refine lv_if_eq (pc := 612) (tgt := 617) hx hb dL_law_612 (by decide) (fun c3 => ?_) (fun c3 => ?_)
      · have hf := (if_pos c3).symm.trans hf
        refine lv_goto (pc := 617) (tgt := 1443) hx hb dL_law_617 (by decide) ?_
        refine W.widen (k := CC + 5) (n := SS + 7200) (by omega) (by omega) ?_
        exact ih B r548.2.1 r584.2 r548.2.2 _ _ _ (lv_sub hl [2, 3, 4, 5, 6] rfl) hP hD hS hf
      · have hf := (if_neg c3).symm.trans hf
        refine lv_iconst (pc := 615) (v := 0) hx hb dL_law_615 (by decide) ?_
        exact absurd (Option.some.inj hf) (by decide)
  · have hf := (if_neg c1).symm.trans hf
    refine lv_iconst (pc := 598) (v := 0) hx hb dL_law_598 (by decide) ?_
    exact absurd (Option.some.inj hf) (by decide)
