theorem en {x m a k : Nat} (h : x ≤ m) (hk : m + a ≤ k) : x + a ≤ k := Nat.le_trans (Nat.add_le_add_right h a) hk
set_option maxHeartbeats 16000000 in
set_option maxRecDepth 100000 in
theorem law_go {p : Program} {l : Launch} {e : Env} {s : State} {m : MethodId} {below : List Frame} {meth : Method} {c : Code} {Z : EnvT} {b0 L : Nat} {xs : Nat → Int32} (hst : l.stackTraces = false) (C0 : lw_At p s m meth c b0 L xs) (hK : va_K Z.1 vwCl (tyV Z) s) (hE : EV Z s) (hZ : ZQ (fun q : Nat => s.heap.size ≤ q) s s.heap) (B B2 : Nat → Nat → Nat) (ak : Nat) (h g : Nat → ObS) (kn : Nat → Int32) (CC SS : Nat) (hCC : CC ≤ 315004) (hSS : SS ≤ 3710838) (ls : Array Slot) (hl : lv_has ls 11 [(0, .ref b0), (1, .ref (B 0 0)), (2, .ref (B2 0 0)), (3, .ref ak), (4, .int 1), (5, .int 0), (6, .int 0)]) (H : Heap) (locs : List Loc) (hP : va_P Z.1 vwCl (wH Z B h ++ (wH Z B2 g ++ wK Z ak kn)) H) (hD : va_D (fun q : Nat => s.heap.size ≤ q) (wH Z B h ++ (wH Z B2 g ++ wK Z ak kn))) (hS : va_S (fun q : Nat => s.heap.size ≤ q) s.heap H locs) (hf : f_L_law xs L h g kn = some 1) : W p l e room_1 s m #[Value.ref b0] below meth c H locs CC SS (lw_Z below #[Value.ref b0] s) (F0 m 30 ls []) := by
  obtain ⟨hx, hb, hr, hml, hown, hts, hX, hbl, hlocks, hgv⟩ := C0
  have hown : s.vm.findClass RL = some m.cls := hown
  have htsL : ∀ w ∈ wsL_law, w.before #[Value.ref b0] s = true := fun w h9 => hts w (wsL_law_in w h9)
  have hA : ∀ q : Nat, s.heap.size ≤ q → (fun q : Nat => s.heap.size ≤ q) q := fun _ h9 => h9
  have hbA : ¬ (fun q : Nat => s.heap.size ≤ q) b0 := Nat.not_le.mpr hbl
  have w0 := htsL (.constant RL 76 (-2100000000)) (by decide +kernel)
  have B525 : ∀ (kn30 : Nat → Int32) (g454 : Nat → ObS) (v387_6 : Int32) (KC KS : Nat) (k : Int32 → Int32 → (Nat → ObS) → (Nat → ObS) → Option Int32) (hk : ∀ (v387_6 : Int32) (v387_4 : Int32) (h387 : Nat → ObS) (g387 : Nat → ObS) (B_387 : Nat → Nat → Nat) (B2_387 : Nat → Nat → Nat) (CC SS : Nat) (ls : Array Slot), CC + KC ≤ 597944 → SS + KS ≤ 7288590 → lv_has ls 11 [(0, .ref b0), (1, .ref (B_387 0 0)), (2, .ref (B2_387 0 0)), (3, .ref ak), (4, .int v387_4), (6, .int v387_6)] → ∀ (H : Heap) (locs : List Loc), va_P Z.1 vwCl (wH Z B_387 h387 ++ (wH Z B2_387 g387 ++ wK Z ak kn30)) H → va_D (fun q : Nat => s.heap.size ≤ q) (wH Z B_387 h387 ++ (wH Z B2_387 g387 ++ wK Z ak kn30)) → va_S (fun q : Nat => s.heap.size ≤ q) s.heap H locs → k v387_6 v387_4 h387 g387 = some 1 → W p l e room_1 s m #[Value.ref b0] below meth c H locs CC SS (lw_Z below #[Value.ref b0] s) (F0 m 387 ls [])), ∀ (v525_4 : Int32) (h525 : Nat → ObS) (B_525 : Nat → Nat → Nat) (B2_525 : Nat → Nat → Nat) (CC SS : Nat) (ls : Array Slot), CC + (0 + KC) ≤ 597944 → SS + (0 + KS) ≤ 7288590 → lv_has ls 11 [(0, .ref b0), (1, .ref (B_525 0 0)), (2, .ref (B2_525 0 0)), (3, .ref ak), (4, .int v525_4), (6, .int v387_6)] → ∀ (H : Heap) (locs : List Loc), va_P Z.1 vwCl (wH Z B_525 h525 ++ (wH Z B2_525 g454 ++ wK Z ak kn30)) H → va_D (fun q : Nat => s.heap.size ≤ q) (wH Z B_525 h525 ++ (wH Z B2_525 g454 ++ wK Z ak kn30)) → va_S (fun q : Nat => s.heap.size ≤ q) s.heap H locs → f_L_law_b525 k g454 v387_6 v525_4 h525 = some 1 → W p l e room_1 s m #[Value.ref b0] below meth c H locs CC SS (lw_Z below #[Value.ref b0] s) (F0 m 525 ls []) := by
    intro kn30 g454 v387_6 KC KS k hk v525_4 h525 B_525 B2_525 CC SS ls hCC hSS hl H locs hP hD hS hf
    rw [f_L_law_b525] at hf
    refine lv_iinc (pc := 525) (v := v387_6 + 1) (lv' := [(6, .int (v387_6 + 1)), (0, .ref b0), (1, .ref (B_525 0 0)), (2, .ref (B2_525 0 0)), (3, .ref ak), (4, .int v525_4)]) hx hb dL_law_525 hl (k := 5) rfl rfl (by decide) rfl (fun ls hl => ?_)
    refine lv_goto (pc := 528) (tgt := 387) hx hb dL_law_528 (by decide) ?_
    exact hk (v387_6 + 1) v525_4 h525 g454 B_525 B2_525 _ _ _ (by omega) (by omega) (lv_sub hl [1, 2, 3, 4, 5, 0] rfl) _ _ hP hD hS hf
  have B497 : ∀ (kn30 : Nat → Int32) (r406 : Int32) (r424 : Int32 × (Nat → ObS)) (g454 : Nat → ObS) (v387_6 : Int32) (KC KS : Nat) (k : Int32 → Int32 → (Nat → ObS) → (Nat → ObS) → Option Int32) (hk : ∀ (v387_6 : Int32) (v387_4 : Int32) (h387 : Nat → ObS) (g387 : Nat → ObS) (B_387 : Nat → Nat → Nat) (B2_387 : Nat → Nat → Nat) (CC SS : Nat) (ls : Array Slot), CC + KC ≤ 597944 → SS + KS ≤ 7288590 → lv_has ls 11 [(0, .ref b0), (1, .ref (B_387 0 0)), (2, .ref (B2_387 0 0)), (3, .ref ak), (4, .int v387_4), (6, .int v387_6)] → ∀ (H : Heap) (locs : List Loc), va_P Z.1 vwCl (wH Z B_387 h387 ++ (wH Z B2_387 g387 ++ wK Z ak kn30)) H → va_D (fun q : Nat => s.heap.size ≤ q) (wH Z B_387 h387 ++ (wH Z B2_387 g387 ++ wK Z ak kn30)) → va_S (fun q : Nat => s.heap.size ≤ q) s.heap H locs → k v387_6 v387_4 h387 g387 = some 1 → W p l e room_1 s m #[Value.ref b0] below meth c H locs CC SS (lw_Z below #[Value.ref b0] s) (F0 m 387 ls [])), ∀ (B_497 : Nat → Nat → Nat) (B2_497 : Nat → Nat → Nat) (CC SS : Nat) (ls : Array Slot), CC + (8 + KC) ≤ 597944 → SS + (48 + KS) ≤ 7288590 → lv_has ls 11 [(0, .ref b0), (1, .ref (B_497 0 0)), (2, .ref (B2_497 0 0)), (3, .ref ak), (6, .int v387_6), (7, .int (r406 + ((1913 : Int32) * (v387_6 / (61 : Int32)))))] → ∀ (H : Heap) (locs : List Loc), va_P Z.1 vwCl (wH Z B_497 r424.2 ++ (wH Z B2_497 g454 ++ wK Z ak kn30)) H → va_D (fun q : Nat => s.heap.size ≤ q) (wH Z B_497 r424.2 ++ (wH Z B2_497 g454 ++ wK Z ak kn30)) → va_S (fun q : Nat => s.heap.size ≤ q) s.heap H locs → f_L_law_b497 k r406 r424 g454 v387_6 = some 1 → W p l e room_1 s m #[Value.ref b0] below meth c H locs CC SS (lw_Z below #[Value.ref b0] s) (F0 m 497 ls []) := by
    intro kn30 r406 r424 g454 v387_6 KC KS k hk B_497 B2_497 CC SS ls hCC hSS hl H locs hP hD hS hf
    rw [f_L_law_b497] at hf
    refine lv_iload (pc := 497) hx hb dL_law_497 (lv_at hl 4 rfl) ?_
    refine lv_bipush (pc := 499) (v := 20) hx hb dL_law_499 (by decide) ?_
    refine lv_irem (pc := 501) hx hb dL_law_501 (by decide) ?_
    refine lv_bipush (pc := 502) (v := 9) hx hb dL_law_502 (by decide) ?_
    refine lv_icmp_ne (pc := 504) (tgt := 518) hx hb dL_law_504 (by decide) (fun c1 => ?_) (fun c1 => ?_)
    · have hf := (if_neg c1).symm.trans hf
      refine lv_iconst (pc := 518) (v := 1) hx hb dL_law_518 (by decide) ?_
      refine lv_goto (pc := 519) (tgt := 523) hx hb dL_law_519 (by decide) ?_
      refine lv_istore (pc := 523) (lv' := [(4, .int 1), (0, .ref b0), (1, .ref (B_497 0 0)), (2, .ref (B2_497 0 0)), (3, .ref ak), (6, .int v387_6), (7, .int (r406 + ((1913 : Int32) * (v387_6 / (61 : Int32)))))]) hx hb dL_law_523 hl (by decide) rfl (fun ls hl => ?_)
      exact B525 kn30 g454 v387_6 KC KS k hk 1 r424.2 B_497 B2_497 _ _ _ (by omega) (by omega) (lv_sub hl [1, 2, 3, 4, 0, 5] rfl) _ _ hP hD hS hf
    · have hf := (if_pos c1).symm.trans hf
      refine lv_aload_n (pc := 507) hx hb dL_law_507 rfl (lv_at hl 1 rfl) ?_
      refine lv_iload (pc := 508) hx hb dL_law_508 (lv_at hl 5 rfl) ?_
      refine lv_iconst (pc := 510) (v := 4) hx hb dL_law_510 (by decide) ?_
      refine lv_ishr (pc := 511) hx hb dL_law_511 ?_
      obtain ⟨r512, h_512, hf⟩ := bd hf
      refine wr_P (pc := 512) (As := [.ref (B_497 0 0), .int ((r406 + ((1913 : Int32) * (v387_6 / (61 : Int32)))) >>> ((4 : Int32) &&& 31))]) (rest := []) (st1 := [.int r512.1]) (wn := fun _ => wH Z B_497 r512.2 ++ (wH Z B2_497 g454 ++ wK Z ak kn30)) ⟨hx, hb, hml, hown, htsL⟩ (c_L_isKept Z l hst B_497 r424.2 ((r406 + ((1913 : Int32) * (v387_6 / (61 : Int32)))) >>> ((4 : Int32) &&& 31)) r512 h_512) (va_cwS 2 htsL gL_law_L_isKept rfl rfl rfl hs_L_isKept ⟨Nat.le_of_ble_eq_true rfl, Nat.le_of_ble_eq_true rfl⟩) hK hE hP hD hS hA hZ (List.range' 0 40) (List.range' 40 (40 + 1)) (List.range' (40 + 1) 40 ++ List.range' 0 (40 + 1)) (by decide +kernel) (bC1 rfl) (bR1 rfl rfl rfl) (fun _ => bN1 rfl rfl rfl rfl) rfl hl.1 rfl (lv_room (Nat.le_of_ble_eq_true rfl)) dL_law_512 ⟨(show CC + 0 + 8 ≤ 600086 by omega), (show SS + 0 + 48 ≤ 7301442 by omega)⟩ rfl (fun _ H locs hP hD hS => ?_)
      refine lv_if_eq (pc := 515) (tgt := 522) hx hb dL_law_515 (by decide) (fun c2 => ?_) (fun c2 => ?_)
      · have hf := (if_pos c2).symm.trans hf
        refine lv_iconst (pc := 522) (v := 0) hx hb dL_law_522 (by decide) ?_
        refine lv_istore (pc := 523) (lv' := [(4, .int 0), (0, .ref b0), (1, .ref (B_497 0 0)), (2, .ref (B2_497 0 0)), (3, .ref ak), (6, .int v387_6), (7, .int (r406 + ((1913 : Int32) * (v387_6 / (61 : Int32)))))]) hx hb dL_law_523 hl (by decide) rfl (fun ls hl => ?_)
        exact B525 kn30 g454 v387_6 KC KS k hk 0 r512.2 B_497 B2_497 _ _ _ (by omega) (by omega) (lv_sub hl [1, 2, 3, 4, 0, 5] rfl) _ _ hP hD hS hf
      · have hf := (if_neg c2).symm.trans hf
        refine lv_iconst (pc := 518) (v := 1) hx hb dL_law_518 (by decide) ?_
        refine lv_goto (pc := 519) (tgt := 523) hx hb dL_law_519 (by decide) ?_
        refine lv_istore (pc := 523) (lv' := [(4, .int 1), (0, .ref b0), (1, .ref (B_497 0 0)), (2, .ref (B2_497 0 0)), (3, .ref ak), (6, .int v387_6), (7, .int (r406 + ((1913 : Int32) * (v387_6 / (61 : Int32)))))]) hx hb dL_law_523 hl (by decide) rfl (fun ls hl => ?_)
        exact B525 kn30 g454 v387_6 KC KS k hk 1 r512.2 B_497 B2_497 _ _ _ (by omega) (by omega) (lv_sub hl [1, 2, 3, 4, 0, 5] rfl) _ _ hP hD hS hf
  have B481 : ∀ (kn30 : Nat → Int32) (r406 : Int32) (r424 : Int32 × (Nat → ObS)) (g454 : Nat → ObS) (v387_6 : Int32) (KC KS : Nat) (k : Int32 → Int32 → (Nat → ObS) → (Nat → ObS) → Option Int32) (hk : ∀ (v387_6 : Int32) (v387_4 : Int32) (h387 : Nat → ObS) (g387 : Nat → ObS) (B_387 : Nat → Nat → Nat) (B2_387 : Nat → Nat → Nat) (CC SS : Nat) (ls : Array Slot), CC + KC ≤ 597944 → SS + KS ≤ 7288590 → lv_has ls 11 [(0, .ref b0), (1, .ref (B_387 0 0)), (2, .ref (B2_387 0 0)), (3, .ref ak), (4, .int v387_4), (6, .int v387_6)] → ∀ (H : Heap) (locs : List Loc), va_P Z.1 vwCl (wH Z B_387 h387 ++ (wH Z B2_387 g387 ++ wK Z ak kn30)) H → va_D (fun q : Nat => s.heap.size ≤ q) (wH Z B_387 h387 ++ (wH Z B2_387 g387 ++ wK Z ak kn30)) → va_S (fun q : Nat => s.heap.size ≤ q) s.heap H locs → k v387_6 v387_4 h387 g387 = some 1 → W p l e room_1 s m #[Value.ref b0] below meth c H locs CC SS (lw_Z below #[Value.ref b0] s) (F0 m 387 ls [])), ∀ (B_481 : Nat → Nat → Nat) (B2_481 : Nat → Nat → Nat) (CC SS : Nat) (ls : Array Slot), CC + (550 + KC) ≤ 597944 → SS + (3300 + KS) ≤ 7288590 → lv_has ls 11 [(0, .ref b0), (1, .ref (B_481 0 0)), (2, .ref (B2_481 0 0)), (3, .ref ak), (6, .int v387_6), (7, .int (r406 + ((1913 : Int32) * (v387_6 / (61 : Int32)))))] → ∀ (H : Heap) (locs : List Loc), va_P Z.1 vwCl (wH Z B_481 r424.2 ++ (wH Z B2_481 g454 ++ wK Z ak kn30)) H → va_D (fun q : Nat => s.heap.size ≤ q) (wH Z B_481 r424.2 ++ (wH Z B2_481 g454 ++ wK Z ak kn30)) → va_S (fun q : Nat => s.heap.size ≤ q) s.heap H locs → f_L_law_b481 k kn30 r406 r424 g454 v387_6 = some 1 → W p l e room_1 s m #[Value.ref b0] below meth c H locs CC SS (lw_Z below #[Value.ref b0] s) (F0 m 481 ls []) := by
    intro kn30 r406 r424 g454 v387_6 KC KS k hk B_481 B2_481 CC SS ls hCC hSS hl H locs hP hD hS hf
    rw [f_L_law_b481] at hf
    refine lv_iload (pc := 481) hx hb dL_law_481 (lv_at hl 4 rfl) ?_
    refine lv_iconst (pc := 483) (v := 5) hx hb dL_law_483 (by decide) ?_
    refine lv_irem (pc := 484) hx hb dL_law_484 (by decide) ?_
    refine lv_iconst (pc := 485) (v := 2) hx hb dL_law_485 (by decide) ?_
    refine lv_icmp_ne (pc := 486) (tgt := 497) hx hb dL_law_486 (by decide) (fun c1 => ?_) (fun c1 => ?_)
    · have hf := (if_neg c1).symm.trans hf
      exact B497 kn30 r406 r424 g454 v387_6 KC KS k hk B_481 B2_481 _ _ _ (by omega) (by omega) (lv_sub hl [0, 1, 2, 3, 4, 5] rfl) _ _ hP hD hS hf
    · have hf := (if_pos c1).symm.trans hf
      refine lv_aload_n (pc := 489) hx hb dL_law_489 rfl (lv_at hl 1 rfl) ?_
      refine lv_aload_n (pc := 490) hx hb dL_law_490 rfl (lv_at hl 3 rfl) ?_
      obtain ⟨r491, h_491, hf⟩ := bd hf
      refine wr_P (pc := 491) (As := [.ref (B_481 0 0), .ref ak]) (rest := []) (st1 := [.int r491]) (wn := fun _ => wH Z B_481 r424.2 ++ (wH Z B2_481 g454 ++ wK Z ak kn30)) ⟨hx, hb, hml, hown, htsL⟩ (c_L_isInOrder Z l hst B_481 ak r424.2 kn30 r491 h_491) (va_cwS 2 htsL gL_law_L_isInOrder rfl rfl rfl hs_L_isInOrder ⟨Nat.le_of_ble_eq_true rfl, Nat.le_of_ble_eq_true rfl⟩) hK hE hP hD hS hA hZ (List.range' 0 40 ++ List.range' (40 + 40) 1) (List.range' 40 40) (List.range' 40 40 ++ (List.range' 0 40 ++ List.range' (40 + 40) 1)) (by decide +kernel) (bC13 rfl rfl rfl) (bR2 rfl rfl) (fun _ => bN13 rfl rfl rfl rfl) rfl hl.1 rfl (lv_room (Nat.le_of_ble_eq_true rfl)) dL_law_491 ⟨(show CC + 0 + 542 ≤ 600086 by omega), (show SS + 0 + 3252 ≤ 7301442 by omega)⟩ rfl (fun _ H locs hP hD hS => ?_)
      refine lv_if_eq (pc := 494) (tgt := 522) hx hb dL_law_494 (by decide) (fun c2 => ?_) (fun c2 => ?_)
      · have hf := (if_pos c2).symm.trans hf
        refine lv_iconst (pc := 522) (v := 0) hx hb dL_law_522 (by decide) ?_
        refine lv_istore (pc := 523) (lv' := [(4, .int 0), (0, .ref b0), (1, .ref (B_481 0 0)), (2, .ref (B2_481 0 0)), (3, .ref ak), (6, .int v387_6), (7, .int (r406 + ((1913 : Int32) * (v387_6 / (61 : Int32)))))]) hx hb dL_law_523 hl (by decide) rfl (fun ls hl => ?_)
        exact B525 kn30 g454 v387_6 KC KS k hk 0 r424.2 B_481 B2_481 _ _ _ (by omega) (by omega) (lv_sub hl [1, 2, 3, 4, 0, 5] rfl) _ _ hP hD hS hf
      · have hf := (if_neg c2).symm.trans hf
        exact B497 kn30 r406 r424 g454 v387_6 KC KS k hk B_481 B2_481 _ _ _ (by omega) (by omega) (lv_sub hl [0, 1, 2, 3, 4, 5] rfl) _ _ hP hD hS hf
  have B454 : ∀ (kn30 : Nat → Int32) (r406 : Int32) (r424 : Int32 × (Nat → ObS)) (v387_6 : Int32) (KC KS : Nat) (k : Int32 → Int32 → (Nat → ObS) → (Nat → ObS) → Option Int32) (hk : ∀ (v387_6 : Int32) (v387_4 : Int32) (h387 : Nat → ObS) (g387 : Nat → ObS) (B_387 : Nat → Nat → Nat) (B2_387 : Nat → Nat → Nat) (CC SS : Nat) (ls : Array Slot), CC + KC ≤ 597944 → SS + KS ≤ 7288590 → lv_has ls 11 [(0, .ref b0), (1, .ref (B_387 0 0)), (2, .ref (B2_387 0 0)), (3, .ref ak), (4, .int v387_4), (6, .int v387_6)] → ∀ (H : Heap) (locs : List Loc), va_P Z.1 vwCl (wH Z B_387 h387 ++ (wH Z B2_387 g387 ++ wK Z ak kn30)) H → va_D (fun q : Nat => s.heap.size ≤ q) (wH Z B_387 h387 ++ (wH Z B2_387 g387 ++ wK Z ak kn30)) → va_S (fun q : Nat => s.heap.size ≤ q) s.heap H locs → k v387_6 v387_4 h387 g387 = some 1 → W p l e room_1 s m #[Value.ref b0] below meth c H locs CC SS (lw_Z below #[Value.ref b0] s) (F0 m 387 ls [])), ∀ (v454_4 : Int32) (g454 : Nat → ObS) (B_454 : Nat → Nat → Nat) (B2_454 : Nat → Nat → Nat) (CC SS : Nat) (ls : Array Slot), CC + (2150 + KC) ≤ 597944 → SS + (12900 + KS) ≤ 7288590 → lv_has ls 11 [(0, .ref b0), (1, .ref (B_454 0 0)), (2, .ref (B2_454 0 0)), (3, .ref ak), (4, .int v454_4), (6, .int v387_6), (7, .int (r406 + ((1913 : Int32) * (v387_6 / (61 : Int32)))))] → ∀ (H : Heap) (locs : List Loc), va_P Z.1 vwCl (wH Z B_454 r424.2 ++ (wH Z B2_454 g454 ++ wK Z ak kn30)) H → va_D (fun q : Nat => s.heap.size ≤ q) (wH Z B_454 r424.2 ++ (wH Z B2_454 g454 ++ wK Z ak kn30)) → va_S (fun q : Nat => s.heap.size ≤ q) s.heap H locs → f_L_law_b454 k kn30 r406 r424 v387_6 v454_4 g454 = some 1 → W p l e room_1 s m #[Value.ref b0] below meth c H locs CC SS (lw_Z below #[Value.ref b0] s) (F0 m 454 ls []) := by
    intro kn30 r406 r424 v387_6 KC KS k hk v454_4 g454 B_454 B2_454 CC SS ls hCC hSS hl H locs hP hD hS hf
    rw [f_L_law_b454] at hf
    refine lv_iload (pc := 454) hx hb dL_law_454 (lv_at hl 4 rfl) ?_
    refine lv_if_eq (pc := 456) (tgt := 522) hx hb dL_law_456 (by decide) (fun c1 => ?_) (fun c1 => ?_)
    · have hf := (if_pos c1).symm.trans hf
      refine lv_iconst (pc := 522) (v := 0) hx hb dL_law_522 (by decide) ?_
      refine lv_istore (pc := 523) (lv' := [(4, .int 0), (0, .ref b0), (1, .ref (B_454 0 0)), (2, .ref (B2_454 0 0)), (3, .ref ak), (6, .int v387_6), (7, .int (r406 + ((1913 : Int32) * (v387_6 / (61 : Int32)))))]) hx hb dL_law_523 hl (by decide) rfl (fun ls hl => ?_)
      exact B525 kn30 g454 v387_6 KC KS k hk 0 r424.2 B_454 B2_454 _ _ _ (by omega) (by omega) (lv_sub hl [1, 2, 3, 4, 0, 5] rfl) _ _ hP hD hS hf
    · have hf := (if_neg c1).symm.trans hf
      refine lv_iload (pc := 459) hx hb dL_law_459 (lv_at hl 5 rfl) ?_
      refine lv_bipush (pc := 461) (v := 8) hx hb dL_law_461 (by decide) ?_
      refine lv_irem (pc := 463) hx hb dL_law_463 (by decide) ?_
      refine lv_bipush (pc := 464) (v := 7) hx hb dL_law_464 (by decide) ?_
      refine lv_icmp_ne (pc := 466) (tgt := 481) hx hb dL_law_466 (by decide) (fun c2 => ?_) (fun c2 => ?_)
      · have hf := (if_neg c2).symm.trans hf
        exact B481 kn30 r406 r424 g454 v387_6 KC KS k hk B_454 B2_454 _ _ _ (by omega) (by omega) (lv_sub hl [0, 1, 2, 3, 5, 6] rfl) _ _ hP hD hS hf
      · have hf := (if_pos c2).symm.trans hf
        refine lv_aload_n (pc := 469) hx hb dL_law_469 rfl (lv_at hl 1 rfl) ?_
        refine lv_aload_n (pc := 470) hx hb dL_law_470 rfl (lv_at hl 2 rfl) ?_
        refine lv_iload (pc := 471) hx hb dL_law_471 (lv_at hl 6 rfl) ?_
        refine lv_iconst (pc := 473) (v := 3) hx hb dL_law_473 (by decide) ?_
        refine lv_ishr (pc := 474) hx hb dL_law_474 ?_
        obtain ⟨r475, h_475, hf⟩ := bd hf
        refine wr_P (pc := 475) (As := [.ref (B_454 0 0), .ref (B2_454 0 0), .int ((r406 + ((1913 : Int32) * (v387_6 / (61 : Int32)))) >>> ((3 : Int32) &&& 31))]) (rest := []) (st1 := [.int r475]) (wn := fun _ => wH Z B_454 r424.2 ++ (wH Z B2_454 g454 ++ wK Z ak kn30)) ⟨hx, hb, hml, hown, htsL⟩ (c_L_areAlike Z l hst B_454 B2_454 r424.2 g454 ((r406 + ((1913 : Int32) * (v387_6 / (61 : Int32)))) >>> ((3 : Int32) &&& 31)) r475 h_475) (va_cwS 3 htsL gL_law_L_areAlike rfl rfl rfl hs_L_areAlike ⟨Nat.le_of_ble_eq_true rfl, Nat.le_of_ble_eq_true rfl⟩) hK hE hP hD hS hA hZ (List.range' 0 (40 + 40)) (List.range' (40 + 40) 1) (List.range' 1 (40 + 40) ++ List.range' 0 1) (by decide +kernel) (dC12 rfl rfl) (dR3 rfl rfl rfl) (fun _ => dN12 rfl rfl rfl rfl rfl) rfl hl.1 rfl (lv_room (Nat.le_of_ble_eq_true rfl)) dL_law_475 ⟨(show CC + 0 + 1600 ≤ 600086 by omega), (show SS + 0 + 9600 ≤ 7301442 by omega)⟩ rfl (fun _ H locs hP hD hS => ?_)
        refine lv_if_eq (pc := 478) (tgt := 522) hx hb dL_law_478 (by decide) (fun c3 => ?_) (fun c3 => ?_)
        · have hf := (if_pos c3).symm.trans hf
          refine lv_iconst (pc := 522) (v := 0) hx hb dL_law_522 (by decide) ?_
          refine lv_istore (pc := 523) (lv' := [(4, .int 0), (0, .ref b0), (1, .ref (B_454 0 0)), (2, .ref (B2_454 0 0)), (3, .ref ak), (6, .int v387_6), (7, .int (r406 + ((1913 : Int32) * (v387_6 / (61 : Int32)))))]) hx hb dL_law_523 hl (by decide) rfl (fun ls hl => ?_)
          exact B525 kn30 g454 v387_6 KC KS k hk 0 r424.2 B_454 B2_454 _ _ _ (by omega) (by omega) (lv_sub hl [1, 2, 3, 4, 0, 5] rfl) _ _ hP hD hS hf
        · have hf := (if_neg c3).symm.trans hf
          exact B481 kn30 r406 r424 g454 v387_6 KC KS k hk B_454 B2_454 _ _ _ (by omega) (by omega) (lv_sub hl [0, 1, 2, 3, 5, 6] rfl) _ _ hP hD hS hf
  have B387 : ∀ (kn30 : Nat → Int32) (n : Nat), ∀ (v387_6 : Int32) (v387_4 : Int32) (h387 : Nat → ObS) (g387 : Nat → ObS) (B_387 : Nat → Nat → Nat) (B2_387 : Nat → Nat → Nat) (CC SS : Nat) (ls : Array Slot), CC + 2158 * n ≤ 597944 → SS + 27300 * n ≤ 7288590 → lv_has ls 11 [(0, .ref b0), (1, .ref (B_387 0 0)), (2, .ref (B2_387 0 0)), (3, .ref ak), (4, .int v387_4), (6, .int v387_6)] → ∀ (H : Heap) (locs : List Loc), va_P Z.1 vwCl (wH Z B_387 h387 ++ (wH Z B2_387 g387 ++ wK Z ak kn30)) H → va_D (fun q : Nat => s.heap.size ≤ q) (wH Z B_387 h387 ++ (wH Z B2_387 g387 ++ wK Z ak kn30)) → va_S (fun q : Nat => s.heap.size ≤ q) s.heap H locs → f_L_law_b387 xs L kn30 n v387_6 v387_4 h387 g387 = some 1 → W p l e room_1 s m #[Value.ref b0] below meth c H locs CC SS (lw_Z below #[Value.ref b0] s) (F0 m 387 ls []) := by
    intro kn30
    intro n
    induction n with
    | zero => intro v387_6 v387_4 h387 g387 B_387 B2_387 CC SS ls hCC hSS hl H locs hP hD hS hf; rw [f_L_law_b387] at hf; exact nomatch hf
    | succ n ih =>
      intro v387_6 v387_4 h387 g387 B_387 B2_387 CC SS ls hCC hSS hl H locs hP hD hS hf
      rw [f_L_law_b387] at hf
      refine lv_iload (pc := 387) hx hb dL_law_387 (lv_at hl 5 rfl) ?_
      refine lv_sipush (pc := 389) (v := 130) hx hb dL_law_389 (by decide) ?_
      refine lv_icmp_ge (pc := 392) (tgt := 531) hx hb dL_law_392 (by decide) (fun c1 => ?_) (fun c1 => ?_)
      · have hf := (if_pos c1).symm.trans hf
        refine lv_iload (pc := 531) hx hb dL_law_531 (lv_at hl 4 rfl) ?_
        refine lv_if_eq (pc := 533) (tgt := 558) hx hb dL_law_533 (by decide) (fun c2 => ?_) (fun c2 => ?_)
        · have hf := (if_pos c2).symm.trans hf
          refine lv_iconst (pc := 558) (v := 0) hx hb dL_law_558 (by decide) ?_
          exact absurd (Option.some.inj hf) (by decide)
        · have hf := (if_neg c2).symm.trans hf
          refine lv_aload_n (pc := 536) hx hb dL_law_536 rfl (lv_at hl 1 rfl) ?_
          refine lv_aload_n (pc := 537) hx hb dL_law_537 rfl (lv_at hl 2 rfl) ?_
          refine lv_bipush (pc := 538) (v := 7) hx hb dL_law_538 (by decide) ?_
          obtain ⟨r540, h_540, hf⟩ := bd hf
          refine wr_P (pc := 540) (As := [.ref (B_387 0 0), .ref (B2_387 0 0), .int 7]) (rest := []) (st1 := [.int r540]) (wn := fun _ => wH Z B_387 h387 ++ (wH Z B2_387 g387 ++ wK Z ak kn30)) ⟨hx, hb, hml, hown, htsL⟩ (c_L_areAlike Z l hst B_387 B2_387 h387 g387 7 r540 h_540) (va_cwS 3 htsL gL_law_L_areAlike rfl rfl rfl hs_L_areAlike ⟨Nat.le_of_ble_eq_true rfl, Nat.le_of_ble_eq_true rfl⟩) hK hE hP hD hS hA hZ (List.range' 0 (40 + 40)) (List.range' (40 + 40) 1) (List.range' 1 (40 + 40) ++ List.range' 0 1) (by decide +kernel) (dC12 rfl rfl) (dR3 rfl rfl rfl) (fun _ => dN12 rfl rfl rfl rfl rfl) rfl hl.1 rfl (lv_room (Nat.le_of_ble_eq_true rfl)) dL_law_540 ⟨(show CC + 0 + 1600 ≤ 600086 by omega), (show SS + 0 + 9600 ≤ 7301442 by omega)⟩ rfl (fun _ H locs hP hD hS => ?_)
          refine lv_if_eq (pc := 543) (tgt := 558) hx hb dL_law_543 (by decide) (fun c3 => ?_) (fun c3 => ?_)
          · have hf := (if_pos c3).symm.trans hf
            refine lv_iconst (pc := 558) (v := 0) hx hb dL_law_558 (by decide) ?_
            exact absurd (Option.some.inj hf) (by decide)
          · have hf := (if_neg c3).symm.trans hf
            refine lv_aload_n (pc := 546) hx hb dL_law_546 rfl (lv_at hl 2 rfl) ?_
            refine lv_aload_n (pc := 547) hx hb dL_law_547 rfl (lv_at hl 3 rfl) ?_
            obtain ⟨r548, h_548, hf⟩ := bd hf
            refine wr_P (pc := 548) (As := [.ref (B2_387 0 0), .ref ak]) (rest := []) (st1 := [.int r548]) (wn := fun _ => wH Z B_387 h387 ++ (wH Z B2_387 g387 ++ wK Z ak kn30)) ⟨hx, hb, hml, hown, htsL⟩ (c_L_isInOrder Z l hst B2_387 ak g387 kn30 r548 h_548) (va_cwS 2 htsL gL_law_L_isInOrder rfl rfl rfl hs_L_isInOrder ⟨Nat.le_of_ble_eq_true rfl, Nat.le_of_ble_eq_true rfl⟩) hK hE hP hD hS hA hZ (List.range' 40 (40 + 1)) (List.range' 0 40) (List.range' 0 (40 + (40 + 1))) (by decide +kernel) (bX rfl rfl rfl) (dR1 rfl) (fun _ => dN23 rfl rfl rfl) rfl hl.1 rfl (lv_room (Nat.le_of_ble_eq_true rfl)) dL_law_548 ⟨(show CC + 1600 + 542 ≤ 600086 by omega), (show SS + 9600 + 3252 ≤ 7301442 by omega)⟩ rfl (fun _ H locs hP hD hS => ?_)
            refine lv_if_eq (pc := 551) (tgt := 558) hx hb dL_law_551 (by decide) (fun c4 => ?_) (fun c4 => ?_)
            · have hf := (if_pos c4).symm.trans hf
              refine lv_iconst (pc := 558) (v := 0) hx hb dL_law_558 (by decide) ?_
              exact absurd (Option.some.inj hf) (by decide)
            · have hf := (if_neg c4).symm.trans hf
              refine lv_iconst (pc := 554) (v := 1) hx hb dL_law_554 (by decide) ?_
              refine lv_goto (pc := 555) (tgt := 559) hx hb dL_law_555 (by decide) ?_
              refine va_forget (fun q hq => hS.2.2 q hq) ?_
              refine W.widen (k := 600086) (n := 7301442) (by omega) (by omega) ?_
              exact lw_ret hx hb hr hlocks dL_law_559
      · have hf := (if_neg c1).symm.trans hf
        refine lv_iload (pc := 395) hx hb dL_law_395 (lv_at hl 4 rfl) ?_
        refine lv_if_eq (pc := 397) (tgt := 531) hx hb dL_law_397 (by decide) (fun c5 => ?_) (fun c5 => ?_)
        · have hf := (if_pos c5).symm.trans hf
          refine lv_iload (pc := 531) hx hb dL_law_531 (lv_at hl 4 rfl) ?_
          refine lv_if_eq (pc := 533) (tgt := 558) hx hb dL_law_533 (by decide) (fun c6 => ?_) (fun c6 => ?_)
          · have hf := (if_pos c6).symm.trans hf
            refine lv_iconst (pc := 558) (v := 0) hx hb dL_law_558 (by decide) ?_
            exact absurd (Option.some.inj hf) (by decide)
          · have hf := (if_neg c6).symm.trans hf
            refine lv_aload_n (pc := 536) hx hb dL_law_536 rfl (lv_at hl 1 rfl) ?_
            refine lv_aload_n (pc := 537) hx hb dL_law_537 rfl (lv_at hl 2 rfl) ?_
            refine lv_bipush (pc := 538) (v := 7) hx hb dL_law_538 (by decide) ?_
            obtain ⟨r540, h_540, hf⟩ := bd hf
            refine wr_P (pc := 540) (As := [.ref (B_387 0 0), .ref (B2_387 0 0), .int 7]) (rest := []) (st1 := [.int r540]) (wn := fun _ => wH Z B_387 h387 ++ (wH Z B2_387 g387 ++ wK Z ak kn30)) ⟨hx, hb, hml, hown, htsL⟩ (c_L_areAlike Z l hst B_387 B2_387 h387 g387 7 r540 h_540) (va_cwS 3 htsL gL_law_L_areAlike rfl rfl rfl hs_L_areAlike ⟨Nat.le_of_ble_eq_true rfl, Nat.le_of_ble_eq_true rfl⟩) hK hE hP hD hS hA hZ (List.range' 0 (40 + 40)) (List.range' (40 + 40) 1) (List.range' 1 (40 + 40) ++ List.range' 0 1) (by decide +kernel) (dC12 rfl rfl) (dR3 rfl rfl rfl) (fun _ => dN12 rfl rfl rfl rfl rfl) rfl hl.1 rfl (lv_room (Nat.le_of_ble_eq_true rfl)) dL_law_540 ⟨(show CC + 0 + 1600 ≤ 600086 by omega), (show SS + 0 + 9600 ≤ 7301442 by omega)⟩ rfl (fun _ H locs hP hD hS => ?_)
            refine lv_if_eq (pc := 543) (tgt := 558) hx hb dL_law_543 (by decide) (fun c7 => ?_) (fun c7 => ?_)
            · have hf := (if_pos c7).symm.trans hf
              refine lv_iconst (pc := 558) (v := 0) hx hb dL_law_558 (by decide) ?_
              exact absurd (Option.some.inj hf) (by decide)
            · have hf := (if_neg c7).symm.trans hf
              refine lv_aload_n (pc := 546) hx hb dL_law_546 rfl (lv_at hl 2 rfl) ?_
              refine lv_aload_n (pc := 547) hx hb dL_law_547 rfl (lv_at hl 3 rfl) ?_
              obtain ⟨r548, h_548, hf⟩ := bd hf
              refine wr_P (pc := 548) (As := [.ref (B2_387 0 0), .ref ak]) (rest := []) (st1 := [.int r548]) (wn := fun _ => wH Z B_387 h387 ++ (wH Z B2_387 g387 ++ wK Z ak kn30)) ⟨hx, hb, hml, hown, htsL⟩ (c_L_isInOrder Z l hst B2_387 ak g387 kn30 r548 h_548) (va_cwS 2 htsL gL_law_L_isInOrder rfl rfl rfl hs_L_isInOrder ⟨Nat.le_of_ble_eq_true rfl, Nat.le_of_ble_eq_true rfl⟩) hK hE hP hD hS hA hZ (List.range' 40 (40 + 1)) (List.range' 0 40) (List.range' 0 (40 + (40 + 1))) (by decide +kernel) (bX rfl rfl rfl) (dR1 rfl) (fun _ => dN23 rfl rfl rfl) rfl hl.1 rfl (lv_room (Nat.le_of_ble_eq_true rfl)) dL_law_548 ⟨(show CC + 1600 + 542 ≤ 600086 by omega), (show SS + 9600 + 3252 ≤ 7301442 by omega)⟩ rfl (fun _ H locs hP hD hS => ?_)
              refine lv_if_eq (pc := 551) (tgt := 558) hx hb dL_law_551 (by decide) (fun c8 => ?_) (fun c8 => ?_)
              · have hf := (if_pos c8).symm.trans hf
                refine lv_iconst (pc := 558) (v := 0) hx hb dL_law_558 (by decide) ?_
                exact absurd (Option.some.inj hf) (by decide)
              · have hf := (if_neg c8).symm.trans hf
                refine lv_iconst (pc := 554) (v := 1) hx hb dL_law_554 (by decide) ?_
                refine lv_goto (pc := 555) (tgt := 559) hx hb dL_law_555 (by decide) ?_
                refine va_forget (fun q hq => hS.2.2 q hq) ?_
                refine W.widen (k := 600086) (n := 7301442) (by omega) (by omega) ?_
                exact lw_ret hx hb hr hlocks dL_law_559
        · have hf := (if_neg c5).symm.trans hf
          refine lv_aload_n (pc := 400) hx hb dL_law_400 rfl (lv_at hl 0 rfl) ?_
          refine lv_iload (pc := 401) hx hb dL_law_401 (lv_at hl 5 rfl) ?_
          refine lv_bipush (pc := 403) (v := 61) hx hb dL_law_403 (by decide) ?_
          refine lv_irem (pc := 405) hx hb dL_law_405 (by decide) ?_
          obtain ⟨r406, h_406, hf⟩ := bd hf
          refine ce_S (pc := 406) (rest := []) (st1 := [.int r406]) ⟨hx, hb, hml, hown, htsL⟩ (c_L_cell l b0 L xs (v387_6 - v387_6 / (61 : Int32) * (61 : Int32)) r406 h_406) (va_cwS 2 htsL gL_law_L_cell rfl rfl rfl hs_L_cell ⟨Nat.le_of_ble_eq_true rfl, Nat.le_of_ble_eq_true rfl⟩) hX hbl hbA hS rfl hl.1 rfl (lv_room (Nat.le_of_ble_eq_true rfl)) dL_law_406 ⟨(show CC + 0 ≤ 600086 by omega), (show SS + 0 ≤ 7301442 by omega)⟩ rfl ?_
          refine lv_sipush (pc := 409) (v := 1913) hx hb dL_law_409 (by decide) ?_
          refine lv_iload (pc := 412) hx hb dL_law_412 (lv_at hl 5 rfl) ?_
          refine lv_bipush (pc := 414) (v := 61) hx hb dL_law_414 (by decide) ?_
          refine lv_idiv (pc := 416) hx hb dL_law_416 (by decide) ?_
          refine lv_imul (pc := 417) hx hb dL_law_417 ?_
          refine lv_iadd (pc := 418) hx hb dL_law_418 ?_
          refine lv_istore (pc := 419) (lv' := [(7, .int (r406 + ((1913 : Int32) * (v387_6 / (61 : Int32))))), (0, .ref b0), (1, .ref (B_387 0 0)), (2, .ref (B2_387 0 0)), (3, .ref ak), (4, .int v387_4), (6, .int v387_6)]) hx hb dL_law_419 hl (by decide) rfl (fun ls hl => ?_)
          refine lv_aload_n (pc := 421) hx hb dL_law_421 rfl (lv_at hl 2 rfl) ?_
          refine lv_iload (pc := 422) hx hb dL_law_422 (lv_at hl 0 rfl) ?_
          obtain ⟨r424, h_424, hf⟩ := bd hf
          refine wr_P (pc := 424) (As := [.ref (B_387 0 0), .int (r406 + ((1913 : Int32) * (v387_6 / (61 : Int32))))]) (rest := []) (st1 := [.int r424.1]) (wn := fun q => wH Z (bu B_387 7 (ad1 (B_387 7) q)) r424.2 ++ (wH Z B2_387 g387 ++ wK Z ak kn30)) ⟨hx, hb, hml, hown, htsL⟩ (c_L_act Z l hst B_387 h387 (r406 + ((1913 : Int32) * (v387_6 / (61 : Int32)))) r424 h_424) (va_cwS 2 htsL gL_law_L_act rfl rfl rfl hs_L_act ⟨Nat.le_of_ble_eq_true rfl, Nat.le_of_ble_eq_true rfl⟩) hK hE hP hD hS hA hZ (List.range' 0 40) (List.range' 40 (40 + 1)) (List.range' (40 + 1) 40 ++ List.range' 0 (40 + 1)) (by decide +kernel) (bC1 rfl) (bR1 rfl rfl rfl) (fun _ => bN1 rfl rfl rfl rfl) rfl hl.1 rfl (lv_room (Nat.le_of_ble_eq_true rfl)) dL_law_424 ⟨(show CC + 0 + 4 ≤ 600086 by omega), (show SS + 0 + 7200 ≤ 7301442 by omega)⟩ rfl (fun q424 H locs hP hD hS => ?_)
          refine lv_istore (pc := 427) (lv' := [(8, .int r424.1), (7, .int (r406 + ((1913 : Int32) * (v387_6 / (61 : Int32))))), (0, .ref b0), (1, .ref (B_387 0 0)), (2, .ref (B2_387 0 0)), (3, .ref ak), (4, .int v387_4), (6, .int v387_6)]) hx hb dL_law_427 hl (by decide) rfl (fun ls hl => ?_)
          refine lv_iload (pc := 429) hx hb dL_law_429 (lv_at hl 0 rfl) ?_
          refine lv_ldc (pc := 431) (v := (-2100000000)) hx hb hown w0 dL_law_431 ?_
          refine lv_icmp_eq (pc := 433) (tgt := 447) hx hb dL_law_433 (by decide) (fun c9 => ?_) (fun c9 => ?_)
          · have hf := (if_pos c9).symm.trans hf
            refine lv_iconst (pc := 447) (v := 1) hx hb dL_law_447 (by decide) ?_
            refine lv_goto (pc := 448) (tgt := 452) hx hb dL_law_448 (by decide) ?_
            refine lv_istore (pc := 452) (lv' := [(4, .int 1), (8, .int r424.1), (7, .int (r406 + ((1913 : Int32) * (v387_6 / (61 : Int32))))), (0, .ref b0), (1, .ref (B_387 0 0)), (2, .ref (B2_387 0 0)), (3, .ref ak), (6, .int v387_6)]) hx hb dL_law_452 hl (by decide) rfl (fun ls hl => ?_)
            exact B454 kn30 r406 r424 v387_6 (2158 * n) (27300 * n) (f_L_law_b387 xs L kn30 n) ih 1 g387 (bu B_387 7 (ad1 (B_387 7) q424)) B2_387 _ _ _ (by omega) (by omega) (lv_sub hl [3, 4, 5, 6, 0, 7, 2] rfl) _ _ hP hD hS hf
          · have hf := (if_neg c9).symm.trans hf
            refine lv_aload_n (pc := 436) hx hb dL_law_436 rfl (lv_at hl 4 rfl) ?_
            refine lv_iload (pc := 437) hx hb dL_law_437 (lv_at hl 1 rfl) ?_
            obtain ⟨r439, h_439, hf⟩ := bd hf
            refine wr_P (pc := 439) (As := [.ref (B2_387 0 0), .int (r406 + ((1913 : Int32) * (v387_6 / (61 : Int32))))]) (rest := []) (st1 := [.int r439.1]) (wn := fun q => wH Z (bu B_387 7 (ad1 (B_387 7) q424)) r424.2 ++ (wH Z (bu B2_387 7 (ad1 (B2_387 7) q)) r439.2 ++ wK Z ak kn30)) ⟨hx, hb, hml, hown, htsL⟩ (c_L_act Z l hst B2_387 g387 (r406 + ((1913 : Int32) * (v387_6 / (61 : Int32)))) r439 h_439) (va_cwS 2 htsL gL_law_L_act rfl rfl rfl hs_L_act ⟨Nat.le_of_ble_eq_true rfl, Nat.le_of_ble_eq_true rfl⟩) hK hE hP hD hS hA hZ (List.range' 40 40) (List.range' 0 40 ++ List.range' (40 + 40) 1) (List.range' 0 40 ++ (List.range' (40 + 1) 40 ++ List.range' 40 1)) (by decide +kernel) (bC2 rfl rfl) (bR13 rfl rfl rfl) (fun _ => bN2 rfl rfl rfl rfl) rfl hl.1 rfl (lv_room (Nat.le_of_ble_eq_true rfl)) dL_law_439 ⟨(show CC + 4 + 4 ≤ 600086 by omega), (show SS + 7200 + 7200 ≤ 7301442 by omega)⟩ rfl (fun q439 H locs hP hD hS => ?_)
            refine lv_iload (pc := 442) hx hb dL_law_442 (lv_at hl 0 rfl) ?_
            refine lv_icmp_ne (pc := 444) (tgt := 451) hx hb dL_law_444 (by decide) (fun c10 => ?_) (fun c10 => ?_)
            · have hf := (if_neg c10).symm.trans hf
              refine lv_iconst (pc := 451) (v := 0) hx hb dL_law_451 (by decide) ?_
              refine lv_istore (pc := 452) (lv' := [(4, .int 0), (8, .int r424.1), (7, .int (r406 + ((1913 : Int32) * (v387_6 / (61 : Int32))))), (0, .ref b0), (1, .ref (B_387 0 0)), (2, .ref (B2_387 0 0)), (3, .ref ak), (6, .int v387_6)]) hx hb dL_law_452 hl (by decide) rfl (fun ls hl => ?_)
              exact B454 kn30 r406 r424 v387_6 (2158 * n) (27300 * n) (f_L_law_b387 xs L kn30 n) ih 0 r439.2 (bu B_387 7 (ad1 (B_387 7) q424)) (bu B2_387 7 (ad1 (B2_387 7) q439)) _ _ _ (by omega) (by omega) (lv_sub hl [3, 4, 5, 6, 0, 7, 2] rfl) _ _ hP hD hS hf
            · have hf := (if_pos c10).symm.trans hf
              refine lv_iconst (pc := 447) (v := 1) hx hb dL_law_447 (by decide) ?_
              refine lv_goto (pc := 448) (tgt := 452) hx hb dL_law_448 (by decide) ?_
              refine lv_istore (pc := 452) (lv' := [(4, .int 1), (8, .int r424.1), (7, .int (r406 + ((1913 : Int32) * (v387_6 / (61 : Int32))))), (0, .ref b0), (1, .ref (B_387 0 0)), (2, .ref (B2_387 0 0)), (3, .ref ak), (6, .int v387_6)]) hx hb dL_law_452 hl (by decide) rfl (fun ls hl => ?_)
              exact B454 kn30 r406 r424 v387_6 (2158 * n) (27300 * n) (f_L_law_b387 xs L kn30 n) ih 1 r439.2 (bu B_387 7 (ad1 (B_387 7) q424)) (bu B2_387 7 (ad1 (B2_387 7) q439)) _ _ _ (by omega) (by omega) (lv_sub hl [3, 4, 5, 6, 0, 7, 2] rfl) _ _ hP hD hS hf
  have B287 : ∀ (kn30 : Nat → Int32) (n : Nat), ∀ (v287_6 : Int32) (v287_4 : Int32) (h287 : Nat → ObS) (g287 : Nat → ObS) (CC SS : Nat) (ls : Array Slot), CC + 8 * n ≤ 315246 → SS + 48 * n ≤ 3712290 → lv_has ls 11 [(0, .ref b0), (1, .ref (B 0 0)), (2, .ref (B2 0 0)), (3, .ref ak), (4, .int v287_4), (6, .int v287_6)] → ∀ (H : Heap) (locs : List Loc), va_P Z.1 vwCl (wH Z B h287 ++ (wH Z B2 g287 ++ wK Z ak kn30)) H → va_D (fun q : Nat => s.heap.size ≤ q) (wH Z B h287 ++ (wH Z B2 g287 ++ wK Z ak kn30)) → va_S (fun q : Nat => s.heap.size ≤ q) s.heap H locs → f_L_law_b287 xs L kn30 n v287_6 v287_4 h287 g287 = some 1 → W p l e room_1 s m #[Value.ref b0] below meth c H locs CC SS (lw_Z below #[Value.ref b0] s) (F0 m 287 ls []) := by
    intro kn30
    intro n
    induction n with
    | zero => intro v287_6 v287_4 h287 g287 CC SS ls hCC hSS hl H locs hP hD hS hf; rw [f_L_law_b287] at hf; exact nomatch hf
    | succ n ih =>
      intro v287_6 v287_4 h287 g287 CC SS ls hCC hSS hl H locs hP hD hS hf
      rw [f_L_law_b287] at hf
      refine lv_iload (pc := 287) hx hb dL_law_287 (lv_at hl 5 rfl) ?_
      refine lv_iconst (pc := 289) (v := 3) hx hb dL_law_289 (by decide) ?_
      refine lv_icmp_ge (pc := 290) (tgt := 384) hx hb dL_law_290 (by decide) (fun c1 => ?_) (fun c1 => ?_)
      · have hf := (if_pos c1).symm.trans hf
        refine lv_iconst (pc := 384) (v := 0) hx hb dL_law_384 (by decide) ?_
        refine lv_istore (pc := 385) (lv' := [(6, .int 0), (0, .ref b0), (1, .ref (B 0 0)), (2, .ref (B2 0 0)), (3, .ref ak), (4, .int v287_4)]) hx hb dL_law_385 hl (by decide) rfl (fun ls hl => ?_)
        exact B387 kn30 131 0 v287_4 h287 g287 B B2 _ _ _ (en (m := 315246) (by omega) (Nat.le_of_ble_eq_true rfl)) (en (m := 3712290) (by omega) (Nat.le_of_ble_eq_true rfl)) (lv_sub hl [1, 2, 3, 4, 5, 0] rfl) _ _ hP hD hS hf
      · have hf := (if_neg c1).symm.trans hf
        refine lv_iload (pc := 293) hx hb dL_law_293 (lv_at hl 4 rfl) ?_
        refine lv_if_eq (pc := 295) (tgt := 384) hx hb dL_law_295 (by decide) (fun c2 => ?_) (fun c2 => ?_)
        · have hf := (if_pos c2).symm.trans hf
          refine lv_iconst (pc := 384) (v := 0) hx hb dL_law_384 (by decide) ?_
          refine lv_istore (pc := 385) (lv' := [(6, .int 0), (0, .ref b0), (1, .ref (B 0 0)), (2, .ref (B2 0 0)), (3, .ref ak), (4, .int v287_4)]) hx hb dL_law_385 hl (by decide) rfl (fun ls hl => ?_)
          exact B387 kn30 131 0 v287_4 h287 g287 B B2 _ _ _ (en (m := 315246) (by omega) (Nat.le_of_ble_eq_true rfl)) (en (m := 3712290) (by omega) (Nat.le_of_ble_eq_true rfl)) (lv_sub hl [1, 2, 3, 4, 5, 0] rfl) _ _ hP hD hS hf
        · have hf := (if_neg c2).symm.trans hf
          refine lv_aload_n (pc := 298) hx hb dL_law_298 rfl (lv_at hl 0 rfl) ?_
          refine lv_bipush (pc := 299) (v := 20) hx hb dL_law_299 (by decide) ?_
          refine lv_iload (pc := 301) hx hb dL_law_301 (lv_at hl 5 rfl) ?_
          refine lv_iadd (pc := 303) hx hb dL_law_303 ?_
          obtain ⟨r304, h_304, hf⟩ := bd hf
          refine ce_S (pc := 304) (rest := []) (st1 := [.int r304]) ⟨hx, hb, hml, hown, htsL⟩ (c_L_cell l b0 L xs ((20 : Int32) + v287_6) r304 h_304) (va_cwS 2 htsL gL_law_L_cell rfl rfl rfl hs_L_cell ⟨Nat.le_of_ble_eq_true rfl, Nat.le_of_ble_eq_true rfl⟩) hX hbl hbA hS rfl hl.1 rfl (lv_room (Nat.le_of_ble_eq_true rfl)) dL_law_304 ⟨(show CC + 0 ≤ 600086 by omega), (show SS + 0 ≤ 7301442 by omega)⟩ rfl ?_
          refine lv_iconst (pc := 307) (v := 3) hx hb dL_law_307 (by decide) ?_
          refine lv_ishr (pc := 308) hx hb dL_law_308 ?_
          refine lv_istore (pc := 309) (lv' := [(7, .int (r304 >>> ((3 : Int32) &&& 31))), (0, .ref b0), (1, .ref (B 0 0)), (2, .ref (B2 0 0)), (3, .ref ak), (4, .int v287_4), (6, .int v287_6)]) hx hb dL_law_309 hl (by decide) rfl (fun ls hl => ?_)
          refine lv_aload_n (pc := 311) hx hb dL_law_311 rfl (lv_at hl 2 rfl) ?_
          refine lv_iconst (pc := 312) (v := 2) hx hb dL_law_312 (by decide) ?_
          refine lv_iload (pc := 313) hx hb dL_law_313 (lv_at hl 0 rfl) ?_
          refine lv_bipush (pc := 315) (v := 8) hx hb dL_law_315 (by decide) ?_
          refine ro_S (pc := 317) (As := [.int (r304 >>> ((3 : Int32) &&& 31)), .int 8]) (rest := [.int 2, .ref (B 0 0)]) (st1 := [.int (lw (r304 >>> ((3 : Int32) &&& 31)) 8), .int 2, .ref (B 0 0)]) ⟨hx, hb, hml, hown, htsL⟩ (c_L_low Z l (r304 >>> ((3 : Int32) &&& 31)) 8 (by decide)) (va_cwS 2 htsL gL_law_L_low rfl rfl rfl hs_L_low ⟨Nat.le_of_ble_eq_true rfl, Nat.le_of_ble_eq_true rfl⟩) hK hE (hP.sub (ws' := []) [] rfl) rfl hl.1 rfl (lv_room (Nat.le_of_ble_eq_true rfl)) dL_law_317 ⟨(show CC + 0 ≤ 600086 by omega), (show SS + 0 ≤ 7301442 by omega)⟩ rfl ?_
          refine lv_iload (pc := 320) hx hb dL_law_320 (lv_at hl 0 rfl) ?_
          refine lv_iconst (pc := 322) (v := 4) hx hb dL_law_322 (by decide) ?_
          refine lv_ishr (pc := 323) hx hb dL_law_323 ?_
          refine lv_bipush (pc := 324) (v := 16) hx hb dL_law_324 (by decide) ?_
          refine ro_S (pc := 326) (As := [.int ((r304 >>> ((3 : Int32) &&& 31)) >>> ((4 : Int32) &&& 31)), .int 16]) (rest := [.int (lw (r304 >>> ((3 : Int32) &&& 31)) 8), .int 2, .ref (B 0 0)]) (st1 := [.int (lw ((r304 >>> ((3 : Int32) &&& 31)) >>> ((4 : Int32) &&& 31)) 16), .int (lw (r304 >>> ((3 : Int32) &&& 31)) 8), .int 2, .ref (B 0 0)]) ⟨hx, hb, hml, hown, htsL⟩ (c_L_low Z l ((r304 >>> ((3 : Int32) &&& 31)) >>> ((4 : Int32) &&& 31)) 16 (by decide)) (va_cwS 2 htsL gL_law_L_low rfl rfl rfl hs_L_low ⟨Nat.le_of_ble_eq_true rfl, Nat.le_of_ble_eq_true rfl⟩) hK hE (hP.sub (ws' := []) [] rfl) rfl hl.1 rfl (lv_room (Nat.le_of_ble_eq_true rfl)) dL_law_326 ⟨(show CC + 0 ≤ 600086 by omega), (show SS + 0 ≤ 7301442 by omega)⟩ rfl ?_
          refine lv_iconst (pc := 329) (v := 0) hx hb dL_law_329 (by decide) ?_
          refine lv_iconst (pc := 330) (v := 0) hx hb dL_law_330 (by decide) ?_
          obtain ⟨r331, h_331, hf⟩ := bd hf
          refine wr_S (pc := 331) (As := [.ref (B 0 0), .int 2, .int (lw (r304 >>> ((3 : Int32) &&& 31)) 8), .int (lw ((r304 >>> ((3 : Int32) &&& 31)) >>> ((4 : Int32) &&& 31)) 16), .int 0, .int 0]) (rest := []) (st1 := [.int r331.1]) (wn := fun _ => wH Z B r331.2 ++ (wH Z B2 g287 ++ wK Z ak kn30)) ⟨hx, hb, hml, hown, htsL⟩ (c_L_does_2 Z l hst B h287 (lw (r304 >>> ((3 : Int32) &&& 31)) 8) (lw ((r304 >>> ((3 : Int32) &&& 31)) >>> ((4 : Int32) &&& 31)) 16) 0 0 r331 h_331) (vx_cwSW 6 htsL gL_law_L_does rfl rfl rfl hs_L_does ⟨Nat.le_of_ble_eq_true rfl, Nat.le_of_ble_eq_true rfl⟩) hK hE hP hD hS hA hZ (List.range' 0 40) (List.range' 40 (40 + 1)) (List.range' (40 + 1) 40 ++ List.range' 0 (40 + 1)) (by decide +kernel) (bC1 rfl) (bR1 rfl rfl rfl) (fun _ => bN1 rfl rfl rfl rfl) rfl hl.1 rfl (lv_room (Nat.le_of_ble_eq_true rfl)) dL_law_331 ⟨(show CC + 0 + 4 ≤ 600086 by omega), (show SS + 0 + 24 ≤ 7301442 by omega)⟩ rfl (fun _ H locs hP hD hS => ?_)
          refine lv_istore (pc := 334) (lv' := [(8, .int r331.1), (7, .int (r304 >>> ((3 : Int32) &&& 31))), (0, .ref b0), (1, .ref (B 0 0)), (2, .ref (B2 0 0)), (3, .ref ak), (4, .int v287_4), (6, .int v287_6)]) hx hb dL_law_334 hl (by decide) rfl (fun ls hl => ?_)
          refine lv_iload (pc := 336) hx hb dL_law_336 (lv_at hl 0 rfl) ?_
          refine lv_ldc (pc := 338) (v := (-2100000000)) hx hb hown w0 dL_law_338 ?_
          refine lv_icmp_eq (pc := 340) (tgt := 371) hx hb dL_law_340 (by decide) (fun c3 => ?_) (fun c3 => ?_)
          · have hf := (if_pos c3).symm.trans hf
            refine lv_iconst (pc := 371) (v := 1) hx hb dL_law_371 (by decide) ?_
            refine lv_goto (pc := 372) (tgt := 376) hx hb dL_law_372 (by decide) ?_
            refine lv_istore (pc := 376) (lv' := [(4, .int 1), (8, .int r331.1), (7, .int (r304 >>> ((3 : Int32) &&& 31))), (0, .ref b0), (1, .ref (B 0 0)), (2, .ref (B2 0 0)), (3, .ref ak), (6, .int v287_6)]) hx hb dL_law_376 hl (by decide) rfl (fun ls hl => ?_)
            refine lv_iinc (pc := 378) (v := v287_6 + 1) (lv' := [(6, .int (v287_6 + 1)), (4, .int 1), (8, .int r331.1), (7, .int (r304 >>> ((3 : Int32) &&& 31))), (0, .ref b0), (1, .ref (B 0 0)), (2, .ref (B2 0 0)), (3, .ref ak)]) hx hb dL_law_378 hl (k := 7) rfl rfl (by decide) rfl (fun ls hl => ?_)
            refine lv_goto (pc := 381) (tgt := 287) hx hb dL_law_381 (by decide) ?_
            exact ih (v287_6 + 1) 1 r331.2 g287 _ _ _ (by omega) (by omega) (lv_sub hl [4, 5, 6, 7, 1, 0] rfl) _ _ hP hD hS hf
          · have hf := (if_neg c3).symm.trans hf
            refine lv_aload_n (pc := 343) hx hb dL_law_343 rfl (lv_at hl 4 rfl) ?_
            refine lv_iconst (pc := 344) (v := 2) hx hb dL_law_344 (by decide) ?_
            refine lv_iload (pc := 345) hx hb dL_law_345 (lv_at hl 1 rfl) ?_
            refine lv_bipush (pc := 347) (v := 8) hx hb dL_law_347 (by decide) ?_
            refine ro_S (pc := 349) (As := [.int (r304 >>> ((3 : Int32) &&& 31)), .int 8]) (rest := [.int 2, .ref (B2 0 0)]) (st1 := [.int (lw (r304 >>> ((3 : Int32) &&& 31)) 8), .int 2, .ref (B2 0 0)]) ⟨hx, hb, hml, hown, htsL⟩ (c_L_low Z l (r304 >>> ((3 : Int32) &&& 31)) 8 (by decide)) (va_cwS 2 htsL gL_law_L_low rfl rfl rfl hs_L_low ⟨Nat.le_of_ble_eq_true rfl, Nat.le_of_ble_eq_true rfl⟩) hK hE (hP.sub (ws' := []) [] rfl) rfl hl.1 rfl (lv_room (Nat.le_of_ble_eq_true rfl)) dL_law_349 ⟨(show CC + 4 ≤ 600086 by omega), (show SS + 24 ≤ 7301442 by omega)⟩ rfl ?_
            refine lv_iload (pc := 352) hx hb dL_law_352 (lv_at hl 1 rfl) ?_
            refine lv_iconst (pc := 354) (v := 4) hx hb dL_law_354 (by decide) ?_
            refine lv_ishr (pc := 355) hx hb dL_law_355 ?_
            refine lv_bipush (pc := 356) (v := 16) hx hb dL_law_356 (by decide) ?_
            refine ro_S (pc := 358) (As := [.int ((r304 >>> ((3 : Int32) &&& 31)) >>> ((4 : Int32) &&& 31)), .int 16]) (rest := [.int (lw (r304 >>> ((3 : Int32) &&& 31)) 8), .int 2, .ref (B2 0 0)]) (st1 := [.int (lw ((r304 >>> ((3 : Int32) &&& 31)) >>> ((4 : Int32) &&& 31)) 16), .int (lw (r304 >>> ((3 : Int32) &&& 31)) 8), .int 2, .ref (B2 0 0)]) ⟨hx, hb, hml, hown, htsL⟩ (c_L_low Z l ((r304 >>> ((3 : Int32) &&& 31)) >>> ((4 : Int32) &&& 31)) 16 (by decide)) (va_cwS 2 htsL gL_law_L_low rfl rfl rfl hs_L_low ⟨Nat.le_of_ble_eq_true rfl, Nat.le_of_ble_eq_true rfl⟩) hK hE (hP.sub (ws' := []) [] rfl) rfl hl.1 rfl (lv_room (Nat.le_of_ble_eq_true rfl)) dL_law_358 ⟨(show CC + 4 ≤ 600086 by omega), (show SS + 24 ≤ 7301442 by omega)⟩ rfl ?_
            refine lv_iconst (pc := 361) (v := 0) hx hb dL_law_361 (by decide) ?_
            refine lv_iconst (pc := 362) (v := 0) hx hb dL_law_362 (by decide) ?_
            obtain ⟨r363, h_363, hf⟩ := bd hf
            refine wr_S (pc := 363) (As := [.ref (B2 0 0), .int 2, .int (lw (r304 >>> ((3 : Int32) &&& 31)) 8), .int (lw ((r304 >>> ((3 : Int32) &&& 31)) >>> ((4 : Int32) &&& 31)) 16), .int 0, .int 0]) (rest := []) (st1 := [.int r363.1]) (wn := fun _ => wH Z B r331.2 ++ (wH Z B2 r363.2 ++ wK Z ak kn30)) ⟨hx, hb, hml, hown, htsL⟩ (c_L_does_2 Z l hst B2 g287 (lw (r304 >>> ((3 : Int32) &&& 31)) 8) (lw ((r304 >>> ((3 : Int32) &&& 31)) >>> ((4 : Int32) &&& 31)) 16) 0 0 r363 h_363) (vx_cwSW 6 htsL gL_law_L_does rfl rfl rfl hs_L_does ⟨Nat.le_of_ble_eq_true rfl, Nat.le_of_ble_eq_true rfl⟩) hK hE hP hD hS hA hZ (List.range' 40 40) (List.range' 0 40 ++ List.range' (40 + 40) 1) (List.range' 0 40 ++ (List.range' (40 + 1) 40 ++ List.range' 40 1)) (by decide +kernel) (bC2 rfl rfl) (bR13 rfl rfl rfl) (fun _ => bN2 rfl rfl rfl rfl) rfl hl.1 rfl (lv_room (Nat.le_of_ble_eq_true rfl)) dL_law_363 ⟨(show CC + 4 + 4 ≤ 600086 by omega), (show SS + 24 + 24 ≤ 7301442 by omega)⟩ rfl (fun _ H locs hP hD hS => ?_)
            refine lv_iload (pc := 366) hx hb dL_law_366 (lv_at hl 0 rfl) ?_
            refine lv_icmp_ne (pc := 368) (tgt := 375) hx hb dL_law_368 (by decide) (fun c4 => ?_) (fun c4 => ?_)
            · have hf := (if_neg c4).symm.trans hf
              refine lv_iconst (pc := 375) (v := 0) hx hb dL_law_375 (by decide) ?_
              refine lv_istore (pc := 376) (lv' := [(4, .int 0), (8, .int r331.1), (7, .int (r304 >>> ((3 : Int32) &&& 31))), (0, .ref b0), (1, .ref (B 0 0)), (2, .ref (B2 0 0)), (3, .ref ak), (6, .int v287_6)]) hx hb dL_law_376 hl (by decide) rfl (fun ls hl => ?_)
              refine lv_iinc (pc := 378) (v := v287_6 + 1) (lv' := [(6, .int (v287_6 + 1)), (4, .int 0), (8, .int r331.1), (7, .int (r304 >>> ((3 : Int32) &&& 31))), (0, .ref b0), (1, .ref (B 0 0)), (2, .ref (B2 0 0)), (3, .ref ak)]) hx hb dL_law_378 hl (k := 7) rfl rfl (by decide) rfl (fun ls hl => ?_)
              refine lv_goto (pc := 381) (tgt := 287) hx hb dL_law_381 (by decide) ?_
              exact ih (v287_6 + 1) 0 r331.2 r363.2 _ _ _ (by omega) (by omega) (lv_sub hl [4, 5, 6, 7, 1, 0] rfl) _ _ hP hD hS hf
            · have hf := (if_pos c4).symm.trans hf
              refine lv_iconst (pc := 371) (v := 1) hx hb dL_law_371 (by decide) ?_
              refine lv_goto (pc := 372) (tgt := 376) hx hb dL_law_372 (by decide) ?_
              refine lv_istore (pc := 376) (lv' := [(4, .int 1), (8, .int r331.1), (7, .int (r304 >>> ((3 : Int32) &&& 31))), (0, .ref b0), (1, .ref (B 0 0)), (2, .ref (B2 0 0)), (3, .ref ak), (6, .int v287_6)]) hx hb dL_law_376 hl (by decide) rfl (fun ls hl => ?_)
              refine lv_iinc (pc := 378) (v := v287_6 + 1) (lv' := [(6, .int (v287_6 + 1)), (4, .int 1), (8, .int r331.1), (7, .int (r304 >>> ((3 : Int32) &&& 31))), (0, .ref b0), (1, .ref (B 0 0)), (2, .ref (B2 0 0)), (3, .ref ak)]) hx hb dL_law_378 hl (k := 7) rfl rfl (by decide) rfl (fun ls hl => ?_)
              refine lv_goto (pc := 381) (tgt := 287) hx hb dL_law_381 (by decide) ?_
              exact ih (v287_6 + 1) 1 r331.2 r363.2 _ _ _ (by omega) (by omega) (lv_sub hl [4, 5, 6, 7, 1, 0] rfl) _ _ hP hD hS hf
  have B252 : ∀ (v30_5 : Int32) (v30_6 : Int32) (kn30 : Nat → Int32) (v96_8 : Int32) (v198_10 : Int32) (h198 : Nat → ObS) (KC KS : Nat) (k : Int32 → Int32 → Int32 → (Nat → ObS) → (Nat → ObS) → (Nat → Int32) → Option Int32) (hk : ∀ (v30_4 : Int32) (v30_5 : Int32) (v30_6 : Int32) (h30 : Nat → ObS) (g30 : Nat → ObS) (kn30 : Nat → Int32) (CC SS : Nat) (ls : Array Slot), CC + KC ≤ 315214 → SS + KS ≤ 3712098 → lv_has ls 11 [(0, .ref b0), (1, .ref (B 0 0)), (2, .ref (B2 0 0)), (3, .ref ak), (4, .int v30_4), (5, .int v30_5), (6, .int v30_6)] → ∀ (H : Heap) (locs : List Loc), va_P Z.1 vwCl (wH Z B h30 ++ (wH Z B2 g30 ++ wK Z ak kn30)) H → va_D (fun q : Nat => s.heap.size ≤ q) (wH Z B h30 ++ (wH Z B2 g30 ++ wK Z ak kn30)) → va_S (fun q : Nat => s.heap.size ≤ q) s.heap H locs → k v30_4 v30_5 v30_6 h30 g30 kn30 = some 1 → W p l e room_1 s m #[Value.ref b0] below meth c H locs CC SS (lw_Z below #[Value.ref b0] s) (F0 m 30 ls [])), ∀ (k252_0 : Int32) (g252 : Nat → ObS) (CC SS : Nat) (ls : Array Slot), CC + (0 + KC) ≤ 315214 → SS + (0 + KS) ≤ 3712098 → lv_has ls 11 [(0, .ref b0), (1, .ref (B 0 0)), (2, .ref (B2 0 0)), (3, .ref ak), (5, .int v30_5), (6, .int v30_6), (8, .int v96_8), (10, .int v198_10)] → ∀ (H : Heap) (locs : List Loc), va_P Z.1 vwCl (wH Z B h198 ++ (wH Z B2 g252 ++ wK Z ak kn30)) H → va_D (fun q : Nat => s.heap.size ≤ q) (wH Z B h198 ++ (wH Z B2 g252 ++ wK Z ak kn30)) → va_S (fun q : Nat => s.heap.size ≤ q) s.heap H locs → f_L_law_b252 k v30_5 v30_6 kn30 v96_8 v198_10 h198 k252_0 g252 = some 1 → W p l e room_1 s m #[Value.ref b0] below meth c H locs CC SS (lw_Z below #[Value.ref b0] s) (F0 m 252 ls [.int k252_0]) := by
    intro v30_5 v30_6 kn30 v96_8 v198_10 h198 KC KS k hk k252_0 g252 CC SS ls hCC hSS hl H locs hP hD hS hf
    rw [f_L_law_b252] at hf
    refine lv_iload (pc := 252) hx hb dL_law_252 (lv_at hl 7 rfl) ?_
    refine lv_icmp_ne (pc := 254) (tgt := 261) hx hb dL_law_254 (by decide) (fun c1 => ?_) (fun c1 => ?_)
    · have hf := (if_neg c1).symm.trans hf
      refine lv_iconst (pc := 261) (v := 0) hx hb dL_law_261 (by decide) ?_
      refine lv_istore (pc := 262) (lv' := [(4, .int 0), (0, .ref b0), (1, .ref (B 0 0)), (2, .ref (B2 0 0)), (3, .ref ak), (5, .int v30_5), (6, .int v30_6), (8, .int v96_8), (10, .int v198_10)]) hx hb dL_law_262 hl (by decide) rfl (fun ls hl => ?_)
      refine lv_iload (pc := 264) hx hb dL_law_264 (lv_at hl 8 rfl) ?_
      refine lv_if_lt (pc := 266) (tgt := 278) hx hb dL_law_266 (by decide) (fun c2 => ?_) (fun c2 => ?_)
      · have hf := (if_pos c2).symm.trans hf
        refine lv_iinc (pc := 278) (v := v30_6 + 1) (lv' := [(6, .int (v30_6 + 1)), (4, .int 0), (0, .ref b0), (1, .ref (B 0 0)), (2, .ref (B2 0 0)), (3, .ref ak), (5, .int v30_5), (8, .int v96_8), (10, .int v198_10)]) hx hb dL_law_278 hl (k := 6) rfl rfl (by decide) rfl (fun ls hl => ?_)
        refine lv_goto (pc := 281) (tgt := 30) hx hb dL_law_281 (by decide) ?_
        exact hk 0 v30_5 (v30_6 + 1) h198 g252 kn30 _ _ _ (by omega) (by omega) (lv_sub hl [2, 3, 4, 5, 1, 6, 0] rfl) _ _ hP hD hS hf
      · have hf := (if_neg c2).symm.trans hf
        refine lv_aload_n (pc := 269) hx hb dL_law_269 rfl (lv_at hl 4 rfl) ?_
        refine lv_iload (pc := 270) hx hb dL_law_270 (lv_at hl 8 rfl) ?_
        refine lv_iload (pc := 272) hx hb dL_law_272 (lv_at hl 7 rfl) ?_
        obtain ⟨g274, hf⟩ := gd hf
        refine va_iast (pc := 274) (D := Z.1) (n := 12) (f := kn30) hx hb hK hP hD hS 80 0 rfl rfl (inb_in g274) dL_law_274 (fun H locs hP hD hS => ?_)
        have hP : va_P Z.1 vwCl (wH Z B h198 ++ (wH Z B2 g252 ++ wK Z ak (upd kn30 (v198_10).toNatClampNeg v96_8))) H := hP
        have hD : va_D (fun q : Nat => s.heap.size ≤ q) (wH Z B h198 ++ (wH Z B2 g252 ++ wK Z ak (upd kn30 (v198_10).toNatClampNeg v96_8))) := hD
        refine lv_iinc (pc := 275) (v := v30_5 + 1) (lv' := [(5, .int (v30_5 + 1)), (4, .int 0), (0, .ref b0), (1, .ref (B 0 0)), (2, .ref (B2 0 0)), (3, .ref ak), (6, .int v30_6), (8, .int v96_8), (10, .int v198_10)]) hx hb dL_law_275 hl (k := 5) rfl rfl (by decide) rfl (fun ls hl => ?_)
        refine lv_iinc (pc := 278) (v := v30_6 + 1) (lv' := [(6, .int (v30_6 + 1)), (5, .int (v30_5 + 1)), (4, .int 0), (0, .ref b0), (1, .ref (B 0 0)), (2, .ref (B2 0 0)), (3, .ref ak), (8, .int v96_8), (10, .int v198_10)]) hx hb dL_law_278 hl (k := 6) rfl rfl (by decide) rfl (fun ls hl => ?_)
        refine lv_goto (pc := 281) (tgt := 30) hx hb dL_law_281 (by decide) ?_
        exact hk 0 (v30_5 + 1) (v30_6 + 1) h198 g252 (upd kn30 (v198_10).toNatClampNeg v96_8) _ _ _ (by omega) (by omega) (lv_sub hl [3, 4, 5, 6, 2, 1, 0] rfl) _ _ hP hD hS hf
    · have hf := (if_pos c1).symm.trans hf
      refine lv_iconst (pc := 257) (v := 1) hx hb dL_law_257 (by decide) ?_
      refine lv_goto (pc := 258) (tgt := 262) hx hb dL_law_258 (by decide) ?_
      refine lv_istore (pc := 262) (lv' := [(4, .int 1), (0, .ref b0), (1, .ref (B 0 0)), (2, .ref (B2 0 0)), (3, .ref ak), (5, .int v30_5), (6, .int v30_6), (8, .int v96_8), (10, .int v198_10)]) hx hb dL_law_262 hl (by decide) rfl (fun ls hl => ?_)
      refine lv_iload (pc := 264) hx hb dL_law_264 (lv_at hl 8 rfl) ?_
      refine lv_if_lt (pc := 266) (tgt := 278) hx hb dL_law_266 (by decide) (fun c3 => ?_) (fun c3 => ?_)
      · have hf := (if_pos c3).symm.trans hf
        refine lv_iinc (pc := 278) (v := v30_6 + 1) (lv' := [(6, .int (v30_6 + 1)), (4, .int 1), (0, .ref b0), (1, .ref (B 0 0)), (2, .ref (B2 0 0)), (3, .ref ak), (5, .int v30_5), (8, .int v96_8), (10, .int v198_10)]) hx hb dL_law_278 hl (k := 6) rfl rfl (by decide) rfl (fun ls hl => ?_)
        refine lv_goto (pc := 281) (tgt := 30) hx hb dL_law_281 (by decide) ?_
        exact hk 1 v30_5 (v30_6 + 1) h198 g252 kn30 _ _ _ (by omega) (by omega) (lv_sub hl [2, 3, 4, 5, 1, 6, 0] rfl) _ _ hP hD hS hf
      · have hf := (if_neg c3).symm.trans hf
        refine lv_aload_n (pc := 269) hx hb dL_law_269 rfl (lv_at hl 4 rfl) ?_
        refine lv_iload (pc := 270) hx hb dL_law_270 (lv_at hl 8 rfl) ?_
        refine lv_iload (pc := 272) hx hb dL_law_272 (lv_at hl 7 rfl) ?_
        obtain ⟨g274, hf⟩ := gd hf
        refine va_iast (pc := 274) (D := Z.1) (n := 12) (f := kn30) hx hb hK hP hD hS 80 0 rfl rfl (inb_in g274) dL_law_274 (fun H locs hP hD hS => ?_)
        have hP : va_P Z.1 vwCl (wH Z B h198 ++ (wH Z B2 g252 ++ wK Z ak (upd kn30 (v198_10).toNatClampNeg v96_8))) H := hP
        have hD : va_D (fun q : Nat => s.heap.size ≤ q) (wH Z B h198 ++ (wH Z B2 g252 ++ wK Z ak (upd kn30 (v198_10).toNatClampNeg v96_8))) := hD
        refine lv_iinc (pc := 275) (v := v30_5 + 1) (lv' := [(5, .int (v30_5 + 1)), (4, .int 1), (0, .ref b0), (1, .ref (B 0 0)), (2, .ref (B2 0 0)), (3, .ref ak), (6, .int v30_6), (8, .int v96_8), (10, .int v198_10)]) hx hb dL_law_275 hl (k := 5) rfl rfl (by decide) rfl (fun ls hl => ?_)
        refine lv_iinc (pc := 278) (v := v30_6 + 1) (lv' := [(6, .int (v30_6 + 1)), (5, .int (v30_5 + 1)), (4, .int 1), (0, .ref b0), (1, .ref (B 0 0)), (2, .ref (B2 0 0)), (3, .ref ak), (8, .int v96_8), (10, .int v198_10)]) hx hb dL_law_278 hl (k := 6) rfl rfl (by decide) rfl (fun ls hl => ?_)
        refine lv_goto (pc := 281) (tgt := 30) hx hb dL_law_281 (by decide) ?_
        exact hk 1 (v30_5 + 1) (v30_6 + 1) h198 g252 (upd kn30 (v198_10).toNatClampNeg v96_8) _ _ _ (by omega) (by omega) (lv_sub hl [3, 4, 5, 6, 2, 1, 0] rfl) _ _ hP hD hS hf
  have B198 : ∀ (r52 : Int32) (v30_5 : Int32) (v30_6 : Int32) (g30 : Nat → ObS) (kn30 : Nat → Int32) (v96_8 : Int32) (v142_9 : Int32) (KC KS : Nat) (k : Int32 → Int32 → Int32 → (Nat → ObS) → (Nat → ObS) → (Nat → Int32) → Option Int32) (hk : ∀ (v30_4 : Int32) (v30_5 : Int32) (v30_6 : Int32) (h30 : Nat → ObS) (g30 : Nat → ObS) (kn30 : Nat → Int32) (CC SS : Nat) (ls : Array Slot), CC + KC ≤ 315214 → SS + KS ≤ 3712098 → lv_has ls 11 [(0, .ref b0), (1, .ref (B 0 0)), (2, .ref (B2 0 0)), (3, .ref ak), (4, .int v30_4), (5, .int v30_5), (6, .int v30_6)] → ∀ (H : Heap) (locs : List Loc), va_P Z.1 vwCl (wH Z B h30 ++ (wH Z B2 g30 ++ wK Z ak kn30)) H → va_D (fun q : Nat => s.heap.size ≤ q) (wH Z B h30 ++ (wH Z B2 g30 ++ wK Z ak kn30)) → va_S (fun q : Nat => s.heap.size ≤ q) s.heap H locs → k v30_4 v30_5 v30_6 h30 g30 kn30 = some 1 → W p l e room_1 s m #[Value.ref b0] below meth c H locs CC SS (lw_Z below #[Value.ref b0] s) (F0 m 30 ls [])), ∀ (v198_10 : Int32) (h198 : Nat → ObS) (CC SS : Nat) (ls : Array Slot), CC + (5 + KC) ≤ 315214 → SS + (30 + KS) ≤ 3712098 → lv_has ls 11 [(0, .ref b0), (1, .ref (B 0 0)), (2, .ref (B2 0 0)), (3, .ref ak), (5, .int v30_5), (6, .int v30_6), (7, .int (r52 >>> ((2 : Int32) &&& 31))), (8, .int v96_8), (9, .int v142_9), (10, .int v198_10)] → ∀ (H : Heap) (locs : List Loc), va_P Z.1 vwCl (wH Z B h198 ++ (wH Z B2 g30 ++ wK Z ak kn30)) H → va_D (fun q : Nat => s.heap.size ≤ q) (wH Z B h198 ++ (wH Z B2 g30 ++ wK Z ak kn30)) → va_S (fun q : Nat => s.heap.size ≤ q) s.heap H locs → f_L_law_b198 k r52 v30_5 v30_6 g30 kn30 v96_8 v142_9 v198_10 h198 = some 1 → W p l e room_1 s m #[Value.ref b0] below meth c H locs CC SS (lw_Z below #[Value.ref b0] s) (F0 m 198 ls []) := by
    intro r52 v30_5 v30_6 g30 kn30 v96_8 v142_9 KC KS k hk v198_10 h198 CC SS ls hCC hSS hl H locs hP hD hS hf
    rw [f_L_law_b198] at hf
    refine lv_iload (pc := 198) hx hb dL_law_198 (lv_at hl 7 rfl) ?_
    refine lv_if_ne (pc := 200) (tgt := 225) hx hb dL_law_200 (by decide) (fun c1 => ?_) (fun c1 => ?_)
    · have hf := (if_neg c1).symm.trans hf
      refine lv_aload_n (pc := 225) hx hb dL_law_225 rfl (lv_at hl 2 rfl) ?_
      refine lv_iconst (pc := 226) (v := 1) hx hb dL_law_226 (by decide) ?_
      refine lv_iload (pc := 227) hx hb dL_law_227 (lv_at hl 7 rfl) ?_
      refine lv_iload (pc := 229) hx hb dL_law_229 (lv_at hl 6 rfl) ?_
      refine lv_iconst (pc := 231) (v := 3) hx hb dL_law_231 (by decide) ?_
      refine lv_ishr (pc := 232) hx hb dL_law_232 ?_
      refine lv_bipush (pc := 233) (v := 18) hx hb dL_law_233 (by decide) ?_
      refine ro_S (pc := 235) (As := [.int ((r52 >>> ((2 : Int32) &&& 31)) >>> ((3 : Int32) &&& 31)), .int 18]) (rest := [.int v96_8, .int 1, .ref (B2 0 0)]) (st1 := [.int (lw ((r52 >>> ((2 : Int32) &&& 31)) >>> ((3 : Int32) &&& 31)) 18), .int v96_8, .int 1, .ref (B2 0 0)]) ⟨hx, hb, hml, hown, htsL⟩ (c_L_low Z l ((r52 >>> ((2 : Int32) &&& 31)) >>> ((3 : Int32) &&& 31)) 18 (by decide)) (va_cwS 2 htsL gL_law_L_low rfl rfl rfl hs_L_low ⟨Nat.le_of_ble_eq_true rfl, Nat.le_of_ble_eq_true rfl⟩) hK hE (hP.sub (ws' := []) [] rfl) rfl hl.1 rfl (lv_room (Nat.le_of_ble_eq_true rfl)) dL_law_235 ⟨(show CC + 0 ≤ 600086 by omega), (show SS + 0 ≤ 7301442 by omega)⟩ rfl ?_
      refine lv_iload (pc := 238) hx hb dL_law_238 (lv_at hl 6 rfl) ?_
      refine lv_iconst (pc := 240) (v := 5) hx hb dL_law_240 (by decide) ?_
      refine lv_ishr (pc := 241) hx hb dL_law_241 ?_
      refine lv_bipush (pc := 242) (v := 18) hx hb dL_law_242 (by decide) ?_
      refine ro_S (pc := 244) (As := [.int ((r52 >>> ((2 : Int32) &&& 31)) >>> ((5 : Int32) &&& 31)), .int 18]) (rest := [.int (lw ((r52 >>> ((2 : Int32) &&& 31)) >>> ((3 : Int32) &&& 31)) 18), .int v96_8, .int 1, .ref (B2 0 0)]) (st1 := [.int (lw ((r52 >>> ((2 : Int32) &&& 31)) >>> ((5 : Int32) &&& 31)) 18), .int (lw ((r52 >>> ((2 : Int32) &&& 31)) >>> ((3 : Int32) &&& 31)) 18), .int v96_8, .int 1, .ref (B2 0 0)]) ⟨hx, hb, hml, hown, htsL⟩ (c_L_low Z l ((r52 >>> ((2 : Int32) &&& 31)) >>> ((5 : Int32) &&& 31)) 18 (by decide)) (va_cwS 2 htsL gL_law_L_low rfl rfl rfl hs_L_low ⟨Nat.le_of_ble_eq_true rfl, Nat.le_of_ble_eq_true rfl⟩) hK hE (hP.sub (ws' := []) [] rfl) rfl hl.1 rfl (lv_room (Nat.le_of_ble_eq_true rfl)) dL_law_244 ⟨(show CC + 0 ≤ 600086 by omega), (show SS + 0 ≤ 7301442 by omega)⟩ rfl ?_
      refine lv_iload (pc := 247) hx hb dL_law_247 (lv_at hl 8 rfl) ?_
      obtain ⟨r249, h_249, hf⟩ := bd hf
      refine wr_S (pc := 249) (As := [.ref (B2 0 0), .int 1, .int v96_8, .int (lw ((r52 >>> ((2 : Int32) &&& 31)) >>> ((3 : Int32) &&& 31)) 18), .int (lw ((r52 >>> ((2 : Int32) &&& 31)) >>> ((5 : Int32) &&& 31)) 18), .int v142_9]) (rest := []) (st1 := [.int r249.1]) (wn := fun _ => wH Z B h198 ++ (wH Z B2 r249.2 ++ wK Z ak kn30)) ⟨hx, hb, hml, hown, htsL⟩ (c_L_does_1 Z l hst B2 g30 v96_8 (lw ((r52 >>> ((2 : Int32) &&& 31)) >>> ((3 : Int32) &&& 31)) 18) (lw ((r52 >>> ((2 : Int32) &&& 31)) >>> ((5 : Int32) &&& 31)) 18) v142_9 r249 h_249) (vx_cwSW 6 htsL gL_law_L_does rfl rfl rfl hs_L_does ⟨Nat.le_of_ble_eq_true rfl, Nat.le_of_ble_eq_true rfl⟩) hK hE hP hD hS hA hZ (List.range' 40 40) (List.range' 0 40 ++ List.range' (40 + 40) 1) (List.range' 0 40 ++ (List.range' (40 + 1) 40 ++ List.range' 40 1)) (by decide +kernel) (bC2 rfl rfl) (bR13 rfl rfl rfl) (fun _ => bN2 rfl rfl rfl rfl) rfl hl.1 rfl (lv_room (Nat.le_of_ble_eq_true rfl)) dL_law_249 ⟨(show CC + 0 + 5 ≤ 600086 by omega), (show SS + 0 + 30 ≤ 7301442 by omega)⟩ rfl (fun _ H locs hP hD hS => ?_)
      exact B252 v30_5 v30_6 kn30 v96_8 v198_10 h198 KC KS k hk r249.1 r249.2 _ _ _ (by omega) (by omega) (lv_sub hl [0, 1, 2, 3, 4, 5, 7, 9] rfl) _ _ hP hD hS hf
    · have hf := (if_pos c1).symm.trans hf
      refine lv_aload_n (pc := 203) hx hb dL_law_203 rfl (lv_at hl 2 rfl) ?_
      refine lv_iconst (pc := 204) (v := 0) hx hb dL_law_204 (by decide) ?_
      refine lv_iload (pc := 205) hx hb dL_law_205 (lv_at hl 8 rfl) ?_
      refine lv_iload (pc := 207) hx hb dL_law_207 (lv_at hl 6 rfl) ?_
      refine lv_iconst (pc := 209) (v := 4) hx hb dL_law_209 (by decide) ?_
      refine lv_ishr (pc := 210) hx hb dL_law_210 ?_
      refine lv_sipush (pc := 211) (v := 310) hx hb dL_law_211 (by decide) ?_
      refine ro_S (pc := 214) (As := [.int ((r52 >>> ((2 : Int32) &&& 31)) >>> ((4 : Int32) &&& 31)), .int 310]) (rest := [.int v142_9, .int 0, .ref (B2 0 0)]) (st1 := [.int (lw ((r52 >>> ((2 : Int32) &&& 31)) >>> ((4 : Int32) &&& 31)) 310), .int v142_9, .int 0, .ref (B2 0 0)]) ⟨hx, hb, hml, hown, htsL⟩ (c_L_low Z l ((r52 >>> ((2 : Int32) &&& 31)) >>> ((4 : Int32) &&& 31)) 310 (by decide)) (va_cwS 2 htsL gL_law_L_low rfl rfl rfl hs_L_low ⟨Nat.le_of_ble_eq_true rfl, Nat.le_of_ble_eq_true rfl⟩) hK hE (hP.sub (ws' := []) [] rfl) rfl hl.1 rfl (lv_room (Nat.le_of_ble_eq_true rfl)) dL_law_214 ⟨(show CC + 0 ≤ 600086 by omega), (show SS + 0 ≤ 7301442 by omega)⟩ rfl ?_
      refine lv_iconst (pc := 217) (v := 0) hx hb dL_law_217 (by decide) ?_
      refine lv_iconst (pc := 218) (v := 0) hx hb dL_law_218 (by decide) ?_
      obtain ⟨r219, h_219, hf⟩ := bd hf
      refine wr_S (pc := 219) (As := [.ref (B2 0 0), .int 0, .int v142_9, .int (lw ((r52 >>> ((2 : Int32) &&& 31)) >>> ((4 : Int32) &&& 31)) 310), .int 0, .int 0]) (rest := []) (st1 := [.int r219.1]) (wn := fun _ => wH Z B h198 ++ (wH Z B2 r219.2 ++ wK Z ak kn30)) ⟨hx, hb, hml, hown, htsL⟩ (c_L_does_0 Z l hst B2 g30 v142_9 (lw ((r52 >>> ((2 : Int32) &&& 31)) >>> ((4 : Int32) &&& 31)) 310) 0 0 r219 h_219) (vx_cwSW 6 htsL gL_law_L_does rfl rfl rfl hs_L_does ⟨Nat.le_of_ble_eq_true rfl, Nat.le_of_ble_eq_true rfl⟩) hK hE hP hD hS hA hZ (List.range' 40 40) (List.range' 0 40 ++ List.range' (40 + 40) 1) (List.range' 0 40 ++ (List.range' (40 + 1) 40 ++ List.range' 40 1)) (by decide +kernel) (bC2 rfl rfl) (bR13 rfl rfl rfl) (fun _ => bN2 rfl rfl rfl rfl) rfl hl.1 rfl (lv_room (Nat.le_of_ble_eq_true rfl)) dL_law_219 ⟨(show CC + 0 + 1 ≤ 600086 by omega), (show SS + 0 + 6 ≤ 7301442 by omega)⟩ rfl (fun _ H locs hP hD hS => ?_)
      refine lv_goto (pc := 222) (tgt := 252) hx hb dL_law_222 (by decide) ?_
      exact B252 v30_5 v30_6 kn30 v96_8 v198_10 h198 KC KS k hk r219.1 r219.2 _ _ _ (by omega) (by omega) (lv_sub hl [0, 1, 2, 3, 4, 5, 7, 9] rfl) _ _ hP hD hS hf
  have B142 : ∀ (r52 : Int32) (v30_5 : Int32) (v30_6 : Int32) (h30 : Nat → ObS) (g30 : Nat → ObS) (kn30 : Nat → Int32) (v96_8 : Int32) (KC KS : Nat) (k : Int32 → Int32 → Int32 → (Nat → ObS) → (Nat → ObS) → (Nat → Int32) → Option Int32) (hk : ∀ (v30_4 : Int32) (v30_5 : Int32) (v30_6 : Int32) (h30 : Nat → ObS) (g30 : Nat → ObS) (kn30 : Nat → Int32) (CC SS : Nat) (ls : Array Slot), CC + KC ≤ 315214 → SS + KS ≤ 3712098 → lv_has ls 11 [(0, .ref b0), (1, .ref (B 0 0)), (2, .ref (B2 0 0)), (3, .ref ak), (4, .int v30_4), (5, .int v30_5), (6, .int v30_6)] → ∀ (H : Heap) (locs : List Loc), va_P Z.1 vwCl (wH Z B h30 ++ (wH Z B2 g30 ++ wK Z ak kn30)) H → va_D (fun q : Nat => s.heap.size ≤ q) (wH Z B h30 ++ (wH Z B2 g30 ++ wK Z ak kn30)) → va_S (fun q : Nat => s.heap.size ≤ q) s.heap H locs → k v30_4 v30_5 v30_6 h30 g30 kn30 = some 1 → W p l e room_1 s m #[Value.ref b0] below meth c H locs CC SS (lw_Z below #[Value.ref b0] s) (F0 m 30 ls [])), ∀ (v142_9 : Int32) (CC SS : Nat) (ls : Array Slot), CC + (10 + KC) ≤ 315214 → SS + (60 + KS) ≤ 3712098 → lv_has ls 11 [(0, .ref b0), (1, .ref (B 0 0)), (2, .ref (B2 0 0)), (3, .ref ak), (5, .int v30_5), (6, .int v30_6), (7, .int (r52 >>> ((2 : Int32) &&& 31))), (8, .int v96_8), (9, .int v142_9)] → ∀ (H : Heap) (locs : List Loc), va_P Z.1 vwCl (wH Z B h30 ++ (wH Z B2 g30 ++ wK Z ak kn30)) H → va_D (fun q : Nat => s.heap.size ≤ q) (wH Z B h30 ++ (wH Z B2 g30 ++ wK Z ak kn30)) → va_S (fun q : Nat => s.heap.size ≤ q) s.heap H locs → f_L_law_b142 k r52 v30_5 v30_6 h30 g30 kn30 v96_8 v142_9 = some 1 → W p l e room_1 s m #[Value.ref b0] below meth c H locs CC SS (lw_Z below #[Value.ref b0] s) (F0 m 142 ls []) := by
    intro r52 v30_5 v30_6 h30 g30 kn30 v96_8 KC KS k hk v142_9 CC SS ls hCC hSS hl H locs hP hD hS hf
    rw [f_L_law_b142] at hf
    refine lv_iload (pc := 142) hx hb dL_law_142 (lv_at hl 7 rfl) ?_
    refine lv_if_ne (pc := 144) (tgt := 169) hx hb dL_law_144 (by decide) (fun c1 => ?_) (fun c1 => ?_)
    · have hf := (if_neg c1).symm.trans hf
      refine lv_aload_n (pc := 169) hx hb dL_law_169 rfl (lv_at hl 1 rfl) ?_
      refine lv_iconst (pc := 170) (v := 1) hx hb dL_law_170 (by decide) ?_
      refine lv_iload (pc := 171) hx hb dL_law_171 (lv_at hl 7 rfl) ?_
      refine lv_iload (pc := 173) hx hb dL_law_173 (lv_at hl 6 rfl) ?_
      refine lv_iconst (pc := 175) (v := 3) hx hb dL_law_175 (by decide) ?_
      refine lv_ishr (pc := 176) hx hb dL_law_176 ?_
      refine lv_bipush (pc := 177) (v := 18) hx hb dL_law_177 (by decide) ?_
      refine ro_S (pc := 179) (As := [.int ((r52 >>> ((2 : Int32) &&& 31)) >>> ((3 : Int32) &&& 31)), .int 18]) (rest := [.int v96_8, .int 1, .ref (B 0 0)]) (st1 := [.int (lw ((r52 >>> ((2 : Int32) &&& 31)) >>> ((3 : Int32) &&& 31)) 18), .int v96_8, .int 1, .ref (B 0 0)]) ⟨hx, hb, hml, hown, htsL⟩ (c_L_low Z l ((r52 >>> ((2 : Int32) &&& 31)) >>> ((3 : Int32) &&& 31)) 18 (by decide)) (va_cwS 2 htsL gL_law_L_low rfl rfl rfl hs_L_low ⟨Nat.le_of_ble_eq_true rfl, Nat.le_of_ble_eq_true rfl⟩) hK hE (hP.sub (ws' := []) [] rfl) rfl hl.1 rfl (lv_room (Nat.le_of_ble_eq_true rfl)) dL_law_179 ⟨(show CC + 0 ≤ 600086 by omega), (show SS + 0 ≤ 7301442 by omega)⟩ rfl ?_
      refine lv_iload (pc := 182) hx hb dL_law_182 (lv_at hl 6 rfl) ?_
      refine lv_iconst (pc := 184) (v := 5) hx hb dL_law_184 (by decide) ?_
      refine lv_ishr (pc := 185) hx hb dL_law_185 ?_
      refine lv_bipush (pc := 186) (v := 18) hx hb dL_law_186 (by decide) ?_
      refine ro_S (pc := 188) (As := [.int ((r52 >>> ((2 : Int32) &&& 31)) >>> ((5 : Int32) &&& 31)), .int 18]) (rest := [.int (lw ((r52 >>> ((2 : Int32) &&& 31)) >>> ((3 : Int32) &&& 31)) 18), .int v96_8, .int 1, .ref (B 0 0)]) (st1 := [.int (lw ((r52 >>> ((2 : Int32) &&& 31)) >>> ((5 : Int32) &&& 31)) 18), .int (lw ((r52 >>> ((2 : Int32) &&& 31)) >>> ((3 : Int32) &&& 31)) 18), .int v96_8, .int 1, .ref (B 0 0)]) ⟨hx, hb, hml, hown, htsL⟩ (c_L_low Z l ((r52 >>> ((2 : Int32) &&& 31)) >>> ((5 : Int32) &&& 31)) 18 (by decide)) (va_cwS 2 htsL gL_law_L_low rfl rfl rfl hs_L_low ⟨Nat.le_of_ble_eq_true rfl, Nat.le_of_ble_eq_true rfl⟩) hK hE (hP.sub (ws' := []) [] rfl) rfl hl.1 rfl (lv_room (Nat.le_of_ble_eq_true rfl)) dL_law_188 ⟨(show CC + 0 ≤ 600086 by omega), (show SS + 0 ≤ 7301442 by omega)⟩ rfl ?_
      refine lv_iload (pc := 191) hx hb dL_law_191 (lv_at hl 8 rfl) ?_
      obtain ⟨r193, h_193, hf⟩ := bd hf
      refine wr_S (pc := 193) (As := [.ref (B 0 0), .int 1, .int v96_8, .int (lw ((r52 >>> ((2 : Int32) &&& 31)) >>> ((3 : Int32) &&& 31)) 18), .int (lw ((r52 >>> ((2 : Int32) &&& 31)) >>> ((5 : Int32) &&& 31)) 18), .int v142_9]) (rest := []) (st1 := [.int r193.1]) (wn := fun _ => wH Z B r193.2 ++ (wH Z B2 g30 ++ wK Z ak kn30)) ⟨hx, hb, hml, hown, htsL⟩ (c_L_does_1 Z l hst B h30 v96_8 (lw ((r52 >>> ((2 : Int32) &&& 31)) >>> ((3 : Int32) &&& 31)) 18) (lw ((r52 >>> ((2 : Int32) &&& 31)) >>> ((5 : Int32) &&& 31)) 18) v142_9 r193 h_193) (vx_cwSW 6 htsL gL_law_L_does rfl rfl rfl hs_L_does ⟨Nat.le_of_ble_eq_true rfl, Nat.le_of_ble_eq_true rfl⟩) hK hE hP hD hS hA hZ (List.range' 0 40) (List.range' 40 (40 + 1)) (List.range' (40 + 1) 40 ++ List.range' 0 (40 + 1)) (by decide +kernel) (bC1 rfl) (bR1 rfl rfl rfl) (fun _ => bN1 rfl rfl rfl rfl) rfl hl.1 rfl (lv_room (Nat.le_of_ble_eq_true rfl)) dL_law_193 ⟨(show CC + 0 + 5 ≤ 600086 by omega), (show SS + 0 + 30 ≤ 7301442 by omega)⟩ rfl (fun _ H locs hP hD hS => ?_)
      refine lv_istore (pc := 196) (lv' := [(10, .int r193.1), (0, .ref b0), (1, .ref (B 0 0)), (2, .ref (B2 0 0)), (3, .ref ak), (5, .int v30_5), (6, .int v30_6), (7, .int (r52 >>> ((2 : Int32) &&& 31))), (8, .int v96_8), (9, .int v142_9)]) hx hb dL_law_196 hl (by decide) rfl (fun ls hl => ?_)
      exact B198 r52 v30_5 v30_6 g30 kn30 v96_8 v142_9 KC KS k hk r193.1 r193.2 _ _ _ (by omega) (by omega) (lv_sub hl [1, 2, 3, 4, 5, 6, 7, 8, 9, 0] rfl) _ _ hP hD hS hf
    · have hf := (if_pos c1).symm.trans hf
      refine lv_aload_n (pc := 147) hx hb dL_law_147 rfl (lv_at hl 1 rfl) ?_
      refine lv_iconst (pc := 148) (v := 0) hx hb dL_law_148 (by decide) ?_
      refine lv_iload (pc := 149) hx hb dL_law_149 (lv_at hl 8 rfl) ?_
      refine lv_iload (pc := 151) hx hb dL_law_151 (lv_at hl 6 rfl) ?_
      refine lv_iconst (pc := 153) (v := 4) hx hb dL_law_153 (by decide) ?_
      refine lv_ishr (pc := 154) hx hb dL_law_154 ?_
      refine lv_sipush (pc := 155) (v := 310) hx hb dL_law_155 (by decide) ?_
      refine ro_S (pc := 158) (As := [.int ((r52 >>> ((2 : Int32) &&& 31)) >>> ((4 : Int32) &&& 31)), .int 310]) (rest := [.int v142_9, .int 0, .ref (B 0 0)]) (st1 := [.int (lw ((r52 >>> ((2 : Int32) &&& 31)) >>> ((4 : Int32) &&& 31)) 310), .int v142_9, .int 0, .ref (B 0 0)]) ⟨hx, hb, hml, hown, htsL⟩ (c_L_low Z l ((r52 >>> ((2 : Int32) &&& 31)) >>> ((4 : Int32) &&& 31)) 310 (by decide)) (va_cwS 2 htsL gL_law_L_low rfl rfl rfl hs_L_low ⟨Nat.le_of_ble_eq_true rfl, Nat.le_of_ble_eq_true rfl⟩) hK hE (hP.sub (ws' := []) [] rfl) rfl hl.1 rfl (lv_room (Nat.le_of_ble_eq_true rfl)) dL_law_158 ⟨(show CC + 0 ≤ 600086 by omega), (show SS + 0 ≤ 7301442 by omega)⟩ rfl ?_
      refine lv_iconst (pc := 161) (v := 0) hx hb dL_law_161 (by decide) ?_
      refine lv_iconst (pc := 162) (v := 0) hx hb dL_law_162 (by decide) ?_
      obtain ⟨r163, h_163, hf⟩ := bd hf
      refine wr_S (pc := 163) (As := [.ref (B 0 0), .int 0, .int v142_9, .int (lw ((r52 >>> ((2 : Int32) &&& 31)) >>> ((4 : Int32) &&& 31)) 310), .int 0, .int 0]) (rest := []) (st1 := [.int r163.1]) (wn := fun _ => wH Z B r163.2 ++ (wH Z B2 g30 ++ wK Z ak kn30)) ⟨hx, hb, hml, hown, htsL⟩ (c_L_does_0 Z l hst B h30 v142_9 (lw ((r52 >>> ((2 : Int32) &&& 31)) >>> ((4 : Int32) &&& 31)) 310) 0 0 r163 h_163) (vx_cwSW 6 htsL gL_law_L_does rfl rfl rfl hs_L_does ⟨Nat.le_of_ble_eq_true rfl, Nat.le_of_ble_eq_true rfl⟩) hK hE hP hD hS hA hZ (List.range' 0 40) (List.range' 40 (40 + 1)) (List.range' (40 + 1) 40 ++ List.range' 0 (40 + 1)) (by decide +kernel) (bC1 rfl) (bR1 rfl rfl rfl) (fun _ => bN1 rfl rfl rfl rfl) rfl hl.1 rfl (lv_room (Nat.le_of_ble_eq_true rfl)) dL_law_163 ⟨(show CC + 0 + 1 ≤ 600086 by omega), (show SS + 0 + 6 ≤ 7301442 by omega)⟩ rfl (fun _ H locs hP hD hS => ?_)
      refine lv_goto (pc := 166) (tgt := 196) hx hb dL_law_166 (by decide) ?_
      refine lv_istore (pc := 196) (lv' := [(10, .int r163.1), (0, .ref b0), (1, .ref (B 0 0)), (2, .ref (B2 0 0)), (3, .ref ak), (5, .int v30_5), (6, .int v30_6), (7, .int (r52 >>> ((2 : Int32) &&& 31))), (8, .int v96_8), (9, .int v142_9)]) hx hb dL_law_196 hl (by decide) rfl (fun ls hl => ?_)
      exact B198 r52 v30_5 v30_6 g30 kn30 v96_8 v142_9 KC KS k hk r163.1 r163.2 _ _ _ (by omega) (by omega) (lv_sub hl [1, 2, 3, 4, 5, 6, 7, 8, 9, 0] rfl) _ _ hP hD hS hf
  have B96 : ∀ (r52 : Int32) (v30_5 : Int32) (v30_6 : Int32) (h30 : Nat → ObS) (g30 : Nat → ObS) (kn30 : Nat → Int32) (KC KS : Nat) (k : Int32 → Int32 → Int32 → (Nat → ObS) → (Nat → ObS) → (Nat → Int32) → Option Int32) (hk : ∀ (v30_4 : Int32) (v30_5 : Int32) (v30_6 : Int32) (h30 : Nat → ObS) (g30 : Nat → ObS) (kn30 : Nat → Int32) (CC SS : Nat) (ls : Array Slot), CC + KC ≤ 315214 → SS + KS ≤ 3712098 → lv_has ls 11 [(0, .ref b0), (1, .ref (B 0 0)), (2, .ref (B2 0 0)), (3, .ref ak), (4, .int v30_4), (5, .int v30_5), (6, .int v30_6)] → ∀ (H : Heap) (locs : List Loc), va_P Z.1 vwCl (wH Z B h30 ++ (wH Z B2 g30 ++ wK Z ak kn30)) H → va_D (fun q : Nat => s.heap.size ≤ q) (wH Z B h30 ++ (wH Z B2 g30 ++ wK Z ak kn30)) → va_S (fun q : Nat => s.heap.size ≤ q) s.heap H locs → k v30_4 v30_5 v30_6 h30 g30 kn30 = some 1 → W p l e room_1 s m #[Value.ref b0] below meth c H locs CC SS (lw_Z below #[Value.ref b0] s) (F0 m 30 ls [])), ∀ (v96_8 : Int32) (CC SS : Nat) (ls : Array Slot), CC + (10 + KC) ≤ 315214 → SS + (60 + KS) ≤ 3712098 → lv_has ls 11 [(0, .ref b0), (1, .ref (B 0 0)), (2, .ref (B2 0 0)), (3, .ref ak), (5, .int v30_5), (6, .int v30_6), (7, .int (r52 >>> ((2 : Int32) &&& 31))), (8, .int v96_8)] → ∀ (H : Heap) (locs : List Loc), va_P Z.1 vwCl (wH Z B h30 ++ (wH Z B2 g30 ++ wK Z ak kn30)) H → va_D (fun q : Nat => s.heap.size ≤ q) (wH Z B h30 ++ (wH Z B2 g30 ++ wK Z ak kn30)) → va_S (fun q : Nat => s.heap.size ≤ q) s.heap H locs → f_L_law_b96 k r52 v30_5 v30_6 h30 g30 kn30 v96_8 = some 1 → W p l e room_1 s m #[Value.ref b0] below meth c H locs CC SS (lw_Z below #[Value.ref b0] s) (F0 m 96 ls []) := by
    intro r52 v30_5 v30_6 h30 g30 kn30 KC KS k hk v96_8 CC SS ls hCC hSS hl H locs hP hD hS hf
    rw [f_L_law_b96] at hf
    refine lv_iload (pc := 96) hx hb dL_law_96 (lv_at hl 6 rfl) ?_
    refine lv_bipush (pc := 98) (v := 7) hx hb dL_law_98 (by decide) ?_
    refine lv_ishr (pc := 100) hx hb dL_law_100 ?_
    refine lv_iload (pc := 101) hx hb dL_law_101 (lv_at hl 7 rfl) ?_
    refine lv_iconst (pc := 103) (v := 1) hx hb dL_law_103 (by decide) ?_
    refine lv_icmp_ne (pc := 104) (tgt := 112) hx hb dL_law_104 (by decide) (fun c1 => ?_) (fun c1 => ?_)
    · have hf := (if_neg c1).symm.trans hf
      refine lv_iload (pc := 112) hx hb dL_law_112 (lv_at hl 7 rfl) ?_
      refine lv_iconst (pc := 114) (v := 3) hx hb dL_law_114 (by decide) ?_
      refine lv_icmp_ne (pc := 115) (tgt := 123) hx hb dL_law_115 (by decide) (fun c2 => ?_) (fun c2 => ?_)
      · have hf := (if_neg c2).symm.trans hf
        refine lv_iload (pc := 123) hx hb dL_law_123 (lv_at hl 7 rfl) ?_
        refine lv_iconst (pc := 125) (v := 4) hx hb dL_law_125 (by decide) ?_
        refine lv_icmp_ne (pc := 126) (tgt := 135) hx hb dL_law_126 (by decide) (fun c3 => ?_) (fun c3 => ?_)
        · have hf := (if_neg c3).symm.trans hf
          refine lv_bipush (pc := 135) (v := 50) hx hb dL_law_135 (by decide) ?_
          refine ro_S (pc := 137) (As := [.int ((r52 >>> ((2 : Int32) &&& 31)) >>> ((7 : Int32) &&& 31)), .int 50]) (rest := []) (st1 := [.int (lw ((r52 >>> ((2 : Int32) &&& 31)) >>> ((7 : Int32) &&& 31)) 50)]) ⟨hx, hb, hml, hown, htsL⟩ (c_L_low Z l ((r52 >>> ((2 : Int32) &&& 31)) >>> ((7 : Int32) &&& 31)) 50 (by decide)) (va_cwS 2 htsL gL_law_L_low rfl rfl rfl hs_L_low ⟨Nat.le_of_ble_eq_true rfl, Nat.le_of_ble_eq_true rfl⟩) hK hE (hP.sub (ws' := []) [] rfl) rfl hl.1 rfl (lv_room (Nat.le_of_ble_eq_true rfl)) dL_law_137 ⟨(show CC + 0 ≤ 600086 by omega), (show SS + 0 ≤ 7301442 by omega)⟩ rfl ?_
          refine lv_istore (pc := 140) (lv' := [(9, .int (lw ((r52 >>> ((2 : Int32) &&& 31)) >>> ((7 : Int32) &&& 31)) 50)), (0, .ref b0), (1, .ref (B 0 0)), (2, .ref (B2 0 0)), (3, .ref ak), (5, .int v30_5), (6, .int v30_6), (7, .int (r52 >>> ((2 : Int32) &&& 31))), (8, .int v96_8)]) hx hb dL_law_140 hl (by decide) rfl (fun ls hl => ?_)
          exact B142 r52 v30_5 v30_6 h30 g30 kn30 v96_8 KC KS k hk (lw ((r52 >>> ((2 : Int32) &&& 31)) >>> ((7 : Int32) &&& 31)) 50) _ _ _ (by omega) (by omega) (lv_sub hl [1, 2, 3, 4, 5, 6, 7, 8, 0] rfl) _ _ hP hD hS hf
        · have hf := (if_pos c3).symm.trans hf
          refine lv_sipush (pc := 129) (v := 3000) hx hb dL_law_129 (by decide) ?_
          refine lv_goto (pc := 132) (tgt := 137) hx hb dL_law_132 (by decide) ?_
          refine ro_S (pc := 137) (As := [.int ((r52 >>> ((2 : Int32) &&& 31)) >>> ((7 : Int32) &&& 31)), .int 3000]) (rest := []) (st1 := [.int (lw ((r52 >>> ((2 : Int32) &&& 31)) >>> ((7 : Int32) &&& 31)) 3000)]) ⟨hx, hb, hml, hown, htsL⟩ (c_L_low Z l ((r52 >>> ((2 : Int32) &&& 31)) >>> ((7 : Int32) &&& 31)) 3000 (by decide)) (va_cwS 2 htsL gL_law_L_low rfl rfl rfl hs_L_low ⟨Nat.le_of_ble_eq_true rfl, Nat.le_of_ble_eq_true rfl⟩) hK hE (hP.sub (ws' := []) [] rfl) rfl hl.1 rfl (lv_room (Nat.le_of_ble_eq_true rfl)) dL_law_137 ⟨(show CC + 0 ≤ 600086 by omega), (show SS + 0 ≤ 7301442 by omega)⟩ rfl ?_
          refine lv_istore (pc := 140) (lv' := [(9, .int (lw ((r52 >>> ((2 : Int32) &&& 31)) >>> ((7 : Int32) &&& 31)) 3000)), (0, .ref b0), (1, .ref (B 0 0)), (2, .ref (B2 0 0)), (3, .ref ak), (5, .int v30_5), (6, .int v30_6), (7, .int (r52 >>> ((2 : Int32) &&& 31))), (8, .int v96_8)]) hx hb dL_law_140 hl (by decide) rfl (fun ls hl => ?_)
          exact B142 r52 v30_5 v30_6 h30 g30 kn30 v96_8 KC KS k hk (lw ((r52 >>> ((2 : Int32) &&& 31)) >>> ((7 : Int32) &&& 31)) 3000) _ _ _ (by omega) (by omega) (lv_sub hl [1, 2, 3, 4, 5, 6, 7, 8, 0] rfl) _ _ hP hD hS hf
      · have hf := (if_pos c2).symm.trans hf
        refine lv_bipush (pc := 118) (v := 60) hx hb dL_law_118 (by decide) ?_
        refine lv_goto (pc := 120) (tgt := 137) hx hb dL_law_120 (by decide) ?_
        refine ro_S (pc := 137) (As := [.int ((r52 >>> ((2 : Int32) &&& 31)) >>> ((7 : Int32) &&& 31)), .int 60]) (rest := []) (st1 := [.int (lw ((r52 >>> ((2 : Int32) &&& 31)) >>> ((7 : Int32) &&& 31)) 60)]) ⟨hx, hb, hml, hown, htsL⟩ (c_L_low Z l ((r52 >>> ((2 : Int32) &&& 31)) >>> ((7 : Int32) &&& 31)) 60 (by decide)) (va_cwS 2 htsL gL_law_L_low rfl rfl rfl hs_L_low ⟨Nat.le_of_ble_eq_true rfl, Nat.le_of_ble_eq_true rfl⟩) hK hE (hP.sub (ws' := []) [] rfl) rfl hl.1 rfl (lv_room (Nat.le_of_ble_eq_true rfl)) dL_law_137 ⟨(show CC + 0 ≤ 600086 by omega), (show SS + 0 ≤ 7301442 by omega)⟩ rfl ?_
        refine lv_istore (pc := 140) (lv' := [(9, .int (lw ((r52 >>> ((2 : Int32) &&& 31)) >>> ((7 : Int32) &&& 31)) 60)), (0, .ref b0), (1, .ref (B 0 0)), (2, .ref (B2 0 0)), (3, .ref ak), (5, .int v30_5), (6, .int v30_6), (7, .int (r52 >>> ((2 : Int32) &&& 31))), (8, .int v96_8)]) hx hb dL_law_140 hl (by decide) rfl (fun ls hl => ?_)
        exact B142 r52 v30_5 v30_6 h30 g30 kn30 v96_8 KC KS k hk (lw ((r52 >>> ((2 : Int32) &&& 31)) >>> ((7 : Int32) &&& 31)) 60) _ _ _ (by omega) (by omega) (lv_sub hl [1, 2, 3, 4, 5, 6, 7, 8, 0] rfl) _ _ hP hD hS hf
    · have hf := (if_pos c1).symm.trans hf
      refine lv_bipush (pc := 107) (v := 101) hx hb dL_law_107 (by decide) ?_
      refine lv_goto (pc := 109) (tgt := 137) hx hb dL_law_109 (by decide) ?_
      refine ro_S (pc := 137) (As := [.int ((r52 >>> ((2 : Int32) &&& 31)) >>> ((7 : Int32) &&& 31)), .int 101]) (rest := []) (st1 := [.int (lw ((r52 >>> ((2 : Int32) &&& 31)) >>> ((7 : Int32) &&& 31)) 101)]) ⟨hx, hb, hml, hown, htsL⟩ (c_L_low Z l ((r52 >>> ((2 : Int32) &&& 31)) >>> ((7 : Int32) &&& 31)) 101 (by decide)) (va_cwS 2 htsL gL_law_L_low rfl rfl rfl hs_L_low ⟨Nat.le_of_ble_eq_true rfl, Nat.le_of_ble_eq_true rfl⟩) hK hE (hP.sub (ws' := []) [] rfl) rfl hl.1 rfl (lv_room (Nat.le_of_ble_eq_true rfl)) dL_law_137 ⟨(show CC + 0 ≤ 600086 by omega), (show SS + 0 ≤ 7301442 by omega)⟩ rfl ?_
      refine lv_istore (pc := 140) (lv' := [(9, .int (lw ((r52 >>> ((2 : Int32) &&& 31)) >>> ((7 : Int32) &&& 31)) 101)), (0, .ref b0), (1, .ref (B 0 0)), (2, .ref (B2 0 0)), (3, .ref ak), (5, .int v30_5), (6, .int v30_6), (7, .int (r52 >>> ((2 : Int32) &&& 31))), (8, .int v96_8)]) hx hb dL_law_140 hl (by decide) rfl (fun ls hl => ?_)
      exact B142 r52 v30_5 v30_6 h30 g30 kn30 v96_8 KC KS k hk (lw ((r52 >>> ((2 : Int32) &&& 31)) >>> ((7 : Int32) &&& 31)) 101) _ _ _ (by omega) (by omega) (lv_sub hl [1, 2, 3, 4, 5, 6, 7, 8, 0] rfl) _ _ hP hD hS hf
  have B30 : ∀ (n : Nat), ∀ (v30_4 : Int32) (v30_5 : Int32) (v30_6 : Int32) (h30 : Nat → ObS) (g30 : Nat → ObS) (kn30 : Nat → Int32) (CC SS : Nat) (ls : Array Slot), CC + 10 * n ≤ 315214 → SS + 60 * n ≤ 3712098 → lv_has ls 11 [(0, .ref b0), (1, .ref (B 0 0)), (2, .ref (B2 0 0)), (3, .ref ak), (4, .int v30_4), (5, .int v30_5), (6, .int v30_6)] → ∀ (H : Heap) (locs : List Loc), va_P Z.1 vwCl (wH Z B h30 ++ (wH Z B2 g30 ++ wK Z ak kn30)) H → va_D (fun q : Nat => s.heap.size ≤ q) (wH Z B h30 ++ (wH Z B2 g30 ++ wK Z ak kn30)) → va_S (fun q : Nat => s.heap.size ≤ q) s.heap H locs → f_L_law_b30 xs L n v30_4 v30_5 v30_6 h30 g30 kn30 = some 1 → W p l e room_1 s m #[Value.ref b0] below meth c H locs CC SS (lw_Z below #[Value.ref b0] s) (F0 m 30 ls []) := by
    intro n
    induction n with
    | zero => intro v30_4 v30_5 v30_6 h30 g30 kn30 CC SS ls hCC hSS hl H locs hP hD hS hf; rw [f_L_law_b30] at hf; exact nomatch hf
    | succ n ih =>
      intro v30_4 v30_5 v30_6 h30 g30 kn30 CC SS ls hCC hSS hl H locs hP hD hS hf
      rw [f_L_law_b30] at hf
      refine lv_iload (pc := 30) hx hb dL_law_30 (lv_at hl 6 rfl) ?_
      refine lv_bipush (pc := 32) (v := 20) hx hb dL_law_32 (by decide) ?_
      refine lv_icmp_ge (pc := 34) (tgt := 284) hx hb dL_law_34 (by decide) (fun c1 => ?_) (fun c1 => ?_)
      · have hf := (if_pos c1).symm.trans hf
        refine lv_iconst (pc := 284) (v := 0) hx hb dL_law_284 (by decide) ?_
        refine lv_istore (pc := 285) (lv' := [(6, .int 0), (0, .ref b0), (1, .ref (B 0 0)), (2, .ref (B2 0 0)), (3, .ref ak), (4, .int v30_4), (5, .int v30_5)]) hx hb dL_law_285 hl (by decide) rfl (fun ls hl => ?_)
        exact B287 kn30 4 0 v30_4 h30 g30 _ _ _ (en (m := 315214) (by omega) (Nat.le_of_ble_eq_true rfl)) (en (m := 3712098) (by omega) (Nat.le_of_ble_eq_true rfl)) (lv_sub hl [1, 2, 3, 4, 5, 0] rfl) _ _ hP hD hS hf
      · have hf := (if_neg c1).symm.trans hf
        refine lv_iload (pc := 37) hx hb dL_law_37 (lv_at hl 4 rfl) ?_
        refine lv_if_eq (pc := 39) (tgt := 284) hx hb dL_law_39 (by decide) (fun c2 => ?_) (fun c2 => ?_)
        · have hf := (if_pos c2).symm.trans hf
          refine lv_iconst (pc := 284) (v := 0) hx hb dL_law_284 (by decide) ?_
          refine lv_istore (pc := 285) (lv' := [(6, .int 0), (0, .ref b0), (1, .ref (B 0 0)), (2, .ref (B2 0 0)), (3, .ref ak), (4, .int v30_4), (5, .int v30_5)]) hx hb dL_law_285 hl (by decide) rfl (fun ls hl => ?_)
          exact B287 kn30 4 0 v30_4 h30 g30 _ _ _ (en (m := 315214) (by omega) (Nat.le_of_ble_eq_true rfl)) (en (m := 3712098) (by omega) (Nat.le_of_ble_eq_true rfl)) (lv_sub hl [1, 2, 3, 4, 5, 0] rfl) _ _ hP hD hS hf
        · have hf := (if_neg c2).symm.trans hf
          refine lv_iload (pc := 42) hx hb dL_law_42 (lv_at hl 5 rfl) ?_
          refine lv_bipush (pc := 44) (v := 9) hx hb dL_law_44 (by decide) ?_
          refine lv_icmp_ge (pc := 46) (tgt := 284) hx hb dL_law_46 (by decide) (fun c3 => ?_) (fun c3 => ?_)
          · have hf := (if_pos c3).symm.trans hf
            refine lv_iconst (pc := 284) (v := 0) hx hb dL_law_284 (by decide) ?_
            refine lv_istore (pc := 285) (lv' := [(6, .int 0), (0, .ref b0), (1, .ref (B 0 0)), (2, .ref (B2 0 0)), (3, .ref ak), (4, .int v30_4), (5, .int v30_5)]) hx hb dL_law_285 hl (by decide) rfl (fun ls hl => ?_)
            exact B287 kn30 4 0 v30_4 h30 g30 _ _ _ (en (m := 315214) (by omega) (Nat.le_of_ble_eq_true rfl)) (en (m := 3712098) (by omega) (Nat.le_of_ble_eq_true rfl)) (lv_sub hl [1, 2, 3, 4, 5, 0] rfl) _ _ hP hD hS hf
          · have hf := (if_neg c3).symm.trans hf
            refine lv_aload_n (pc := 49) hx hb dL_law_49 rfl (lv_at hl 0 rfl) ?_
            refine lv_iload (pc := 50) hx hb dL_law_50 (lv_at hl 6 rfl) ?_
            obtain ⟨r52, h_52, hf⟩ := bd hf
            refine ce_S (pc := 52) (rest := []) (st1 := [.int r52]) ⟨hx, hb, hml, hown, htsL⟩ (c_L_cell l b0 L xs v30_6 r52 h_52) (va_cwS 2 htsL gL_law_L_cell rfl rfl rfl hs_L_cell ⟨Nat.le_of_ble_eq_true rfl, Nat.le_of_ble_eq_true rfl⟩) hX hbl hbA hS rfl hl.1 rfl (lv_room (Nat.le_of_ble_eq_true rfl)) dL_law_52 ⟨(show CC + 0 ≤ 600086 by omega), (show SS + 0 ≤ 7301442 by omega)⟩ rfl ?_
            refine lv_iconst (pc := 55) (v := 2) hx hb dL_law_55 (by decide) ?_
            refine lv_ishr (pc := 56) hx hb dL_law_56 ?_
            refine lv_istore (pc := 57) (lv' := [(7, .int (r52 >>> ((2 : Int32) &&& 31))), (0, .ref b0), (1, .ref (B 0 0)), (2, .ref (B2 0 0)), (3, .ref ak), (4, .int v30_4), (5, .int v30_5), (6, .int v30_6)]) hx hb dL_law_57 hl (by decide) rfl (fun ls hl => ?_)
            refine lv_iload (pc := 59) hx hb dL_law_59 (lv_at hl 7 rfl) ?_
            refine lv_iconst (pc := 61) (v := 2) hx hb dL_law_61 (by decide) ?_
            refine lv_icmp_ge (pc := 62) (tgt := 69) hx hb dL_law_62 (by decide) (fun c4 => ?_) (fun c4 => ?_)
            · have hf := (if_pos c4).symm.trans hf
              refine lv_iload (pc := 69) hx hb dL_law_69 (lv_at hl 0 rfl) ?_
              refine lv_bipush (pc := 71) (v := 6) hx hb dL_law_71 (by decide) ?_
              refine ro_S (pc := 73) (As := [.int (r52 >>> ((2 : Int32) &&& 31)), .int 6]) (rest := []) (st1 := [.int (lw (r52 >>> ((2 : Int32) &&& 31)) 6)]) ⟨hx, hb, hml, hown, htsL⟩ (c_L_low Z l (r52 >>> ((2 : Int32) &&& 31)) 6 (by decide)) (va_cwS 2 htsL gL_law_L_low rfl rfl rfl hs_L_low ⟨Nat.le_of_ble_eq_true rfl, Nat.le_of_ble_eq_true rfl⟩) hK hE (hP.sub (ws' := []) [] rfl) rfl hl.1 rfl (lv_room (Nat.le_of_ble_eq_true rfl)) dL_law_73 ⟨(show CC + 0 ≤ 600086 by omega), (show SS + 0 ≤ 7301442 by omega)⟩ rfl ?_
              refine lv_iload (pc := 76) hx hb dL_law_76 (lv_at hl 0 rfl) ?_
              refine lv_bipush (pc := 78) (v := 6) hx hb dL_law_78 (by decide) ?_
              refine ro_S (pc := 80) (As := [.int (r52 >>> ((2 : Int32) &&& 31)), .int 6]) (rest := [.int (lw (r52 >>> ((2 : Int32) &&& 31)) 6)]) (st1 := [.int (lw (r52 >>> ((2 : Int32) &&& 31)) 6), .int (lw (r52 >>> ((2 : Int32) &&& 31)) 6)]) ⟨hx, hb, hml, hown, htsL⟩ (c_L_low Z l (r52 >>> ((2 : Int32) &&& 31)) 6 (by decide)) (va_cwS 2 htsL gL_law_L_low rfl rfl rfl hs_L_low ⟨Nat.le_of_ble_eq_true rfl, Nat.le_of_ble_eq_true rfl⟩) hK hE (hP.sub (ws' := []) [] rfl) rfl hl.1 rfl (lv_room (Nat.le_of_ble_eq_true rfl)) dL_law_80 ⟨(show CC + 0 ≤ 600086 by omega), (show SS + 0 ≤ 7301442 by omega)⟩ rfl ?_
              refine lv_iconst (pc := 83) (v := 5) hx hb dL_law_83 (by decide) ?_
              refine lv_icmp_ne (pc := 84) (tgt := 92) hx hb dL_law_84 (by decide) (fun c5 => ?_) (fun c5 => ?_)
              · have hf := (if_neg c5).symm.trans hf
                refine lv_iconst (pc := 92) (v := 0) hx hb dL_law_92 (by decide) ?_
                refine lv_isub (pc := 93) hx hb dL_law_93 ?_
                refine lv_istore (pc := 94) (lv' := [(8, .int ((lw (r52 >>> ((2 : Int32) &&& 31)) 6) - (0 : Int32))), (7, .int (r52 >>> ((2 : Int32) &&& 31))), (0, .ref b0), (1, .ref (B 0 0)), (2, .ref (B2 0 0)), (3, .ref ak), (4, .int v30_4), (5, .int v30_5), (6, .int v30_6)]) hx hb dL_law_94 hl (by decide) rfl (fun ls hl => ?_)
                exact B96 r52 v30_5 v30_6 h30 g30 kn30 (10 * n) (60 * n) (f_L_law_b30 xs L n) ih ((lw (r52 >>> ((2 : Int32) &&& 31)) 6) - (0 : Int32)) _ _ _ (by omega) (by omega) (lv_sub hl [2, 3, 4, 5, 7, 8, 1, 0] rfl) _ _ hP hD hS hf
              · have hf := (if_pos c5).symm.trans hf
                refine lv_bipush (pc := 87) (v := 6) hx hb dL_law_87 (by decide) ?_
                refine lv_goto (pc := 89) (tgt := 93) hx hb dL_law_89 (by decide) ?_
                refine lv_isub (pc := 93) hx hb dL_law_93 ?_
                refine lv_istore (pc := 94) (lv' := [(8, .int ((lw (r52 >>> ((2 : Int32) &&& 31)) 6) - (6 : Int32))), (7, .int (r52 >>> ((2 : Int32) &&& 31))), (0, .ref b0), (1, .ref (B 0 0)), (2, .ref (B2 0 0)), (3, .ref ak), (4, .int v30_4), (5, .int v30_5), (6, .int v30_6)]) hx hb dL_law_94 hl (by decide) rfl (fun ls hl => ?_)
                exact B96 r52 v30_5 v30_6 h30 g30 kn30 (10 * n) (60 * n) (f_L_law_b30 xs L n) ih ((lw (r52 >>> ((2 : Int32) &&& 31)) 6) - (6 : Int32)) _ _ _ (by omega) (by omega) (lv_sub hl [2, 3, 4, 5, 7, 8, 1, 0] rfl) _ _ hP hD hS hf
            · have hf := (if_neg c4).symm.trans hf
              refine lv_iconst (pc := 65) (v := 0) hx hb dL_law_65 (by decide) ?_
              refine lv_goto (pc := 66) (tgt := 94) hx hb dL_law_66 (by decide) ?_
              refine lv_istore (pc := 94) (lv' := [(8, .int 0), (7, .int (r52 >>> ((2 : Int32) &&& 31))), (0, .ref b0), (1, .ref (B 0 0)), (2, .ref (B2 0 0)), (3, .ref ak), (4, .int v30_4), (5, .int v30_5), (6, .int v30_6)]) hx hb dL_law_94 hl (by decide) rfl (fun ls hl => ?_)
              exact B96 r52 v30_5 v30_6 h30 g30 kn30 (10 * n) (60 * n) (f_L_law_b30 xs L n) ih 0 _ _ _ (by omega) (by omega) (lv_sub hl [2, 3, 4, 5, 7, 8, 1, 0] rfl) _ _ hP hD hS hf
  rw [f_L_law] at hf
  exact B30 21 1 0 0 h g kn _ _ _ (en (m := 315004) (by omega) (Nat.le_of_ble_eq_true rfl)) (en (m := 3710838) (by omega) (Nat.le_of_ble_eq_true rfl)) (lv_sub hl [0, 1, 2, 3, 4, 5, 6] rfl) _ _ hP hD hS hf
