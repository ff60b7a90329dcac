/-! what the start gives: classes, constants, links -/
theorem arrK {args : Array Value} {s : State} {ty : FieldType} (harr : (Cond.arrayClass ty).before args s = true) (hty : ∀ C, ty ≠ .object C) : ∃ cA : ClassId, ArrOfT s cA ty ∧ va_RA s cA ty := by
  obtain ⟨c, k, comp, h1, h2, h3⟩ := Cond.arrayClass_spec harr
  refine ⟨c, fun n z => ⟨fun k h => (by cases h), k, h2, comp, h3⟩, ?_⟩
  cases ty <;> first | exact absurd rfl (hty _) | exact h1
theorem ev_str : ∀ i : Nat, i < ev_n → Cond.stringRef RX6 (ev_tx i).1 (ev_tx i).2 ∈ tables_1 := fun i hi => co_dec (N := ev_n) (P := fun i => Cond.stringRef RX6 (ev_tx i).1 (ev_tx i).2 ∈ tables_1) (by decide +kernel) hi
theorem ev_exa : ∀ i : Nat, i < ev_n → Cond.exactly (.string RX6 (ev_tx i).1) "java/lang/String" ∈ flatC (Jvm.Cond.and given_1 narrow_1) := fun i hi => co_dec (N := ev_n) (P := fun i => Cond.exactly (.string RX6 (ev_tx i).1) "java/lang/String" ∈ flatC (Jvm.Cond.and given_1 narrow_1)) (by decide +kernel) hi
theorem ev_nc : ∀ i j : Nat, i < 4 → j < 4 → exN i ≠ exN j → Cond.not (.castable (exN i) (exN j)) ∈ flatC (Jvm.Cond.and given_1 narrow_1) := by
  intro i j hi hj
  exact co_dec (N := 4) (P := fun j => exN i ≠ exN j → Cond.not (.castable (exN i) (exN j)) ∈ flatC (Jvm.Cond.and given_1 narrow_1)) (co_dec (N := 4) (P := fun i => (List.range 4).all (fun j => decide (exN i ≠ exN j → Cond.not (.castable (exN i) (exN j)) ∈ flatC (Jvm.Cond.and given_1 narrow_1))) = true) (by decide +kernel) hi) hj
theorem exN_4 : ∀ k : Nat, ∃ j, j < 4 ∧ exN k = exN j
  | 0 => ⟨0, by decide, rfl⟩
  | 1 => ⟨1, by decide, rfl⟩
  | 2 => ⟨2, by decide, rfl⟩
  | k + 3 => ⟨3, by decide, rfl⟩
theorem ht_ev {args : Array Value} {s : State} (G : va_G) (ci : Nat → ClassId) (hts : ∀ w ∈ lw_tbl, w.before args s = true) (hgv : (Jvm.Cond.and given_1 narrow_1).before args s = true) : ∃ sa : Nat → Nat, EV (G, ci, sa) s := by
  have hs := flat_of_before _ hgv
  have h0 : ∀ i : Nat, ∃ a : Nat, i < ev_n → vk_R RX6 (ev_tx i).1 (ev_tx i).2 a s := by
    intro i
    by_cases hi : i < ev_n
    · obtain ⟨a, c, cA, kA, q1, -⟩ := Cond.exactly_spec (args := args) (first := s) (o := none) (s := s) (idx := []) (hs _ (ev_exa i hi))
      exact ⟨a, fun _ => vk_R.of (hts _ (List.mem_append_right _ (ev_str i hi))) q1⟩
    · exact ⟨0, fun h => absurd h hi⟩
  obtain ⟨sa, hsa⟩ := Classical.axiomOfChoice h0
  refine ⟨sa, va_Nw.of rfl (hts (.methodLinkNest RX1 118 yX6_held RX6) (List.mem_append_right _ (List.mem_of_getElem? (i := 575) (by decide +kernel)))), va_Nw.of rfl (hts (.methodLinkNest RX5 106 yX6_held RX6) (List.mem_append_right _ (List.mem_of_getElem? (i := 657) (by decide +kernel)))), fun i hi => hsa i hi, ?_, ?_, ?_⟩
  · intro k
    obtain ⟨j, hj, e⟩ := exN_4 k
    rw [e]
    rcases (show j = 0 ∨ j = 1 ∨ j = 2 ∨ j = 3 by omega) with rfl | rfl | rfl | rfl
    · exact va_Nw.of rfl (hts (.castable (exN 3) (exN 3)) (List.mem_append_right _ (List.mem_of_getElem? (i := 334) (by decide +kernel))))
    · exact va_Nw.of rfl (hts (.castable (exN 1) (exN 1)) (List.mem_append_right _ (List.mem_of_getElem? (i := 220) (by decide +kernel))))
    · exact va_Nw.of rfl (hts (.castable (exN 2) (exN 2)) (List.mem_append_right _ (List.mem_of_getElem? (i := 296) (by decide +kernel))))
    · exact va_Nw.of rfl (hts (.castable (exN 3) (exN 3)) (List.mem_append_right _ (List.mem_of_getElem? (i := 334) (by decide +kernel))))
  · intro i j hij
    obtain ⟨i2, hi2, e1⟩ := exN_4 i
    obtain ⟨j2, hj2, e2⟩ := exN_4 j
    rw [e1, e2] at hij ⊢
    exact va_Nc.of (hs _ (ev_nc i2 j2 hi2 hj2 hij))
  · intro n hn
    rcases List.mem_cons.mp hn with rfl | hn
    · exact va_Nw.of rfl (hts (.declares (Bundle.initS "java/lang/RuntimeException")) (List.mem_append_right _ (List.mem_of_getElem? (i := 222) (by decide +kernel))))
    · rcases List.mem_cons.mp hn with rfl | hn
      · exact va_Nw.of rfl (hts (.declares (Bundle.initS "java/lang/Exception")) (List.mem_append_right _ (List.mem_of_getElem? (i := 224) (by decide +kernel))))
      · rcases List.mem_cons.mp hn with rfl | hn
        · exact va_Nw.of rfl (hts (.declares (Bundle.initS Bundle.tN)) (List.mem_append_right _ (List.mem_of_getElem? (i := 226) (by decide +kernel))))
        · exact nomatch hn
theorem ht_zq {args : Array Value} {s : State} (hts : ∀ w ∈ lw_tbl, w.before args s = true) (hgv : (Jvm.Cond.and given_1 narrow_1).before args s = true) : ZQ (fun q : Nat => s.heap.size ≤ q) s s.heap := by
  have hs := flat_of_before _ hgv
  have hi := hts (.initialized Bundle.tN) (List.mem_append_right _ (List.mem_of_getElem? (i := 8) (by decide +kernel)))
  exact ⟨vx_Zqof (hts (.laysStatic Bundle.tN "UNASSIGNED_STACK" Bundle.steD) (List.mem_append_right _ (List.mem_of_getElem? (i := 245) (by decide +kernel)))) hi (hs _ (by decide +kernel)) (fun a h => Nat.not_le.mpr h), vx_Zqof (hts (.laysStatic Bundle.tN "SUPPRESSED_SENTINEL" Bundle.listD) (List.mem_append_right _ (List.mem_of_getElem? (i := 247) (by decide +kernel)))) hi (hs _ (by decide +kernel)) (fun a h => Nat.not_le.mpr h)⟩
theorem ht_env {args : Array Value} {s : State} (hts : ∀ w ∈ lw_tbl, w.before args s = true) (hgv : (Jvm.Cond.and given_1 narrow_1).before args s = true) : ∃ Z : EnvT, va_K Z.1 vwCl (tyV Z) s ∧ EV Z s := by
  obtain ⟨c0, i0, h0⟩ := u_known (C := RX0) (T := TX0) (N := 3) (n := 3) hts inX0 (hts (.instantiable RX0 3) (List.mem_append_right _ (List.mem_of_getElem? (i := 126) (by decide +kernel))))
  obtain ⟨c1, i1, h1⟩ := u_known (C := RX1) (T := TX1) (N := 15) (n := 15) hts inX1 (hts (.instantiable RX1 15) (List.mem_append_right _ (List.mem_of_getElem? (i := 74) (by decide +kernel))))
  obtain ⟨c2, i2, h2⟩ := u_known (C := RX2) (T := TX2) (N := 4) (n := 4) hts inX2 (hts (.instantiable RX2 4) (List.mem_append_right _ (List.mem_of_getElem? (i := 142) (by decide +kernel))))
  obtain ⟨c3, i3, h3⟩ := u_known (C := RX3) (T := TX3) (N := 2) (n := 2) hts inX3 (hts (.instantiable RX3 2) (List.mem_append_right _ (List.mem_of_getElem? (i := 24) (by decide +kernel))))
  obtain ⟨c4, i4, h4⟩ := u_known (C := RX4) (T := TX4) (N := 1) (n := 1) hts inX4 (hts (.instantiable RX4 1) (List.mem_append_right _ (List.mem_of_getElem? (i := 161) (by decide +kernel))))
  obtain ⟨c5, i5, h5⟩ := u_known (C := RX5) (T := TX5) (N := 9) (n := 9) hts inX5 (hts (.instantiable RX5 9) (List.mem_append_right _ (List.mem_of_getElem? (i := 38) (by decide +kernel))))
  obtain ⟨c6, i6, h6⟩ := u_known (C := RX6) (T := TX6) (N := 9) (n := 9) hts inX6 (hts (.instantiable RX6 9) (List.mem_append_right _ (List.mem_of_getElem? (i := 16) (by decide +kernel))))
  obtain ⟨cI, cI1, cI2⟩ := arrK (hts (.arrayClass .int) (List.mem_append_right _ (List.mem_of_getElem? (i := 71) (by decide +kernel)))) (fun _ h => nomatch h)
  obtain ⟨cJ, cJ1, cJ2⟩ := arrK (hts (.arrayClass .long) (List.mem_append_right _ (List.mem_of_getElem? (i := 36) (by decide +kernel)))) (fun _ h => nomatch h)
  obtain ⟨cZ, cZ1, cZ2⟩ := arrK (hts (.arrayClass .boolean) (List.mem_append_right _ (List.mem_of_getElem? (i := 72) (by decide +kernel)))) (fun _ h => nomatch h)
  obtain ⟨sa, hE⟩ := ht_ev (fun k => match k with | 0 => c0 | 1 => c1 | 2 => c2 | 3 => c3 | 4 => c4 | 5 => c5 | _ => c6, fun k => match k with | 0 => i0 | 1 => i1 | 2 => i2 | 3 => i3 | 4 => i4 | 5 => i5 | _ => i6) (fun k => match k with | 0 => cI | 1 => cJ | _ => cZ) hts hgv
  refine ⟨_, ⟨?_, ?_⟩, hE⟩
  · intro k q hq
    match k, hq with
    | 0, hq => cases hq; exact h0
    | 1, hq => cases hq; exact h1
    | 2, hq => cases hq; exact h2
    | 3, hq => cases hq; exact h3
    | 4, hq => cases hq; exact h4
    | 5, hq => cases hq; exact h5
    | 6, hq => cases hq; exact h6
    | k + 7, hq => simp [vwCl] at hq
  · intro k q hq
    match k, hq with
    | 0, hq => cases hq; exact ⟨cI1, cI2⟩
    | 1, hq => cases hq; exact ⟨cJ1, cJ2⟩
    | 2, hq => cases hq; exact ⟨cZ1, cZ2⟩
    | k + 3, hq => simp [tyV] at hq
