/-! numbers, choices, feeds, goals -/
theorem n10 : ¬ (1 : Int32) = 0 := by decide
theorem sB_t {c : Prop} [Decidable c] (h : c) : sB c = some 1 := if_pos h
theorem sB_f {c : Prop} [Decidable c] (h : ¬ c) : sB c = some 0 := if_neg h
theorem GS.of38 {o o' : ObS} {U : Nat} (h : GS o U) (hk : ∀ k, k ≠ 3 → k ≠ 8 → o'.1 k = o.1 k) : GS o' U := by
  have d0 := hk 0 (by decide) (by decide)
  have d1 := hk 1 (by decide) (by decide)
  have d2 := hk 2 (by decide) (by decide)
  have d4 := hk 4 (by decide) (by decide)
  have d5 := hk 5 (by decide) (by decide)
  have d6 := hk 6 (by decide) (by decide)
  unfold GS GU pa pb at *
  rw [d0, d1, d2, d4, d5, d6]
  exact h
theorem INV_u {h : Nat → ObS} {mo mo' o' : ObS} {U C t : Nat} (I : INV h mo U C t) (a1 : ∀ k, k ≠ 3 → k ≠ 8 → o'.1 k = (h 3).1 k) (a2 : o'.2 = (h 3).2) (b1 : ∀ j, j ≠ 0 → j ≠ 4 → j ≠ 9 → mo'.1 j = mo.1 j) (b2 : mo'.2 = mo.2) (c1 : o'.1 3 = mo'.1 4) (c2 : o'.1 8 = mo'.1 9) (c3 : ∀ u, u < U → nOK ((h 3).1 1 u) (o'.1 3 u)) (c4 : ∀ u, u < 12 → mo'.1 9 u = 0 ∨ mo'.1 9 u = 1) : INV (hu h 3 o') mo' U C t := by
  obtain ⟨⟨G, R, n1, n2, n3, n4, n5⟩, ⟨f0, f1, ⟨j, hj, S⟩, t1, z0'⟩, ⟨t2, t3⟩, ⟨base, b3, b4⟩, ⟨N, P⟩, ⟨A, IAl, hA⟩, IC0, IR0⟩ := I
  have d1 := a1 1 (by decide) (by decide)
  have d6 := a1 6 (by decide) (by decide)
  refine ⟨⟨GS.of38 G a1, ?_, c1, c2, ?_, c4, ?_⟩, ⟨by rw [b2]; exact f0, by rw [b2]; exact f1, ⟨j, hj, ?_⟩, t1, ?_⟩, ⟨t2, by rw [b1 1 (by decide) (by decide) (by decide)]; exact t3⟩, ⟨base, b3, ?_⟩, ⟨N, ?_⟩, ⟨A, IA_co IAl (fun k _ => b1 k (by omega) (by omega) (by omega)), by rw [b1 35 (by decide) (by decide) (by decide)]; exact hA⟩, ?_, IR_co IR0 (b1 17 (by decide) (by decide) (by decide))⟩
  · show UR o' mo'
    obtain ⟨a, b, c, d, e⟩ := R
    exact ⟨by rw [b1 2 (by decide) (by decide) (by decide), a1 0 (by decide) (by decide)]; exact a, by rw [b1 3 (by decide) (by decide) (by decide), d1]; exact b, by rw [b1 5 (by decide) (by decide) (by decide), a1 2 (by decide) (by decide)]; exact c, by rw [b1 6 (by decide) (by decide) (by decide), a1 4 (by decide) (by decide)]; exact d, by rw [b1 7 (by decide) (by decide) (by decide), a1 5 (by decide) (by decide)]; exact e⟩
  · show ∀ u, u < U → nOK (o'.1 1 u) (o'.1 3 u); rw [d1]; exact c3
  · intro v; show (o'.2 7 v).toInt32 = _; rw [a2, b1 8 (by decide) (by decide) (by decide)]; exact n5 v
  · show SI o' U U j ((h 1).2 0) ((h 1).2 1)
    unfold SI TK at S ⊢; rw [d1, d6]; exact S
  · show t = 0 → _ ∧ (∀ u, o'.2 7 u = 0) ∧ _; rw [a2]; exact z0'
  · show HB o' U base ((h 1).2 1) (o'.2 7)
    unfold HB TK at b4 ⊢; rw [d1, d6, a2]; exact b4
  · show IP (h 6) mo' (o'.1 1) U N
    rw [d1]; exact IP_co P (fun k _ _ => b1 k (by omega) (by omega) (by omega))
  · show IC (h 4) mo' (o'.1 1) U C
    rw [d1]; exact IC_co IC0 (fun k _ _ => b1 k (by omega) (by omega) (by omega)) (fun k _ => by rw [b2])
theorem INV_c {h : Nat → ObS} {mo mo' c' : ObS} {U C C' t : Nat} (I : INV h mo U C t) (b1 : ∀ j, j ≠ 0 → (j < 22 ∨ 34 < j) → mo'.1 j = mo.1 j) (b2 : mo'.2 = mo.2) (i : IC c' mo' ((h 3).1 1) U C') : INV (hu h 4 c') mo' U C' t := by
  obtain ⟨⟨G, R, n1, n2, n3, n4, n5⟩, ⟨f0, f1, S, t1, z0'⟩, ⟨t2, t3⟩, B, ⟨N, P⟩, ⟨A, IAl, hA⟩, IC0, IR0⟩ := I
  refine ⟨⟨G, UR.co R (fun k _ => b1 k (by omega) (by omega)), by rw [b1 4 (by decide) (by decide)]; exact n1, by rw [b1 9 (by decide) (by decide)]; exact n2, n3, by rw [b1 9 (by decide) (by decide)]; exact n4, by rw [b1 8 (by decide) (by decide)]; exact n5⟩, ⟨by rw [b2]; exact f0, by rw [b2]; exact f1, S, t1, z0'⟩, ⟨t2, by rw [b1 1 (by decide) (by decide)]; exact t3⟩, B, ⟨N, IP_co P (fun k _ _ => b1 k (by omega) (by omega))⟩, ⟨A, IA_co IAl (fun k _ => b1 k (by omega) (by omega)), by rw [b1 35 (by decide) (by decide)]; exact hA⟩, i, IR_co IR0 (b1 17 (by decide) (by decide))⟩
theorem mst6 {k : Int32} (h : k = 0 ∨ k = 1 ∨ k = 2 ∨ k = 3 ∨ k = 4) (n : Int32) : f_X6_isNumberOf k n = if k ≠ 2 ∧ 0 ≤ n.toInt ∧ n.toInt ≤ mst k then 1 else 0 := by
  unfold f_X6_isNumberOf
  have ho : f_X6_isOutside n 0 (f_X6_mostOf k) = if k ≠ 2 ∧ 0 ≤ n.toInt ∧ n.toInt ≤ mst k then 0 else 1 := by
    refine os_c _ ?_
    rw [z32]
    rcases h with rfl | rfl | rfl | rfl | rfl
    · show 0 ≤ _ ∧ _ ≤ (999 : Int) ↔ _ ≠ _ ∧ 0 ≤ _ ∧ _ ≤ (999 : Int); simp
    · show 0 ≤ _ ∧ _ ≤ (100 : Int) ↔ _ ≠ _ ∧ 0 ≤ _ ∧ _ ≤ (100 : Int); simp
    · show 0 ≤ _ ∧ _ ≤ (-1 : Int) ↔ _ ≠ _ ∧ _; simp; omega
    · show 0 ≤ _ ∧ _ ≤ (9999 : Int) ↔ _ ≠ _ ∧ 0 ≤ _ ∧ _ ≤ (9999 : Int); simp
    · show 0 ≤ _ ∧ _ ≤ (99999 : Int) ↔ _ ≠ _ ∧ 0 ≤ _ ∧ _ ≤ (99999 : Int); simp
  rw [ho]; split <;> rfl
theorem nNum {h : Nat → ObS} {U u : Nat} {n : Int32} (G : GS (h 3) U) (hu : u < U) : f_X6_needNumberOf h (Int32.ofNat u) n = bN ((h 3).1 1 u ≠ 2 ∧ 0 ≤ n.toInt ∧ n.toInt ≤ mst ((h 3).1 1 u)) 1 := by
  unfold f_X6_needNumberOf bN
  rw [kd_of G.2.1 G.1 hu, Option.bind_some, mst6 (G.2.2.1 u hu).1]
  by_cases q : (h 3).1 1 u ≠ 2 ∧ 0 ≤ n.toInt ∧ n.toInt ≤ mst ((h 3).1 1 u)
  · rw [if_pos q, if_pos q]; rfl
  · rw [if_neg q, if_neg q]; rfl
theorem canB {mo : ObS} {u : Nat} {n : Int32} (hu : u < 12) (h : mo.1 3 u = 0 ∨ mo.1 3 u = 1 ∨ mo.1 3 u = 2 ∨ mo.1 3 u = 3 ∨ mo.1 3 u = 4) : f_X7_canBe mo (Int32.ofNat u) n = sB (mo.1 3 u ≠ 2 ∧ 0 ≤ n.toInt ∧ n.toInt ≤ mst (mo.1 3 u)) := by
  by_cases h2 : mo.1 3 u = 2
  · rw [sB_f (by simp [h2])]
    unfold f_X7_canBe
    simp (disch := omega) [ix_lt1, ix_le1, ix_lt2, ix_le2, ix_eq1, ix_eq2, ix_lt, ix_le, ix_eq, ix_inb, ix_nat, ix_suc, ix_dbl, -Int32.ofNat_add, -Int32.ofNat_mul, hu, h2]
  · obtain ⟨-, e, -⟩ := mo_67 h h2
    have hi : f_X7_in n 0 (f_X7_mostOf (mo.1 3 u)) = if 0 ≤ n.toInt ∧ n.toInt ≤ mst (mo.1 3 u) then 1 else 0 := in_c _ (by rw [e, z32])
    by_cases q : 0 ≤ n.toInt ∧ n.toInt ≤ mst (mo.1 3 u)
    · rw [sB_t ⟨h2, q⟩]; rw [if_pos q] at hi
      unfold f_X7_canBe
      simp (disch := omega) [ix_lt1, ix_le1, ix_lt2, ix_le2, ix_eq1, ix_eq2, ix_lt, ix_le, ix_eq, ix_inb, ix_nat, ix_suc, ix_dbl, -Int32.ofNat_add, -Int32.ofNat_mul, hu, h2, hi]
    · rw [sB_f (fun z => q z.2)]; rw [if_neg q] at hi
      unfold f_X7_canBe
      simp (disch := omega) [ix_lt1, ix_le1, ix_lt2, ix_le2, ix_eq1, ix_eq2, ix_lt, ix_le, ix_eq, ix_inb, ix_nat, ix_suc, ix_dbl, -Int32.ofNat_add, -Int32.ofNat_mul, hu, h2, hi]
theorem ag_set {h : Nat → ObS} {mo : ObS} {U C t : Nat} (I : INV h mo U C t) (x y : Int32) (w : ObS) : AG (f_L_set h x y w) (f_X7_set mo x y) := by
  obtain ⟨⟨G, R, n1, n2, n3, n4, n5⟩, -⟩ := id I
  have hU := G.1
  have r0 := R.1
  rw [G.2.1] at r0
  unfold f_L_set f_X6_set f_X7_set
  rw [nU G.2.1 hU, tb_b, iU r0.symm hU]
  by_cases q : 0 ≤ x.toInt ∧ x.toInt < U
  · rw [if_pos q]
    obtain ⟨u, huU, rfl⟩ := ex_n (x := x) (n := U) q (by omega)
    have h12 : u < 12 := by omega
    have gk := (G.2.2.1 u huU).1
    rw [nNum G huU, tb_b]
    rw [sB_t q, Option.bind_some, if_neg n10, canB h12 (by rw [← R.2.1]; exact gk), ← R.2.1]
    by_cases p : (h 3).1 1 u ≠ 2 ∧ 0 ≤ y.toInt ∧ y.toInt ≤ mst ((h 3).1 1 u)
    · rw [if_pos p, sB_t p]
      refine AG_ok (r := mo.1 4 u) (h' := hu h 3 (oi (h 3) 3 u y)) (mo' := oi (oi mo 0 0 0) 4 u y) (w := w) (U := U) (C := C) (t := t) ?_ ?_ ?_ rfl
      · refine INV_u I (fun k h1 _ => oi_n h1) rfl (fun j h0 h4 _ => by rw [oi_n h4, oi_n h0]) rfl ?_ ?_ (fun v hv => ?_) ?_
        · rw [oi_i, oi_i, if_pos rfl, if_pos rfl, oi_n (show 4 ≠ 0 by decide), n1]
        · rw [oi_n (show 8 ≠ 3 by decide), oi_n (show 9 ≠ 4 by decide), oi_n (show 9 ≠ 0 by decide)]; exact n2
        · rw [oi_i, if_pos rfl]; unfold upd
          by_cases h9 : v = u
          · subst h9; rw [if_pos rfl]; exact Or.inr p.2
          · rw [if_neg h9]; exact n3 v hv
        · rw [oi_n (show 9 ≠ 4 by decide), oi_n (show 9 ≠ 0 by decide)]; exact n4
      · simp (disch := omega) [f_X5_numberOf, u_made G.2.1 hU huU, ix_lt1, ix_le1, ix_lt2, ix_le2, ix_eq1, ix_eq2, ix_lt, ix_le, ix_eq, ix_inb, ix_nat, ix_suc, ix_dbl, -Int32.ofNat_add, -Int32.ofNat_mul, h12, put_n G.2.1 hU huU, sumE, n1]
      · simp (disch := omega) [f_X7_set_b29, holds_1, ix_lt1, ix_le1, ix_lt2, ix_le2, ix_eq1, ix_eq2, ix_lt, ix_le, ix_eq, ix_inb, ix_nat, ix_suc, ix_dbl, -Int32.ofNat_add, -Int32.ofNat_mul, h12, oi_n]
    · rw [if_neg p, sB_f p]
      refine AG_no I (w := w) (k := 2) (by decide) ?_ ?_
      · simp [sumE]
      · simp [f_X7_set_b29, holds_0]
  · rw [if_neg q]
    refine AG_no I (w := w) (k := 1) (by decide) rfl ?_
    rw [sB_f q]; simp [f_X7_set_b29, holds_0]
