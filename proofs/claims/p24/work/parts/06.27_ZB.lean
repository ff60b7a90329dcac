theorem oi_s {o : ObS} {k j : Nat} {v : Int32} : (oi o k j v).1 k = upd (o.1 k) j v := by rw [oi_i, if_pos rfl]
theorem oj_s {o : ObS} {k j : Nat} {v : Int64} : (oj o k j v).2 k = vp_updL (o.2 k) j v := by rw [oj_j, if_pos rfl]
theorem ag_select {h : Nat → ObS} {mo : ObS} {U C t : Nat} (I : INV h mo U C t) (x : Int32) (w : ObS) : AG (f_L_select h x w) (f_X7_select mo x) ∧ ∀ r mo', f_X7_select mo x = some (r, mo') → r = 0 ∨ r = 1 := by
  obtain ⟨⟨G, R, n1, n2, n3, n4, n5⟩, -⟩ := id I
  have hU := G.1
  have r0 := R.1
  rw [G.2.1] at r0
  unfold f_L_select f_X6_select f_X7_select
  rw [nU G.2.1 hU, tb_b, iU r0.symm hU]
  by_cases q : 0 ≤ x.toInt ∧ x.toInt < U
  · rw [if_pos q, sB_t q, Option.bind_some, if_neg n10]
    obtain ⟨u, huU, rfl⟩ := ex_n (x := x) (n := U) q (by omega)
    have h12 : u < 12 := by omega
    have go : ∀ v : Int32, (v = 0 ∨ v = 1) → INV (hu h 3 (oi (h 3) 8 u v)) (oi (oi mo 0 0 0) 9 u v) U C t := by
      intro v hv
      refine INV_u I (fun k _ h1 => oi_n h1) rfl (fun j h0 _ h4 => by rw [oi_n h4, oi_n h0]) rfl ?_ ?_ ?_ (fun k hk => ?_)
      · rw [oi_n (show 3 ≠ 8 by decide), oi_n (show 4 ≠ 9 by decide), oi_n (show 4 ≠ 0 by decide)]; exact n1
      · rw [oi_i, oi_i, if_pos rfl, if_pos rfl, oi_n (show 9 ≠ 0 by decide), n2]
      · rw [oi_n (show 3 ≠ 8 by decide)]; exact n3
      · rw [oi_i, if_pos rfl, oi_n (show 9 ≠ 0 by decide)]; unfold upd
        by_cases h9 : k = u
        · rw [if_pos h9]; exact hv
        · rw [if_neg h9]; exact n4 k hk
    have i0 : isb 0 = true := rfl
    have i1 : isb 1 = true := rfl
    by_cases g : mo.1 9 u = 0
    · have e : f_X7_select_b14 mo (Int32.ofNat u) 0 = some (1, oi (oi mo 0 0 0) 9 u 1) := by
        simp (disch := omega) [f_X7_select_b14, holds_1, ix_lt1, ix_le1, ix_lt2, ix_le2, ix_eq1, ix_eq2, ix_lt, ix_le, ix_eq, ix_inb, ix_nat, ix_suc, ix_dbl, -Int32.ofNat_add, -Int32.ofNat_mul, h12, oi_i, g, wr_1, upd, i1]
      refine ⟨AG_ok (r := 1) (w := w) (go 1 (Or.inr rfl)) ?_ e rfl, fun r mo' h9 => ?_⟩
      · have hm := u_made (o := oi (h 3) 8 u 1) (u := u) (U := U) (by rw [oi_n (show 0 ≠ 8 by decide)]; exact G.2.1) hU huU
        simp (disch := omega) [f_X5_turnChoice, f_X5_takesGreatest, u_made G.2.1 hU huU, ix_lt1, ix_le1, ix_lt2, ix_le2, ix_eq1, ix_eq2, ix_lt, ix_le, ix_eq, ix_inb, ix_nat, ix_suc, ix_dbl, -Int32.ofNat_add, -Int32.ofNat_mul, h12, n2, g, wr_1, hm, oi_i, upd, i1, sumE]
        rfl
      · rw [e] at h9; cases h9; exact Or.inr rfl
    · have e : f_X7_select_b14 mo (Int32.ofNat u) 0 = some (0, oi (oi mo 0 0 0) 9 u 0) := by
        simp (disch := omega) [f_X7_select_b14, holds_1, ix_lt1, ix_le1, ix_lt2, ix_le2, ix_eq1, ix_eq2, ix_lt, ix_le, ix_eq, ix_inb, ix_nat, ix_suc, ix_dbl, -Int32.ofNat_add, -Int32.ofNat_mul, h12, oi_i, g, wr_0, upd, i0]
      refine ⟨AG_ok (r := 0) (w := w) (go 0 (Or.inl rfl)) ?_ e rfl, fun r mo' h9 => ?_⟩
      · have hm := u_made (o := oi (h 3) 8 u 0) (u := u) (U := U) (by rw [oi_n (show 0 ≠ 8 by decide)]; exact G.2.1) hU huU
        simp (disch := omega) [f_X5_turnChoice, f_X5_takesGreatest, u_made G.2.1 hU huU, ix_lt1, ix_le1, ix_lt2, ix_le2, ix_eq1, ix_eq2, ix_lt, ix_le, ix_eq, ix_inb, ix_nat, ix_suc, ix_dbl, -Int32.ofNat_add, -Int32.ofNat_mul, h12, n2, g, wr_0, hm, oi_i, upd, i0, sumE]
        rfl
      · rw [e] at h9; cases h9; exact Or.inl rfl
  · rw [if_neg q, sB_f q, Option.bind_some, Option.bind_some, if_pos (rfl : (0 : Int32) = 0)]
    have e : f_X7_select_b14 mo x 1 = some (0, oi mo 0 0 1) := by simp [f_X7_select_b14, holds_0]
    exact ⟨AG_no I (w := w) (k := 1) (by decide) rfl e, fun r mo' h9 => by rw [e] at h9; cases h9; exact Or.inl rfl⟩
/-- a change of one controller's rows -/
theorem IC_one {c mo c' mo' : ObS} {kd : Nat → Int32} {U C k : Nat} (I : IC c mo kd U C) (hk : k < C) (a1 : ∀ j, j ≠ 6 → j ≠ 7 → j ≠ 8 → c'.1 j = c.1 j) (a2 : ∀ j, j ≠ 10 → c'.2 j = c.2 j) (b1 : ∀ j, 22 ≤ j → j ≤ 35 → j ≠ 24 → j ≠ 29 → j ≠ 30 → j ≠ 31 → mo'.1 j = mo.1 j) (b2 : mo'.2 = mo.2)
    (e7 : c'.1 7 = mo'.1 30) (e10 : ∀ j, c'.2 10 j = (mo'.1 24 j).toInt64) (o : ∀ j, j ≠ k → c'.1 6 j = c.1 6 j ∧ c'.1 7 j = c.1 7 j ∧ c'.1 8 j = c.1 8 j ∧ mo'.1 24 j = mo.1 24 j ∧ mo'.1 29 j = mo.1 29 j ∧ mo'.1 30 j = mo.1 30 j ∧ mo'.1 31 j = mo.1 31 j)
    (n : (mo.1 28 k = -1 → c'.1 8 k = mo'.1 31 k ∧ 0 ≤ (mo'.1 31 k).toInt ∧ (mo'.1 31 k).toInt ≤ 3000) ∧ (mo'.1 30 k = 0 ∨ ∃ s, s < 24 ∧ c'.1 6 k = Int32.ofNat s ∧ mo'.1 29 k = Int32.ofNat s) ∧ 0 ≤ (mo'.1 24 k).toInt ∧ (mo'.1 24 k).toInt ≤ 3000) : IC c' mo' kd U C := by
  obtain ⟨i1, i2, i3, ⟨i4, i5, i6, i7, i8⟩, ⟨i9, i10, i11, i12, i13⟩, i14, i15, i16⟩ := I
  have b22 := b1 22 (by decide) (by decide) (by decide) (by decide) (by decide) (by decide)
  have b23 := b1 23 (by decide) (by decide) (by decide) (by decide) (by decide) (by decide)
  have b25 := b1 25 (by decide) (by decide) (by decide) (by decide) (by decide) (by decide)
  have b26 := b1 26 (by decide) (by decide) (by decide) (by decide) (by decide) (by decide)
  have b27 := b1 27 (by decide) (by decide) (by decide) (by decide) (by decide) (by decide)
  have b28 := b1 28 (by decide) (by decide) (by decide) (by decide) (by decide) (by decide)
  have b34 := b1 34 (by decide) (by decide) (by decide) (by decide) (by decide) (by decide)
  have b35 := b1 35 (by decide) (by decide) (by decide) (by decide) (by decide) (by decide)
  have d0 := a1 0 (by decide) (by decide) (by decide)
  have d1 := a1 1 (by decide) (by decide) (by decide)
  have d2 := a1 2 (by decide) (by decide) (by decide)
  have d3 := a1 3 (by decide) (by decide) (by decide)
  have d4 := a1 4 (by decide) (by decide) (by decide)
  have d5 := a1 5 (by decide) (by decide) (by decide)
  have d9 := a1 9 (by decide) (by decide) (by decide)
  refine ⟨i1, by rw [d0]; exact i2, by rw [b22]; exact i3, ⟨by rw [d2, b23]; exact i4, by rw [d4, b26]; exact i5, by rw [d5, b27]; exact i6, e7, by rw [d9, b35]; exact i8⟩, ⟨e10, by rw [a2 11 (by decide), b2]; exact i10, by rw [a2 12 (by decide), b2]; exact i11, by rw [a2 13 (by decide), b2]; exact i12, fun j => by rw [a2 14 (by decide), b34]; exact i13 j⟩, fun j hj => ?_, fun j => by rw [b35]; exact i15 j, fun j hj => ?_⟩
  · obtain ⟨p1, p2, p3, ⟨p4, p5⟩, p6⟩ := i14 j hj
    unfold CK
    rw [b23, b25, b27, b28, d1, d3]
    by_cases hjk : j = k
    · subst hjk
      refine ⟨p1, ?_, n.2.1, ⟨n.2.2, fun h => (n.1 h).2⟩, p6⟩
      rcases p2 with h | h
      · exact Or.inl ⟨h.1, h.2.1, h.2.2.1, (n.1 h.1).1⟩
      · exact Or.inr h
    · obtain ⟨q6, q7, q8, q24, q29, q30, q31⟩ := o j hjk
      rw [q6, q8, q24, q29, q30, q31]
      exact ⟨p1, p2, p3, ⟨p4, p5⟩, p6⟩
  · obtain ⟨-, q7, -, q24, -⟩ := o j (by omega)
    obtain ⟨z1, z2, z3, z4, z5⟩ := i16 j hj
    rw [d1, d4, b35, q7, q24]; exact ⟨z1, z2, z3, z4, z5⟩
def AF (L : Option (Int32 × (Nat → ObS))) (M : Option ObS) : Prop :=
  ∃ (k : Int32) (h' : Nat → ObS) (mo' : ObS) (U C t : Nat), L = some (k, h') ∧ M = some mo' ∧ mo'.1 0 0 = k ∧ INV h' mo' U C t
theorem nMe {h : Nat → ObS} {mo : ObS} {kd : Nat → Int32} {U C k : Nat} (I : IC (h 4) mo kd U C) (hk : k < C) : f_X6_needMeasuring h (Int32.ofNat k) = bN (mo.1 28 k = -1) 2 := by
  unfold f_X6_needMeasuring bN
  rw [is_me hk I.1 I.2.1, Option.bind_some]
  rcases (I.2.2.2.2.2.1 k hk).2.1 with h | h
  · rw [h.2.1, if_pos h.1]; rfl
  · rw [h.2.1, if_neg h.1]; rfl
theorem ag_feed {h : Nat → ObS} {mo : ObS} {U C t : Nat} (I : INV h mo U C t) (x y z : Int32) : AF (f_L_feed h x y z) (f_X7_feed mo x y z) := by
  obtain ⟨⟨G, R, -⟩, -, -, -, -, -, IC0, -⟩ := id I
  obtain ⟨i1, i2, i3, ⟨i4, i5, i6, i7, i8⟩, ⟨i9, i10, i11, i12, i13⟩, i14, i15, i16⟩ := id IC0
  have hU := G.1
  have r0 := R.1
  rw [G.2.1] at r0
  have no : ∀ k : Int32, k ≠ 0 → f_X7_feed_b63 mo x y z k = some (oi mo 0 0 k) := fun k hk => by
    unfold f_X7_feed_b63; rw [holds_0 hk]; rfl
  unfold f_L_feed f_X6_feed f_X7_feed f_X7_feed_b20
  rw [nC i2 i1, tb_b, iC i3 i1]
  by_cases q : 0 ≤ x.toInt ∧ x.toInt < C
  · rw [if_pos q, sB_t q, Option.bind_some, if_neg n10, nS G.2.1 hU, tb_b, iS r0.symm hU]
    by_cases q2 : 0 ≤ y.toInt ∧ y.toInt < 2 * U
    · rw [if_pos q2, sB_t q2, Option.bind_some, if_neg n10]
      obtain ⟨k, hk, rfl⟩ := ex_n (x := x) (n := C) q (by omega)
      obtain ⟨s, hs, rfl⟩ := ex_n (x := y) (n := 2 * U) (by omega) (by omega)
      have hk6 : k < 6 := by omega
      unfold f_X7_feed_b21
      rw [if_neg n10, os_c (-500 ≤ z.toInt ∧ z.toInt ≤ 500) Iff.rfl, in_c (-500 ≤ z.toInt ∧ z.toInt ≤ 500) Iff.rfl]
      by_cases q3 : -500 ≤ z.toInt ∧ z.toInt ≤ 500
      · rw [if_pos q3, if_pos q3, if_pos rfl, if_neg n10, nMe IC0 hk, tb_b, is_ra hk6]
        by_cases q4 : mo.1 28 k = -1
        · rw [if_pos q4, if_pos q4, Option.bind_some, if_pos rfl]
          refine ⟨0, hu h 4 (oi (oi (h 4) 6 k (Int32.ofNat s)) 7 k z), oi (oi (oi mo 0 0 0) 29 k (Int32.ofNat s)) 30 k z, U, C, t, ?_, ?_, rfl, ?_⟩
          · simp (disch := omega) [f_X1_putFeed, c_made i2 i1 hk, ix_lt1, ix_le1, ix_lt2, ix_le2, ix_eq1, ix_eq2, ix_lt, ix_le, ix_eq, ix_inb, ix_nat, ix_suc, ix_dbl, -Int32.ofNat_add, -Int32.ofNat_mul, hk6, sumE]
          · unfold f_X7_feed_b63
            simp (disch := omega) [holds_1, ix_lt1, ix_le1, ix_lt2, ix_le2, ix_eq1, ix_eq2, ix_lt, ix_le, ix_eq, ix_inb, ix_nat, ix_suc, ix_dbl, -Int32.ofNat_add, -Int32.ofNat_mul, hk6]
          · refine INV_c I (fun j h0 h1 => by rw [oi_n (by omega), oi_n (by omega), oi_n h0]) rfl (IC_one (k := k) IC0 hk (fun j h6 h7 h8 => by rw [oi_n h7, oi_n h6]) (fun j _ => rfl) (fun j h1 h2 h3 h4 h5 h6 => by rw [oi_n h5, oi_n h4, oi_n (by omega)]) rfl ?_ ?_ (fun j hj => ?_) ⟨fun h28 => ?_, ?_, ?_⟩)
            · rw [oi_s, oi_s, oi_n (show 7 ≠ 6 by decide), oi_n (show 30 ≠ 29 by decide), oi_n (show 30 ≠ 0 by decide), i7]
            · intro j; rw [oi_n (show 24 ≠ 30 by decide), oi_n (show 24 ≠ 29 by decide), oi_n (show 24 ≠ 0 by decide)]; exact i9 j
            · simp [oi_i, upd, hj]
            · rcases (i14 k hk).2.1 with h9 | h9
              · have := (i14 k hk).2.2.2.1.2 h28
                simp [oi_i]; exact ⟨h9.2.2.2, this.1, this.2⟩
              · exact absurd h28 h9.1
            · right; refine ⟨s, by omega, ?_, ?_⟩ <;> simp [oi_i, upd]
            · have := (i14 k hk).2.2.2.1.1
              simp [oi_i]; exact this
        · rw [if_neg q4, if_neg q4, Option.bind_some, Option.bind_some, if_neg n10, no 3 (by decide)]
          exact ⟨3, h, _, U, C, t, rfl, rfl, rfl, INV_0 I 3⟩
      · rw [if_neg q3, if_neg q3, if_pos (rfl : (0 : Int32) = 0), if_neg n10, no 2 (by decide)]
        exact ⟨2, h, _, U, C, t, rfl, rfl, rfl, INV_0 I 2⟩
    · rw [if_neg q2, sB_f q2, Option.bind_some, Option.bind_some, if_pos (rfl : (0 : Int32) = 0)]
      unfold f_X7_feed_b21
      rw [if_pos (rfl : (0 : Int32) = 0), no 1 (by decide)]
      exact ⟨1, h, _, U, C, t, rfl, rfl, rfl, INV_0 I 1⟩
  · rw [if_neg q, sB_f q, Option.bind_some, Option.bind_some, if_pos (rfl : (0 : Int32) = 0)]
    unfold f_X7_feed_b21
    rw [if_pos (rfl : (0 : Int32) = 0), no 1 (by decide)]
    exact ⟨1, h, _, U, C, t, rfl, rfl, rfl, INV_0 I 1⟩
