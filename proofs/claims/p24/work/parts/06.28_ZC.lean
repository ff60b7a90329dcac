theorem ag_aim {h : Nat → ObS} {mo : ObS} {U C t : Nat} (I : INV h mo U C t) (x y z : Int32) (w : ObS) : AG (f_L_aim h x y z w) (f_X7_aim mo x y z) := by
  obtain ⟨-, -, -, -, -, -, IC0, -⟩ := id I
  obtain ⟨i1, i2, i3, ⟨i4, i5, i6, i7, i8⟩, ⟨i9, i10, i11, i12, i13⟩, i14, i15, i16⟩ := id IC0
  have no : ∀ k : Int32, k ≠ 0 → f_X7_aim_b68 mo x y z k = some (0, oi mo 0 0 k) := fun k hk => by
    unfold f_X7_aim_b68; rw [holds_0 hk]; rfl
  have hm : f_X7_aim mo x y z = if 0 ≤ x.toInt ∧ x.toInt < C then (if (0 ≤ y.toInt ∧ y.toInt ≤ 3000) ∧ 0 ≤ z.toInt ∧ z.toInt ≤ 3000 then (f_X7_isRatio mo x).bind fun r57 => if r57 = (0 : Int32) then f_X7_aim_b68 mo x y z 0 else f_X7_aim_b68 mo x y z 3 else f_X7_aim_b68 mo x y z 2) else f_X7_aim_b68 mo x y z 1 := by
    unfold f_X7_aim f_X7_aim_b33 f_X7_aim_b34
    rw [iC i3 i1, in_c (0 ≤ y.toInt ∧ y.toInt ≤ 3000) Iff.rfl, in_c (0 ≤ z.toInt ∧ z.toInt ≤ 3000) Iff.rfl]
    by_cases q : 0 ≤ x.toInt ∧ x.toInt < C <;> by_cases q2 : 0 ≤ y.toInt ∧ y.toInt ≤ 3000 <;> by_cases q3 : 0 ≤ z.toInt ∧ z.toInt ≤ 3000 <;> simp [sB, q, q2, q3]
  have hc : f_X6_aim h x y z = if 0 ≤ x.toInt ∧ x.toInt < C then (if (0 ≤ y.toInt ∧ y.toInt ≤ 3000) ∧ 0 ≤ z.toInt ∧ z.toInt ≤ 3000 then tb (f_X6_needMeasuring h x) (fun r39 => (f_X1_aimAt (h 4) x y z).bind fun r49 => some (.inr (r49.1, (hu h 4 r49.2)))) else some (.inl 1)) else some (.inl 3) := by
    unfold f_X6_aim
    rw [nC i2 i1, tb_b, os_c (0 ≤ y.toInt ∧ y.toInt ≤ 3000) Iff.rfl, os_c (0 ≤ z.toInt ∧ z.toInt ≤ 3000) Iff.rfl]
    by_cases q : 0 ≤ x.toInt ∧ x.toInt < C <;> by_cases q2 : 0 ≤ y.toInt ∧ y.toInt ≤ 3000 <;> by_cases q3 : 0 ≤ z.toInt ∧ z.toInt ≤ 3000 <;> simp [q, q2, q3]
  unfold f_L_aim
  rw [hm, hc]
  by_cases q : 0 ≤ x.toInt ∧ x.toInt < C
  · rw [if_pos q, if_pos q]
    by_cases q2 : (0 ≤ y.toInt ∧ y.toInt ≤ 3000) ∧ 0 ≤ z.toInt ∧ z.toInt ≤ 3000
    · rw [if_pos q2, if_pos q2]
      obtain ⟨k, hk, rfl⟩ := ex_n (x := x) (n := C) q (by omega)
      have hk6 : k < 6 := by omega
      rw [nMe IC0 hk, tb_b, is_ra hk6]
      by_cases q4 : mo.1 28 k = -1
      · rw [if_pos q4, if_pos q4]
        refine AG_ok (r := mo.1 24 k) (h' := hu h 4 (oi (oj (h 4) 10 k y.toInt64) 8 k z)) (mo' := oi (oi (oi mo 0 0 0) 24 k y) 31 k z) (w := w) (U := U) (C := C) (t := t) ?_ ?_ ?_ rfl
        · refine INV_c I (fun j h0 h1 => by rw [oi_n (by omega), oi_n (by omega), oi_n h0]) rfl (IC_one (k := k) IC0 hk (fun j h6 h7 h8 => by rw [oi_n h8]; rfl) (fun j h1 => oj_n h1) (fun j h1 h2 h3 h4 h5 h6 => by rw [oi_n h6, oi_n h3, oi_n (by omega)]) rfl ?_ ?_ (fun j hj => ?_) ⟨fun h28 => ?_, ?_, ?_⟩)
          · rw [oi_n (show 7 ≠ 8 by decide), oj_i, oi_n (show 30 ≠ 31 by decide), oi_n (show 30 ≠ 24 by decide), oi_n (show 30 ≠ 0 by decide), i7]
          · intro j
            rw [oi_n (show 24 ≠ 31 by decide), oi_s, oi_n (show 24 ≠ 0 by decide), oi_j, oj_s]; unfold upd vp_updL
            by_cases h9 : j = k
            · rw [if_pos h9, if_pos h9]
            · rw [if_neg h9, if_neg h9]; exact i9 j
          · simp [oi_i, oj_i, upd, hj]
          · simp [oi_i, oj_i, upd]; exact q2.2
          · have := (i14 k hk).2.2.1
            simp [oi_i, oj_i]; exact this
          · simp [oi_i, upd]; exact q2.1
        · simp (disch := omega) [f_X1_aimAt, f_X1_goalOf, c_made i2 i1 hk, ix_lt1, ix_le1, ix_lt2, ix_le2, ix_eq1, ix_eq2, ix_lt, ix_le, ix_eq, ix_inb, ix_nat, ix_suc, ix_dbl, -Int32.ofNat_add, -Int32.ofNat_mul, hk6, sumE, i9, to_32]
        · unfold f_X7_aim_b68
          simp (disch := omega) [holds_1, ix_lt1, ix_le1, ix_lt2, ix_le2, ix_eq1, ix_eq2, ix_lt, ix_le, ix_eq, ix_inb, ix_nat, ix_suc, ix_dbl, -Int32.ofNat_add, -Int32.ofNat_mul, hk6, oi_n]
      · rw [if_neg q4, if_neg q4]
        exact AG_no I (w := w) (k := 3) (by decide) rfl (no 3 (by decide))
    · rw [if_neg q2, if_neg q2]
      exact AG_no I (w := w) (k := 2) (by decide) rfl (no 2 (by decide))
  · rw [if_neg q, if_neg q]
    exact AG_no I (w := w) (k := 1) (by decide) rfl (no 1 (by decide))
theorem INV_p {h : Nat → ObS} {mo mo' p' : ObS} {U C t N : Nat} (I : INV h mo U C t) (b1 : ∀ j, j ≠ 0 → (j < 18 ∨ 21 < j) → mo'.1 j = mo.1 j) (b2 : mo'.2 = mo.2) (i : IP p' mo' ((h 3).1 1) U N) : INV (hu h 6 p') mo' U C t := by
  obtain ⟨⟨G, R, n1, n2, n3, n4, n5⟩, ⟨f0, f1, S, t1, z0'⟩, ⟨t2, t3⟩, B, -, ⟨A, IAl, hA⟩, IC0, IR0⟩ := I
  refine ⟨⟨G, UR.co R (fun k _ => b1 k (by omega) (by omega)), by rw [b1 4 (by decide) (by decide)]; exact n1, by rw [b1 9 (by decide) (by decide)]; exact n2, n3, by rw [b1 9 (by decide) (by decide)]; exact n4, by rw [b1 8 (by decide) (by decide)]; exact n5⟩, ⟨by rw [b2]; exact f0, by rw [b2]; exact f1, S, t1, z0'⟩, ⟨t2, by rw [b1 1 (by decide) (by decide)]; exact t3⟩, B, ⟨N, i⟩, ⟨A, IA_co IAl (fun k _ => b1 k (by omega) (by omega)), by rw [b1 35 (by decide) (by decide)]; exact hA⟩, IC_co IC0 (fun k _ _ => b1 k (by omega) (by omega)) (fun k _ => by rw [b2]), IR_co IR0 (b1 17 (by decide) (by decide))⟩
theorem ag_disturb {h : Nat → ObS} {mo : ObS} {U C t : Nat} (I : INV h mo U C t) (x y z : Int32) (w : ObS) : AG (f_L_disturb h x y z w) (f_X7_disturb mo x y z) := by
  obtain ⟨⟨G, R, n1, n2, n3, n4, n5⟩, ⟨-, -, -, t1, -⟩, ⟨t2, t3⟩, -, ⟨N, p0, p1, p2, p3⟩, -⟩ := id I
  have hU := G.1
  have r0 := R.1
  rw [G.2.1] at r0
  have no : ∀ k : Int32, k ≠ 0 → f_X7_disturb_b60 mo x y z k = some (0, oi mo 0 0 k) := fun k hk => by
    unfold f_X7_disturb_b60; rw [holds_0 hk]; rfl
  unfold f_L_disturb f_X6_disturb f_X7_disturb f_X7_disturb_b42
  rw [nU G.2.1 hU, tb_b, iU r0.symm hU, t2, t3, ix_suc]
  by_cases q : 0 ≤ y.toInt ∧ y.toInt < U
  · rw [if_pos q, sB_t q]
    obtain ⟨u, huU, rfl⟩ := ex_n (x := y) (n := U) q (by omega)
    have h12 : u < 12 := by omega
    have gk := (G.2.2.1 u huU).1
    rw [os_c (t + 1 ≤ x.toInt ∧ x.toInt ≤ 300) (by rw [ix_toInt (by omega)]; exact Iff.rfl), in_c (t + 1 ≤ x.toInt ∧ x.toInt ≤ 300) (by rw [ix_toInt (by omega)]; exact Iff.rfl), nNum G huU, tb_b, canB h12 (by rw [← R.2.1]; exact gk), ← R.2.1]
    by_cases q2 : t + 1 ≤ x.toInt ∧ x.toInt ≤ 300
    · rw [if_pos q2, if_pos q2]
      by_cases p : (h 3).1 1 u ≠ 2 ∧ 0 ≤ z.toInt ∧ z.toInt ≤ mst ((h 3).1 1 u)
      · rw [if_pos p, sB_t p]
        unfold f_X2_toCome
        rw [p1, p2]
        by_cases hN : N < 40
        · have a1 : ¬ 40 ≤ N := by omega
          have a2 : ¬ N = 40 := by omega
          refine AG_ok (r := Int32.ofNat (N + 1)) (h' := hu h 6 (oi (oi (oi (oi (h 6) 1 N x) 2 N (Int32.ofNat u)) 3 N z) 0 0 (Int32.ofNat (N + 1)))) (mo' := oi (oi (oi (oi (oi mo 0 0 0) 19 N x) 20 N (Int32.ofNat u)) 21 N z) 18 0 (Int32.ofNat (N + 1))) (w := w) (U := U) (C := C) (t := t) ?_ ?_ ?_ rfl
          · refine INV_p (N := N + 1) I (fun j h0 h1 => by rw [oi_n (by omega), oi_n (by omega), oi_n (by omega), oi_n (by omega), oi_n h0]) rfl ⟨by omega, by simp [oi_i, upd], by simp [oi_i, upd], fun i hi => ?_⟩
            unfold IP1
            by_cases h9 : i = N
            · subst h9
              simp [oi_i, upd]
              exact ⟨u, huU, rfl, Or.inr p.2⟩
            · have := p3 i (by omega)
              unfold IP1 at this
              simp [oi_i, upd, h9]
              exact this
          · have e1 : (oi (oi (oi (h 6) 1 N x) 2 N (Int32.ofNat u)) 3 N z).1 0 0 = Int32.ofNat N := by rw [oi_n (by decide), oi_n (by decide), oi_n (by decide)]; exact p1
            simp (disch := omega) [f_X2_add, p1, ix_lt1, ix_le1, ix_lt2, ix_le2, ix_eq1, ix_eq2, ix_lt, ix_le, ix_eq, ix_inb, ix_nat, ix_suc, ix_dbl, -Int32.ofNat_add, -Int32.ofNat_mul, a1, hN, wr_ok _ _ _ hN, e1, sumE, oi_i, upd]
          · unfold f_X7_disturb_b60
            simp (disch := omega) [holds_1, ix_lt1, ix_le1, ix_lt2, ix_le2, ix_eq1, ix_eq2, ix_lt, ix_le, ix_eq, ix_inb, ix_nat, ix_suc, ix_dbl, -Int32.ofNat_add, -Int32.ofNat_mul, hN, a2, oi_i, p2, upd]
        · obtain rfl : N = 40 := by omega
          refine AG_no I (w := w) (k := 3) (by decide) rfl ?_
          rw [← no 3 (by decide)]; rfl
      · rw [if_neg p, sB_f p]
        refine AG_no I (w := w) (k := 2) (by decide) rfl ?_
        rw [← no 2 (by decide)]; rfl
    · rw [if_neg q2, if_neg q2]
      refine AG_no I (w := w) (k := 2) (by decide) rfl ?_
      rw [← no 2 (by decide)]; rfl
  · rw [if_neg q, sB_f q]
    refine AG_no I (w := w) (k := 1) (by decide) rfl ?_
    rw [← no 1 (by decide)]; rfl
