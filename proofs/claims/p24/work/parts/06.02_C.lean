/-! a unit gives: the class's words and the reference's -/
theorem vpL_comm (F : Nat → Int64) {i j : Nat} (h : i ≠ j) (a b : Int64) : vp_updL (vp_updL F i a) j b = vp_updL (vp_updL F j b) i a := by
  funext s; unfold vp_updL
  by_cases h1 : s = i <;> by_cases h2 : s = j
  · omega
  · subst h1; simp [h2]
  · subst h2; simp [h1]
  · simp [h1, h2]
theorem c_give {o0 o1 : ObS} {u U a b : Nat} {n : Int32} (hc : o0.1 0 0 = Int32.ofNat U) (hU : U ≤ 12) (hu : u < U)
    (hk : o0.1 1 u = 0 ∨ o0.1 1 u = 1 ∨ o0.1 1 u = 2 ∨ o0.1 1 u = 3 ∨ o0.1 1 u = 4)
    (h1 : o0.1 1 u ≠ 0 → o0.1 4 u = Int32.ofNat a ∧ a < 24) (h2 : o0.1 1 u = 2 ∨ o0.1 1 u = 3 → o0.1 5 u = Int32.ofNat b ∧ b < 24)
    (ho : o0.1 1 u ≠ 1 → o0.1 1 u ≠ 3 → o1.2 0 (2 * u + 1) = 0 ∧ o1.2 1 (2 * u + 1) = 0)
    (hd0 : o0.1 1 u = 3 → n.toInt64 + mn (o1.2 0 a) (o1.2 0 b) ≠ 0 → ¬ 10 * (n.toInt64 + mn (o1.2 0 a) (o1.2 0 b)) = 0) :
    ∃ o1' : ObS, f_X5_give o0 o1 (Int32.ofNat u) n = some ((uo (o0.1 1 u) n.toInt64 (o0.1 2 u).toInt64 (o1.2 0 a) (o1.2 1 a) (o1.2 0 b) (o1.2 1 b)).2.2.2.2, o1') ∧
      o1'.2 0 = st2 (o1.2 0) u (uo (o0.1 1 u) n.toInt64 (o0.1 2 u).toInt64 (o1.2 0 a) (o1.2 1 a) (o1.2 0 b) (o1.2 1 b)).1 (uo (o0.1 1 u) n.toInt64 (o0.1 2 u).toInt64 (o1.2 0 a) (o1.2 1 a) (o1.2 0 b) (o1.2 1 b)).2.2.1 ∧
      o1'.2 1 = st2 (o1.2 1) u (uo (o0.1 1 u) n.toInt64 (o0.1 2 u).toInt64 (o1.2 0 a) (o1.2 1 a) (o1.2 0 b) (o1.2 1 b)).2.1 (uo (o0.1 1 u) n.toInt64 (o0.1 2 u).toInt64 (o1.2 0 a) (o1.2 1 a) (o1.2 0 b) (o1.2 1 b)).2.2.2.1 := by
  have hm := u_made hc hU hu
  have i0 : 2 * u < 24 := by omega
  have i1 : 2 * u + 1 < 24 := by omega
  have i2 : u < 12 := by omega
  have e01 : (0 : Nat) ≠ 1 := by decide
  rcases hk with hk | hk | hk | hk | hk
  · obtain ⟨p, q⟩ := ho (by rw [hk]; decide) (by rw [hk]; decide)
    refine ⟨oj (oj o1 0 (2 * u) n.toInt64) 1 (2 * u) (n.toInt64 * (o0.1 2 u).toInt64), ?_, ?_, ?_⟩
    · simp (disch := omega) [f_X5_give, hm, hk, ix_lt1, ix_le1, ix_lt2, ix_le2, ix_eq1, ix_eq2, ix_lt, ix_le, ix_eq, ix_inb, ix_nat, ix_suc, ix_dbl, -Int32.ofNat_add, -Int32.ofNat_mul, s_fill i0, i2, uo]
    · simp [oj_j, uo, st2_0 p, hk]
    · simp [oj_j, uo, st2_0 q, hk]
  · obtain ⟨p, l⟩ := h1 (by rw [hk]; decide)
    refine ⟨oj (oj (oj (oj o1 0 (2 * u) (o1.2 0 a * n.toInt64 / 100)) 1 (2 * u) (if o1.2 0 a = 0 then 0 else o1.2 1 a * (o1.2 0 a * n.toInt64 / 100) / o1.2 0 a)) 0 (2 * u + 1) (o1.2 0 a - o1.2 0 a * n.toInt64 / 100)) 1 (2 * u + 1) (o1.2 1 a - (if o1.2 0 a = 0 then 0 else o1.2 1 a * (o1.2 0 a * n.toInt64 / 100) / o1.2 0 a)), ?_, ?_, ?_⟩
    · by_cases hz : o1.2 0 a = 0
      · simp (disch := omega) [f_X5_give, f_X5_split, f_X5_split_b54, hm, hk, ix_lt1, ix_le1, ix_lt2, ix_le2, ix_eq1, ix_eq2, ix_lt, ix_le, ix_eq, ix_inb, ix_nat, ix_suc, ix_dbl, -Int32.ofNat_add, -Int32.ofNat_mul, s_fill i0, s_fill i1, s_flow l, s_heat l, i2, p, uo, lg_cmp_eq, hz]
      · simp (disch := omega) [f_X5_give, f_X5_split, f_X5_split_b54, hm, hk, ix_lt1, ix_le1, ix_lt2, ix_le2, ix_eq1, ix_eq2, ix_lt, ix_le, ix_eq, ix_inb, ix_nat, ix_suc, ix_dbl, -Int32.ofNat_add, -Int32.ofNat_mul, s_fill i0, s_fill i1, s_flow l, s_heat l, i2, p, uo, lg_cmp_eq, hz]
    · simp [oj_j, uo, st2, hk]
    · simp [oj_j, uo, st2, hk]
  · obtain ⟨p, l⟩ := h1 (by rw [hk]; decide)
    obtain ⟨p2, l2⟩ := h2 (Or.inl hk)
    obtain ⟨r, q⟩ := ho (by rw [hk]; decide) (by rw [hk]; decide)
    refine ⟨oj (oj o1 0 (2 * u) (o1.2 0 a + o1.2 0 b)) 1 (2 * u) (o1.2 1 a + o1.2 1 b), ?_, ?_, ?_⟩
    · simp (disch := omega) [f_X5_give, f_X5_mix, hm, hk, ix_lt1, ix_le1, ix_lt2, ix_le2, ix_eq1, ix_eq2, ix_lt, ix_le, ix_eq, ix_inb, ix_nat, ix_suc, ix_dbl, -Int32.ofNat_add, -Int32.ofNat_mul, s_fill i0, s_flow l, s_heat l, s_flow l2, s_heat l2, i2, p, p2, uo]
    · simp [oj_j, uo, st2_0 r, hk]
    · simp [oj_j, uo, st2_0 q, hk]
  · obtain ⟨p, l⟩ := h1 (by rw [hk]; decide)
    obtain ⟨p2, l2⟩ := h2 (Or.inr hk)
    have hdd := hd0 hk
    refine ⟨oj (oj (oj (oj o1 0 (2 * u) (o1.2 0 a)) 1 (2 * u) (o1.2 1 a - hd (tr n.toInt64 (mn (o1.2 0 a) (o1.2 0 b)) (wm (o1.2 0 a) (o1.2 1 a) - wm (o1.2 0 b) (o1.2 1 b))) (-(o1.2 1 b)) (o1.2 1 a))) 0 (2 * u + 1) (o1.2 0 b)) 1 (2 * u + 1) (o1.2 1 b + hd (tr n.toInt64 (mn (o1.2 0 a) (o1.2 0 b)) (wm (o1.2 0 a) (o1.2 1 a) - wm (o1.2 0 b) (o1.2 1 b))) (-(o1.2 1 b)) (o1.2 1 a)), ?_, ?_, ?_⟩
    · have ht : f_X5_transferred n.toInt64 (if o1.2 0 b < o1.2 0 a then o1.2 0 b else o1.2 0 a) (wm (o1.2 0 a) (o1.2 1 a) - wm (o1.2 0 b) (o1.2 1 b)) = some (tr n.toInt64 (mn (o1.2 0 a) (o1.2 0 b)) (wm (o1.2 0 a) (o1.2 1 a) - wm (o1.2 0 b) (o1.2 1 b))) := by
        show f_X5_transferred n.toInt64 (mn (o1.2 0 a) (o1.2 0 b)) _ = _
        unfold f_X5_transferred tr
        by_cases hz : n.toInt64 + mn (o1.2 0 a) (o1.2 0 b) = 0
        · simp [lg_cmp_eq, hz]
        · simp only [lg_cmp_eq, hz, if_false, hdd hz, not_false_eq_true, decide_true, if_true]
      simp (disch := omega) [f_X5_give, f_X5_exchange, hm, hk, ix_lt1, ix_le1, ix_lt2, ix_le2, ix_eq1, ix_eq2, ix_lt, ix_le, ix_eq, ix_inb, ix_nat, ix_suc, ix_dbl, -Int32.ofNat_add, -Int32.ofNat_mul, s_fill i0, s_fill i1, s_flow l, s_heat l, s_flow l2, s_heat l2, s_warm l, s_warm l2, i2, p, p2, uo, ht, held6]
    · simp [oj_j, uo, st2, hk]
    · simp [oj_j, uo, st2, hk]
  · obtain ⟨p, l⟩ := h1 (by rw [hk]; decide)
    obtain ⟨r, q⟩ := ho (by rw [hk]; decide) (by rw [hk]; decide)
    refine ⟨oj (oj o1 0 (2 * u) (o1.2 0 a)) 1 (2 * u) (o1.2 1 a - mn (o1.2 1 a) n.toInt64), ?_, ?_, ?_⟩
    · simp (disch := omega) [f_X5_give, f_X5_cool, hm, hk, ix_lt1, ix_le1, ix_lt2, ix_le2, ix_eq1, ix_eq2, ix_lt, ix_le, ix_eq, ix_inb, ix_nat, ix_suc, ix_dbl, -Int32.ofNat_add, -Int32.ofNat_mul, s_fill i0, s_flow l, s_heat l, i2, p, uo, mn]
    · simp [oj_j, uo, st2_0 r, hk]
    · simp [oj_j, uo, st2_0 q, hk]
