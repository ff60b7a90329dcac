theorem hs_hd (x : Int64) : f_X1_heldSum x = hd x (-10000000) 10000000 := held6 _ _ _
/-- the numbers that a measuring controller finds -/
def qE (c o1 : ObS) (k : Nat) : Int64 := c.2 10 k - wm (o1.2 0 (c.1 2 k).toNatClampNeg) (o1.2 1 (c.1 2 k).toNatClampNeg)
def qS (c o1 : ObS) (k : Nat) : Int64 := hd (c.2 11 k + (c.1 3 k).toInt64 * qE c o1 k) (-10000000) 10000000
def qF (c : ObS) (k : Nat) (w : Int64) : Int64 := (c.1 7 k).toInt64 * (w - 200) / 100
def qO (c o1 : ObS) (k : Nat) (w : Int64) : Int64 := (c.1 4 k).toInt64 + qS c o1 k / 1000 + qF c k w
theorem me_ok {c o1 : ObS} {k s : Nat} {w : Int64} (hk : k < 6) (hs : s < 24) (e : c.1 2 k = Int32.ofNat s) (hw : f_X3_warmthOf o1 (c.1 6 k) = some w) :
    f_X1_measure c o1 (Int32.ofNat k) = some (oj (oj (oj (oj c 14 k (qE c o1 k)) 11 k (qS c o1 k)) 12 k (qF c k w)) 13 k (qO c o1 k w)) := by
  unfold f_X1_measure qO qS qF qE
  simp (disch := omega) [ix_lt1, ix_le1, ix_lt2, ix_le2, ix_eq1, ix_eq2, ix_lt, ix_le, ix_eq, ix_inb, ix_nat, ix_suc, ix_dbl, -Int32.ofNat_add, -Int32.ofNat_mul, hk, e, s_warm hs, oj_i, oj_j, hw, vp_updL, hs_hd]
theorem g_32 (v : Int64) : ((hd v 0 3000).toInt32).toInt64 = hd v 0 3000 ∧ 0 ≤ ((hd v 0 3000).toInt32).toInt ∧ ((hd v 0 3000).toInt32).toInt ≤ 3000 := by
  have h := hd_i v 0 3000
  rw [show ((0 : Int64).toInt) = 0 from rfl, show ((3000 : Int64).toInt) = 3000 from rfl] at h
  have h1 : 0 ≤ (hd v 0 3000).toInt ∧ (hd v 0 3000).toInt ≤ 3000 := by
    rw [h]; repeat' split
    all_goals omega
  have e : (hd v 0 3000).toInt32.toInt = (hd v 0 3000).toInt := by
    rw [Int64.toInt_toInt32]; exact Int.bmod_eq_of_le (by omega) (by omega)
  exact ⟨by rw [← Int64.toInt_inj, to64, e], by omega, by omega⟩
/-- what the reference's row of a measuring controller says, up to its drive -/
theorem wm_ok {c mo o1 : ObS} {k s : Nat} {w : Int64} (hk : k < 6) (hs : s < 24) (e : mo.1 23 k = Int32.ofNat s) (hr : mo.1 28 k = -1) (e1 : c.1 2 k = mo.1 23 k) (e2 : c.1 3 k = mo.1 25 k) (e3 : c.1 7 k = mo.1 30 k) (e4 : c.1 4 k = mo.1 26 k)
    (e5 : c.2 10 k = (mo.1 24 k).toInt64) (e6 : c.2 11 = mo.2 32) (g0 : 0 ≤ (mo.1 24 k).toInt) (g1 : (mo.1 24 k).toInt ≤ 3000) (f0 : o1.2 0 = mo.2 10) (f1 : o1.2 1 = mo.2 11) (hw : ∀ s, s < 24 → 0 ≤ (wm (o1.2 0 s) (o1.2 1 s)).toInt ∧ (wm (o1.2 0 s) (o1.2 1 s)).toInt ≤ 50000)
    (h6 : f_X3_warmthOf o1 (c.1 6 k) = some w) (hf : mo.1 30 k = 0 ∨ ∃ s, s < 24 ∧ c.1 6 k = Int32.ofNat s ∧ mo.1 29 k = Int32.ofNat s) :
    ∃ er : Int32, er.toInt64 = qE c o1 k ∧ -100000 ≤ er.toInt ∧ er.toInt ≤ 100000 ∧ f_X7_works mo (Int32.ofNat k) = f_X7_works_b143 (Int32.ofNat k) (oj (oi mo 34 k er) 32 k (qS c o1 k)) (qF c k w) := by
  have hw1 := hw s hs
  rw [f0, f1] at hw1
  have w32 := w_32 hw1.1 hw1.2
  have es : (c.1 2 k).toNatClampNeg = s := by rw [e1, e, ix_nat (by omega)]
  have h7 : (mo.1 24 k - (wm (mo.2 10 s) (mo.2 11 s)).toInt32).toInt = (mo.1 24 k).toInt - (wm (mo.2 10 s) (mo.2 11 s)).toInt := by rw [c_sub (by omega) (by omega), w32.1]
  have h8 : (mo.1 24 k - (wm (mo.2 10 s) (mo.2 11 s)).toInt32).toInt64 = qE c o1 k := by
    unfold qE
    rw [es, e5, f0, f1, ← Int64.toInt_inj, to64, h7, b_sub (by rw [to64]; omega) (by rw [to64]; omega), to64]
  refine ⟨mo.1 24 k - (wm (mo.2 10 s) (mo.2 11 s)).toInt32, h8, by omega, by omega, ?_⟩
  have h9 : f_X7_held (mo.2 32 k + (mo.1 25 k).toInt64 * (mo.1 24 k - (wm (mo.2 10 s) (mo.2 11 s)).toInt32).toInt64) (-10000000) 10000000 = qS c o1 k := by
    rw [held7, h8]; unfold qS; rw [e2, e6]
  unfold f_X7_works
  rw [is_ra hk, hr]
  have z : ((0 : Int32).toInt64) = 0 := rfl
  rcases hf with hf | ⟨s2, hs2, q1, q2⟩
  · have h10 : qF c k w = 0 := by
      unfold qF; rw [e3, hf, z, Int64.zero_mul]; rfl
    simp (disch := omega) [ix_lt1, ix_le1, ix_lt2, ix_le2, ix_eq1, ix_eq2, ix_lt, ix_le, ix_eq, ix_inb, ix_nat, ix_suc, ix_dbl, -Int32.ofNat_add, -Int32.ofNat_mul, hk, e, m_warm hs, oj_i, oj_j, oi_i, oi_j, h9, hf, h10, upd]
  · have hw2 := hw s2 hs2
    rw [f0, f1] at hw2
    have w322 := w_32 hw2.1 hw2.2
    have h11 : w = wm (mo.2 10 s2) (mo.2 11 s2) := by
      rw [q1, s_warm hs2, f0, f1] at h6; exact (Option.some.inj h6).symm
    have h12 : ((wm (mo.2 10 s2) (mo.2 11 s2)).toInt32 - 200).toInt64 = w - 200 := by
      rw [h11, ← Int64.toInt_inj, to64, c_sub (by rw [w322.1]; show _ ≤ _ - (200 : Int); omega) (by rw [w322.1]; show _ - (200 : Int) < _; omega), w322.1, b_sub (by show _ ≤ _ - (200 : Int); omega) (by show _ - (200 : Int) < _; omega)]; rfl
    by_cases h0 : mo.1 30 k = 0
    · have h10 : qF c k w = 0 := by
        unfold qF; rw [e3, h0, z, Int64.zero_mul]; rfl
      simp (disch := omega) [ix_lt1, ix_le1, ix_lt2, ix_le2, ix_eq1, ix_eq2, ix_lt, ix_le, ix_eq, ix_inb, ix_nat, ix_suc, ix_dbl, -Int32.ofNat_add, -Int32.ofNat_mul, hk, e, m_warm hs, oj_i, oj_j, oi_i, oi_j, h9, h0, h10, upd]
    · have h10 : (mo.1 30 k).toInt64 * (w - 200) / 100 = qF c k w := by
        unfold qF; rw [e3]
      simp (disch := omega) [ix_lt1, ix_le1, ix_lt2, ix_le2, ix_eq1, ix_eq2, ix_lt, ix_le, ix_eq, ix_inb, ix_nat, ix_suc, ix_dbl, -Int32.ofNat_add, -Int32.ofNat_mul, hk, e, m_warm hs, oj_i, oj_j, oi_i, oi_j, h9, h0, m_warm hs2, q2, h12, h10, upd]
