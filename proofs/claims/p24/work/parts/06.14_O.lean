/-! alarms -/
def IA (a mo : ObS) (A : Nat) : Prop := a.1 0 0 = Int32.ofNat A ∧ mo.1 37 0 = Int32.ofNat A ∧ A ≤ 900 ∧ ∀ i, i < A → a.1 1 i = mo.1 40 i ∧ a.2 2 i = (mo.1 38 i).toInt64 ∧ 0 < (mo.1 38 i).toInt
theorem c_sub {a b : Int32} (h1 : -2147483648 ≤ a.toInt - b.toInt) (h2 : a.toInt - b.toInt < 2147483648) : (a - b).toInt = a.toInt - b.toInt := by
  rw [Int32.toInt_sub]; exact Int.bmod_eq_of_le (by omega) (by omega)
theorem c_neg {a : Int32} (h1 : -2147483647 ≤ a.toInt) : (-a).toInt = -a.toInt := by
  have := a.toInt_lt
  rw [Int32.toInt_neg]; exact Int.bmod_eq_of_le (by omega) (by omega)
theorem put_ok {a : ObS} {A : Nat} (x : Int32) (e : Int64) (h : a.1 0 0 = Int32.ofNat A) (hA : A < 900) : f_X0_put a x e = some (oi (oj (oi a 1 A x) 2 A e) 0 0 (Int32.ofNat (A + 1))) := by
  have a1 : ¬ 900 ≤ A := by omega
  unfold f_X0_put
  simp (disch := omega) [h, ix_lt1, ix_le1, ix_lt2, ix_le2, ix_eq1, ix_eq2, ix_lt, ix_le, ix_eq, ix_inb, ix_nat, ix_suc, ix_dbl, -Int32.ofNat_add, -Int32.ofNat_mul, a1, hA, oi_i, oj_i]
def sz (e : Int32) : Int32 := if 0 ≤ e then e else -e
theorem sz_i {e : Int32} (h1 : -100000 ≤ e.toInt) (h2 : e.toInt ≤ 100000) : (sz e).toInt = (if 0 ≤ e.toInt then e.toInt else -e.toInt) := by
  unfold sz
  simp only [Int32.le_iff_toInt_le, show ((0 : Int32).toInt) = 0 from rfl]
  split
  · rfl
  · exact c_neg (by omega)
theorem ex_i {e l : Int32} (h1 : -100000 ≤ e.toInt) (h2 : e.toInt ≤ 100000) (h3 : 0 ≤ l.toInt) (h4 : l.toInt ≤ 3000) : (if 0 < e.toInt64 then e.toInt64 else -e.toInt64) - l.toInt64 = (sz e - l).toInt64 := by
  have h5 := sz_i h1 h2
  have h6 : (sz e - l).toInt = (sz e).toInt - l.toInt := c_sub (by split at h5 <;> omega) (by split at h5 <;> omega)
  have h7 : (if 0 < e.toInt64 then e.toInt64 else -e.toInt64).toInt = (if 0 ≤ e.toInt then e.toInt else -e.toInt) := by
    simp only [Int64.lt_iff_toInt_lt, to64, show ((0 : Int64).toInt) = 0 from rfl]
    split
    · rw [to64, if_pos (by omega)]
    · rw [b_neg (by rw [to64]; omega), to64]; split <;> omega
  rw [← Int64.toInt_inj, to64, h6, h5, b_sub (by rw [h7, to64]; split <;> omega) (by rw [h7, to64]; split <;> omega), h7, to64]
theorem wr_0 : vp_nar .boolean 0 = 0 := rfl
theorem wr_1 : vp_nar .boolean 1 = 1 := rfl
theorem ww {c a mo : ObS} {k A : Nat} (hk : k < 6) (I : IA a mo A) (hA : mo.1 35 k = 0 → A < 900) (e1 : c.2 14 k = (mo.1 34 k).toInt64) (e2 : c.1 8 k = mo.1 31 k) (e3 : c.1 9 k = mo.1 35 k) (l0 : 0 ≤ (mo.1 31 k).toInt) (l1 : (mo.1 31 k).toInt ≤ 3000) (r0 : -100000 ≤ (mo.1 34 k).toInt) (r1 : (mo.1 34 k).toInt ≤ 100000) :
    ∃ (a' mo' : ObS) (ov : Int32) (A' : Nat), f_X1_watch c a (Int32.ofNat k) = some (oi c 9 k ov, a') ∧ f_X7_warns mo (Int32.ofNat k) = some mo' ∧ (ov = 0 ∨ ov = 1) ∧ mo'.1 35 = upd (mo.1 35) k ov ∧ mo'.2 = mo.2 ∧ (∀ j, j ≠ 35 → j ≠ 37 → j ≠ 38 → j ≠ 39 → j ≠ 40 → mo'.1 j = mo.1 j) ∧ IA a' mo' A' ∧ (A' = A ∨ (A' = A + 1 ∧ ov = 1 ∧ mo.1 35 k = 0)) := by
  have hx := ex_i r0 r1 l0 l1
  have hs := sz_i r0 r1
  have h6 : (sz (mo.1 34 k) - mo.1 31 k).toInt = (sz (mo.1 34 k)).toInt - (mo.1 31 k).toInt := c_sub (by split at hs <;> omega) (by split at hs <;> omega)
  have w1 : f_X7_warns mo (Int32.ofNat k) = f_X7_warns_b25 mo (Int32.ofNat k) (sz (mo.1 34 k)) := by
    unfold f_X7_warns sz
    simp (disch := omega) only [ix_lt1, ix_le1, ix_lt2, ix_le2, ix_eq1, ix_eq2, ix_lt, ix_le, ix_eq, ix_inb, ix_nat, ix_suc, ix_dbl, -Int32.ofNat_add, -Int32.ofNat_mul, hk, decide_true, if_true]
    split <;> rfl
  have w2 : f_X1_watch c a (Int32.ofNat k) = if (lg_cmp (sz (mo.1 34 k) - mo.1 31 k).toInt64 0) ≤ (0 : Int32) then f_X1_watch_b42 c a (Int32.ofNat k) 0 else f_X1_watch_b42 c a (Int32.ofNat k) 1 := by
    unfold f_X1_watch
    simp (disch := omega) only [ix_lt1, ix_le1, ix_lt2, ix_le2, ix_eq1, ix_eq2, ix_lt, ix_le, ix_eq, ix_inb, ix_nat, ix_suc, ix_dbl, -Int32.ofNat_add, -Int32.ofNat_mul, hk, decide_true, if_true, e1, e2, hx]
  obtain ⟨i1, i2, i3, i4⟩ := I
  rw [w1, w2]
  unfold f_X7_warns_b25
  by_cases hov : sz (mo.1 34 k) ≤ mo.1 31 k
  · have c1 : (lg_cmp (sz (mo.1 34 k) - mo.1 31 k).toInt64 0) ≤ (0 : Int32) := by
      rw [lg_cmp_le, Int64.le_iff_toInt_le, to64, h6]
      rw [Int32.le_iff_toInt_le] at hov
      show _ ≤ (0 : Int); omega
    rw [if_pos c1]
    refine ⟨a, oi mo 35 k 0, 0, A, ?_, ?_, Or.inl rfl, by simp [oi_i], rfl, fun j h1 _ _ _ _ => by simp [oi_i, h1], ⟨i1, i2, i3, i4⟩, Or.inl rfl⟩
    · unfold f_X1_watch_b42
      simp (disch := omega) [ix_lt1, ix_le1, ix_lt2, ix_le2, ix_eq1, ix_eq2, ix_lt, ix_le, ix_eq, ix_inb, ix_nat, ix_suc, ix_dbl, -Int32.ofNat_add, -Int32.ofNat_mul, hk, wr_0, oi_i, upd]
    · unfold f_X7_warns_b41
      simp (disch := omega) [ix_lt1, ix_le1, ix_lt2, ix_le2, ix_eq1, ix_eq2, ix_lt, ix_le, ix_eq, ix_inb, ix_nat, ix_suc, ix_dbl, -Int32.ofNat_add, -Int32.ofNat_mul, hk, wr_0, hov]
  · have c1 : ¬ (lg_cmp (sz (mo.1 34 k) - mo.1 31 k).toInt64 0) ≤ (0 : Int32) := by
      rw [lg_cmp_le, Int64.le_iff_toInt_le, to64, h6]
      rw [Int32.le_iff_toInt_le] at hov
      show ¬ _ ≤ (0 : Int); omega
    have n10 : ¬ (1 : Int32) = 0 := by decide
    rw [if_neg c1]
    by_cases ho : mo.1 35 k = 0
    · have hA := hA ho
      have h18 : A < 1800 := by omega
      refine ⟨oi (oj (oi a 1 A (Int32.ofNat k)) 2 A (sz (mo.1 34 k) - mo.1 31 k).toInt64) 0 0 (Int32.ofNat (A + 1)), oi (oi (oi (oi (oi mo 38 A (sz (mo.1 34 k) - mo.1 31 k)) 39 A (mo.1 1 0)) 40 A (Int32.ofNat k)) 37 0 (Int32.ofNat (A + 1))) 35 k 1, 1, A + 1, ?_, ?_, Or.inr rfl, by simp [oi_i], rfl, fun j h1 h2 h3 h4 h5 => by simp [oi_i, h1, h2, h3, h4, h5], ⟨by simp [oi_i, upd], by simp [oi_i, upd], by omega, fun i hi => ?_⟩, Or.inr ⟨rfl, rfl, ho⟩⟩
      · unfold f_X1_watch_b42
        simp (disch := omega) [ix_lt1, ix_le1, ix_lt2, ix_le2, ix_eq1, ix_eq2, ix_lt, ix_le, ix_eq, ix_inb, ix_nat, ix_suc, ix_dbl, -Int32.ofNat_add, -Int32.ofNat_mul, hk, wr_1, oi_i, upd, e3, ho, put_ok _ _ i1 hA, e1, e2, hx]
      · unfold f_X7_warns_b41
        simp (disch := omega) [ix_lt1, ix_le1, ix_lt2, ix_le2, ix_eq1, ix_eq2, ix_lt, ix_le, ix_eq, ix_inb, ix_nat, ix_suc, ix_dbl, -Int32.ofNat_add, -Int32.ofNat_mul, hk, wr_1, hov, ho, i2, h18, oi_i]
      · by_cases h9 : i = A
        · subst h9
          simp [oi_i, oj_i, oj_j, oi_j, upd, vp_updL]
          rw [← Int32.toInt_sub, h6]; rw [Int32.le_iff_toInt_le] at hov; omega
        · have := i4 i (by omega)
          simp [oi_i, oj_i, oj_j, oi_j, upd, vp_updL, h9]
          exact this
    · refine ⟨a, oi mo 35 k 1, 1, A, ?_, ?_, Or.inr rfl, by simp [oi_i], rfl, fun j h1 _ _ _ _ => by simp [oi_i, h1], ⟨i1, i2, i3, i4⟩, Or.inl rfl⟩
      · unfold f_X1_watch_b42
        simp (disch := omega) [ix_lt1, ix_le1, ix_lt2, ix_le2, ix_eq1, ix_eq2, ix_lt, ix_le, ix_eq, ix_inb, ix_nat, ix_suc, ix_dbl, -Int32.ofNat_add, -Int32.ofNat_mul, hk, wr_1, oi_i, upd, e3, ho]
      · unfold f_X7_warns_b41
        simp (disch := omega) [ix_lt1, ix_le1, ix_lt2, ix_le2, ix_eq1, ix_eq2, ix_lt, ix_le, ix_eq, ix_inb, ix_nat, ix_suc, ix_dbl, -Int32.ofNat_add, -Int32.ofNat_mul, hk, wr_1, hov, ho]
