/-! controllers at work -/
/-- a controller's rows: the class's and the reference's -/
def CK (c mo : ObS) (kd : Nat → Int32) (U k : Nat) : Prop :=
  (∃ s, s < 2 * U ∧ mo.1 23 k = Int32.ofNat s) ∧
  ((mo.1 28 k = -1 ∧ c.1 1 k = 1 ∧ c.1 3 k = mo.1 25 k ∧ c.1 8 k = mo.1 31 k) ∨ (mo.1 28 k ≠ -1 ∧ c.1 1 k = 0 ∧ c.1 3 k = mo.1 28 k)) ∧
  (mo.1 30 k = 0 ∨ ∃ s, s < 24 ∧ c.1 6 k = Int32.ofNat s ∧ mo.1 29 k = Int32.ofNat s) ∧
  ((0 ≤ (mo.1 24 k).toInt ∧ (mo.1 24 k).toInt ≤ 3000) ∧ (mo.1 28 k = -1 → 0 ≤ (mo.1 31 k).toInt ∧ (mo.1 31 k).toInt ≤ 3000)) ∧
  ((∃ u, u < U ∧ mo.1 27 k = Int32.ofNat u ∧ kd u ≠ 2) ∨ ∃ e, e < 6 ∧ mo.1 27 k = Int32.ofNat (100 + e))
/-- all rows of the controllers -/
def IC (c mo : ObS) (kd : Nat → Int32) (U C : Nat) : Prop :=
  C ≤ 6 ∧ c.1 0 0 = Int32.ofNat C ∧ mo.1 22 0 = Int32.ofNat C ∧
  (c.1 2 = mo.1 23 ∧ c.1 4 = mo.1 26 ∧ c.1 5 = mo.1 27 ∧ c.1 7 = mo.1 30 ∧ c.1 9 = mo.1 35) ∧
  ((∀ k, c.2 10 k = (mo.1 24 k).toInt64) ∧ c.2 11 = mo.2 32 ∧ c.2 12 = mo.2 36 ∧ c.2 13 = mo.2 33 ∧ ∀ k, c.2 14 k = (mo.1 34 k).toInt64) ∧
  (∀ k, k < C → CK c mo kd U k) ∧ (∀ k, mo.1 35 k = 0 ∨ mo.1 35 k = 1) ∧
  (∀ k, C ≤ k → c.1 1 k = 0 ∧ mo.1 24 k = 0 ∧ c.1 4 k = 0 ∧ c.1 7 k = 0 ∧ mo.1 35 k = 0)
theorem s_any (o : ObS) (x : Int32) : ∃ w, f_X3_warmthOf o x = some w := by
  unfold f_X3_warmthOf f_X3_isThere
  by_cases h1 : x < 0
  · exact ⟨0, by simp [h1]⟩
  · by_cases h2 : 24 ≤ x
    · exact ⟨0, by simp [h1, h2]⟩
    · have h3 : 0 ≤ x.toInt := by
        have : ¬ x.toInt < 0 := fun z => h1 (Int32.lt_iff_toInt_lt.mpr z)
        omega
      obtain ⟨n, hn, rfl⟩ := ix_ex h3
      have h4 : n < 24 := by
        have : ¬ 24 ≤ n := fun z => h2 (by rw [show (24 : Int32) = Int32.ofNat 24 from rfl, ix_le (by omega) hn]; exact z)
        omega
      exact ⟨_, s_warm h4⟩
theorem is_ra {mo : ObS} {k : Nat} (hk : k < 6) : f_X7_isRatio mo (Int32.ofNat k) = some (if mo.1 28 k = -1 then 0 else 1) := by
  unfold f_X7_isRatio
  by_cases h : mo.1 28 k = -1 <;> simp (disch := omega) [ix_lt1, ix_le1, ix_lt2, ix_le2, ix_eq1, ix_eq2, ix_lt, ix_le, ix_eq, ix_inb, ix_nat, ix_suc, ix_dbl, -Int32.ofNat_add, -Int32.ofNat_mul, hk, h]
theorem is_me {c : ObS} {k C : Nat} (hk : k < C) (hC : C ≤ 6) (h0 : c.1 0 0 = Int32.ofNat C) : f_X1_isMeasuring c (Int32.ofNat k) = some (if c.1 1 k = 0 then 0 else 1) := by
  have a1 : ¬ C ≤ k := by omega
  have a2 : ¬ 6 ≤ k := by omega
  have a3 : k < 6 := by omega
  unfold f_X1_isMeasuring f_X1_isMade
  by_cases h : c.1 1 k = 0 <;> simp (disch := omega) [ix_lt1, ix_le1, ix_lt2, ix_le2, ix_eq1, ix_eq2, ix_lt, ix_le, ix_eq, ix_inb, ix_nat, ix_suc, ix_dbl, -Int32.ofNat_add, -Int32.ofNat_mul, a1, a2, a3, h0, h]
theorem is_mn {c : ObS} {x : Int32} {C : Nat} (hx : x.toInt < 0 ∨ C ≤ x.toInt) (hC : C ≤ 6) (h0 : c.1 0 0 = Int32.ofNat C) : f_X1_isMeasuring c x = some 0 := by
  unfold f_X1_isMeasuring f_X1_isMade
  rw [h0]
  by_cases h1 : x < 0
  · simp [h1]
  · have h2 : Int32.ofNat C ≤ x := by
      rw [Int32.le_iff_toInt_le, ix_toInt (by omega)]
      rw [Int32.lt_iff_toInt_lt] at h1
      have z : ((0 : Int32).toInt) = 0 := rfl
      omega
    simp [h1, h2]
theorem sb_100 (e : Nat) (h : e < 6) : Int32.ofNat (100 + e) - 100 = Int32.ofNat e := by
  rw [Nat.add_comm, Int32.ofNat_add, show Int32.ofNat 100 = (100 : Int32) from rfl, Int32.add_sub_cancel]
theorem sb_neg (u : Nat) (h : u < 12) : (Int32.ofNat u - 100).toInt < 0 := by
  rw [c_sub (by rw [ix_toInt (by omega)]; show _ ≤ _ - (100 : Int); omega) (by rw [ix_toInt (by omega)]; show _ - (100 : Int) < _; omega), ix_toInt (by omega)]; show _ - (100 : Int) < 0; omega
theorem w_32 {f h : Int64} (h1 : 0 ≤ (wm f h).toInt) (h2 : (wm f h).toInt ≤ 50000) : (wm f h).toInt32.toInt = (wm f h).toInt ∧ (wm f h).toInt32.toInt64 = wm f h := by
  have e : (wm f h).toInt32.toInt = (wm f h).toInt := by
    rw [Int64.toInt_toInt32]; exact Int.bmod_eq_of_le (by omega) (by omega)
  exact ⟨e, by rw [← Int64.toInt_inj, to64, e]⟩
