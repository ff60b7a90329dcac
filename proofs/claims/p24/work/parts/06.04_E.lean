/-! bounds of what a unit gives -/
theorem b_mul {a b : Int64} (h1 : -9223372036854775808 ≤ a.toInt * b.toInt) (h2 : a.toInt * b.toInt < 9223372036854775808) : (a * b).toInt = a.toInt * b.toInt := by
  rw [Int64.toInt_mul]; exact Int.bmod_eq_of_le (by omega) (by omega)
theorem b_add {a b : Int64} (h1 : -9223372036854775808 ≤ a.toInt + b.toInt) (h2 : a.toInt + b.toInt < 9223372036854775808) : (a + b).toInt = a.toInt + b.toInt := by
  rw [Int64.toInt_add]; exact Int.bmod_eq_of_le (by omega) (by omega)
theorem b_sub {a b : Int64} (h1 : -9223372036854775808 ≤ a.toInt - b.toInt) (h2 : a.toInt - b.toInt < 9223372036854775808) : (a - b).toInt = a.toInt - b.toInt := by
  rw [Int64.toInt_sub]; exact Int.bmod_eq_of_le (by omega) (by omega)
theorem b_neg {a : Int64} (h1 : -9223372036854775807 ≤ a.toInt) : (-a).toInt = -a.toInt := by
  have := a.toInt_lt
  rw [Int64.toInt_neg]; exact Int.bmod_eq_of_le (by omega) (by omega)
theorem b_div {a b : Int64} (h1 : 0 ≤ a.toInt) (h2 : 0 < b.toInt) : (a / b).toInt = a.toInt / b.toInt := by
  have := a.toInt_lt
  have h3 : a.toInt / b.toInt ≤ a.toInt := Int.ediv_le_self _ h1
  have h4 : 0 ≤ a.toInt / b.toInt := Int.ediv_nonneg h1 (by omega)
  rw [Int64.toInt_div, Int.tdiv_eq_ediv_of_nonneg h1]; exact Int.bmod_eq_of_le (by omega) (by omega)
theorem b_tdiv {a b : Int64} (h2 : 0 < b.toInt) : (a / b).toInt = a.toInt.tdiv b.toInt := by
  have h5 := a.toInt_lt
  have h6 := a.le_toInt
  have h7 : a.toInt.natAbs / b.toInt.natAbs ≤ a.toInt.natAbs := Nat.div_le_self _ _
  have h8 := Int.natAbs_tdiv a.toInt b.toInt
  have h9 : (a.toInt.tdiv b.toInt).natAbs ≤ a.toInt.natAbs := by rw [h8]; exact h7
  rw [Int64.toInt_div]
  by_cases h0 : 0 ≤ a.toInt
  · have := Int.tdiv_nonneg h0 (Int.le_of_lt h2)
    exact Int.bmod_eq_of_le (by omega) (by omega)
  · have : a.toInt.tdiv b.toInt ≤ 0 := by
      have := Int.tdiv_nonneg (a := -a.toInt) (b := b.toInt) (by omega) (by omega)
      rw [Int.neg_tdiv] at this; omega
    exact Int.bmod_eq_of_le (by omega) (by omega)
theorem b_pos {K f h : Int} (h1 : 0 ≤ K) (h2 : 0 ≤ f) : 0 ≤ K * f := Int.mul_nonneg h1 h2
/-- a split, in whole numbers -/
theorem i_split {K f h p : Int} (hK : 0 ≤ K) (hf : 0 < f) (h0 : 0 ≤ h) (h1 : h ≤ K * f) (p0 : 0 ≤ p) (p1 : p ≤ f) : 0 ≤ h * p / f ∧ h * p / f ≤ K * p ∧ h * p / f ≤ h ∧ h - h * p / f ≤ (K + 1) * (f - p) := by
  have e0 : 0 ≤ h * p := Int.mul_nonneg h0 p0
  have q0 : 0 ≤ h * p / f := Int.ediv_nonneg e0 (by omega)
  have q1 : f * (h * p / f) ≤ h * p := Int.mul_ediv_self_le (by omega)
  have q2 : h * p < f * (h * p / f) + f := Int.lt_mul_ediv_self_add hf
  have q3 : h * p / f ≤ K * p := by
    refine Int.ediv_le_of_le_mul hf ?_
    have := Int.mul_le_mul_of_nonneg_right h1 p0
    rw [Int.mul_right_comm] at this; exact this
  have q4 : h * p / f ≤ h := by
    refine Int.ediv_le_of_le_mul hf ?_
    exact Int.mul_le_mul_of_nonneg_left p1 h0
  refine ⟨q0, q3, q4, ?_⟩
  generalize h * p / f = q at *
  by_cases hp : p = f
  · subst hp
    have : h ≤ q := by
      have a1 : p * h < p * (q + 1) := by rw [Int.mul_add, Int.mul_one, Int.mul_comm p h]; exact q2
      have := Int.lt_of_mul_lt_mul_left a1 (by omega); omega
    have : (K + 1) * (p - p) = 0 := by rw [Int.sub_self, Int.mul_zero]
    omega
  · have a1 : 1 ≤ f - p := by omega
    refine Int.le_of_mul_le_mul_left (a := f) ?_ hf
    have a2 : f * (h - q) = f * h - f * q := Int.mul_sub _ _ _
    have a3 : f * h - h * p = h * (f - p) := by rw [Int.mul_sub, Int.mul_comm f h]
    have a4 : h * (f - p) ≤ K * f * (f - p) := Int.mul_le_mul_of_nonneg_right h1 (by omega)
    have a5 : f * ((K + 1) * (f - p)) = K * f * (f - p) + f * (f - p) := by rw [Int.add_mul, Int.one_mul, Int.mul_add, ← Int.mul_assoc, Int.mul_comm f K]
    have a6 : f * 1 ≤ f * (f - p) := Int.mul_le_mul_of_nonneg_left a1 (by omega)
    omega
/-- warmth in tenths -/
theorem i_warm {K f h : Int} (hK : 0 ≤ K) (hf : 0 < f) (h0 : 0 ≤ h) (h1 : h ≤ K * f) : 0 ≤ 10 * h / f ∧ 10 * h / f ≤ 10 * K ∧ f * (10 * h / f) ≤ 10 * h ∧ 10 * h < f * (10 * h / f + 1) := by
  have q0 : 0 ≤ 10 * h / f := Int.ediv_nonneg (by omega) (by omega)
  refine ⟨q0, Int.ediv_le_of_le_mul hf ?_, Int.mul_ediv_self_le (by omega), ?_⟩
  · rw [Int.mul_assoc]; omega
  · have := Int.lt_mul_ediv_self_add (x := 10 * h) hf
    rw [Int.mul_add, Int.mul_one]; exact this
