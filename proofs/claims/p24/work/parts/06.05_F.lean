/-- one side of an exchange: what the colder stream gets does not make it warmer than the warmer one was -/
theorem i_gets {K f h w v l y : Int} (hK : 0 ≤ K) (hf : 0 < f) (hl : l ≤ f) (hw : v ≤ w) (hwK : w ≤ 10 * K) (h2 : 10 * h < f * (v + 1)) (hy : 10 * y ≤ l * (w - v)) : h + y ≤ (K + 1) * f := by
  have a1 : l * (w - v) ≤ f * (w - v) := Int.mul_le_mul_of_nonneg_right hl (by omega)
  have a2 : f * (v + 1) + f * (w - v) = f * (w + 1) := by rw [← Int.mul_add]; congr 1; omega
  have a3 : f * (w + 1) ≤ f * (10 * K + 10) := Int.mul_le_mul_of_nonneg_left (by omega) (by omega)
  have a4 : f * (10 * K + 10) = 10 * ((K + 1) * f) := by rw [Int.mul_comm, show 10 * K + 10 = 10 * (K + 1) by omega, Int.mul_assoc]
  omega
def IW (K f h w : Int) : Prop := (f = 0 ∧ w = 0) ∨ (0 < f ∧ 0 ≤ w ∧ w ≤ 10 * K ∧ 10 * h < f * (w + 1))
theorem i_ex {K f1 h1 f2 h2 w1 w2 l x y : Int} (hK : 0 ≤ K) (p1 : 0 ≤ h1) (q1 : h1 ≤ K * f1) (p2 : 0 ≤ h2) (q2 : h2 ≤ K * f2) (g1 : 0 ≤ f1) (g2 : 0 ≤ f2) (l1 : l ≤ f1) (l2 : l ≤ f2) (l0 : 0 ≤ l) (c1 : IW K f1 h1 w1) (c2 : IW K f2 h2 w2)
    (up : w2 ≤ w1 → 0 ≤ x ∧ 10 * x ≤ l * (w1 - w2)) (dn : w1 < w2 → x ≤ 0 ∧ 10 * (-x) ≤ l * (w2 - w1)) (hy : y = if x < -h2 then -h2 else if h1 < x then h1 else x) :
    0 ≤ h1 - y ∧ h1 - y ≤ (K + 1) * f1 ∧ 0 ≤ h2 + y ∧ h2 + y ≤ (K + 1) * f2 := by
  have e1 : (K + 1) * f1 = K * f1 + f1 := by rw [Int.add_mul, Int.one_mul]
  have e2 : (K + 1) * f2 = K * f2 + f2 := by rw [Int.add_mul, Int.one_mul]
  have hy1 : -h2 ≤ y := by subst hy; repeat' split
                           all_goals omega
  have hy2 : y ≤ h1 := by subst hy; repeat' split
                          all_goals omega
  refine ⟨by omega, ?_, by omega, ?_⟩
  · by_cases h : 0 ≤ y
    · omega
    · have hx : x ≤ y := by subst hy; revert h; repeat' split
                            all_goals omega
      by_cases hw : w2 ≤ w1
      · have := (up hw).1; omega
      · obtain ⟨d1, d2⟩ := dn (by omega)
        have hl0 : 0 < f1 := by
          rcases c1 with ⟨a, b⟩ | ⟨a, _⟩
          · have : l = 0 := by omega
            subst this; omega
          · exact a
        rcases c1 with ⟨a, b⟩ | ⟨a, b, c, d⟩
        · omega
        have hf2 : 0 < f2 := by
          by_cases h0 : 0 < f2
          · exact h0
          · have : l = 0 := by omega
            subst this; omega
        rcases c2 with ⟨a', b'⟩ | ⟨a', b', c', d'⟩
        · omega
        have := i_gets (K := K) (f := f1) (h := h1) (w := w2) (v := w1) (l := l) (y := -y) hK hl0 l1 (by omega) c' d (by omega)
        omega
  · by_cases h : y ≤ 0
    · omega
    · have hx : y ≤ x := by subst hy; revert h; repeat' split
                            all_goals omega
      by_cases hw : w2 ≤ w1
      · obtain ⟨d1, d2⟩ := up hw
        have hl0 : 0 < f2 := by
          by_cases h0 : 0 < f2
          · exact h0
          · have : l = 0 := by omega
            subst this; omega
        have hf1 : 0 < f1 := by
          by_cases h0 : 0 < f1
          · exact h0
          · have : l = 0 := by omega
            subst this; omega
        rcases c1 with ⟨a, b⟩ | ⟨a, b, c, d⟩
        · omega
        rcases c2 with ⟨a', b'⟩ | ⟨a', b', c', d'⟩
        · omega
        exact i_gets (K := K) (f := f2) (h := h2) (w := w1) (v := w2) (l := l) (y := y) hK hl0 l2 hw c d' (by omega)
      · have := (dn (by omega)).1; omega
/-- what an exchange wants to move -/
theorem i_want {n l d : Int} (n0 : 0 ≤ n) (l0 : 0 ≤ l) (hs : 0 < n + l) (d0 : 0 ≤ d) : 0 ≤ (n * l * d).tdiv (10 * (n + l)) ∧ 10 * (n * l * d).tdiv (10 * (n + l)) ≤ l * d := by
  have e0 : 0 ≤ n * l * d := Int.mul_nonneg (Int.mul_nonneg n0 l0) d0
  rw [Int.tdiv_eq_ediv_of_nonneg e0]
  refine ⟨Int.ediv_nonneg e0 (by omega), ?_⟩
  have a1 : 10 * (n + l) * (n * l * d / (10 * (n + l))) ≤ n * l * d := Int.mul_ediv_self_le (by omega)
  have a2 : n * l * d ≤ (n + l) * (l * d) := by
    rw [Int.mul_assoc]; exact Int.mul_le_mul_of_nonneg_right (by omega) (Int.mul_nonneg l0 d0)
  refine Int.le_of_mul_le_mul_left (a := n + l) ?_ hs
  have a3 : (n + l) * (10 * (n * l * d / (10 * (n + l)))) = 10 * (n + l) * (n * l * d / (10 * (n + l))) := by rw [← Int.mul_assoc, Int.mul_comm (n + l) 10]
  rw [a3]; exact Int.le_trans a1 a2
