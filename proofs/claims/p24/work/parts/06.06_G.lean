theorem i_mb {a b A B : Int} (h1 : 0 ≤ a) (h2 : a ≤ A) (h3 : 0 ≤ b) (h4 : b ≤ B) : 0 ≤ a * b ∧ a * b ≤ A * B :=
  ⟨Int.mul_nonneg h1 h3, Int.mul_le_mul h2 h4 h3 (by omega)⟩
def uoOK (K : Int) (x : Int64 × Int64 × Int64 × Int64 × Int64) (fl ht : Int) : Prop :=
  0 ≤ x.1.toInt ∧ 0 ≤ x.2.1.toInt ∧ x.2.1.toInt ≤ (K + 1) * x.1.toInt ∧ 0 ≤ x.2.2.1.toInt ∧ 0 ≤ x.2.2.2.1.toInt ∧ x.2.2.2.1.toInt ≤ (K + 1) * x.2.2.1.toInt ∧ x.1.toInt + x.2.2.1.toInt = fl ∧ x.2.1.toInt + x.2.2.2.1.toInt = ht
def SO (K : Int) (f h : Int64) : Prop := 0 ≤ f.toInt ∧ 0 ≤ h.toInt ∧ h.toInt ≤ K * f.toInt
theorem SO_h {K B : Int} {f h : Int64} (hK : 0 ≤ K) (hK2 : K ≤ 5000) (hB : B ≤ 4000000) (s : SO K f h) (hf : f.toInt ≤ B) : h.toInt ≤ 20000000000 := by
  have := (i_mb hK hK2 s.1 (Int.le_trans hf hB)).2
  have := s.2.2; omega
theorem w_iw {K B : Int} {f h : Int64} (hK : 0 ≤ K) (hK2 : K ≤ 5000) (hB : B ≤ 4000000) (s : SO K f h) (hf : f.toInt ≤ B) : IW K f.toInt h.toInt (wm f h).toInt := by
  have hh := SO_h hK hK2 hB s hf
  obtain ⟨a, b, c⟩ := s
  unfold wm
  by_cases h0 : f = 0
  · subst h0; left; exact ⟨rfl, rfl⟩
  · right
    have hp : 0 < f.toInt := by
      have : f.toInt ≠ 0 := fun h9 => h0 (Int64.toInt_inj.mp h9)
      omega
    have e1 : (10 * h : Int64).toInt = 10 * h.toInt := b_mul (by rw [show ((10 : Int64).toInt) = 10 from rfl]; omega) (by rw [show ((10 : Int64).toInt) = 10 from rfl]; omega)
    rw [if_neg h0, b_div (by omega) hp, e1]
    have := i_warm hK hp b c
    exact ⟨hp, this.1, this.2.1, this.2.2.2⟩
theorem w_le {K B : Int} {f h : Int64} (hK : 0 ≤ K) (hK2 : K ≤ 5000) (hB : B ≤ 4000000) (s : SO K f h) (hf : f.toInt ≤ B) : 0 ≤ (wm f h).toInt ∧ (wm f h).toInt ≤ 50000 := by
  rcases w_iw hK hK2 hB s hf with ⟨_, h⟩ | ⟨_, h, h2, _⟩ <;> omega
theorem mn_i (a b : Int64) : (mn a b).toInt = if b.toInt < a.toInt then b.toInt else a.toInt := by
  unfold mn; simp only [Int64.lt_iff_toInt_lt]; split <;> rfl
theorem hd_i (v a b : Int64) : (hd v a b).toInt = if v.toInt < a.toInt then a.toInt else if b.toInt < v.toInt then b.toInt else v.toInt := by
  unfold hd; simp only [Int64.lt_iff_toInt_lt]; repeat' split
  all_goals rfl
theorem uo_0 {K : Int} {n d f1 h1 f2 h2 : Int64} (hK : 300 ≤ K) (n0 : 0 ≤ n.toInt) (n1 : n.toInt ≤ 999) (d0 : 0 ≤ d.toInt) (d1 : d.toInt ≤ 300) : uoOK K (uo 0 n d f1 h1 f2 h2) n.toInt (n.toInt * d.toInt) := by
  have hm := i_mb n0 n1 d0 d1
  have e : (n * d).toInt = n.toInt * d.toInt := b_mul (by omega) (by omega)
  have a1 : n.toInt * d.toInt ≤ n.toInt * (K + 1) := Int.mul_le_mul_of_nonneg_left (by omega) n0
  have z : ((0 : Int64).toInt) = 0 := rfl
  refine ⟨n0, by show 0 ≤ (n * d).toInt; omega, by show (n * d).toInt ≤ (K + 1) * n.toInt; rw [e, Int.mul_comm (K + 1)]; exact a1, (by show 0 ≤ (0 : Int64).toInt; decide), (by show 0 ≤ (0 : Int64).toInt; decide), by show (0 : Int64).toInt ≤ (K + 1) * (0 : Int64).toInt; rw [z]; omega, by show n.toInt + (0 : Int64).toInt = _; omega, by show (n * d).toInt + (0 : Int64).toInt = _; omega⟩
theorem uo_1 {K B : Int} {n d f1 h1 f2 h2 : Int64} (hK : 0 ≤ K) (hK2 : K ≤ 5000) (hB : B ≤ 4000000) (n0 : 0 ≤ n.toInt) (n1 : n.toInt ≤ 100) (s1 : SO K f1 h1) (b1 : f1.toInt ≤ B) : uoOK K (uo 1 n d f1 h1 f2 h2) f1.toInt h1.toInt := by
  have hh := SO_h hK hK2 hB s1 b1
  obtain ⟨a, b, c⟩ := s1
  have hm := i_mb a (Int.le_trans b1 hB) n0 n1
  have e1 : (f1 * n).toInt = f1.toInt * n.toInt := b_mul (by omega) (by omega)
  have e2 : (f1 * n / 100).toInt = f1.toInt * n.toInt / 100 := by rw [b_div (by omega) (by decide), e1]; rfl
  have p0 : 0 ≤ f1.toInt * n.toInt / 100 := by omega
  have p1 : f1.toInt * n.toInt / 100 ≤ f1.toInt := by
    have : f1.toInt * n.toInt ≤ f1.toInt * 100 := Int.mul_le_mul_of_nonneg_left n1 a
    omega
  have e3 : (f1 - f1 * n / 100).toInt = f1.toInt - f1.toInt * n.toInt / 100 := by rw [b_sub (by omega) (by omega), e2]
  show uoOK K (f1 * n / 100, (if f1 = 0 then 0 else h1 * (f1 * n / 100) / f1), f1 - f1 * n / 100, h1 - (if f1 = 0 then 0 else h1 * (f1 * n / 100) / f1), 0) _ _
  have key : 0 ≤ (if f1 = 0 then 0 else h1 * (f1 * n / 100) / f1).toInt ∧ (if f1 = 0 then 0 else h1 * (f1 * n / 100) / f1).toInt ≤ K * (f1.toInt * n.toInt / 100) ∧ (if f1 = 0 then 0 else h1 * (f1 * n / 100) / f1).toInt ≤ h1.toInt ∧ h1.toInt - (if f1 = 0 then 0 else h1 * (f1 * n / 100) / f1).toInt ≤ (K + 1) * (f1.toInt - f1.toInt * n.toInt / 100) := by
    by_cases h0 : f1 = 0
    · subst h0
      simp only [if_true]
      have z : ((0 : Int64).toInt) = 0 := rfl
      simp only [z, Int.mul_zero, Int.zero_mul, Int.zero_ediv, Int.sub_zero] at c ⊢
      omega
    · have hp : 0 < f1.toInt := by
        have : f1.toInt ≠ 0 := fun h9 => h0 (Int64.toInt_inj.mp h9)
        omega
      have hm2 := i_mb b hh p0 (Int.le_trans p1 (Int.le_trans b1 hB))
      have e4 : (h1 * (f1 * n / 100)).toInt = h1.toInt * (f1.toInt * n.toInt / 100) := by
        rw [b_mul (by rw [e2]; omega) (by rw [e2]; omega), e2]
      rw [if_neg h0, b_div (by omega) hp, e4]
      exact i_split hK hp b c p0 p1
  obtain ⟨k1, k2, k3, k4⟩ := key
  have e5 : (h1 - (if f1 = 0 then 0 else h1 * (f1 * n / 100) / f1)).toInt = h1.toInt - (if f1 = 0 then 0 else h1 * (f1 * n / 100) / f1).toInt := b_sub (by omega) (by omega)
  have e6 : (K + 1) * (f1.toInt * n.toInt / 100) = K * (f1.toInt * n.toInt / 100) + f1.toInt * n.toInt / 100 := by rw [Int.add_mul, Int.one_mul]
  refine ⟨?_, ?_, ?_, ?_, ?_, ?_, ?_, ?_⟩ <;> dsimp only
  · omega
  · omega
  · rw [e2]; omega
  · omega
  · omega
  · rw [e5, e3]; exact k4
  · omega
  · omega
theorem uo_2 {K B : Int} {n d f1 h1 f2 h2 : Int64} (hK : 0 ≤ K) (hK2 : K ≤ 5000) (hB : B ≤ 4000000) (s1 : SO K f1 h1) (s2 : SO K f2 h2) (b1 : f1.toInt + f2.toInt ≤ B) : uoOK K (uo 2 n d f1 h1 f2 h2) (f1.toInt + f2.toInt) (h1.toInt + h2.toInt) := by
  have hh1 := SO_h hK hK2 hB s1 (by have := s2.1; omega)
  have hh2 := SO_h hK hK2 hB s2 (by have := s1.1; omega)
  obtain ⟨a, b, c⟩ := s1
  obtain ⟨a', b', c'⟩ := s2
  have e1 : (f1 + f2).toInt = f1.toInt + f2.toInt := b_add (by omega) (by omega)
  have e2 : (h1 + h2).toInt = h1.toInt + h2.toInt := b_add (by omega) (by omega)
  have z : ((0 : Int64).toInt) = 0 := rfl
  have e3 : (K + 1) * (f1.toInt + f2.toInt) = K * f1.toInt + K * f2.toInt + (f1.toInt + f2.toInt) := by rw [Int.add_mul, Int.one_mul, Int.mul_add]
  show uoOK K (f1 + f2, h1 + h2, 0, 0, 0) _ _
  refine ⟨?_, ?_, ?_, ?_, ?_, ?_, ?_, ?_⟩ <;> dsimp only
  · omega
  · omega
  · rw [e1, e2, e3]; omega
  · decide
  · decide
  · rw [z]; omega
  · omega
  · omega
theorem uo_4 {K B : Int} {n d f1 h1 f2 h2 : Int64} (hK : 0 ≤ K) (hK2 : K ≤ 5000) (hB : B ≤ 4000000) (n0 : 0 ≤ n.toInt) (s1 : SO K f1 h1) (b1 : f1.toInt ≤ B) : uoOK K (uo 4 n d f1 h1 f2 h2) f1.toInt (h1.toInt - (mn h1 n).toInt) ∧ 0 ≤ (mn h1 n).toInt ∧ (mn h1 n).toInt ≤ h1.toInt := by
  have hh1 := SO_h hK hK2 hB s1 b1
  obtain ⟨a, b, c⟩ := s1
  have m0 : 0 ≤ (mn h1 n).toInt ∧ (mn h1 n).toInt ≤ h1.toInt := by rw [mn_i]; split <;> omega
  have e1 : (h1 - mn h1 n).toInt = h1.toInt - (mn h1 n).toInt := b_sub (by omega) (by omega)
  have z : ((0 : Int64).toInt) = 0 := rfl
  have e3 : (K + 1) * f1.toInt = K * f1.toInt + f1.toInt := by rw [Int.add_mul, Int.one_mul]
  refine ⟨?_, m0⟩
  show uoOK K (f1, h1 - mn h1 n, 0, 0, mn h1 n) _ _
  refine ⟨?_, ?_, ?_, ?_, ?_, ?_, ?_, ?_⟩ <;> dsimp only
  · omega
  · omega
  · rw [e1, e3]; omega
  · decide
  · decide
  · rw [z]; omega
  · omega
  · omega
theorem uo_3d {B : Int} {n f1 f2 : Int64} (hB : B ≤ 4000000) (n0 : 0 ≤ n.toInt) (n1 : n.toInt ≤ 9999) (g1 : 0 ≤ f1.toInt) (g2 : 0 ≤ f2.toInt) (b1 : f1.toInt + f2.toInt ≤ B) : (n + mn f1 f2).toInt = n.toInt + (mn f1 f2).toInt ∧ (10 * (n + mn f1 f2)).toInt = 10 * (n.toInt + (mn f1 f2).toInt) ∧ 0 ≤ (mn f1 f2).toInt ∧ (mn f1 f2).toInt ≤ f1.toInt ∧ (mn f1 f2).toInt ≤ f2.toInt ∧ (n + mn f1 f2 ≠ 0 → ¬ 10 * (n + mn f1 f2) = 0) := by
  have m0 : 0 ≤ (mn f1 f2).toInt ∧ (mn f1 f2).toInt ≤ f1.toInt ∧ (mn f1 f2).toInt ≤ f2.toInt := by rw [mn_i]; split <;> omega
  have e1 : (n + mn f1 f2).toInt = n.toInt + (mn f1 f2).toInt := b_add (by omega) (by omega)
  have t : ((10 : Int64).toInt) = 10 := rfl
  have e2 : (10 * (n + mn f1 f2)).toInt = 10 * (n.toInt + (mn f1 f2).toInt) := by rw [b_mul (by rw [t, e1]; omega) (by rw [t, e1]; omega), e1]; rfl
  refine ⟨e1, e2, m0.1, m0.2.1, m0.2.2, fun h h9 => ?_⟩
  have : (10 * (n + mn f1 f2)).toInt = 0 := by rw [h9]; rfl
  exact h (Int64.toInt_inj.mp (by rw [e1]; show _ = (0 : Int); omega))
theorem uo_3 {K B : Int} {n d f1 h1 f2 h2 : Int64} (hK : 0 ≤ K) (hK2 : K ≤ 5000) (hB : B ≤ 4000000) (n0 : 0 ≤ n.toInt) (n1 : n.toInt ≤ 9999) (s1 : SO K f1 h1) (s2 : SO K f2 h2) (b1 : f1.toInt + f2.toInt ≤ B) : uoOK K (uo 3 n d f1 h1 f2 h2) (f1.toInt + f2.toInt) (h1.toInt + h2.toInt) := by
  have bf1 : f1.toInt ≤ B := by have := s2.1; omega
  have bf2 : f2.toInt ≤ B := by have := s1.1; omega
  have hh1 := SO_h hK hK2 hB s1 bf1
  have hh2 := SO_h hK hK2 hB s2 bf2
  have c1 := w_iw hK hK2 hB s1 bf1
  have c2 := w_iw hK hK2 hB s2 bf2
  have w1 := w_le hK hK2 hB s1 bf1
  have w2 := w_le hK hK2 hB s2 bf2
  obtain ⟨a, b, c⟩ := s1
  obtain ⟨a', b', c'⟩ := s2
  obtain ⟨e1, e2, l0, l1, l2, hdv⟩ := uo_3d hB n0 n1 a a' b1
  have e3 : (wm f1 h1 - wm f2 h2).toInt = (wm f1 h1).toInt - (wm f2 h2).toInt := b_sub (by omega) (by omega)
  have m1 := i_mb n0 n1 l0 (show (mn f1 f2).toInt ≤ 4000000 by omega)
  have e4 : (n * mn f1 f2).toInt = n.toInt * (mn f1 f2).toInt := b_mul (by omega) (by omega)
  have hup : (wm f2 h2).toInt ≤ (wm f1 h1).toInt → 0 ≤ n.toInt * (mn f1 f2).toInt * ((wm f1 h1).toInt - (wm f2 h2).toInt) ∧ n.toInt * (mn f1 f2).toInt * ((wm f1 h1).toInt - (wm f2 h2).toInt) ≤ 9999 * 4000000 * 50000 := fun h => i_mb m1.1 m1.2 (by omega) (by omega)
  have hdn : (wm f1 h1).toInt < (wm f2 h2).toInt → 0 ≤ n.toInt * (mn f1 f2).toInt * ((wm f2 h2).toInt - (wm f1 h1).toInt) ∧ n.toInt * (mn f1 f2).toInt * ((wm f2 h2).toInt - (wm f1 h1).toInt) ≤ 9999 * 4000000 * 50000 := fun h => i_mb m1.1 m1.2 (by omega) (by omega)
  have hng : n.toInt * (mn f1 f2).toInt * ((wm f1 h1).toInt - (wm f2 h2).toInt) = -(n.toInt * (mn f1 f2).toInt * ((wm f2 h2).toInt - (wm f1 h1).toInt)) := by
    rw [← Int.mul_neg]; congr 1; omega
  have e5 : (n * mn f1 f2 * (wm f1 h1 - wm f2 h2)).toInt = n.toInt * (mn f1 f2).toInt * ((wm f1 h1).toInt - (wm f2 h2).toInt) := by
    have : -9223372036854775808 ≤ n.toInt * (mn f1 f2).toInt * ((wm f1 h1).toInt - (wm f2 h2).toInt) ∧ n.toInt * (mn f1 f2).toInt * ((wm f1 h1).toInt - (wm f2 h2).toInt) < 9223372036854775808 := by
      by_cases h : (wm f2 h2).toInt ≤ (wm f1 h1).toInt
      · have := hup h; omega
      · have := hdn (by omega); omega
    rw [b_mul (by rw [e4, e3]; exact this.1) (by rw [e4, e3]; exact this.2), e4, e3]
  have hx : ((wm f2 h2).toInt ≤ (wm f1 h1).toInt → 0 ≤ (tr n (mn f1 f2) (wm f1 h1 - wm f2 h2)).toInt ∧ 10 * (tr n (mn f1 f2) (wm f1 h1 - wm f2 h2)).toInt ≤ (mn f1 f2).toInt * ((wm f1 h1).toInt - (wm f2 h2).toInt)) ∧ ((wm f1 h1).toInt < (wm f2 h2).toInt → (tr n (mn f1 f2) (wm f1 h1 - wm f2 h2)).toInt ≤ 0 ∧ 10 * (-(tr n (mn f1 f2) (wm f1 h1 - wm f2 h2)).toInt) ≤ (mn f1 f2).toInt * ((wm f2 h2).toInt - (wm f1 h1).toInt)) := by
    unfold tr
    by_cases hz : n + mn f1 f2 = 0
    · rw [if_pos hz, show ((0 : Int64).toInt) = 0 from rfl]
      refine ⟨fun h => ⟨by omega, ?_⟩, fun h => ⟨by omega, ?_⟩⟩
      · have := (i_mb l0 l1 (show 0 ≤ (wm f1 h1).toInt - (wm f2 h2).toInt by omega) (Int.le_refl _)).1; omega
      · have := (i_mb l0 l1 (show 0 ≤ (wm f2 h2).toInt - (wm f1 h1).toInt by omega) (Int.le_refl _)).1; omega
    · have hs : 0 < n.toInt + (mn f1 f2).toInt := by
        have : n.toInt + (mn f1 f2).toInt ≠ 0 := fun h9 => hz (Int64.toInt_inj.mp (by rw [e1]; exact h9))
        omega
      rw [if_neg hz, b_tdiv (by rw [e2]; omega), e5, e2]
      refine ⟨fun h => i_want n0 l0 hs (by omega), fun h => ?_⟩
      have := i_want n0 l0 hs (show 0 ≤ (wm f2 h2).toInt - (wm f1 h1).toInt by omega)
      rw [hng, Int.neg_tdiv]; omega
  have e6 : (-h2).toInt = -h2.toInt := b_neg (by omega)
  have hy := hd_i (tr n (mn f1 f2) (wm f1 h1 - wm f2 h2)) (-h2) h1
  rw [e6] at hy
  have fin := i_ex hK b c b' c' a a' l1 l2 l0 c1 c2 hx.1 hx.2 hy
  show uoOK K (f1, h1 - hd (tr n (mn f1 f2) (wm f1 h1 - wm f2 h2)) (-h2) h1, f2, h2 + hd (tr n (mn f1 f2) (wm f1 h1 - wm f2 h2)) (-h2) h1, hd (tr n (mn f1 f2) (wm f1 h1 - wm f2 h2)) (-h2) h1) _ _
  generalize hd (tr n (mn f1 f2) (wm f1 h1 - wm f2 h2)) (-h2) h1 = y at *
  obtain ⟨r1, r2, r3, r4⟩ := fin
  have e7 : (h1 - y).toInt = h1.toInt - y.toInt := b_sub (by omega) (by omega)
  have e8 : (h2 + y).toInt = h2.toInt + y.toInt := b_add (by omega) (by omega)
  refine ⟨?_, ?_, ?_, ?_, ?_, ?_, ?_, ?_⟩ <;> dsimp only
  · omega
  · omega
  · rw [e7]; exact r2
  · omega
  · omega
  · rw [e8]; exact r4
  · omega
