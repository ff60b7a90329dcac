/-! each call -/
theorem ne_ge {x : Int32} (h : -2000000000 ≤ x.toInt) : x ≠ -2100000000 := by
  rintro rfl; exact absurd h (by decide)
theorem ix_ne {n : Nat} (h : n < 2147483648) : Int32.ofNat n ≠ -2100000000 := ne_ge (by rw [ix_toInt h]; omega)
theorem EX_t0 {h : Nat → ObS} {mo : ObS} {U C : Nat} (I : INV h mo U C 0) (n : NE (h 5)) (s : SB (h 4)) : EX h U 0 := by
  obtain ⟨z1, z2, -⟩ := I.2.1.2.2.2.2 rfl
  exact ⟨fun h => absurd h (Nat.lt_irrefl 0), n, s, fun u _ => by rw [z2 u]; exact MVP_0 _, 0, Nat.le_refl _, HT_z (fun s => (z1 s).2)⟩
theorem made_ex {o : ObS} {U : Nat} {x : Int32} (h0 : o.1 0 0 = Int32.ofNat U) (hU : U ≤ 12) (hm : ¬ f_X5_isMade o x = 0) : ∃ u, u < U ∧ x = Int32.ofNat u := by
  unfold f_X5_isMade at hm
  rw [h0] at hm
  by_cases a : x < 0
  · rw [if_pos a] at hm; exact absurd rfl hm
  · rw [if_neg a] at hm
    by_cases b : Int32.ofNat U ≤ x
    · rw [if_pos b] at hm; exact absurd rfl hm
    · rw [Int32.lt_iff_toInt_lt, z32] at a
      obtain ⟨u, hu, rfl⟩ := ix_ex (x := x) (by omega)
      rw [ix_le (by omega) hu] at b
      exact ⟨u, by omega, rfl⟩
theorem isN_2 (x : Int32) : f_X6_isNumberOf 2 x = 0 := by
  unfold f_X6_isNumberOf
  have q : ¬ ((0 : Int32).toInt ≤ x.toInt ∧ x.toInt ≤ (-1 : Int32).toInt) := by
    rw [show ((-1 : Int32).toInt) = -1 from rfl, z32]; omega
  rw [show f_X6_mostOf 2 = -1 from rfl, os_i, if_neg q, if_neg n10]
theorem num_ne {h : Nat → ObS} {mo : ObS} {U C t : Nat} {x y r : Int32} {u1 : Unit} (I : INV h mo U C t) (e2 : f_X6_needNumberOf h x y = some (.inr u1)) (e3 : f_X5_numberOf (h 3) x = some r) : r ≠ -2100000000 := by
  obtain ⟨⟨G, R, n1, n2, n3, n4, n5⟩, -⟩ := id I
  unfold f_X5_numberOf at e3
  by_cases hm : f_X5_isMade (h 3) x = 0
  · rw [if_pos hm] at e3; cases e3; decide
  · rw [if_neg hm] at e3
    obtain ⟨-, e3⟩ := gd e3
    obtain ⟨u, huU, rfl⟩ := made_ex G.2.1 G.1 hm
    have hU := G.1
    unfold f_X6_needNumberOf f_X5_kindOf at e2
    rw [if_neg hm] at e2
    obtain ⟨kd, e4, e2⟩ := bd e2
    obtain ⟨-, e4⟩ := gd e4
    cases e4
    cases e3
    rw [ix_nat (by omega)] at e2 ⊢
    rcases n3 u huU with q | q
    · rw [q, isN_2, if_pos rfl] at e2; exact nomatch e2
    · exact ne_ge (by omega)
