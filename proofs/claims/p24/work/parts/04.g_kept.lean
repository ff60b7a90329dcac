/-! what a tick does to the trends' row: nothing ahead of keep, and behind keep it is made -/
theorem sdu7_b : ∀ (n : Nat) (v : Int32) (h R : Nat → ObS), f_X6_setDrivenUnits_b2 n v h = some R → R 7 = h 7 := by
  intro n
  induction n with
  | zero => intro v h R hf; rw [f_X6_setDrivenUnits_b2] at hf; exact nomatch hf
  | succ n ih =>
    intro v h R hf
    rw [f_X6_setDrivenUnits_b2] at hf
    by_cases c1 : f_X5_count (h 3) ≤ v
    · rw [if_pos c1] at hf
      cases hf
      rfl
    · rw [if_neg c1] at hf
      obtain ⟨r1, -, hf⟩ := bd hf
      obtain ⟨r2, -, hf⟩ := bd hf
      by_cases c2 : r2 = (-1)
      · rw [if_pos c2] at hf
        exact ih _ _ _ hf
      · rw [if_neg c2] at hf
        obtain ⟨r3, -, hf⟩ := bd hf
        obtain ⟨r4, -, hf⟩ := bd hf
        obtain ⟨r5, -, hf⟩ := bd hf
        obtain ⟨r6, -, hf⟩ := bd hf
        exact (ih _ _ _ hf).trans rfl
theorem sdu7 {h0 h R : Nat → ObS} (hf : f_X6_setDrivenUnits h = some R) (h7 : h 7 = h0 7 := by rfl) : R 7 = h0 7 := by
  rw [f_X6_setDrivenUnits] at hf
  exact (sdu7_b _ _ _ _ hf).trans h7
theorem keep_len : ∀ (n : Nat) (o1 : ObS) (x1 : Int32) (o : ObS) (v : Int32) (R : ObS), f_X4_keep_b19 o1 x1 n o v = some R → R.1 1 = o.1 1 := by
  intro n
  induction n with
  | zero => intro o1 x1 o v R hf; rw [f_X4_keep_b19] at hf; exact nomatch hf
  | succ n ih =>
    intro o1 x1 o v R hf
    rw [f_X4_keep_b19] at hf
    by_cases c1 : 24 ≤ v
    · rw [if_pos c1] at hf
      cases hf
      rfl
    · rw [if_neg c1] at hf
      by_cases c2 : f_X4_isKept o (f_X4_placeOf v x1) = (0 : Int32)
      · rw [if_pos c2] at hf
        exact ih _ _ _ _ _ hf
      · rw [if_neg c2] at hf
        obtain ⟨r1, -, hf⟩ := bd hf
        obtain ⟨-, hf⟩ := gd hf
        obtain ⟨r2, h2, hf⟩ := bd hf
        cases h2
        exact (ih _ _ _ _ _ hf).trans rfl
theorem keep_made {o0 o1 : ObS} {x1 : Int32} {R : ObS} (hf : f_X4_keep o0 o1 x1 = some R) : ¬ tnz R := by
  rw [f_X4_keep] at hf
  by_cases c1 : Int32.ofNat ((o0.1 1 0).toNatClampNeg) = (0 : Int32)
  · rw [if_pos c1] at hf
    unfold tnz
    rw [keep_len _ _ _ _ _ _ hf]
    show ¬ Int32.ofNat ((7200 : Int32).toNatClampNeg) = 0
    decide
  · rw [if_neg c1] at hf
    unfold tnz
    rw [keep_len _ _ _ _ _ _ hf]
    exact c1
