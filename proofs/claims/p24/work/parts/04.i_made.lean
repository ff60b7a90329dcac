/-! behind a tick the row is made -/
theorem let_made {h R : Nat → ObS} (hf : f_X6_letOneTickGoBy h = some R) : ¬ tnz (R 7) := by
  rw [f_X6_letOneTickGoBy] at hf
  obtain ⟨r1, -, hf⟩ := bd hf
  obtain ⟨r2, -, hf⟩ := bd hf
  obtain ⟨r3, -, hf⟩ := bd hf
  obtain ⟨r4, -, hf⟩ := bd hf
  obtain ⟨r5, -, hf⟩ := bd hf
  obtain ⟨r6, -, hf⟩ := bd hf
  obtain ⟨r7, -, hf⟩ := bd hf
  obtain ⟨r8, h8, hf⟩ := bd hf
  cases hf
  exact keep_made h8
