theorem o_gain {h : Nat → ObS} {mo : ObS} {U C t : Nat} (I : INV h mo U C t) (X : EX h U t) (a b c d : Int32) : OUT h U (f_L_does_16 h a b c d) (f_X7_gain mo a b) := by
  have A := ag_gain I a b z0
  unfold f_L_gain at A
  unfold f_L_does_16
  refine out_of A (fun k x hx => by
    try dsimp only at hx
    repeat' split at hx
    all_goals first
      | (cases hx; exact ⟨by omega, by first | exact (show (1 : Int32) ≠ 0 by decide) | exact (show (2 : Int32) ≠ 0 by decide) | exact (show (3 : Int32) ≠ 0 by decide) | exact (show (4 : Int32) ≠ 0 by decide)⟩)
      | exact nomatch hx) (fun r h' mo' U' C' t' hF I' => ?_)
  unfold f_X6_gain at hF
  rcases tbd hF with ⟨k, -, hF⟩ | ⟨u0, q0, hF⟩
  · exact nomatch hF
  rcases tbd hF with ⟨k, -, hF⟩ | ⟨u1, q1, hF⟩
  · exact nomatch hF
  obtain ⟨R, e4, hF⟩ := bd hF
  cases hF
  obtain ⟨o2, e5⟩ := go_fr e4
  rw [e5] at I' ⊢
  exact ⟨J_fr I X I' rfl rfl rfl X.2.1 X.2.2.1 rfl rfl rfl rfl, rfl, Or.inr ⟨o2, rfl⟩⟩
