theorem o_disturb {h : Nat → ObS} {mo : ObS} {U C t : Nat} (I : INV h mo U C t) (X : EX h U t) (a b c d : Int32) : OUT h U (f_L_does_4 h a b c d) (f_X7_disturb mo a b c) := by
  have A := ag_disturb I a b c z0
  unfold f_L_disturb at A
  unfold f_L_does_4
  refine out_of A (fun k x hx => by
    try dsimp only at hx
    repeat' split at hx
    all_goals first
      | (cases hx; exact ⟨by omega, by first | exact (show (1 : Int32) ≠ 0 by decide) | exact (show (2 : Int32) ≠ 0 by decide) | exact (show (3 : Int32) ≠ 0 by decide) | exact (show (4 : Int32) ≠ 0 by decide)⟩)
      | exact nomatch hx) (fun r h' mo' U' C' t' hF I' => ?_)
  unfold f_X6_disturb at hF
  rcases tbd hF with ⟨k, -, hF⟩ | ⟨u0, q0, hF⟩
  · exact nomatch hF
  rcases ic hF with ⟨-, hF⟩ | ⟨-, hF⟩
  · rcases tbd hF with ⟨k, -, hF⟩ | ⟨u1, -, hF⟩
    · exact nomatch hF
    rcases ic hF with ⟨-, hF⟩ | ⟨-, hF⟩
    · obtain ⟨R, e4, hF⟩ := bd hF
      cases hF
      refine ⟨J_fr I X I' rfl rfl rfl X.2.1 X.2.2.1 rfl rfl rfl rfl, rfl, Or.inl ?_⟩
      obtain ⟨N, q1, q2, -⟩ := I'.2.2.2.2.1
      have q2 : R.1 0 0 = Int32.ofNat N := q2
      show R.1 0 0 ≠ _
      rw [q2]; exact ix_ne (by omega)
    · exact nomatch hF
  · exact nomatch hF
