theorem o_relative {h : Nat → ObS} {mo : ObS} {U C t : Nat} (I : INV h mo U C t) (X : EX h U t) (a b c d : Int32) : OUT h U (f_L_does_17 h a b c d) (f_X7_relative mo a b c d) := by
  have A := ag_relative I a b c d z0
  unfold f_L_relative at A
  unfold f_L_does_17
  refine out_of A (fun k x hx => by
    try dsimp only at hx
    repeat' split at hx
    all_goals first
      | (cases hx; exact ⟨by omega, by first | exact (show (1 : Int32) ≠ 0 by decide) | exact (show (2 : Int32) ≠ 0 by decide) | exact (show (3 : Int32) ≠ 0 by decide) | exact (show (4 : Int32) ≠ 0 by decide)⟩)
      | exact nomatch hx) (fun r h' mo' U' C' t' hF I' => ?_)
  unfold f_X6_relative at hF
  rcases tbd hF with ⟨k, -, hF⟩ | ⟨u0, q0, hF⟩
  · exact nomatch hF
  rcases tbd hF with ⟨k, -, hF⟩ | ⟨u1, q1, hF⟩
  · exact nomatch hF
  rcases tbd hF with ⟨k, -, hF⟩ | ⟨u2, q2, hF⟩
  · exact nomatch hF
  rcases tbd hF with ⟨k, -, hF⟩ | ⟨u3, q3, hF⟩
  · exact nomatch hF
  obtain ⟨R1, e1, hF⟩ := bd hF
  obtain ⟨R2, e2, hF⟩ := bd hF
  obtain ⟨R3, e3, hF⟩ := bd hF
  obtain ⟨R4, e4, hF⟩ := bd hF
  obtain ⟨o1, p1⟩ := go_fr e1
  obtain ⟨o2, p2⟩ := go_fr e2
  obtain ⟨o3, p3⟩ := go_fr e3
  obtain ⟨o4, p4⟩ := go_fr e4
  have e9 : R4.2 = hu h 2 o4 := by rw [p4, p3, p2, p1, hu_hu, hu_hu, hu_hu]
  have e8 : h' = hu h 2 o4 := by
    rcases ic hF with ⟨-, hF⟩ | ⟨-, hF⟩
    · cases hF; exact e9
    · obtain ⟨-, hF⟩ := gd hF
      cases hF; exact e9
  subst e8
  exact ⟨J_fr I X I' rfl rfl rfl X.2.1 X.2.2.1 rfl rfl rfl rfl, rfl, Or.inr ⟨o4, rfl⟩⟩
