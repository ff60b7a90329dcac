theorem o_ratio {h : Nat → ObS} {mo : ObS} {U C t : Nat} (I : INV h mo U C t) (X : EX h U t) (a b c d : Int32) : OUT h U (f_L_does_6 h a b c d) (f_X7_ratio mo a b c) := by
  have A := ag_ratio I a b c z0
  unfold f_L_ratio at A
  unfold f_L_does_6
  refine out_of A (fun k x hx => by
    try dsimp only at hx
    repeat' split at hx
    all_goals first
      | (cases hx; exact ⟨by omega, by first | exact (show (1 : Int32) ≠ 0 by decide) | exact (show (2 : Int32) ≠ 0 by decide) | exact (show (3 : Int32) ≠ 0 by decide) | exact (show (4 : Int32) ≠ 0 by decide)⟩)
      | exact nomatch hx) (fun r h' mo' U' C' t' hF I' => ?_)
  unfold f_X6_ratio at hF
  rcases tbd hF with ⟨k, -, hF⟩ | ⟨u0, q0, hF⟩
  · exact nomatch hF
  rcases tbd hF with ⟨k, -, hF⟩ | ⟨u1, q1, hF⟩
  · exact nomatch hF
  rcases ic hF with ⟨-, hF⟩ | ⟨-, hF⟩
  · rcases tbd hF with ⟨k, -, hF⟩ | ⟨u3, -, hF⟩
    · exact nomatch hF
    rcases tbd hF with ⟨k, -, hF⟩ | ⟨u4, -, hF⟩
    · exact nomatch hF
    obtain ⟨R, e4, hF⟩ := bd hF
    cases hF
    unfold f_X1_addRatio at e4
    obtain ⟨R1, e5, e4⟩ := bd e4
    cases e4
    obtain ⟨p, q⟩ := ad_fr e5
    exact ⟨J_4 I X I' (congrArg (fun z => z 11) p), rfl, Or.inl (cn_ne I q)⟩
  · exact nomatch hF
