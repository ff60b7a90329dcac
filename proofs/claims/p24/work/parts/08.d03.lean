theorem o_set {h : Nat → ObS} {mo : ObS} {U C t : Nat} (I : INV h mo U C t) (X : EX h U t) (a b c d : Int32) : OUT h U (f_L_does_3 h a b c d) (f_X7_set mo a b) := by
  have A := ag_set I a b z0
  unfold f_L_set at A
  unfold f_L_does_3
  refine out_of A (fun k x hx => by
    try dsimp only at hx
    repeat' split at hx
    all_goals first
      | (cases hx; exact ⟨by omega, by first | exact (show (1 : Int32) ≠ 0 by decide) | exact (show (2 : Int32) ≠ 0 by decide) | exact (show (3 : Int32) ≠ 0 by decide) | exact (show (4 : Int32) ≠ 0 by decide)⟩)
      | exact nomatch hx) (fun r h' mo' U' C' t' hF I' => ?_)
  unfold f_X6_set at hF
  rcases tbd hF with ⟨k, -, hF⟩ | ⟨u0, q0, hF⟩
  · exact nomatch hF
  rcases tbd hF with ⟨k, -, hF⟩ | ⟨u1, q1, hF⟩
  · exact nomatch hF
  obtain ⟨r16, e3, hF⟩ := bd hF
  obtain ⟨r26, e4, hF⟩ := bd hF
  cases hF
  obtain ⟨p, q⟩ := pn_fr e4
  exact ⟨J_3 I X I' (fun k h1 _ => p k h1) q, p 1 (by decide), Or.inl (num_ne I q1 e3)⟩
