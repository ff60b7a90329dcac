theorem go_b {h : Nat → ObS} {mo : ObS} {U C t : Nat} {x : Int32} {r : Int64} (I : INV h mo U C t) (e : f_X1_goalOf (h 4) x = some r) : r.toInt32 ≠ -2100000000 := by
  obtain ⟨i1, i2, i3, -, ⟨i9, -⟩, i14, i15, i16⟩ := I.2.2.2.2.2.2.1
  unfold f_X1_goalOf at e
  rcases ic e with ⟨-, e⟩ | ⟨-, e⟩
  · cases e; decide
  · obtain ⟨-, e⟩ := gd e
    cases e
    rw [i9, to_32]
    by_cases q : x.toNatClampNeg < C
    · have := (i14 _ q).2.2.2.1.1
      exact ne_ge (by omega)
    · rw [(i16 _ (by omega)).2.1]; decide
theorem o_aim {h : Nat → ObS} {mo : ObS} {U C t : Nat} (I : INV h mo U C t) (X : EX h U t) (a b c d : Int32) : OUT h U (f_L_does_8 h a b c d) (f_X7_aim mo a b c) := by
  have A := ag_aim I a b c z0
  unfold f_L_aim at A
  unfold f_L_does_8
  refine out_of A (fun k x hx => by
    try dsimp only at hx
    repeat' split at hx
    all_goals first
      | (cases hx; exact ⟨by omega, by first | exact (show (1 : Int32) ≠ 0 by decide) | exact (show (2 : Int32) ≠ 0 by decide) | exact (show (3 : Int32) ≠ 0 by decide) | exact (show (4 : Int32) ≠ 0 by decide)⟩)
      | exact nomatch hx) (fun r h' mo' U' C' t' hF I' => ?_)
  unfold f_X6_aim at hF
  rcases tbd hF with ⟨k, -, hF⟩ | ⟨u0, q0, hF⟩
  · exact nomatch hF
  rcases ic hF with ⟨-, hF⟩ | ⟨-, hF⟩
  · rcases ic hF with ⟨-, hF⟩ | ⟨-, hF⟩
    · rcases tbd hF with ⟨k, -, hF⟩ | ⟨u1, -, hF⟩
      · exact nomatch hF
      obtain ⟨R, e4, hF⟩ := bd hF
      cases hF
      obtain ⟨p, g, e5, e6⟩ := aa_fr e4
      exact ⟨J_4 I X I' p, rfl, Or.inl (by rw [e6]; exact go_b I e5)⟩
    · exact nomatch hF
  · exact nomatch hF
