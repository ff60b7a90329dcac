theorem cb_fr {h h' : Nat → ObS} {a x1 x2 x3 x4 x5 : Int32} (hF : f_X6_control_b30 h x1 x2 x3 x4 x5 = some (.inr (a, h'))) : ∃ o, h' = hu h 4 o ∧ o.2 11 = (h 4).2 11 ∧ (a = (h 4).1 0 0 ∨ a = -1) := by
  unfold f_X6_control_b30 at hF
  rcases ic hF with ⟨-, hF⟩ | ⟨-, hF⟩
  · rcases ic hF with ⟨-, hF⟩ | ⟨-, hF⟩
    · rcases ic hF with ⟨-, hF⟩ | ⟨-, hF⟩
      · rcases tbd hF with ⟨k, -, hF⟩ | ⟨u1, -, hF⟩
        · exact nomatch hF
        rcases tbd hF with ⟨k, -, hF⟩ | ⟨u2, -, hF⟩
        · exact nomatch hF
        obtain ⟨R, e4, hF⟩ := bd hF
        cases hF
        obtain ⟨p, q⟩ := am_fr e4
        exact ⟨R.2, rfl, p, q⟩
      · exact nomatch hF
    · exact nomatch hF
  · exact nomatch hF
theorem cn_ne {h : Nat → ObS} {mo : ObS} {U C t : Nat} {a : Int32} (I : INV h mo U C t) (e : a = (h 4).1 0 0 ∨ a = -1) : a ≠ -2100000000 := by
  obtain ⟨i1, i2, -⟩ := I.2.2.2.2.2.2.1
  rcases e with rfl | rfl
  · rw [i2]; exact ix_ne (by omega)
  · decide
theorem o_control {h : Nat → ObS} {mo : ObS} {U C t : Nat} (I : INV h mo U C t) (X : EX h U t) (a b c d : Int32) : OUT h U (f_L_does_5 h a b c d) (f_X7_control mo (a - a / 10000 * 10000) (a / 10000) b c d) := by
  have A := ag_control I (a - a / 10000 * 10000) (a / 10000) b c d z0
  unfold f_L_control at A
  unfold f_L_does_5
  refine out_of A (fun k x hx => by
    try dsimp only at hx
    repeat' split at hx
    all_goals first
      | (cases hx; exact ⟨by omega, by first | exact (show (1 : Int32) ≠ 0 by decide) | exact (show (2 : Int32) ≠ 0 by decide) | exact (show (3 : Int32) ≠ 0 by decide) | exact (show (4 : Int32) ≠ 0 by decide)⟩)
      | exact nomatch hx) (fun r h' mo' U' C' t' hF I' => ?_)
  unfold f_X6_control at hF
  rcases tbd hF with ⟨k, -, hF⟩ | ⟨u0, q0, hF⟩
  · exact nomatch hF
  have go : ∀ {x : Int32}, f_X6_control_b30 h (a - a / 10000 * 10000) (a / 10000) b c d = some (.inr (r, h')) → J h' mo' U ∧ (h' 3).1 1 = (h 3).1 1 ∧ (r ≠ -2100000000 ∨ ∃ o2, h' = hu h 2 o2) := by
    intro _ hF
    obtain ⟨o, rfl, p, q⟩ := cb_fr hF
    exact ⟨J_4 I X I' p, rfl, Or.inl (cn_ne I q)⟩
  rcases ic hF with ⟨-, hF⟩ | ⟨-, hF⟩
  · rcases tbd hF with ⟨k, -, hF⟩ | ⟨u1, -, hF⟩
    · exact nomatch hF
    exact go (x := 0) hF
  · rcases tbd hF with ⟨k, -, hF⟩ | ⟨u1, -, hF⟩
    · exact nomatch hF
    exact go (x := 0) hF
