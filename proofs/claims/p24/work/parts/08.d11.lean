theorem o_select {h : Nat → ObS} {mo : ObS} {U C t : Nat} (I : INV h mo U C t) (X : EX h U t) (a b c d : Int32) : OUT h U (f_L_does_9 h a b c d) (f_X7_select mo a) := by
  obtain ⟨⟨k, h', w', r, mo', U', C', t', e1, e2, e3, e4, I'⟩, e5⟩ := ag_select I a z0
  refine ⟨r, mo', e2, ?_⟩
  unfold f_L_select at e1
  unfold f_L_does_9
  cases hF : f_X6_select h a with
  | none => rw [hF] at e1; exact nomatch e1
  | some s9 =>
    rw [hF] at e1
    cases s9 with
    | inl k0 =>
      have e1 : (if k0 = 3 then some ((1 : Int32), h, z0) else none) = some (k, h', w') := e1
      left
      rcases ic e1 with ⟨z9, e1⟩ | ⟨z9, e1⟩
      · subst k0; cases e1; exact ⟨by rw [e3]; decide, rfl⟩
      · exact nomatch e1
    | inr q =>
      have e1 : (if q.1 = (0 : Int32) then some ((0 : Int32), q.2, oj z0 0 ((0 : Int32).toNatClampNeg) 0) else some ((0 : Int32), q.2, oj z0 0 ((0 : Int32).toNatClampNeg) 1)) = some (k, h', w') := e1
      right
      have fr : J h' mo' U ∧ (h' 3).1 1 = (h 3).1 1 ∧ h' = q.2 := by
        have e8 : h' = q.2 := by
          rcases ic e1 with ⟨z9, e1⟩ | ⟨z9, e1⟩ <;> (cases e1; rfl)
        subst e8
        unfold f_X6_select at hF
        rcases tbd hF with ⟨k, -, hF⟩ | ⟨u4, -, hF⟩
        · exact nomatch hF
        obtain ⟨R, e6, hF⟩ := bd hF
        obtain ⟨-, hF⟩ := gd hF
        cases hF
        obtain ⟨p, p2⟩ := tc_fr e6
        exact ⟨J_3 I X I' (fun k _ h1 => p k h1) p2, p 1 (by decide), rfl⟩
      obtain ⟨f1, f2, f3⟩ := fr
      by_cases hq : q.1 = 0
      · rw [if_pos hq] at e1
        cases e1
        have e9 := e4 rfl
        obtain rfl : (0 : Int32) = r := c64 e9
        exact ⟨e3, q.2, by show (if q.1 = (0 : Int32) then some ((0 : Int32), q.2) else some ((1 : Int32), q.2)) = _; rw [if_pos hq], f1, f2, Or.inl (by decide)⟩
      · rw [if_neg hq] at e1
        cases e1
        have e9 := e4 rfl
        obtain rfl : (1 : Int32) = r := c64 e9
        exact ⟨e3, q.2, by show (if q.1 = (0 : Int32) then some ((0 : Int32), q.2) else some ((1 : Int32), q.2)) = _; rw [if_neg hq], f1, f2, Or.inl (by decide)⟩
