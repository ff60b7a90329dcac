theorem o_feed {h : Nat → ObS} {mo : ObS} {U C t : Nat} (I : INV h mo U C t) (X : EX h U t) (a b c d : Int32) : OUT h U (f_L_does_7 h a b c d) ((f_X7_feed mo a b c).map (fun m => ((0 : Int32), m))) := by
  obtain ⟨k, h', mo', U', C', t', e1, e2, e3, I'⟩ := ag_feed I a b c
  rw [e2]
  unfold f_L_feed at e1
  unfold f_L_does_7 f_L_fed
  refine ⟨0, mo', rfl, ?_⟩
  cases hF : f_X6_feed h a b c with
  | none => rw [hF] at e1; exact nomatch e1
  | some s9 =>
    rw [hF] at e1
    cases s9 with
    | inl k0 =>
      have e1 : (if k0 = 3 then some ((1 : Int32), h) else if k0 = 1 then some ((2 : Int32), h) else if k0 = 2 then some ((3 : Int32), h) else none) = some (k, h') := e1
      left
      rcases ic e1 with ⟨z9, e1⟩ | ⟨z9, e1⟩
      · subst k0; cases e1; exact ⟨by rw [e3]; decide, rfl⟩
      · rcases ic e1 with ⟨z9, e1⟩ | ⟨z9, e1⟩
        · subst k0; cases e1; exact ⟨by rw [e3]; decide, rfl⟩
        · rcases ic e1 with ⟨z9, e1⟩ | ⟨z9, e1⟩
          · subst k0; cases e1; exact ⟨by rw [e3]; decide, rfl⟩
          · exact nomatch e1
    | inr q =>
      have e1 : some ((0 : Int32), q) = some (k, h') := e1
      have hk : k = 0 := by cases e1; rfl
      have hq : h' = q := by cases e1; rfl
      rw [hk] at e3
      rw [hq] at I'
      right
      refine ⟨e3, q, rfl, ?_⟩
      unfold f_X6_feed at hF
      rcases tbd hF with ⟨k, -, hF⟩ | ⟨u0, q0, hF⟩
      · exact nomatch hF
      rcases tbd hF with ⟨k, -, hF⟩ | ⟨u1, q1, hF⟩
      · exact nomatch hF
      rcases ic hF with ⟨-, hF⟩ | ⟨-, hF⟩
      · rcases tbd hF with ⟨k, -, hF⟩ | ⟨u4, -, hF⟩
        · exact nomatch hF
        obtain ⟨R, e4, hF⟩ := bd hF
        cases hF
        exact ⟨J_4 I X I' (congrArg (fun z => z 11) (pf_fr e4)), rfl, Or.inl (by decide)⟩
      · exact nomatch hF
