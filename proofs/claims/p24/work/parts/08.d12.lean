theorem o_quit {h : Nat → ObS} {mo : ObS} {U C t : Nat} (I : INV h mo U C t) (X : EX h U t) (a b c d : Int32) : OUT h U (f_L_does_11 h a b c d) ((f_X7_quit mo).map (fun z => (z.1, oi z.2 0 0 0))) := by
  obtain ⟨r, h', mo', e1, e2, I'⟩ := ag_quit I
  have I' := INV_0 I' 0
  refine ⟨r, oi mo' 0 0 0, by rw [e2]; rfl, Or.inr ⟨rfl, h', ?_, ?_⟩⟩
  · unfold f_L_does_11; rw [e1]; rfl
  · unfold f_X6_quit at e1
    obtain ⟨R, e3, e1⟩ := bd e1
    cases e1
    obtain ⟨p, q⟩ := tf_fr e3 X.2.1
    exact ⟨J_fr I X I' rfl rfl rfl p X.2.2.1 rfl rfl rfl rfl, rfl, Or.inl q⟩
