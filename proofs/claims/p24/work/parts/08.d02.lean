theorem pt_fr {o o' : ObS} {x y : Int32} (e : f_X5_putTaker o x y = some o') : (∀ k, k ≠ 6 → o'.1 k = o.1 k) ∧ o'.2 = o.2 := by
  unfold f_X5_putTaker at e
  rcases ic e with ⟨-, e⟩ | ⟨-, e⟩
  · cases e; exact ⟨fun _ _ => rfl, rfl⟩
  · obtain ⟨-, e⟩ := gd e
    obtain ⟨s, e1, e⟩ := bd e
    cases e1; cases e
    exact ⟨fun k hk => oi_n hk, rfl⟩
theorem ti_fr {h : Nat → ObS} {mo : ObS} {U C t : Nat} (I : INV h mo U C t) {x y : Int32} {R : Int32 × ObS} (e : f_X5_takeInstead (h 3) x y = some R) : R.2.1 0 = (h 3).1 0 ∧ R.2.1 1 = (h 3).1 1 ∧ R.2.2 = (h 3).2 ∧ R.1 ≠ -2100000000 := by
  obtain ⟨⟨G, -⟩, -⟩ := id I
  unfold f_X5_takeInstead at e
  by_cases hm : f_X5_isMade (h 3) x = 0
  · rw [if_pos hm] at e; cases e; exact ⟨rfl, rfl, rfl, (show (-1 : Int32) ≠ -2100000000 by decide)⟩
  · rw [if_neg hm] at e
    obtain ⟨-, e⟩ := gd e
    obtain ⟨r1, e1, e⟩ := bd e
    obtain ⟨r2, e2, e⟩ := bd e
    obtain ⟨-, e⟩ := gd e
    obtain ⟨s, e3, e⟩ := bd e
    cases e3; cases e
    obtain ⟨a1, a2⟩ := pt_fr e1
    obtain ⟨b1, b2⟩ := pt_fr e2
    refine ⟨by rw [oi_n (by decide), b1 0 (by decide), a1 0 (by decide)], by rw [oi_n (by decide), b1 1 (by decide), a1 1 (by decide)], by rw [show (oi r2 4 x.toNatClampNeg y).2 = r2.2 from rfl, b2, a2], ?_⟩
    obtain ⟨u, huU, rfl⟩ := made_ex G.2.1 G.1 hm
    have hU := G.1
    rw [ix_nat (by omega)]
    obtain ⟨gk, ga, gb, g0, g1, -⟩ := G.2.2.1 u huU
    by_cases k0 : (h 3).1 1 u = 0
    · rw [g0 k0]; exact (show (-1 : Int32) ≠ -2100000000 by decide)
    · obtain ⟨c1, c2, -⟩ := ga k0
      rw [c2]; exact ix_ne (by omega)
theorem o_back {h : Nat → ObS} {mo : ObS} {U C t : Nat} (I : INV h mo U C t) (X : EX h U t) (a b c d : Int32) : OUT h U (f_L_does_2 h a b c d) (f_X7_back mo a b) := by
  have A := ag_back I a b z0
  unfold f_L_back at A
  unfold f_L_does_2
  refine out_of A (fun k x hx => by
    try dsimp only at hx
    repeat' split at hx
    all_goals first
      | (cases hx; exact ⟨by omega, by first | exact (show (1 : Int32) ≠ 0 by decide) | exact (show (2 : Int32) ≠ 0 by decide) | exact (show (3 : Int32) ≠ 0 by decide) | exact (show (4 : Int32) ≠ 0 by decide)⟩)
      | exact nomatch hx) (fun r h' mo' U' C' t' hF I' => ?_)
  unfold f_X6_back at hF
  rcases tbd hF with ⟨k, -, hF⟩ | ⟨u0, q0, hF⟩
  · exact nomatch hF
  rcases tbd hF with ⟨k, -, hF⟩ | ⟨u1, q1, hF⟩
  · exact nomatch hF
  obtain ⟨r15, -, hF⟩ := bd hF
  rcases ic hF with ⟨-, hF⟩ | ⟨-, hF⟩
  · exact nomatch hF
  rcases tbd hF with ⟨k, -, hF⟩ | ⟨u3, -, hF⟩
  · exact nomatch hF
  rcases tbd hF with ⟨k, -, hF⟩ | ⟨u4, q4, hF⟩
  · exact nomatch hF
  obtain ⟨R, e4, hF⟩ := bd hF
  cases hF
  have nt := nNT I.2.2.1.1 I.2.1.2.2.2.1
  have t0 : t = 0 := by
    by_cases z : t = 0
    · exact z
    · rw [nt.2 z] at q4; exact nomatch q4
  subst t0
  obtain ⟨p0, p1, p2, p3⟩ := ti_fr I e4
  obtain rfl := INV_U I I' (show (hu h 3 R.2 3).1 0 = _ from p0)
  obtain rfl := INV_t I I' rfl
  exact ⟨⟨C', 0, I', EX_t0 I' X.2.1 X.2.2.1⟩, p1, Or.inl p3⟩
