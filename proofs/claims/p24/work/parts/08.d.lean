/-! each call -/
theorem ne_ge {x : Int32} (h : -2000000000 ≤ x.toInt) : x ≠ -2100000000 := by
  rintro rfl; exact absurd h (by decide)
theorem ix_ne {n : Nat} (h : n < 2147483648) : Int32.ofNat n ≠ -2100000000 := ne_ge (by rw [ix_toInt h]; omega)
theorem EX_t0 {h : Nat → ObS} {mo : ObS} {U C : Nat} (I : INV h mo U C 0) (n : NE (h 5)) (s : SB (h 4)) : EX h U 0 := by
  obtain ⟨z1, z2, -⟩ := I.2.1.2.2.2.2 rfl
  exact ⟨fun h => absurd h (Nat.lt_irrefl 0), n, s, fun u _ => by rw [z2 u]; exact MVP_0 _, 0, Nat.le_refl _, HT_z (fun s => (z1 s).2)⟩
theorem made_ex {o : ObS} {U : Nat} {x : Int32} (h0 : o.1 0 0 = Int32.ofNat U) (hU : U ≤ 12) (hm : ¬ f_X5_isMade o x = 0) : ∃ u, u < U ∧ x = Int32.ofNat u := by
  unfold f_X5_isMade at hm
  rw [h0] at hm
  by_cases a : x < 0
  · rw [if_pos a] at hm; exact absurd rfl hm
  · rw [if_neg a] at hm
    by_cases b : Int32.ofNat U ≤ x
    · rw [if_pos b] at hm; exact absurd rfl hm
    · rw [Int32.lt_iff_toInt_lt, z32] at a
      obtain ⟨u, hu, rfl⟩ := ix_ex (x := x) (by omega)
      rw [ix_le (by omega) hu] at b
      exact ⟨u, by omega, rfl⟩
theorem isN_2 (x : Int32) : f_X6_isNumberOf 2 x = 0 := by
  unfold f_X6_isNumberOf
  rw [show f_X6_mostOf 2 = -1 from rfl, os_i, if_neg (by
    have z : ((-1 : Int32).toInt) = -1 := rfl
    rw [z, z32]; omega), if_neg (by decide)]
theorem num_ne {h : Nat → ObS} {mo : ObS} {U C t : Nat} {x y r : Int32} {u1 : Unit} (I : INV h mo U C t) (e2 : f_X6_needNumberOf h x y = some (.inr u1)) (e3 : f_X5_numberOf (h 3) x = some r) : r ≠ -2100000000 := by
  obtain ⟨⟨G, R, n1, n2, n3, n4, n5⟩, -⟩ := id I
  unfold f_X5_numberOf at e3
  by_cases hm : f_X5_isMade (h 3) x = 0
  · rw [if_pos hm] at e3; cases e3; decide
  · rw [if_neg hm] at e3
    obtain ⟨-, e3⟩ := gd e3
    obtain ⟨u, huU, rfl⟩ := made_ex G.2.1 G.1 hm
    have hU := G.1
    unfold f_X6_needNumberOf f_X5_kindOf at e2
    rw [if_neg hm] at e2
    obtain ⟨kd, e4, e2⟩ := bd e2
    obtain ⟨-, e4⟩ := gd e4
    cases e4
    cases e3
    rw [ix_nat (by omega)] at e2 ⊢
    rcases n3 u huU with q | q
    · rw [q, isN_2, if_pos rfl] at e2; exact nomatch e2
    · exact ne_ge (by omega)
theorem pt_fr {o o' : ObS} {x y : Int32} (e : f_X5_putTaker o x y = some o') : (∀ k, k ≠ 6 → o'.1 k = o.1 k) ∧ o'.2 = o.2 := by
  unfold f_X5_putTaker at e
  rcases ic e with ⟨-, e⟩ | ⟨-, e⟩
  · cases e; exact ⟨fun _ _ => rfl, rfl⟩
  · obtain ⟨-, e⟩ := gd e
    obtain ⟨s, e1, e⟩ := bd e
    cases e1; cases e
    exact ⟨fun k hk => oi_n hk, rfl⟩
theorem ti_fr {h : Nat → ObS} {mo : ObS} {U C t : Nat} (I : INV h mo U C t) {x y : Int32} {R : Int32 × ObS} (e : f_X5_takeInstead (h 3) x y = some R) : R.2.1 0 = (h 3).1 0 ∧ R.2.1 1 = (h 3).1 1 ∧ R.2.2 = (h 3).2 ∧ R.1 ≠ -2100000000 := by
  obtain ⟨⟨G, -⟩, -⟩ := id I
  unfold f_X5_takeInstead at e
  by_cases hm : f_X5_isMade (h 3) x = 0
  · rw [if_pos hm] at e; cases e; exact ⟨rfl, rfl, rfl, (show (-1 : Int32) ≠ -2100000000 by decide)⟩
  · rw [if_neg hm] at e
    obtain ⟨-, e⟩ := gd e
    obtain ⟨r1, e1, e⟩ := bd e
    obtain ⟨r2, e2, e⟩ := bd e
    obtain ⟨-, e⟩ := gd e
    obtain ⟨s, e3, e⟩ := bd e
    cases e3; cases e
    obtain ⟨a1, a2⟩ := pt_fr e1
    obtain ⟨b1, b2⟩ := pt_fr e2
    refine ⟨by rw [oi_n (by decide), b1 0 (by decide), a1 0 (by decide)], by rw [oi_n (by decide), b1 1 (by decide), a1 1 (by decide)], by rw [show (oi r2 4 x.toNatClampNeg y).2 = r2.2 from rfl, b2, a2], ?_⟩
    obtain ⟨u, huU, rfl⟩ := made_ex G.2.1 G.1 hm
    have hU := G.1
    rw [ix_nat (by omega)]
    obtain ⟨gk, ga, gb, g0, g1, -⟩ := G.2.2.1 u huU
    by_cases k0 : (h 3).1 1 u = 0
    · rw [g0 k0]; decide
    · obtain ⟨c1, c2, -⟩ := ga k0
      rw [c2]; exact ix_ne (by omega)
theorem o_back {h : Nat → ObS} {mo : ObS} {U C t : Nat} (I : INV h mo U C t) (X : EX h U t) (a b c d : Int32) : OUT h U (f_L_does_2 h a b c d) (f_X7_back mo a b) := by
  have A := ag_back I a b z0
  unfold f_L_back at A
  unfold f_L_does_2
  refine out_of A (fun k x hx => by
    dsimp only at hx
    repeat' split at hx
    all_goals first
      | exact nomatch hx
      | (cases hx; exact ⟨by omega, by first | exact (show (1 : Int32) ≠ 0 by decide) | exact (show (2 : Int32) ≠ 0 by decide) | exact (show (3 : Int32) ≠ 0 by decide) | exact (show (4 : Int32) ≠ 0 by decide)⟩)) (fun r h' mo' U' C' t' hF I' => ?_)
  unfold f_X6_back at hF
  rcases tbd hF with ⟨k, -, hF⟩ | ⟨u0, q0, hF⟩
  · exact nomatch hF
  rcases tbd hF with ⟨k, -, hF⟩ | ⟨u1, q1, hF⟩
  · exact nomatch hF
  obtain ⟨r15, -, hF⟩ := bd hF
  rcases ic hF with ⟨-, hF⟩ | ⟨-, hF⟩
  · exact nomatch hF
  rcases tbd hF with ⟨k, -, hF⟩ | ⟨u3, -, hF⟩
  · exact nomatch hF
  rcases tbd hF with ⟨k, -, hF⟩ | ⟨u4, q4, hF⟩
  · exact nomatch hF
  obtain ⟨R, e4, hF⟩ := bd hF
  cases hF
  have nt := nNT I.2.2.1.1 I.2.1.2.2.2.1
  have t0 : t = 0 := by
    by_cases z : t = 0
    · exact z
    · rw [nt.2 z] at q4; exact nomatch q4
  subst t0
  obtain ⟨p0, p1, p2, p3⟩ := ti_fr I e4
  obtain rfl := INV_U I I' (show (hu h 3 R.2 3).1 0 = _ from p0)
  obtain rfl := INV_t I I' rfl
  exact ⟨⟨C', 0, I', EX_t0 I' X.2.1 X.2.2.1⟩, p1, Or.inl p3⟩
theorem o_set {h : Nat → ObS} {mo : ObS} {U C t : Nat} (I : INV h mo U C t) (X : EX h U t) (a b c d : Int32) : OUT h U (f_L_does_3 h a b c d) (f_X7_set mo a b) := by
  have A := ag_set I a b z0
  unfold f_L_set at A
  unfold f_L_does_3
  refine out_of A (fun k x hx => by
    dsimp only at hx
    repeat' split at hx
    all_goals first
      | exact nomatch hx
      | (cases hx; exact ⟨by omega, by first | exact (show (1 : Int32) ≠ 0 by decide) | exact (show (2 : Int32) ≠ 0 by decide) | exact (show (3 : Int32) ≠ 0 by decide) | exact (show (4 : Int32) ≠ 0 by decide)⟩)) (fun r h' mo' U' C' t' hF I' => ?_)
  unfold f_X6_set at hF
  rcases tbd hF with ⟨k, -, hF⟩ | ⟨u0, q0, hF⟩
  · exact nomatch hF
  rcases tbd hF with ⟨k, -, hF⟩ | ⟨u1, q1, hF⟩
  · exact nomatch hF
  obtain ⟨r16, e3, hF⟩ := bd hF
  obtain ⟨r26, e4, hF⟩ := bd hF
  cases hF
  obtain ⟨p, q⟩ := pn_fr e4
  exact ⟨J_3 I X I' (fun k h1 _ => p k h1) q, p 1 (by decide), Or.inl (num_ne I q1 e3)⟩
theorem o_disturb {h : Nat → ObS} {mo : ObS} {U C t : Nat} (I : INV h mo U C t) (X : EX h U t) (a b c d : Int32) : OUT h U (f_L_does_4 h a b c d) (f_X7_disturb mo a b c) := by
  have A := ag_disturb I a b c z0
  unfold f_L_disturb at A
  unfold f_L_does_4
  refine out_of A (fun k x hx => by
    dsimp only at hx
    repeat' split at hx
    all_goals first
      | exact nomatch hx
      | (cases hx; exact ⟨by omega, by first | exact (show (1 : Int32) ≠ 0 by decide) | exact (show (2 : Int32) ≠ 0 by decide) | exact (show (3 : Int32) ≠ 0 by decide) | exact (show (4 : Int32) ≠ 0 by decide)⟩)) (fun r h' mo' U' C' t' hF I' => ?_)
  unfold f_X6_disturb at hF
  rcases tbd hF with ⟨k, -, hF⟩ | ⟨u0, q0, hF⟩
  · exact nomatch hF
  rcases ic hF with ⟨-, hF⟩ | ⟨-, hF⟩
  · rcases tbd hF with ⟨k, -, hF⟩ | ⟨u1, -, hF⟩
    · exact nomatch hF
    rcases ic hF with ⟨-, hF⟩ | ⟨-, hF⟩
    · obtain ⟨R, e4, hF⟩ := bd hF
      cases hF
      refine ⟨J_fr I X I' rfl rfl rfl X.2.1 X.2.2.1 rfl rfl rfl rfl, rfl, Or.inl ?_⟩
      obtain ⟨N, q1, q2, -⟩ := I'.2.2.2.2.1
      have q2 : R.1 0 0 = Int32.ofNat N := q2
      show R.1 0 0 ≠ _
      rw [q2]; exact ix_ne (by omega)
    · exact nomatch hF
  · exact nomatch hF
theorem cb_fr {h h' : Nat → ObS} {a x1 x2 x3 x4 x5 : Int32} (hF : f_X6_control_b30 h x1 x2 x3 x4 x5 = some (.inr (a, h'))) : ∃ o, h' = hu h 4 o ∧ o.2 11 = (h 4).2 11 ∧ (a = (h 4).1 0 0 ∨ a = -1) := by
  unfold f_X6_control_b30 at hF
  rcases ic hF with ⟨-, hF⟩ | ⟨-, hF⟩
  · rcases ic hF with ⟨-, hF⟩ | ⟨-, hF⟩
    · rcases ic hF with ⟨-, hF⟩ | ⟨-, hF⟩
      · rcases tbd hF with ⟨k, -, hF⟩ | ⟨u1, -, hF⟩
        · exact nomatch hF
        rcases tbd hF with ⟨k, -, hF⟩ | ⟨u2, -, hF⟩
        · exact nomatch hF
        obtain ⟨R, e4, hF⟩ := bd hF
        cases hF
        obtain ⟨p, q⟩ := am_fr e4
        exact ⟨R.2, rfl, p, q⟩
      · exact nomatch hF
    · exact nomatch hF
  · exact nomatch hF
theorem cn_ne {h : Nat → ObS} {mo : ObS} {U C t : Nat} {a : Int32} (I : INV h mo U C t) (e : a = (h 4).1 0 0 ∨ a = -1) : a ≠ -2100000000 := by
  obtain ⟨i1, i2, -⟩ := I.2.2.2.2.2.2.1
  rcases e with rfl | rfl
  · rw [i2]; exact ix_ne (by omega)
  · decide
theorem o_control {h : Nat → ObS} {mo : ObS} {U C t : Nat} (I : INV h mo U C t) (X : EX h U t) (a b c d : Int32) : OUT h U (f_L_does_5 h a b c d) (f_X7_control mo (a - a / 10000 * 10000) (a / 10000) b c d) := by
  have A := ag_control I (a - a / 10000 * 10000) (a / 10000) b c d z0
  unfold f_L_control at A
  unfold f_L_does_5
  refine out_of A (fun k x hx => by
    dsimp only at hx
    repeat' split at hx
    all_goals first
      | exact nomatch hx
      | (cases hx; exact ⟨by omega, by first | exact (show (1 : Int32) ≠ 0 by decide) | exact (show (2 : Int32) ≠ 0 by decide) | exact (show (3 : Int32) ≠ 0 by decide) | exact (show (4 : Int32) ≠ 0 by decide)⟩)) (fun r h' mo' U' C' t' hF I' => ?_)
  unfold f_X6_control at hF
  rcases tbd hF with ⟨k, -, hF⟩ | ⟨u0, q0, hF⟩
  · exact nomatch hF
  have go : ∀ {x : Int32}, f_X6_control_b30 h (a - a / 10000 * 10000) (a / 10000) b c d = some (.inr (r, h')) → J h' mo' U ∧ (h' 3).1 1 = (h 3).1 1 ∧ (r ≠ -2100000000 ∨ ∃ o2, h' = hu h 2 o2) := by
    intro _ hF
    obtain ⟨o, rfl, p, q⟩ := cb_fr hF
    exact ⟨J_4 I X I' p, rfl, Or.inl (cn_ne I q)⟩
  rcases ic hF with ⟨-, hF⟩ | ⟨-, hF⟩
  · rcases tbd hF with ⟨k, -, hF⟩ | ⟨u1, -, hF⟩
    · exact nomatch hF
    exact go (x := 0) hF
  · rcases tbd hF with ⟨k, -, hF⟩ | ⟨u1, -, hF⟩
    · exact nomatch hF
    exact go (x := 0) hF
theorem o_ratio {h : Nat → ObS} {mo : ObS} {U C t : Nat} (I : INV h mo U C t) (X : EX h U t) (a b c d : Int32) : OUT h U (f_L_does_6 h a b c d) (f_X7_ratio mo a b c) := by
  have A := ag_ratio I a b c z0
  unfold f_L_ratio at A
  unfold f_L_does_6
  refine out_of A (fun k x hx => by
    dsimp only at hx
    repeat' split at hx
    all_goals first
      | exact nomatch hx
      | (cases hx; exact ⟨by omega, by first | exact (show (1 : Int32) ≠ 0 by decide) | exact (show (2 : Int32) ≠ 0 by decide) | exact (show (3 : Int32) ≠ 0 by decide) | exact (show (4 : Int32) ≠ 0 by decide)⟩)) (fun r h' mo' U' C' t' hF I' => ?_)
  unfold f_X6_ratio at hF
  rcases tbd hF with ⟨k, -, hF⟩ | ⟨u0, q0, hF⟩
  · exact nomatch hF
  rcases tbd hF with ⟨k, -, hF⟩ | ⟨u1, q1, hF⟩
  · exact nomatch hF
  rcases ic hF with ⟨-, hF⟩ | ⟨-, hF⟩
  · rcases tbd hF with ⟨k, -, hF⟩ | ⟨u3, -, hF⟩
    · exact nomatch hF
    rcases tbd hF with ⟨k, -, hF⟩ | ⟨u4, -, hF⟩
    · exact nomatch hF
    obtain ⟨R, e4, hF⟩ := bd hF
    cases hF
    unfold f_X1_addRatio at e4
    obtain ⟨R1, e5, e4⟩ := bd e4
    cases e4
    obtain ⟨p, q⟩ := ad_fr e5
    exact ⟨J_4 I X I' (congrArg (fun z => z 11) p), rfl, Or.inl (cn_ne I q)⟩
  · exact nomatch hF
theorem go_b {h : Nat → ObS} {mo : ObS} {U C t : Nat} {x : Int32} {r : Int64} (I : INV h mo U C t) (e : f_X1_goalOf (h 4) x = some r) : r.toInt32 ≠ -2100000000 := by
  obtain ⟨i1, i2, i3, -, ⟨i9, -⟩, i14, i15, i16⟩ := I.2.2.2.2.2.2.1
  unfold f_X1_goalOf at e
  rcases ic e with ⟨-, e⟩ | ⟨-, e⟩
  · cases e; decide
  · obtain ⟨-, e⟩ := gd e
    cases e
    rw [i9, to_32]
    by_cases q : x.toNatClampNeg < C
    · have := (i14 _ q).2.2.2.1.1
      exact ne_ge (by omega)
    · rw [(i16 _ (by omega)).2.1]; decide
theorem o_aim {h : Nat → ObS} {mo : ObS} {U C t : Nat} (I : INV h mo U C t) (X : EX h U t) (a b c d : Int32) : OUT h U (f_L_does_8 h a b c d) (f_X7_aim mo a b c) := by
  have A := ag_aim I a b c z0
  unfold f_L_aim at A
  unfold f_L_does_8
  refine out_of A (fun k x hx => by
    dsimp only at hx
    repeat' split at hx
    all_goals first
      | exact nomatch hx
      | (cases hx; exact ⟨by omega, by first | exact (show (1 : Int32) ≠ 0 by decide) | exact (show (2 : Int32) ≠ 0 by decide) | exact (show (3 : Int32) ≠ 0 by decide) | exact (show (4 : Int32) ≠ 0 by decide)⟩)) (fun r h' mo' U' C' t' hF I' => ?_)
  unfold f_X6_aim at hF
  rcases tbd hF with ⟨k, -, hF⟩ | ⟨u0, q0, hF⟩
  · exact nomatch hF
  rcases ic hF with ⟨-, hF⟩ | ⟨-, hF⟩
  · rcases ic hF with ⟨-, hF⟩ | ⟨-, hF⟩
    · rcases tbd hF with ⟨k, -, hF⟩ | ⟨u1, -, hF⟩
      · exact nomatch hF
      obtain ⟨R, e4, hF⟩ := bd hF
      cases hF
      obtain ⟨p, g, e5, e6⟩ := aa_fr e4
      exact ⟨J_4 I X I' p, rfl, Or.inl (by rw [e6]; exact go_b I e5)⟩
    · exact nomatch hF
  · exact nomatch hF
theorem o_gain {h : Nat → ObS} {mo : ObS} {U C t : Nat} (I : INV h mo U C t) (X : EX h U t) (a b c d : Int32) : OUT h U (f_L_does_16 h a b c d) (f_X7_gain mo a b) := by
  have A := ag_gain I a b z0
  unfold f_L_gain at A
  unfold f_L_does_16
  refine out_of A (fun k x hx => by
    dsimp only at hx
    repeat' split at hx
    all_goals first
      | exact nomatch hx
      | (cases hx; exact ⟨by omega, by first | exact (show (1 : Int32) ≠ 0 by decide) | exact (show (2 : Int32) ≠ 0 by decide) | exact (show (3 : Int32) ≠ 0 by decide) | exact (show (4 : Int32) ≠ 0 by decide)⟩)) (fun r h' mo' U' C' t' hF I' => ?_)
  unfold f_X6_gain at hF
  rcases tbd hF with ⟨k, -, hF⟩ | ⟨u0, q0, hF⟩
  · exact nomatch hF
  rcases tbd hF with ⟨k, -, hF⟩ | ⟨u1, q1, hF⟩
  · exact nomatch hF
  obtain ⟨R, e4, hF⟩ := bd hF
  cases hF
  obtain ⟨o2, e5⟩ := go_fr e4
  rw [e5] at I' ⊢
  exact ⟨J_fr I X I' rfl rfl rfl X.2.1 X.2.2.1 rfl rfl rfl rfl, rfl, Or.inr ⟨o2, rfl⟩⟩
theorem o_relative {h : Nat → ObS} {mo : ObS} {U C t : Nat} (I : INV h mo U C t) (X : EX h U t) (a b c d : Int32) : OUT h U (f_L_does_17 h a b c d) (f_X7_relative mo a b c d) := by
  have A := ag_relative I a b c d z0
  unfold f_L_relative at A
  unfold f_L_does_17
  refine out_of A (fun k x hx => by
    dsimp only at hx
    repeat' split at hx
    all_goals first
      | exact nomatch hx
      | (cases hx; exact ⟨by omega, by first | exact (show (1 : Int32) ≠ 0 by decide) | exact (show (2 : Int32) ≠ 0 by decide) | exact (show (3 : Int32) ≠ 0 by decide) | exact (show (4 : Int32) ≠ 0 by decide)⟩)) (fun r h' mo' U' C' t' hF I' => ?_)
  unfold f_X6_relative at hF
  rcases tbd hF with ⟨k, -, hF⟩ | ⟨u0, q0, hF⟩
  · exact nomatch hF
  rcases tbd hF with ⟨k, -, hF⟩ | ⟨u1, q1, hF⟩
  · exact nomatch hF
  rcases tbd hF with ⟨k, -, hF⟩ | ⟨u2, q2, hF⟩
  · exact nomatch hF
  rcases tbd hF with ⟨k, -, hF⟩ | ⟨u3, q3, hF⟩
  · exact nomatch hF
  obtain ⟨R1, e1, hF⟩ := bd hF
  obtain ⟨R2, e2, hF⟩ := bd hF
  obtain ⟨R3, e3, hF⟩ := bd hF
  obtain ⟨R4, e4, hF⟩ := bd hF
  obtain ⟨o1, p1⟩ := go_fr e1
  obtain ⟨o2, p2⟩ := go_fr e2
  obtain ⟨o3, p3⟩ := go_fr e3
  obtain ⟨o4, p4⟩ := go_fr e4
  have e9 : R4.2 = hu h 2 o4 := by rw [p4, p3, p2, p1, hu_hu, hu_hu, hu_hu]
  have e8 : h' = hu h 2 o4 := by
    rcases ic hF with ⟨-, hF⟩ | ⟨-, hF⟩
    · cases hF; exact e9
    · obtain ⟨-, hF⟩ := gd hF
      cases hF; exact e9
  subst e8
  exact ⟨J_fr I X I' rfl rfl rfl X.2.1 X.2.2.1 rfl rfl rfl rfl, rfl, Or.inr ⟨o4, rfl⟩⟩
theorem o_feed {h : Nat → ObS} {mo : ObS} {U C t : Nat} (I : INV h mo U C t) (X : EX h U t) (a b c d : Int32) : OUT h U (f_L_does_7 h a b c d) ((f_X7_feed mo a b c).map (fun m => ((0 : Int32), m))) := by
  obtain ⟨k, h', mo', U', C', t', e1, e2, e3, I'⟩ := ag_feed I a b c
  rw [e2]
  unfold f_L_feed at e1
  unfold f_L_does_7 f_L_fed
  refine ⟨0, mo', rfl, ?_⟩
  generalize hF : f_X6_feed h a b c = F at e1 ⊢
  match F, e1, hF with
  | some (.inl k0), e1, hF =>
    have e1 : (if k0 = 3 then some ((1 : Int32), h) else if k0 = 1 then some ((2 : Int32), h) else if k0 = 2 then some ((3 : Int32), h) else none) = some (k, h') := e1
    left
    rcases ic e1 with ⟨z9, e1⟩ | ⟨z9, e1⟩
    · subst k0; cases e1; exact ⟨by rw [e3]; decide, rfl⟩
    · rcases ic e1 with ⟨z9, e1⟩ | ⟨z9, e1⟩
      · subst k0; cases e1; exact ⟨by rw [e3]; decide, rfl⟩
      · rcases ic e1 with ⟨z9, e1⟩ | ⟨z9, e1⟩
        · subst k0; cases e1; exact ⟨by rw [e3]; decide, rfl⟩
        · exact nomatch e1
  | some (.inr q), e1, hF =>
    have e1 : some ((0 : Int32), q) = some (k, h') := e1
    cases e1
    right
    refine ⟨e3, q, rfl, ?_⟩
    unfold f_X6_feed at hF
    rcases tbd hF with ⟨k, -, hF⟩ | ⟨u0, q0, hF⟩
    · exact nomatch hF
    rcases tbd hF with ⟨k, -, hF⟩ | ⟨u1, q1, hF⟩
    · exact nomatch hF
    rcases ic hF with ⟨-, hF⟩ | ⟨-, hF⟩
    · rcases tbd hF with ⟨k, -, hF⟩ | ⟨u4, -, hF⟩
      · exact nomatch hF
      obtain ⟨R, e4, hF⟩ := bd hF
      cases hF
      exact ⟨J_4 I X I' (congrArg (fun z => z 11) (pf_fr e4)), rfl, Or.inl (by decide)⟩
    · exact nomatch hF
theorem o_select {h : Nat → ObS} {mo : ObS} {U C t : Nat} (I : INV h mo U C t) (X : EX h U t) (a b c d : Int32) : OUT h U (f_L_does_9 h a b c d) (f_X7_select mo a) := by
  obtain ⟨⟨k, h', w', r, mo', U', C', t', e1, e2, e3, e4, I'⟩, e5⟩ := ag_select I a z0
  refine ⟨r, mo', e2, ?_⟩
  unfold f_L_select at e1
  unfold f_L_does_9
  generalize hF : f_X6_select h a = F at e1 ⊢
  match F, e1, hF with
  | some (.inl k0), e1, hF =>
    have e1 : (if k0 = 3 then some ((1 : Int32), h, z0) else none) = some (k, h', w') := e1
    left
    rcases ic e1 with ⟨z9, e1⟩ | ⟨z9, e1⟩
    · subst k0; cases e1; exact ⟨by rw [e3]; decide, rfl⟩
    · exact nomatch e1
  | some (.inr q), e1, hF =>
    have e1 : (if q.1 = (0 : Int32) then some ((0 : Int32), q.2, oj z0 0 ((0 : Int32).toNatClampNeg) 0) else some ((0 : Int32), q.2, oj z0 0 ((0 : Int32).toNatClampNeg) 1)) = some (k, h', w') := e1
    right
    have fr : J h' mo' U ∧ (h' 3).1 1 = (h 3).1 1 ∧ h' = q.2 := by
      have e8 : h' = q.2 := by
        rcases ic e1 with ⟨z9, e1⟩ | ⟨z9, e1⟩ <;> (cases e1; rfl)
      subst e8
      unfold f_X6_select at hF
      rcases tbd hF with ⟨k, -, hF⟩ | ⟨u4, -, hF⟩
      · exact nomatch hF
      obtain ⟨R, e6, hF⟩ := bd hF
      obtain ⟨-, hF⟩ := gd hF
      cases hF
      obtain ⟨p, p2⟩ := tc_fr e6
      exact ⟨J_3 I X I' (fun k _ h1 => p k h1) p2, p 1 (by decide), rfl⟩
    obtain ⟨f1, f2, f3⟩ := fr
    by_cases hq : q.1 = 0
    · rw [if_pos hq] at e1
      cases e1
      have e9 := e4 rfl
      obtain rfl : (0 : Int32) = r := c64 e9
      exact ⟨e3, q.2, by show (if q.1 = (0 : Int32) then some ((0 : Int32), q.2) else some ((1 : Int32), q.2)) = _; rw [if_pos hq], f1, f2, Or.inl (by decide)⟩
    · rw [if_neg hq] at e1
      cases e1
      have e9 := e4 rfl
      obtain rfl : (1 : Int32) = r := c64 e9
      exact ⟨e3, q.2, by show (if q.1 = (0 : Int32) then some ((0 : Int32), q.2) else some ((1 : Int32), q.2)) = _; rw [if_neg hq], f1, f2, Or.inl (by decide)⟩
theorem o_quit {h : Nat → ObS} {mo : ObS} {U C t : Nat} (I : INV h mo U C t) (X : EX h U t) (a b c d : Int32) : OUT h U (f_L_does_11 h a b c d) ((f_X7_quit mo).map (fun z => (z.1, oi z.2 0 0 0))) := by
  obtain ⟨r, h', mo', e1, e2, I'⟩ := ag_quit I
  have I' := INV_0 I' 0
  refine ⟨r, oi mo' 0 0 0, by rw [e2]; rfl, Or.inr ⟨rfl, h', ?_, ?_⟩⟩
  · unfold f_L_does_11; rw [e1]; rfl
  · unfold f_X6_quit at e1
    obtain ⟨R, e3, e1⟩ := bd e1
    cases e1
    obtain ⟨p, q⟩ := tf_fr e3 X.2.1
    exact ⟨J_fr I X I' rfl rfl rfl p X.2.2.1 rfl rfl rfl rfl, rfl, Or.inl q⟩
theorem tk_ex {U C n : Nat} (hn : n ≤ 50) : ∀ (d i f g : Nat) (h : Nat → ObS) (mo : ObS) (t : Nat), i + d = n → t + d ≤ 300 → d < f → d < g → INV h mo U C t → EX h U t →
    ∃ (h' : Nat → ObS) (mo' : ObS), f_X6_tick_b44 (Int32.ofNat n) f (Int32.ofNat i) h = some (.inr (Int32.ofNat (t + d), h')) ∧ f_X7_tick_b42 (Int32.ofNat n) g (Int32.ofNat i) mo = some (Int32.ofNat (t + d), mo') ∧ INV h' mo' U C (t + d) ∧ mo'.1 0 = mo.1 0 ∧ EX h' U (t + d) ∧ (h' 3).1 1 = (h 3).1 1
  | d, i, 0, g, h, mo, t, hi, ht, hf, hg, I, X => by omega
  | d, i, f + 1, 0, h, mo, t, hi, ht, hf, hg, I, X => by omega
  | 0, i, f + 1, g + 1, h, mo, t, hi, ht, hf, hg, I, X => by
    obtain rfl : i = n := by omega
    refine ⟨h, mo, ?_, ?_, I, rfl, X, rfl⟩
    · unfold f_X6_tick_b44
      rw [if_pos ((ix_le (by omega) (by omega)).mpr (Nat.le_refl _)), I.2.2.1.1]; rfl
    · unfold f_X7_tick_b42
      rw [if_pos ((ix_le (by omega) (by omega)).mpr (Nat.le_refl _)), I.2.2.1.2]; rfl
  | d + 1, i, f + 1, g + 1, h, mo, t, hi, ht, hf, hg, I, X => by
    have b1 : ¬ n ≤ i := by omega
    obtain ⟨h1, m1, e1, e2, e3, e4, e5, e6⟩ := tick_ex I X (by omega)
    obtain ⟨h', mo', r1, r2, r3, r4, r5, r6⟩ := tk_ex (U := U) (C := C) hn d (i + 1) f g h1 m1 (t + 1) (by omega) (by omega) (by omega) (by omega) e3 e5
    rw [show t + 1 + d = t + (d + 1) by omega] at r1 r2 r3 r5
    refine ⟨h', mo', ?_, ?_, r3, r4.trans e4, r5, r6.trans e6⟩
    · conv => lhs; unfold f_X6_tick_b44
      rw [if_neg (fun z => b1 ((ix_le (by omega) (by omega)).mp z)), e1, Option.bind_some, ix_suc]; exact r1
    · conv => lhs; unfold f_X7_tick_b42
      rw [if_neg (fun z => b1 ((ix_le (by omega) (by omega)).mp z)), e2, Option.bind_some, ix_suc]; exact r2
theorem o_tick {h : Nat → ObS} {mo : ObS} {U C t : Nat} (I : INV h mo U C t) (X : EX h U t) (a b c d : Int32) : OUT h U (f_L_does_10 h a b c d) (f_X7_tick mo a) := by
  have t1 := I.2.1.2.2.2.1
  obtain ⟨t2, t3⟩ := I.2.2.1
  unfold f_L_does_10 f_X6_tick f_X7_tick
  rw [os_c (x := a) (1 ≤ a.toInt ∧ a.toInt ≤ 50) Iff.rfl, in_c (x := a) (1 ≤ a.toInt ∧ a.toInt ≤ 50) Iff.rfl, t2, t3]
  by_cases q : 1 ≤ a.toInt ∧ a.toInt ≤ 50
  · rw [if_pos q, if_pos q, if_pos (rfl : (0 : Int32) = 0), if_neg n10]
    obtain ⟨n, hn, rfl⟩ := ix_ex (x := a) (by omega)
    rw [ix_toInt hn] at q
    rw [ix_add]
    have e : Int32.ofNat (t + n) ≤ 300 ↔ t + n ≤ 300 := ix_le (j := 300) (by omega) (by omega)
    by_cases q2 : t + n ≤ 300
    · rw [if_pos (e.mpr q2), if_pos (e.mpr q2), holds_1, Option.bind_some, if_neg n10]
      obtain ⟨h', mo', r1, r2, r3, r4, r5, r6⟩ := tk_ex (U := U) (C := C) (n := n) (by omega) n 0 64 64 h (oi mo 0 0 0) t (by omega) (by omega) (by omega) (by omega) (INV_0 I 0) X
      refine ⟨Int32.ofNat (t + n), mo', r2, Or.inr ⟨by rw [r4]; rfl, h', do_ok r1, ⟨C, t + n, r3, r5⟩, r6, Or.inl (ix_ne (by omega))⟩⟩
    · rw [if_neg (fun z => q2 (e.mp z)), if_neg (fun z => q2 (e.mp z))]
      exact ⟨0, oi mo 0 0 2, by rw [holds_0 (by decide), Option.bind_some, if_pos rfl], Or.inl ⟨by show (2 : Int32) ≠ 0; decide, do_th (k := 2) (by omega) rfl⟩⟩
  · rw [if_neg q, if_neg q, if_neg n10, if_pos (rfl : (0 : Int32) = 0)]
    exact ⟨0, oi mo 0 0 1, by rw [holds_0 (by decide), Option.bind_some, if_pos rfl], Or.inl ⟨by show (1 : Int32) ≠ 0; decide, do_th (k := 1) (by omega) rfl⟩⟩
