/-! new units -/
def OUN (h : Nat → ObS) (U : Nat) (kd : Int32) (L : Option (Int32 × (Nat → ObS))) (M : Option (Int32 × ObS)) : Prop :=
  ∃ (r : Int32) (mo' : ObS), M = some (r, mo') ∧ ((mo'.1 0 0 ≠ 0 ∧ L = some (-2100000000, h)) ∨ (mo'.1 0 0 = 0 ∧ U < 12 ∧ r = Int32.ofNat U ∧ ∃ h' : Nat → ObS, L = some (r, h') ∧ J h' mo' (U + 1) ∧ (h' 3).1 1 = upd ((h 3).1 1) U kd))
theorem oun_of {F : Option (Nat ⊕ (Int32 × (Nat → ObS)))} {h : Nat → ObS} {U : Nat} {kd : Int32} {w : ObS} {e : Nat → Option (Int32 × (Nat → ObS) × ObS)} {M : Option (Int32 × ObS)} (A : AG (F.bind fun R0 => sumE R0 e (fun r => some ((0 : Int32), r.2, oj w 0 ((0 : Int32).toNatClampNeg) r.1.toInt64))) M) (he : ∀ k x, e k = some x → (k = 1 ∨ k = 2 ∨ k = 3) ∧ x.1 ≠ 0)
    (ok : ∀ (a : Int32) (h' : Nat → ObS) (mo' : ObS) (U' C' t' : Nat), F = some (.inr (a, h')) → INV h' mo' U' C' t' → U < 12 ∧ a = Int32.ofNat U ∧ J h' mo' (U + 1) ∧ (h' 3).1 1 = upd ((h 3).1 1) U kd) :
    OUN h U kd (F.bind fun R0 => sumE R0 (fun k => if k = 3 then some ((-2100000000 : Int32), h) else if k = 1 then some ((-2100000000), h) else if k = 2 then some ((-2100000000), h) else none) (fun r => some (r.1, r.2))) M := by
  rcases ag_un A he with ⟨k, r, mo', hk, hF, hM, h0⟩ | ⟨a, h', mo', U', C', t', hF, hM, h0, I'⟩
  · exact ⟨r, mo', hM, Or.inl ⟨h0, do_th hk hF⟩⟩
  · obtain ⟨a1, a2, a3, a4⟩ := ok a h' mo' U' C' t' hF I'
    exact ⟨a, mo', hM, Or.inr ⟨h0, a1, a2, h', do_ok hF, a3, a4⟩⟩
theorem n5_fr {o : ObS} {U : Nat} {x1 x2 x3 x4 x5 : Int32} {R : Int32 × ObS} (h0 : o.1 0 0 = Int32.ofNat U) (hU : U < 12) (e : f_X5_add o x1 x2 x3 x4 x5 = some R) : R.1 = Int32.ofNat U ∧ R.2.1 1 = upd (o.1 1) U x1 ∧ R.2.1 0 0 = Int32.ofNat (U + 1) ∧ R.2.2 = o.2 := by
  unfold f_X5_add at e
  rw [h0, if_pos (show Int32.ofNat U < 12 from (ix_lt (j := 12) (by omega) (by omega)).mpr hU), ix_nat (show U < 2147483648 by omega)] at e
  obtain ⟨s, e1, e⟩ := bd e
  cases e1
  obtain ⟨-, e⟩ := gd e
  obtain ⟨s, e1, e⟩ := bd e
  cases e1
  obtain ⟨-, e⟩ := gd e
  obtain ⟨s, e1, e⟩ := bd e
  cases e1
  obtain ⟨-, e⟩ := gd e
  obtain ⟨s, e1, e⟩ := bd e
  cases e1
  obtain ⟨-, e⟩ := gd e
  obtain ⟨s, e1, e⟩ := bd e
  cases e1
  obtain ⟨-, e⟩ := gd e
  obtain ⟨s, e1, e⟩ := bd e
  cases e1
  cases e
  refine ⟨rfl, ?_, ?_, rfl⟩
  · rw [oi_n (by decide), oi_n (by decide), oi_n (by decide), oi_n (by decide), oi_s, oi_n (by decide)]
  · rw [oi_n (by decide), oi_n (by decide), oi_n (by decide), oi_n (by decide), oi_n (by decide), oi_s, upd_s, ix_suc]
theorem nw_J {h : Nat → ObS} {mo mo' o : ObS} {U C t U' C' t' : Nat} {kd : Int32} (I : INV h mo U C t) (X : EX h U t) (ht : t = 0) (hU : U < 12) (I' : INV (hu h 3 o) mo' U' C' t') (a : o.1 0 0 = Int32.ofNat (U + 1)) : J (hu h 3 o) mo' (U + 1) := by
  subst ht
  obtain rfl := INV_t I I' rfl
  have b : o.1 0 0 = Int32.ofNat U' := I'.1.1.2.1
  have u2 := I'.1.1.1
  rw [a, ix_eq (by omega) (by omega)] at b
  subst b
  exact ⟨C', 0, I', EX_t0 I' X.2.1 X.2.2.1⟩
theorem o_source {h : Nat → ObS} {mo : ObS} {U C t : Nat} (I : INV h mo U C t) (X : EX h U t) (a b c d : Int32) : OUN h U 0 (f_L_does_0 h a b c d) (f_X7_source mo a b) := by
  have A := ag_source I a b z0
  unfold f_L_source at A
  unfold f_L_does_0
  refine oun_of A (fun k x hx => by
    try dsimp only at hx
    repeat' split at hx
    all_goals first
      | (cases hx; exact ⟨by omega, by first | exact (show (1 : Int32) ≠ 0 by decide) | exact (show (2 : Int32) ≠ 0 by decide) | exact (show (3 : Int32) ≠ 0 by decide) | exact (show (4 : Int32) ≠ 0 by decide)⟩)
      | exact nomatch hx) (fun r h' mo' U' C' t' hF I' => ?_)
  unfold f_X6_source at hF
  rcases ic hF with ⟨-, hF⟩ | ⟨-, hF⟩
  · rcases ic hF with ⟨-, hF⟩ | ⟨-, hF⟩
    · rcases tbd hF with ⟨k, -, hF⟩ | ⟨u0, q0, hF⟩
      · exact nomatch hF
      have rm := nRU I.1.1.2.1 I.1.1.1 I.2.2.1.1 I.2.1.2.2.2.1
      by_cases q : U < 12 ∧ t = 0
      · obtain ⟨R, e4, hF⟩ := bd hF
        cases hF
        unfold f_X5_addSource at e4
        obtain ⟨R1, e5, e4⟩ := bd e4
        cases e4
        obtain ⟨p1, p2, p3, p4⟩ := n5_fr I.1.1.2.1 q.1 e5
        exact ⟨q.1, p1, nw_J (kd := 0) I X q.2 q.1 I' p3, p2⟩
      · rw [rm.2 q] at q0; exact nomatch q0
    · exact nomatch hF
  · exact nomatch hF
theorem at_fr {o : ObS} {U : Nat} {x1 x2 x3 x4 : Int32} {R : Int32 × ObS} (h0 : o.1 0 0 = Int32.ofNat U) (hU : U < 12) (e : f_X5_addTaker o x1 x2 x3 x4 = some R) : R.1 = Int32.ofNat U ∧ R.2.1 1 = upd (o.1 1) U x1 ∧ R.2.1 0 0 = Int32.ofNat (U + 1) := by
  unfold f_X5_addTaker at e
  obtain ⟨r, e1, e⟩ := bd e
  obtain ⟨r2, e2, e⟩ := bd e
  obtain ⟨r3, e3, e⟩ := bd e
  cases e
  obtain ⟨p1, p2, p3, p4⟩ := n5_fr h0 hU e1
  have a := (pt_fr e2).1
  have b := (pt_fr e3).1
  exact ⟨p1, by rw [b 1 (by decide), a 1 (by decide), p2], by rw [b 0 (by decide), a 0 (by decide), p3]⟩
theorem ub105 {h h' : Nat → ObS} {x1 x2 x3 x4 k a : Int32} (hF : f_X6_unit_b105 h x1 x2 x3 x4 k = some (.inr (a, h'))) : (∃ u, f_X6_needRoomForUnit h = some (.inr u)) ∧ ∃ x3' R, f_X5_addTaker (h 3) x1 x2 x3' x4 = some R ∧ a = R.1 ∧ h' = hu h 3 R.2 := by
  unfold f_X6_unit_b105 at hF
  rcases tbd hF with ⟨k, -, hF⟩ | ⟨u0, q0, hF⟩
  · exact nomatch hF
  rcases ic hF with ⟨-, hF⟩ | ⟨-, hF⟩
  · obtain ⟨R, e4, hF⟩ := bd hF
    cases hF
    exact ⟨⟨u0, q0⟩, _, R, e4, rfl, rfl⟩
  · obtain ⟨R, e4, hF⟩ := bd hF
    cases hF
    exact ⟨⟨u0, q0⟩, _, R, e4, rfl, rfl⟩
theorem ub75 {h h' : Nat → ObS} {x1 x2 x3 x4 k a : Int32} (hF : f_X6_unit_b75 h x1 x2 x3 x4 k = some (.inr (a, h'))) : f_X6_unit_b105 h x1 x2 x3 x4 k = some (.inr (a, h')) := by
  unfold f_X6_unit_b75 at hF
  rcases tbd hF with ⟨k, -, hF⟩ | ⟨u0, q0, hF⟩
  · exact nomatch hF
  rcases ic hF with ⟨-, hF⟩ | ⟨-, hF⟩
  · exact hF
  · rcases tbd hF with ⟨k, -, hF⟩ | ⟨u0, q0, hF⟩
    · exact nomatch hF
    rcases ic hF with ⟨-, hF⟩ | ⟨-, hF⟩
    · exact nomatch hF
    · exact hF
theorem ub51 {h h' : Nat → ObS} {x1 x2 x3 x4 k a : Int32} (hF : f_X6_unit_b51 h x1 x2 x3 x4 k = some (.inr (a, h'))) : f_X6_unit_b105 h x1 x2 x3 x4 k = some (.inr (a, h')) := by
  unfold f_X6_unit_b51 at hF
  rcases ic hF with ⟨-, hF⟩ | ⟨-, hF⟩
  · exact ub75 hF
  · rcases ic hF with ⟨-, hF⟩ | ⟨-, hF⟩
    · exact nomatch hF
    · exact ub75 hF
theorem ub34 {h h' : Nat → ObS} {x1 x2 x3 x4 k a : Int32} (hF : f_X6_unit_b34 h x1 x2 x3 x4 k = some (.inr (a, h'))) : f_X6_unit_b105 h x1 x2 x3 x4 k = some (.inr (a, h')) := by
  unfold f_X6_unit_b34 at hF
  rcases tbd hF with ⟨k, -, hF⟩ | ⟨u0, q0, hF⟩
  · exact nomatch hF
  rcases ic hF with ⟨-, hF⟩ | ⟨-, hF⟩
  · exact ub51 hF
  · rcases tbd hF with ⟨k, -, hF⟩ | ⟨u0, q0, hF⟩
    · exact nomatch hF
    exact ub51 hF
theorem uu_fr {h h' : Nat → ObS} {x1 x2 x3 x4 a : Int32} (hF : f_X6_unit h x1 x2 x3 x4 = some (.inr (a, h'))) : ∃ k, f_X6_unit_b105 h x1 x2 x3 x4 k = some (.inr (a, h')) := by
  unfold f_X6_unit at hF
  rcases ic hF with ⟨-, hF⟩ | ⟨-, hF⟩
  · rcases ic hF with ⟨-, hF⟩ | ⟨-, hF⟩
    · exact ⟨_, ub34 hF⟩
    · rcases ic hF with ⟨-, hF⟩ | ⟨-, hF⟩
      · exact ⟨_, ub34 hF⟩
      · exact ⟨_, ub34 hF⟩
  · exact nomatch hF
theorem o_unit {h : Nat → ObS} {mo : ObS} {U C t : Nat} (I : INV h mo U C t) (X : EX h U t) (a b c d : Int32) : OUN h U a (f_L_does_1 h a b c d) (f_X7_unit mo a b c d) := by
  have A := ag_unit I a b c d z0
  unfold f_L_unit at A
  unfold f_L_does_1
  refine oun_of A (fun k x hx => by
    try dsimp only at hx
    repeat' split at hx
    all_goals first
      | (cases hx; exact ⟨by omega, by first | exact (show (1 : Int32) ≠ 0 by decide) | exact (show (2 : Int32) ≠ 0 by decide) | exact (show (3 : Int32) ≠ 0 by decide) | exact (show (4 : Int32) ≠ 0 by decide)⟩)
      | exact nomatch hx) (fun r h' mo' U' C' t' hF I' => ?_)
  obtain ⟨k, hF⟩ := uu_fr hF
  obtain ⟨⟨u0, q0⟩, x3', R, e4, rfl, rfl⟩ := ub105 hF
  have rm := nRU I.1.1.2.1 I.1.1.1 I.2.2.1.1 I.2.1.2.2.2.1
  by_cases q : U < 12 ∧ t = 0
  · obtain ⟨p1, p2, p3⟩ := at_fr I.1.1.2.1 q.1 e4
    exact ⟨q.1, p1, nw_J (kd := a) I X q.2 q.1 I' p3, p2⟩
  · rw [rm.2 q] at q0; exact nomatch q0
/-! two trains that one picture stands for -/
def TWO (U : Nat) (h g : Nat → ObS) (mo : ObS) (L1 L2 : Option (Int32 × (Nat → ObS))) : Prop :=
  (L1 = some (-2100000000, h) ∧ L2 = some (-2100000000, g)) ∨ ∃ (r : Int32) (h' g' : Nat → ObS) (mo' : ObS), L1 = some (r, h') ∧ L2 = some (r, g') ∧ J h' mo' U ∧ J g' mo' U ∧ (h' 3).1 1 = (h 3).1 1 ∧ (g' 3).1 1 = (g 3).1 1 ∧ (r = -2100000000 → J h' mo U)
theorem two_of {U : Nat} {h g : Nat → ObS} {mo : ObS} {L1 L2 : Option (Int32 × (Nat → ObS))} {M : Option (Int32 × ObS)} (Jh : J h mo U) (o1 : OUT h U L1 M) (o2 : OUT g U L2 M) : TWO U h g mo L1 L2 := by
  obtain ⟨r, mo', e1, a1⟩ := o1
  obtain ⟨r', mo'', e2, a2⟩ := o2
  rw [e1] at e2
  cases e2
  rcases a1 with ⟨z, a1⟩ | ⟨z, h', a1, a2', a3, a4⟩
  · rcases a2 with ⟨z', b1⟩ | ⟨z', -⟩
    · exact Or.inl ⟨a1, b1⟩
    · exact absurd z' z
  · rcases a2 with ⟨z', -⟩ | ⟨z', g', b1, b2, b3, -⟩
    · exact absurd z z'
    · refine Or.inr ⟨r, h', g', mo', a1, b1, a2', b2, a3, b3, fun q => ?_⟩
      rcases a4 with a4 | ⟨o2, rfl⟩
      · exact absurd q a4
      · obtain ⟨C, t, I, X⟩ := Jh
        exact ⟨C, t, INV_g2 I (fun _ _ => rfl) (fun _ _ _ _ _ => rfl), EX_co X rfl rfl X.2.1 X.2.2.1 rfl rfl rfl⟩
theorem two_b {U : Nat} {h g : Nat → ObS} {mo : ObS} {L1 L2 : Option (Int32 × (Nat → ObS))} (t : TWO U h g mo L1 L2) : TWO U h g mo (L1.bind fun r => some (r.1, r.2)) (L2.bind fun r => some (r.1, r.2)) := by
  have e : ∀ L : Option (Int32 × (Nat → ObS)), (L.bind fun r => some (r.1, r.2)) = L := fun L => by cases L <;> rfl
  rw [e, e]; exact t
theorem two_if {U : Nat} {h g : Nat → ObS} {mo : ObS} {A1 A2 B1 B2 : Option (Int32 × (Nat → ObS))} (c : Prop) [Decidable c] (a : TWO U h g mo A1 A2) (b : TWO U h g mo B1 B2) : TWO U h g mo (if c then A1 else B1) (if c then A2 else B2) := by
  by_cases q : c
  · rw [if_pos q, if_pos q]; exact a
  · rw [if_neg q, if_neg q]; exact b
theorem act_two {U : Nat} {h g : Nat → ObS} {mo : ObS} (Jh : J h mo U) (Jg : J g mo U) (v : Int32) : TWO U h g mo (f_L_act h v) (f_L_act g v) := by
  obtain ⟨C, t, I, X⟩ := id Jh
  obtain ⟨C', t', I', X'⟩ := id Jg
  have t3 := fun a b c d => two_b (two_of Jh (o_set I X a b c d) (o_set I' X' a b c d))
  have t4 := fun a b c d => two_b (two_of Jh (o_disturb I X a b c d) (o_disturb I' X' a b c d))
  have t5 := fun a b c d => two_b (two_of Jh (o_control I X a b c d) (o_control I' X' a b c d))
  have t6 := fun a b c d => two_b (two_of Jh (o_ratio I X a b c d) (o_ratio I' X' a b c d))
  have t7 := fun a b c d => two_b (two_of Jh (o_feed I X a b c d) (o_feed I' X' a b c d))
  have t8 := fun a b c d => two_b (two_of Jh (o_aim I X a b c d) (o_aim I' X' a b c d))
  have t9 := fun a b c d => two_b (two_of Jh (o_select I X a b c d) (o_select I' X' a b c d))
  have t10 := fun a b c d => two_b (two_of Jh (o_tick I X a b c d) (o_tick I' X' a b c d))
  have t11 := fun a b c d => two_b (two_of Jh (o_quit I X a b c d) (o_quit I' X' a b c d))
  have t16 := fun a b c d => two_b (two_of Jh (o_gain I X a b c d) (o_gain I' X' a b c d))
  have t17 := fun a b c d => two_b (two_of Jh (o_relative I X a b c d) (o_relative I' X' a b c d))
  unfold f_L_act
  refine two_if _ ?_ ?_
  · refine two_if _ ?_ ?_
    · refine two_if _ ?_ ?_
      · refine two_if _ ?_ ?_
        · refine two_if _ ?_ ?_
          · refine two_if _ ?_ ?_
            · exact t17 _ _ _ _
            · exact t10 _ _ _ _
          · exact t16 _ _ _ _
        · exact t11 _ _ _ _
      · refine two_if _ ?_ ?_
        · refine two_if _ ?_ ?_
          · exact t9 _ _ _ _
          · exact t4 _ _ _ _
        · exact t3 _ _ _ _
    · refine two_if _ ?_ ?_
      · refine two_if _ ?_ ?_
        · refine two_if _ ?_ ?_
          · refine two_if _ ?_ ?_
            · exact t8 _ _ _ _
            · exact t7 _ _ _ _
          · refine two_if _ ?_ ?_
            · exact t6 _ _ _ _
            · exact t6 _ _ _ _
        · refine two_if _ ?_ ?_
          · exact t5 _ _ _ _
          · exact t5 _ _ _ _
      · refine two_if _ ?_ ?_
        · refine two_if _ ?_ ?_
          · refine two_if _ ?_ ?_
            · exact t8 _ _ _ _
            · exact t7 _ _ _ _
          · refine two_if _ ?_ ?_
            · exact t6 _ _ _ _
            · exact t6 _ _ _ _
        · refine two_if _ ?_ ?_
          · exact t5 _ _ _ _
          · exact t5 _ _ _ _
  · refine two_if _ ?_ ?_
    · refine two_if _ ?_ ?_
      · refine two_if _ ?_ ?_
        · refine two_if _ ?_ ?_
          · refine two_if _ ?_ ?_
            · refine two_if _ ?_ ?_
              · exact t17 _ _ _ _
              · exact t10 _ _ _ _
            · exact t16 _ _ _ _
          · exact t11 _ _ _ _
        · refine two_if _ ?_ ?_
          · refine two_if _ ?_ ?_
            · exact t9 _ _ _ _
            · exact t4 _ _ _ _
          · exact t3 _ _ _ _
      · refine two_if _ ?_ ?_
        · refine two_if _ ?_ ?_
          · refine two_if _ ?_ ?_
            · refine two_if _ ?_ ?_
              · exact t8 _ _ _ _
              · exact t7 _ _ _ _
            · refine two_if _ ?_ ?_
              · exact t6 _ _ _ _
              · exact t6 _ _ _ _
          · refine two_if _ ?_ ?_
            · exact t5 _ _ _ _
            · exact t5 _ _ _ _
        · refine two_if _ ?_ ?_
          · refine two_if _ ?_ ?_
            · refine two_if _ ?_ ?_
              · exact t8 _ _ _ _
              · exact t7 _ _ _ _
            · refine two_if _ ?_ ?_
              · exact t6 _ _ _ _
              · exact t6 _ _ _ _
          · refine two_if _ ?_ ?_
            · exact t5 _ _ _ _
            · exact t5 _ _ _ _
    · refine two_if _ ?_ ?_
      · refine two_if _ ?_ ?_
        · refine two_if _ ?_ ?_
          · refine two_if _ ?_ ?_
            · refine two_if _ ?_ ?_
              · exact t17 _ _ _ _
              · exact t10 _ _ _ _
            · exact t16 _ _ _ _
          · exact t11 _ _ _ _
        · refine two_if _ ?_ ?_
          · refine two_if _ ?_ ?_
            · exact t9 _ _ _ _
            · exact t4 _ _ _ _
          · exact t3 _ _ _ _
      · refine two_if _ ?_ ?_
        · refine two_if _ ?_ ?_
          · refine two_if _ ?_ ?_
            · refine two_if _ ?_ ?_
              · exact t8 _ _ _ _
              · exact t7 _ _ _ _
            · refine two_if _ ?_ ?_
              · exact t6 _ _ _ _
              · exact t6 _ _ _ _
          · refine two_if _ ?_ ?_
            · exact t5 _ _ _ _
            · exact t5 _ _ _ _
        · refine two_if _ ?_ ?_
          · refine two_if _ ?_ ?_
            · refine two_if _ ?_ ?_
              · exact t8 _ _ _ _
              · exact t7 _ _ _ _
            · refine two_if _ ?_ ?_
              · exact t6 _ _ _ _
              · exact t6 _ _ _ _
          · refine two_if _ ?_ ?_
            · exact t5 _ _ _ _
            · exact t5 _ _ _ _
/-! what is asked -/
theorem ar_un {h : Nat → ObS} {F : Option (Nat ⊕ Int32)} {w : ObS} {e : Nat → Option (Int32 × ObS)} {M : Option (Int32 × ObS)} (A : AR h (F.bind fun R0 => sumE R0 e (fun r => some ((0 : Int32), oj w 0 ((0 : Int32).toNatClampNeg) r.toInt64))) M) (he : ∀ k x, e k = some x → (k = 1 ∨ k = 2 ∨ k = 3) ∧ x.1 ≠ 0) :
    ∃ (r : Int32) (mo' : ObS), M = some (r, mo') ∧ ((mo'.1 0 0 ≠ 0 ∧ ∃ k, (k = 1 ∨ k = 2 ∨ k = 3) ∧ F = some (.inl k)) ∨ (mo'.1 0 0 = 0 ∧ F = some (.inr r))) := by
  obtain ⟨k, w', r, mo', U, C, t, e1, e2, e3, e4, I⟩ := A
  refine ⟨r, mo', e2, ?_⟩
  match F, e1 with
  | some (.inl k0), e1 =>
    have e1 : e k0 = some (k, w') := e1
    have := he k0 _ e1
    exact Or.inl ⟨by rw [e3]; exact this.2, k0, this.1, rfl⟩
  | some (.inr q), e1 =>
    have e1 : some ((0 : Int32), oj w 0 ((0 : Int32).toNatClampNeg) q.toInt64) = some (k, w') := e1
    cases e1
    have e5 := e4 rfl
    rw [show (oj w 0 ((0 : Int32).toNatClampNeg) q.toInt64).2 0 0 = q.toInt64 from rfl] at e5
    obtain rfl := c64 e5
    exact Or.inr ⟨e3, rfl⟩
def DQ (F : Option (Nat ⊕ Int32)) : Option Int32 := F.bind fun R0 => sumE R0 (fun k => if k = 3 then some (-2100000000 : Int32) else if k = 1 then some (-2100000000) else if k = 2 then some (-2100000000) else none) (fun r => some r)
theorem DQ_l {k : Nat} (h : k = 1 ∨ k = 2 ∨ k = 3) : DQ (some (.inl k)) = some (-2100000000) := by
  rcases h with rfl | rfl | rfl <;> rfl
theorem q_two {h g : Nat → ObS} {F G : Option (Nat ⊕ Int32)} {w : ObS} {e : Nat → Option (Int32 × ObS)} {M : Option (Int32 × ObS)} (A : AR h (F.bind fun R0 => sumE R0 e (fun r => some ((0 : Int32), oj w 0 ((0 : Int32).toNatClampNeg) r.toInt64))) M) (B : AR g (G.bind fun R0 => sumE R0 e (fun r => some ((0 : Int32), oj w 0 ((0 : Int32).toNatClampNeg) r.toInt64))) M) (he : ∀ k x, e k = some x → (k = 1 ∨ k = 2 ∨ k = 3) ∧ x.1 ≠ 0) : ∃ r, DQ F = some r ∧ DQ G = some r := by
  obtain ⟨r, mo', e1, a1⟩ := ar_un A he
  obtain ⟨r', mo'', e2, a2⟩ := ar_un B he
  rw [e1] at e2
  cases e2
  rcases a1 with ⟨z, k, hk, rfl⟩ | ⟨z, rfl⟩
  · rcases a2 with ⟨z', k', hk', rfl⟩ | ⟨z', -⟩
    · exact ⟨_, DQ_l hk, DQ_l hk'⟩
    · exact absurd z' z
  · rcases a2 with ⟨z', -⟩ | ⟨z', rfl⟩
    · exact absurd z z'
    · exact ⟨r, rfl, rfl⟩
section QT
variable {h g : Nat → ObS} {mo : ObS} {U C t C' t' : Nat}
theorem q12 (I : INV h mo U C t) (I' : INV g mo U C' t') (a b c d : Int32) : ∃ r, f_L_does_12 h a b c d = some r ∧ f_L_does_12 g a b c d = some r := by
  have A := ag_of I a b z0
  have B := ag_of I' a b z0
  unfold f_L_of at A B
  exact q_two A B (fun k x hx => by
    try dsimp only at hx
    repeat' split at hx
    all_goals first
      | (cases hx; exact ⟨by omega, by first | exact (show (1 : Int32) ≠ 0 by decide) | exact (show (2 : Int32) ≠ 0 by decide) | exact (show (3 : Int32) ≠ 0 by decide) | exact (show (4 : Int32) ≠ 0 by decide)⟩)
      | exact nomatch hx)
theorem q13 (I : INV h mo U C t) (I' : INV g mo U C' t') (a b c d : Int32) : ∃ r, f_L_does_13 h a b c d = some r ∧ f_L_does_13 g a b c d = some r := by
  have A := ag_ofUnit I a b z0
  have B := ag_ofUnit I' a b z0
  unfold f_L_ofUnit at A B
  exact q_two A B (fun k x hx => by
    try dsimp only at hx
    repeat' split at hx
    all_goals first
      | (cases hx; exact ⟨by omega, by first | exact (show (1 : Int32) ≠ 0 by decide) | exact (show (2 : Int32) ≠ 0 by decide) | exact (show (3 : Int32) ≠ 0 by decide) | exact (show (4 : Int32) ≠ 0 by decide)⟩)
      | exact nomatch hx)
theorem q14 (I : INV h mo U C t) (I' : INV g mo U C' t') (a b c d : Int32) : ∃ r, f_L_does_14 h a b c d = some r ∧ f_L_does_14 g a b c d = some r := by
  have A := ag_ofC I a b z0
  have B := ag_ofC I' a b z0
  unfold f_L_ofController at A B
  exact q_two A B (fun k x hx => by
    try dsimp only at hx
    repeat' split at hx
    all_goals first
      | (cases hx; exact ⟨by omega, by first | exact (show (1 : Int32) ≠ 0 by decide) | exact (show (2 : Int32) ≠ 0 by decide) | exact (show (3 : Int32) ≠ 0 by decide) | exact (show (4 : Int32) ≠ 0 by decide)⟩)
      | exact nomatch hx)
theorem q15 (I : INV h mo U C t) (I' : INV g mo U C' t') (a b c d : Int32) : ∃ r, f_L_does_15 h a b c d = some r ∧ f_L_does_15 g a b c d = some r := by
  have A := ag_trend I a b z0
  have B := ag_trend I' a b z0
  unfold f_L_trend at A B
  exact q_two A B (fun k x hx => by
    try dsimp only at hx
    repeat' split at hx
    all_goals first
      | (cases hx; exact ⟨by omega, by first | exact (show (1 : Int32) ≠ 0 by decide) | exact (show (2 : Int32) ≠ 0 by decide) | exact (show (3 : Int32) ≠ 0 by decide) | exact (show (4 : Int32) ≠ 0 by decide)⟩)
      | exact nomatch hx)
theorem al_step (I : INV h mo U C t) (I' : INV g mo U C' t') (k : Int32 → Int32 → Option Int32) (x v j : Int32) (n : Nat) (hj : ¬ (4 : Int32) ≤ j) : f_L_areAlike_b45 k h g x v (n + 1) j 1 = f_L_areAlike_b45 k h g x v n (j + 1) 1 := by
  obtain ⟨r1, a1, b1⟩ := q12 I I' v j 0 0
  obtain ⟨r2, a2, b2⟩ := q14 I I' v j 0 0
  obtain ⟨r3, a3, b3⟩ := q13 I I' (v / (2 : Int32)) j 0 0
  conv => lhs; unfold f_L_areAlike_b45
  rw [if_neg hj, if_neg n10, a1, b1, Option.bind_some, Option.bind_some, if_pos rfl, a2, b2, Option.bind_some, Option.bind_some, if_pos rfl, a3, b3, Option.bind_some, Option.bind_some, if_pos rfl]
theorem al_exit (I : INV h mo U C t) (I' : INV g mo U C' t') (k : Int32 → Int32 → Option Int32) (x v j : Int32) (n : Nat) (hj : (4 : Int32) ≤ j) : f_L_areAlike_b45 k h g x v (n + 1) j 1 = k 1 (v + 1) := by
  obtain ⟨r1, a1, b1⟩ := q15 I I' v (lw x 90) 0 0
  conv => lhs; unfold f_L_areAlike_b45
  rw [if_pos hj, if_neg n10, a1, b1, Option.bind_some, Option.bind_some, if_pos rfl]
theorem al_in (I : INV h mo U C t) (I' : INV g mo U C' t') (k : Int32 → Int32 → Option Int32) (x v : Int32) : f_L_areAlike_b45 k h g x v 5 0 1 = k 1 (v + 1) :=
  (al_step I I' k x v 0 4 (by decide)).trans ((al_step I I' k x v (0 + 1) 3 (by decide)).trans ((al_step I I' k x v (0 + 1 + 1) 2 (by decide)).trans ((al_step I I' k x v (0 + 1 + 1 + 1) 1 (by decide)).trans (al_exit I I' k x v (0 + 1 + 1 + 1 + 1) 0 (by decide)))))
theorem al_lp (I : INV h mo U C t) (I' : INV g mo U C' t') (x : Int32) : ∀ (d i n : Nat), i + d = 24 → d < n → f_L_areAlike_b31 h g x n 1 (Int32.ofNat i) = some 1
  | d, i, 0, hi, hn => by omega
  | 0, i, n + 1, hi, hn => by
    obtain rfl : i = 24 := by omega
    unfold f_L_areAlike_b31
    rw [if_pos (show (24 : Int32) ≤ Int32.ofNat 24 by decide), if_pos (show isb 1 = true by decide)]
  | d + 1, i, n + 1, hi, hn => by
    unfold f_L_areAlike_b31
    rw [if_neg (fun z => by have := (ix_le (i := 24) (by omega) (by omega)).mp z; omega), if_neg n10, al_in I I', ix_suc]
    exact al_lp I I' x d (i + 1) n (by omega) (by omega)
theorem alike_true (I : INV h mo U C t) (I' : INV g mo U C' t') (x : Int32) : f_L_areAlike h g x = some 1 := by
  have n1 : f_X6_now h = f_X6_now g := by
    unfold f_X6_now
    have a := I.2.2.1
    have b := I'.2.2.1
    rw [a.1, b.1, ← a.2, ← b.2]
  have n2 : f_X6_alarms h = f_X6_alarms g := by
    unfold f_X6_alarms f_X0_count
    obtain ⟨A, ⟨q0, q1, -⟩, -⟩ := I.2.2.2.2.2.1
    obtain ⟨B, ⟨p0, p1, -⟩, -⟩ := I'.2.2.2.2.2.1
    rw [q0, p0, ← q1, ← p1]
  unfold f_L_areAlike
  rw [if_pos n1, if_pos n2]
  exact al_lp I I' x 24 0 25 (by omega) (by omega)
end QT
