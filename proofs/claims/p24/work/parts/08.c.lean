/-! a call: it throws and changes nothing, or both sides answer alike -/
def J (h : Nat → ObS) (mo : ObS) (U : Nat) : Prop := ∃ C t, INV h mo U C t ∧ EX h U t
def OUT (h : Nat → ObS) (U : Nat) (L : Option (Int32 × (Nat → ObS))) (M : Option (Int32 × ObS)) : Prop :=
  ∃ (r : Int32) (mo' : ObS), M = some (r, mo') ∧ ((mo'.1 0 0 ≠ 0 ∧ L = some (-2100000000, h)) ∨ (mo'.1 0 0 = 0 ∧ ∃ h' : Nat → ObS, L = some (r, h') ∧ J h' mo' U ∧ (h' 3).1 1 = (h 3).1 1 ∧ (r ≠ -2100000000 ∨ ∃ o2, h' = hu h 2 o2)))
theorem c64 {a b : Int32} (h : a.toInt64 = b.toInt64) : a = b := by
  have := congrArg Int64.toInt32 h; rw [to_32, to_32] at this; exact this
theorem INV_U {h h' : Nat → ObS} {mo mo' : ObS} {U C t U' C' t' : Nat} (I : INV h mo U C t) (I' : INV h' mo' U' C' t') (k0 : (h' 3).1 0 = (h 3).1 0) : U' = U := by
  have a := I.1.1.2.1
  have b := I'.1.1.2.1
  have u1 := I.1.1.1
  have u2 := I'.1.1.1
  rw [k0, a, ix_eq (by omega) (by omega)] at b
  exact b.symm
theorem INV_t {h h' : Nat → ObS} {mo mo' : ObS} {U C t U' C' t' : Nat} (I : INV h mo U C t) (I' : INV h' mo' U' C' t') (f0 : h' 0 = h 0) : t' = t := by
  have a := I.2.2.1.1
  have b := I'.2.2.1.1
  have u1 := I.2.1.2.2.2.1
  have u2 := I'.2.1.2.2.2.1
  rw [f0, a, ix_eq (by omega) (by omega)] at b
  exact b.symm
theorem J_fr {h h' : Nat → ObS} {mo mo' : ObS} {U C t U' C' t' : Nat} (I : INV h mo U C t) (X : EX h U t) (I' : INV h' mo' U' C' t') (f0 : h' 0 = h 0) (e7 : h' 7 = h 7) (e1 : h' 1 = h 1) (e5 : NE (h' 5)) (e4 : SB (h' 4)) (k0 : (h' 3).1 0 = (h 3).1 0) (k1 : (h' 3).1 1 = (h 3).1 1) (k7 : (h' 3).2 7 = (h 3).2 7) (k6 : (h' 3).1 6 = (h 3).1 6) : J h' mo' U := by
  obtain rfl := INV_U I I' k0
  obtain rfl := INV_t I I' f0
  exact ⟨C', t', I', EX_co X e7 e1 e5 e4 k1 k7 k6⟩
theorem J_3 {h : Nat → ObS} {mo mo' o : ObS} {U C t U' C' t' : Nat} (I : INV h mo U C t) (X : EX h U t) (I' : INV (hu h 3 o) mo' U' C' t') (a : ∀ k, k ≠ 3 → k ≠ 8 → o.1 k = (h 3).1 k) (b : o.2 = (h 3).2) : J (hu h 3 o) mo' U :=
  J_fr I X I' rfl rfl rfl X.2.1 X.2.2.1 (a 0 (by decide) (by decide)) (a 1 (by decide) (by decide)) (congrArg (fun z => z 7) b) (a 6 (by decide) (by decide))
theorem J_4 {h : Nat → ObS} {mo mo' o : ObS} {U C t U' C' t' : Nat} (I : INV h mo U C t) (X : EX h U t) (I' : INV (hu h 4 o) mo' U' C' t') (b : o.2 11 = (h 4).2 11) : J (hu h 4 o) mo' U :=
  J_fr I X I' rfl rfl rfl X.2.1 (fun k => by show _ ≤ (o.2 11 k).toInt ∧ (o.2 11 k).toInt ≤ _; rw [b]; exact X.2.2.1 k) rfl rfl rfl rfl
/-- what a call of the whole's picture says of the class's own answer -/
theorem ag_un {F : Option (Nat ⊕ (Int32 × (Nat → ObS)))} {w : ObS} {e : Nat → Option (Int32 × (Nat → ObS) × ObS)} {M : Option (Int32 × ObS)} (A : AG (F.bind fun R0 => sumE R0 e (fun r => some ((0 : Int32), r.2, oj w 0 ((0 : Int32).toNatClampNeg) r.1.toInt64))) M) (he : ∀ k x, e k = some x → (k = 1 ∨ k = 2 ∨ k = 3) ∧ x.1 ≠ 0) :
    (∃ k r mo', (k = 1 ∨ k = 2 ∨ k = 3) ∧ F = some (.inl k) ∧ M = some (r, mo') ∧ mo'.1 0 0 ≠ 0) ∨ (∃ a h' mo' U C t, F = some (.inr (a, h')) ∧ M = some (a, mo') ∧ mo'.1 0 0 = 0 ∧ INV h' mo' U C t) := by
  obtain ⟨k, h', w', r, mo', U, C, t, e1, e2, e3, e4, I⟩ := A
  match F, e1 with
  | some (.inl k0), e1 =>
    have e1 : e k0 = some (k, h', w') := e1
    have := he k0 _ e1
    exact Or.inl ⟨k0, r, mo', this.1, rfl, e2, by rw [e3]; exact this.2⟩
  | some (.inr q), e1 =>
    have e1 : some ((0 : Int32), q.2, oj w 0 ((0 : Int32).toNatClampNeg) q.1.toInt64) = some (k, h', w') := e1
    cases e1
    have e5 := e4 rfl
    rw [show (oj w 0 ((0 : Int32).toNatClampNeg) q.1.toInt64).2 0 0 = q.1.toInt64 from rfl] at e5
    obtain rfl := c64 e5
    exact Or.inr ⟨q.1, q.2, mo', U, C, t, rfl, e2, e3, I⟩
theorem do_th {F : Option (Nat ⊕ (Int32 × (Nat → ObS)))} {h : Nat → ObS} {k : Nat} (hk : k = 1 ∨ k = 2 ∨ k = 3) (hF : F = some (.inl k)) : (F.bind fun R0 => sumE R0 (fun k => if k = 3 then some ((-2100000000 : Int32), h) else if k = 1 then some ((-2100000000), h) else if k = 2 then some ((-2100000000), h) else none) (fun r => some (r.1, r.2))) = some (-2100000000, h) := by
  subst hF; rcases hk with rfl | rfl | rfl <;> rfl
theorem do_ok {F : Option (Nat ⊕ (Int32 × (Nat → ObS)))} {h h' : Nat → ObS} {a : Int32} (hF : F = some (.inr (a, h'))) : (F.bind fun R0 => sumE R0 (fun k => if k = 3 then some ((-2100000000 : Int32), h) else if k = 1 then some ((-2100000000), h) else if k = 2 then some ((-2100000000), h) else none) (fun r => some (r.1, r.2))) = some (a, h') := by
  subst hF; rfl
theorem out_of {F : Option (Nat ⊕ (Int32 × (Nat → ObS)))} {h : Nat → ObS} {U : Nat} {w : ObS} {e : Nat → Option (Int32 × (Nat → ObS) × ObS)} {M : Option (Int32 × ObS)} (A : AG (F.bind fun R0 => sumE R0 e (fun r => some ((0 : Int32), r.2, oj w 0 ((0 : Int32).toNatClampNeg) r.1.toInt64))) M) (he : ∀ k x, e k = some x → (k = 1 ∨ k = 2 ∨ k = 3) ∧ x.1 ≠ 0)
    (ok : ∀ (a : Int32) (h' : Nat → ObS) (mo' : ObS) (U' C' t' : Nat), F = some (.inr (a, h')) → INV h' mo' U' C' t' → J h' mo' U ∧ (h' 3).1 1 = (h 3).1 1 ∧ (a ≠ -2100000000 ∨ ∃ o2, h' = hu h 2 o2)) :
    OUT h U (F.bind fun R0 => sumE R0 (fun k => if k = 3 then some ((-2100000000 : Int32), h) else if k = 1 then some ((-2100000000), h) else if k = 2 then some ((-2100000000), h) else none) (fun r => some (r.1, r.2))) M := by
  rcases ag_un A he with ⟨k, r, mo', hk, hF, hM, h0⟩ | ⟨a, h', mo', U', C', t', hF, hM, h0, I'⟩
  · exact ⟨r, mo', hM, Or.inl ⟨h0, do_th hk hF⟩⟩
  · exact ⟨a, mo', hM, Or.inr ⟨h0, h', do_ok hF, ok a h' mo' U' C' t' hF I'⟩⟩
/-! what the class's own calls leave as it was -/
theorem pn_fr {o o' : ObS} {x y : Int32} (e : f_X5_putNumber o x y = some o') : (∀ k, k ≠ 3 → o'.1 k = o.1 k) ∧ o'.2 = o.2 := by
  unfold f_X5_putNumber at e
  rcases ic e with ⟨-, e⟩ | ⟨-, e⟩
  · cases e; exact ⟨fun _ _ => rfl, rfl⟩
  · obtain ⟨-, e⟩ := gd e
    obtain ⟨s, e1, e⟩ := bd e
    cases e1; cases e
    exact ⟨fun k hk => oi_n hk, rfl⟩
theorem tc_fr {o : ObS} {x : Int32} {R : Int32 × ObS} (e : f_X5_turnChoice o x = some R) : (∀ k, k ≠ 8 → R.2.1 k = o.1 k) ∧ R.2.2 = o.2 := by
  unfold f_X5_turnChoice at e
  rcases ic e with ⟨-, e⟩ | ⟨-, e⟩
  · obtain ⟨r, -, e⟩ := bd e
    obtain ⟨-, e⟩ := gd e
    cases e; exact ⟨fun _ _ => rfl, rfl⟩
  · obtain ⟨-, e⟩ := gd e
    rcases ic e with ⟨-, e⟩ | ⟨-, e⟩
    · obtain ⟨-, e⟩ := gd e
      obtain ⟨s, e1, e⟩ := bd e
      cases e1
      obtain ⟨r, -, e⟩ := bd e
      obtain ⟨-, e⟩ := gd e
      cases e; exact ⟨fun k hk => oi_n hk, rfl⟩
    · obtain ⟨-, e⟩ := gd e
      obtain ⟨s, e1, e⟩ := bd e
      cases e1
      obtain ⟨r, -, e⟩ := bd e
      obtain ⟨-, e⟩ := gd e
      cases e; exact ⟨fun k hk => oi_n hk, rfl⟩
theorem ad_fr {o : ObS} {x y z : Int32} {R : Int32 × ObS} (e : f_X1_add o x y z = some R) : R.2.2 = o.2 ∧ (R.1 = o.1 0 0 ∨ R.1 = -1) := by
  unfold f_X1_add at e
  rcases ic e with ⟨-, e⟩ | ⟨-, e⟩
  · obtain ⟨s, e1, e⟩ := bd e
    cases e1
    obtain ⟨-, e⟩ := gd e
    obtain ⟨s, e1, e⟩ := bd e
    cases e1
    obtain ⟨-, e⟩ := gd e
    obtain ⟨s, e1, e⟩ := bd e
    cases e1
    obtain ⟨-, e⟩ := gd e
    obtain ⟨s, e1, e⟩ := bd e
    cases e1
    obtain ⟨-, e⟩ := gd e
    obtain ⟨s, e1, e⟩ := bd e
    cases e1
    cases e; exact ⟨rfl, Or.inl rfl⟩
  · cases e; exact ⟨rfl, Or.inr rfl⟩
theorem am_fr {o : ObS} {x y z u v : Int32} {R : Int32 × ObS} (e : f_X1_addMeasuring o x y z u v = some R) : R.2.2 11 = o.2 11 ∧ (R.1 = o.1 0 0 ∨ R.1 = -1) := by
  unfold f_X1_addMeasuring at e
  obtain ⟨r, e0, e⟩ := bd e
  obtain ⟨a1, a2⟩ := ad_fr e0
  rcases ic e with ⟨-, e⟩ | ⟨-, e⟩
  · cases e; exact ⟨congrArg (fun z => z 11) a1, a2⟩
  · obtain ⟨-, e⟩ := gd e
    obtain ⟨s, e1, e⟩ := bd e
    cases e1
    obtain ⟨-, e⟩ := gd e
    obtain ⟨s, e1, e⟩ := bd e
    cases e1
    obtain ⟨-, e⟩ := gd e
    obtain ⟨s, e1, e⟩ := bd e
    cases e1
    obtain ⟨-, e⟩ := gd e
    obtain ⟨s, e1, e⟩ := bd e
    cases e1
    cases e
    exact ⟨congrArg (fun z => z 11) a1, a2⟩
theorem pf_fr {o o' : ObS} {x y z : Int32} (e : f_X1_putFeed o x y z = some o') : o'.2 = o.2 := by
  unfold f_X1_putFeed at e
  rcases ic e with ⟨-, e⟩ | ⟨-, e⟩
  · cases e; rfl
  · obtain ⟨-, e⟩ := gd e
    obtain ⟨s, e1, e⟩ := bd e
    cases e1
    obtain ⟨-, e⟩ := gd e
    obtain ⟨s, e1, e⟩ := bd e
    cases e1
    cases e; rfl
theorem aa_fr {o : ObS} {x y z : Int32} {R : Int32 × ObS} (e : f_X1_aimAt o x y z = some R) : R.2.2 11 = o.2 11 ∧ ∃ r, f_X1_goalOf o x = some r ∧ R.1 = r.toInt32 := by
  unfold f_X1_aimAt at e
  obtain ⟨r, e0, e⟩ := bd e
  rcases ic e with ⟨-, e⟩ | ⟨-, e⟩
  · cases e; exact ⟨rfl, r, e0, rfl⟩
  · obtain ⟨-, e⟩ := gd e
    obtain ⟨s, e1, e⟩ := bd e
    cases e1
    obtain ⟨-, e⟩ := gd e
    obtain ⟨s, e1, e⟩ := bd e
    cases e1
    cases e
    exact ⟨rfl, r, e0, rfl⟩
theorem tf_lp {o0 : ObS} {r1 : Int32} : ∀ (n : Nat) (v : Int32) (o : ObS) (R : Int32 × ObS), f_X0_takeFirst_b35 o0 r1 n v o = some R → NE o → NE R.2 ∧ R.1 = o0.1 1 r1.toNatClampNeg := by
  intro n
  induction n with
  | zero => intro v o R e; rw [f_X0_takeFirst_b35] at e; exact nomatch e
  | succ n ih =>
    intro v o R e hn
    have fin : ∀ x : Int32, NE (oi o 0 0 x) := fun x i => by rw [oi_i, if_neg (show ¬ 1 = 0 by decide)]; exact hn i
    rw [f_X0_takeFirst_b35] at e
    rcases ic e with ⟨-, e⟩ | ⟨-, e⟩
    · obtain ⟨s, e1, e⟩ := bd e
      cases e1; cases e; exact ⟨fin _, rfl⟩
    · rcases ic e with ⟨-, e⟩ | ⟨-, e⟩
      · obtain ⟨s, e1, e⟩ := bd e
        cases e1; cases e; exact ⟨fin _, rfl⟩
      · obtain ⟨-, e⟩ := gd e
        obtain ⟨-, e⟩ := gd e
        obtain ⟨s, e1, e⟩ := bd e
        cases e1
        obtain ⟨-, e⟩ := gd e
        obtain ⟨-, e⟩ := gd e
        obtain ⟨s, e1, e⟩ := bd e
        cases e1
        refine ih _ _ _ e (fun i => ?_)
        rw [oj_i, oi_i, if_pos rfl]
        unfold upd; split
        · exact hn _
        · exact hn i
theorem tf_fr {o : ObS} {R : Int32 × ObS} (e : f_X0_takeFirst o = some R) (hn : NE o) : NE R.2 ∧ R.1 ≠ -2100000000 := by
  unfold f_X0_takeFirst at e
  obtain ⟨r, -, e⟩ := bd e
  rcases ic e with ⟨-, e⟩ | ⟨-, e⟩
  · cases e; exact ⟨hn, (show (-1 : Int32) ≠ -2100000000 by decide)⟩
  · rcases ic e with ⟨-, e⟩ | ⟨-, e⟩
    · cases e; exact ⟨hn, (show (-1 : Int32) ≠ -2100000000 by decide)⟩
    · rcases ic e with ⟨-, e⟩ | ⟨-, e⟩
      · obtain ⟨-, e⟩ := gd e
        obtain ⟨a, b⟩ := tf_lp _ _ _ _ e hn
        exact ⟨a, by rw [b]; exact hn _⟩
      · cases e; exact ⟨hn, (show (-1 : Int32) ≠ -2100000000 by decide)⟩
/-! gains try on a row of their own -/
theorem wl24 {k : Int32 → (Nat → ObS) → Option (Int64 × (Nat → ObS))} {x2 x3 v14 : Int32} {h0 : Nat → ObS} (hk : ∀ v o R, k v (hu h0 2 o) = some R → ∃ o2, R.2 = hu h0 2 o2) : ∀ (n : Nat) (v : Int32) (o : ObS) (R : Int64 × (Nat → ObS)), f_X6_warmthLater_b24 k x2 x3 v14 n v (hu h0 2 o) = some R → ∃ o2, R.2 = hu h0 2 o2 := by
  intro n
  induction n with
  | zero => intro v o R e; rw [f_X6_warmthLater_b24] at e; exact nomatch e
  | succ n ih =>
    intro v o R e
    rw [f_X6_warmthLater_b24] at e
    rcases ic e with ⟨-, e⟩ | ⟨-, e⟩
    · exact hk _ _ _ e
    · rcases ic e with ⟨-, e⟩ | ⟨-, e⟩
      · obtain ⟨r, -, e⟩ := bd e
        rw [hu_hu] at e
        exact ih _ _ _ e
      · obtain ⟨r0, -, e⟩ := bd e
        obtain ⟨r, -, e⟩ := bd e
        rw [hu_hu] at e
        exact ih _ _ _ e
theorem wl14 {x1 x2 x3 : Int32} {h0 : Nat → ObS} : ∀ (n : Nat) (v : Int32) (o : ObS) (R : Int64 × (Nat → ObS)), f_X6_warmthLater_b14 x1 x2 x3 n v (hu h0 2 o) = some R → ∃ o2, R.2 = hu h0 2 o2 := by
  intro n
  induction n with
  | zero => intro v o R e; rw [f_X6_warmthLater_b14] at e; exact nomatch e
  | succ n ih =>
    intro v o R e
    rw [f_X6_warmthLater_b14] at e
    rcases ic e with ⟨-, e⟩ | ⟨-, e⟩
    · obtain ⟨r, -, e⟩ := bd e
      cases e; exact ⟨o, rfl⟩
    · exact wl24 (fun v o R e => ih v o R e) _ _ _ _ e
theorem wl_fr {h : Nat → ObS} {x y z : Int32} {R : Int64 × (Nat → ObS)} (e : f_X6_warmthLater h x y z = some R) : ∃ o2, R.2 = hu h 2 o2 := by
  unfold f_X6_warmthLater at e
  obtain ⟨r, -, e⟩ := bd e
  exact wl14 _ _ _ _ e
theorem g31_fr {h : Nat → ObS} {x y r k : Int32} {R : Int64 × (Nat → ObS)} (e : f_X6_gainOf_b31 h x y r k = some R) : ∃ o2, R.2 = hu h 2 o2 := by
  unfold f_X6_gainOf_b31 at e
  obtain ⟨r1, e1, e⟩ := bd e
  obtain ⟨r2, e2, e⟩ := bd e
  cases e
  obtain ⟨o1, q1⟩ := wl_fr e1
  obtain ⟨o2, q2⟩ := wl_fr e2
  exact ⟨o2, by dsimp only; rw [q2, q1, hu_hu]⟩
theorem go_fr {h : Nat → ObS} {x y : Int32} {R : Int64 × (Nat → ObS)} (e : f_X6_gainOf h x y = some R) : ∃ o2, R.2 = hu h 2 o2 := by
  unfold f_X6_gainOf at e
  obtain ⟨r1, -, e⟩ := bd e
  obtain ⟨r2, -, e⟩ := bd e
  rcases ic e with ⟨-, e⟩ | ⟨-, e⟩ <;> exact g31_fr e
