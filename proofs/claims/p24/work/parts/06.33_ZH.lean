def T2 (k : Int32) : Prop := k = 2 ∨ k = 3
def ARE (U : Nat) (k f s : Int32) : Prop := (0 ≤ f.toInt ∧ f.toInt < 2 * U + 2) ∧ (T2 k → 0 ≤ s.toInt ∧ s.toInt < 2 * U + 2)
def BAD (mo : ObS) (U : Nat) (k f s n : Int32) : Prop := (k ≠ 2 ∧ ¬ (0 ≤ n.toInt ∧ n.toInt ≤ (f_X7_mostOf k).toInt)) ∨ Tk mo U f ∨ (T2 k ∧ (Tk mo U s ∨ f = s))
theorem t2_y {k : Int32} (h : T2 k) : f_X7_takesTwo k = 1 := by rcases h with rfl | rfl <;> rfl
theorem t2_n {k : Int32} (h : ¬ T2 k) : f_X7_takesTwo k = 0 := by
  unfold f_X7_takesTwo; rw [if_neg (fun z => h (Or.inl z)), if_neg (fun z => h (Or.inr z))]
theorem mb54 {mo : ObS} {U : Nat} {k f s n : Int32} (h0 : mo.1 2 0 = Int32.ofNat U) (hU : U ≤ 12) (k54 : Int32) : (BAD mo U k f s n → f_X7_unit_b54 mo k f s n k54 = f_X7_unit_b105 mo k f s n k54 1) ∧ (¬ BAD mo U k f s n → f_X7_unit_b54 mo k f s n k54 = f_X7_unit_b105 mo k f s n k54 0) := by
  have hin : f_X7_in n 0 (f_X7_mostOf k) = if 0 ≤ n.toInt ∧ n.toInt ≤ (f_X7_mostOf k).toInt then 1 else 0 := in_c _ Iff.rfl
  have i1 := it_ok f h0 hU
  have i2 := it_ok s h0 hU
  have h74 : ((Tk mo U f ∨ (T2 k ∧ (Tk mo U s ∨ f = s))) → f_X7_unit_b74 mo k f s n k54 = f_X7_unit_b105 mo k f s n k54 1) ∧ (¬ (Tk mo U f ∨ (T2 k ∧ (Tk mo U s ∨ f = s))) → f_X7_unit_b74 mo k f s n k54 = f_X7_unit_b105 mo k f s n k54 0) := by
    unfold f_X7_unit_b74 f_X7_unit_b104 f_X7_unit_b100
    by_cases q1 : Tk mo U f
    · rw [i1.1 q1, Option.bind_some, if_neg n10]
      exact ⟨fun _ => rfl, fun z => absurd (Or.inl q1) z⟩
    · rw [i1.2 q1, Option.bind_some, if_pos (rfl : (0 : Int32) = 0)]
      by_cases q2 : T2 k
      · rw [t2_y q2, if_neg n10]
        by_cases q3 : Tk mo U s
        · rw [i2.1 q3, Option.bind_some, if_neg n10]
          exact ⟨fun _ => rfl, fun z => absurd (Or.inr ⟨q2, Or.inl q3⟩) z⟩
        · rw [i2.2 q3, Option.bind_some, if_pos (rfl : (0 : Int32) = 0)]
          by_cases q4 : f = s
          · rw [if_pos q4]; exact ⟨fun _ => rfl, fun z => absurd (Or.inr ⟨q2, Or.inr q4⟩) z⟩
          · rw [if_neg q4]; exact ⟨fun z => (z.elim q1 (fun y => y.2.elim q3 q4)).elim, fun _ => rfl⟩
      · rw [t2_n q2, if_pos (rfl : (0 : Int32) = 0)]
        exact ⟨fun z => (z.elim q1 (fun y => q2 y.1)).elim, fun _ => rfl⟩
  unfold f_X7_unit_b54
  by_cases q : k = 2
  · rw [if_pos q]
    exact ⟨fun z => h74.1 (z.elim (fun y => absurd q y.1) id), fun z => h74.2 (fun y => z (Or.inr y))⟩
  · rw [if_neg q, hin]
    by_cases p : 0 ≤ n.toInt ∧ n.toInt ≤ (f_X7_mostOf k).toInt
    · rw [if_pos p, if_neg n10]
      exact ⟨fun z => h74.1 (z.elim (fun y => absurd p y.2) id), fun z => h74.2 (fun y => z (Or.inr y))⟩
    · rw [if_neg p, if_pos (rfl : (0 : Int32) = 0)]
      exact ⟨fun _ => rfl, fun z => absurd (Or.inl ⟨q, p⟩) z⟩
theorem mun {mo : ObS} {U : Nat} {k f s n : Int32} (h0 : mo.1 2 0 = Int32.ofNat U) (hU : U ≤ 12) : (ARE U k f s → f_X7_unit mo k f s n = f_X7_unit_b54 mo k f s n 1) ∧ (¬ ARE U k f s → f_X7_unit mo k f s n = f_X7_unit_b54 mo k f s n 0) := by
  have e : ∀ x : Int32, f_X7_in x 0 (2 * mo.1 2 0 + 1) = if 0 ≤ x.toInt ∧ x.toInt < 2 * U + 2 then 1 else 0 := fun x => by
    rw [h0, ix_dbl, ix_suc]; exact in_c _ (by rw [ix_toInt (by omega), z32]; omega)
  unfold f_X7_unit f_X7_unit_b53 f_X7_unit_b49
  rw [e f, e s]
  by_cases q1 : 0 ≤ f.toInt ∧ f.toInt < 2 * U + 2
  · rw [if_pos q1, if_neg n10]
    by_cases q2 : T2 k
    · rw [t2_y q2, if_neg n10]
      by_cases q3 : 0 ≤ s.toInt ∧ s.toInt < 2 * U + 2
      · rw [if_pos q3, if_neg n10]; exact ⟨fun _ => rfl, fun z => absurd ⟨q1, fun _ => q3⟩ z⟩
      · rw [if_neg q3, if_pos (rfl : (0 : Int32) = 0)]; exact ⟨fun z => absurd (z.2 q2) q3, fun _ => rfl⟩
    · rw [t2_n q2, if_pos (rfl : (0 : Int32) = 0)]; exact ⟨fun _ => rfl, fun z => absurd ⟨q1, fun y => absurd y q2⟩ z⟩
  · rw [if_neg q1, if_pos (rfl : (0 : Int32) = 0)]; exact ⟨fun z => absurd z.1 q1, fun _ => rfl⟩
/-- the class's word, a kind's range given -/
theorem cun {h : Nat → ObS} {mo : ObS} {U : Nat} {k f s n : Int32} (G : GS (h 3) U) (R : UR (h 3) mo) (hk : k = 1 ∨ k = 2 ∨ k = 3 ∨ k = 4) :
    (¬ ARE U k f s → f_X6_unit h k f s n = some (.inl 3)) ∧ (ARE U k f s → BAD mo U k f s n → f_X6_unit h k f s n = some (.inl 2)) ∧ (ARE U k f s → ¬ BAD mo U k f s n → ∃ k34 : Int32, (T2 k → k34 = 1) ∧ (¬ T2 k → k34 = 0) ∧ f_X6_unit h k f s n = f_X6_unit_b105 h k f s n k34) := by
  have hU := G.1
  obtain ⟨k34, g1, g2, g3⟩ : ∃ k34 : Int32, (T2 k → k34 = 1) ∧ (¬ T2 k → k34 = 0) ∧ f_X6_unit h k f s n = f_X6_unit_b34 h k f s n k34 := by
    rcases hk with rfl | rfl | rfl | rfl
    · exact ⟨0, fun z => z.elim (fun y => absurd y (by decide)) (fun y => absurd y (by decide)), fun _ => rfl, rfl⟩
    · exact ⟨1, fun _ => rfl, fun z => absurd (Or.inl rfl) z, rfl⟩
    · exact ⟨1, fun _ => rfl, fun z => absurd (Or.inr rfl) z, rfl⟩
    · exact ⟨0, fun z => z.elim (fun y => absurd y (by decide)) (fun y => absurd y (by decide)), fun _ => rfl, rfl⟩
  have h34 : (¬ ARE U k f s → f_X6_unit_b34 h k f s n k34 = some (.inl 3)) ∧ (ARE U k f s → f_X6_unit_b34 h k f s n k34 = f_X6_unit_b51 h k f s n k34) := by
    unfold f_X6_unit_b34
    rw [nSN G.2.1 hU, tb_b, nSN G.2.1 hU, tb_b]
    by_cases q1 : 0 ≤ f.toInt ∧ f.toInt < 2 * U + 2
    · rw [if_pos q1]
      by_cases q2 : T2 k
      · rw [g1 q2, if_neg n10]
        by_cases q3 : 0 ≤ s.toInt ∧ s.toInt < 2 * U + 2
        · rw [if_pos q3]; exact ⟨fun z => absurd ⟨q1, fun _ => q3⟩ z, fun _ => rfl⟩
        · rw [if_neg q3]; exact ⟨fun _ => rfl, fun z => absurd (z.2 q2) q3⟩
      · rw [g2 q2, if_pos (rfl : (0 : Int32) = 0)]; exact ⟨fun z => absurd ⟨q1, fun y => absurd y q2⟩ z, fun _ => rfl⟩
    · rw [if_neg q1]; exact ⟨fun _ => rfl, fun z => absurd z.1 q1⟩
  have h75 : ARE U k f s → ((Tk mo U f ∨ (T2 k ∧ (Tk mo U s ∨ f = s))) → f_X6_unit_b75 h k f s n k34 = some (.inl 2)) ∧ (¬ (Tk mo U f ∨ (T2 k ∧ (Tk mo U s ∨ f = s))) → f_X6_unit_b75 h k f s n k34 = f_X6_unit_b105 h k f s n k34) := by
    intro A
    obtain ⟨a, ha, rfl⟩ := ix_ex (x := f) A.1.1
    have i1 := free_ok (s := a) G R ha
    unfold f_X6_unit_b75
    by_cases q1 : Tk mo U (Int32.ofNat a)
    · rw [i1.1 q1, tb_l]; exact ⟨fun _ => rfl, fun z => absurd (Or.inl q1) z⟩
    · rw [i1.2 q1, tb_r]
      by_cases q2 : T2 k
      · obtain ⟨b, hb, rfl⟩ := ix_ex (x := s) (A.2 q2).1
        have i2 := free_ok (s := b) G R hb
        rw [g1 q2, if_neg n10]
        by_cases q3 : Tk mo U (Int32.ofNat b)
        · rw [i2.1 q3, tb_l]; exact ⟨fun _ => rfl, fun z => absurd (Or.inr ⟨q2, Or.inl q3⟩) z⟩
        · rw [i2.2 q3, tb_r]
          by_cases q4 : Int32.ofNat a = Int32.ofNat b
          · rw [if_pos q4]; exact ⟨fun _ => rfl, fun z => absurd (Or.inr ⟨q2, Or.inr q4⟩) z⟩
          · rw [if_neg q4]; exact ⟨fun z => (z.elim q1 (fun y => y.2.elim q3 q4)).elim, fun _ => rfl⟩
      · rw [g2 q2, if_pos (rfl : (0 : Int32) = 0)]; exact ⟨fun z => (z.elim q1 (fun y => q2 y.1)).elim, fun _ => rfl⟩
  have hkk : k = 0 ∨ k = 1 ∨ k = 2 ∨ k = 3 ∨ k = 4 := by
    rcases hk with q | q | q | q
    · exact Or.inr (Or.inl q)
    · exact Or.inr (Or.inr (Or.inl q))
    · exact Or.inr (Or.inr (Or.inr (Or.inl q)))
    · exact Or.inr (Or.inr (Or.inr (Or.inr q)))
  have h51 : ARE U k f s → (BAD mo U k f s n → f_X6_unit_b51 h k f s n k34 = some (.inl 2)) ∧ (¬ BAD mo U k f s n → f_X6_unit_b51 h k f s n k34 = f_X6_unit_b105 h k f s n k34) := by
    intro A
    unfold f_X6_unit_b51
    by_cases q : k = 2
    · rw [if_pos q]
      exact ⟨fun z => (h75 A).1 (z.elim (fun y => absurd q y.1) id), fun z => (h75 A).2 (fun y => z (Or.inr y))⟩
    · rw [if_neg q]
      have hnb := mst6 hkk n
      have em := (mo_67 hkk q).2.1
      by_cases p : 0 ≤ n.toInt ∧ n.toInt ≤ mst k
      · rw [if_pos ⟨q, p⟩] at hnb
        rw [hnb, if_neg n10]
        exact ⟨fun z => (h75 A).1 (z.elim (fun y => absurd (by rw [em]; exact p) y.2) id), fun z => (h75 A).2 (fun y => z (Or.inr y))⟩
      · rw [if_neg (fun z => p z.2)] at hnb
        rw [hnb, if_pos (rfl : (0 : Int32) = 0)]
        exact ⟨fun _ => rfl, fun z => absurd (Or.inl ⟨q, by rw [em]; exact p⟩) z⟩
  refine ⟨fun z => by rw [g3]; exact h34.1 z, fun z b => by rw [g3, h34.2 z]; exact (h51 z).1 b, fun z b => ⟨k34, g1, g2, by rw [g3, h34.2 z]; exact (h51 z).2 b⟩⟩
theorem ag_unit {h : Nat → ObS} {mo : ObS} {U C t : Nat} (I : INV h mo U C t) (k f s n : Int32) (w : ObS) : AG (f_L_unit h k f s n w) (f_X7_unit mo k f s n) := by
  obtain ⟨⟨G, R, n1, n2, n3, n4, n5⟩, ⟨-, -, -, t1, -⟩, ⟨t2, t3⟩, -⟩ := id I
  have hU := G.1
  have r0 := R.1
  rw [G.2.1] at r0
  have m1 := mR r0.symm hU t3 t1
  have no : ∀ k' : Int32, k' ≠ 0 → f_X7_unit_b152 mo k f s n k' = some (0, oi mo 0 0 k') := fun k' hk => by
    unfold f_X7_unit_b152; rw [holds_0 hk]; rfl
  have hin : f_X7_in k 1 4 = if k = 1 ∨ k = 2 ∨ k = 3 ∨ k = 4 then 1 else 0 := in_c _ (by
    rw [i32, i32, i32, i32]; show (1 : Int) ≤ _ ∧ _ ≤ (4 : Int) ↔ _ = (1 : Int) ∨ _ = (2 : Int) ∨ _ = (3 : Int) ∨ _ = (4 : Int); omega)
  have hos : f_X6_isOutside k 1 4 = if k = 1 ∨ k = 2 ∨ k = 3 ∨ k = 4 then 0 else 1 := os_c _ (by
    rw [i32, i32, i32, i32]; show (1 : Int) ≤ _ ∧ _ ≤ (4 : Int) ↔ _ = (1 : Int) ∨ _ = (2 : Int) ∨ _ = (3 : Int) ∨ _ = (4 : Int); omega)
  -- the reference, up to its room
  have hm : ∃ a b : Int32, f_X7_unit mo k f s n = f_X7_unit_b105 mo k f s n a b ∧ (ARE U k f s → a = 1) ∧ (¬ ARE U k f s → a = 0) ∧ (BAD mo U k f s n → b = 1) ∧ (¬ BAD mo U k f s n → b = 0) := by
    have d1 := mun (k := k) (f := f) (s := s) (n := n) r0.symm hU
    by_cases qA : ARE U k f s
    · have d2 := mb54 (k := k) (f := f) (s := s) (n := n) r0.symm hU 1
      by_cases qB : BAD mo U k f s n
      · exact ⟨1, 1, by rw [d1.1 qA]; exact d2.1 qB, fun _ => rfl, fun z => absurd qA z, fun _ => rfl, fun z => absurd qB z⟩
      · exact ⟨1, 0, by rw [d1.1 qA]; exact d2.2 qB, fun _ => rfl, fun z => absurd qA z, fun z => absurd z qB, fun _ => rfl⟩
    · have d2 := mb54 (k := k) (f := f) (s := s) (n := n) r0.symm hU 0
      by_cases qB : BAD mo U k f s n
      · exact ⟨0, 1, by rw [d1.2 qA]; exact d2.1 qB, fun z => absurd z qA, fun _ => rfl, fun _ => rfl, fun z => absurd qB z⟩
      · exact ⟨0, 0, by rw [d1.2 qA]; exact d2.2 qB, fun z => absurd z qA, fun _ => rfl, fun z => absurd z qB, fun _ => rfl⟩
  obtain ⟨a, b, hm, a1, a0, b1, b0⟩ := hm
  rw [hm]
  unfold f_X7_unit_b105 f_X7_unit_b147
  rw [hin]
  by_cases qk : k = 1 ∨ k = 2 ∨ k = 3 ∨ k = 4
  · rw [if_pos qk, if_neg n10]
    have cu := cun (f := f) (s := s) (n := n) G R qk
    unfold f_L_unit
    by_cases qA : ARE U k f s
    · rw [a1 qA, if_neg n10]
      by_cases qB : BAD mo U k f s n
      · rw [b1 qB, if_neg n10, cu.2.1 qA qB]
        exact AG_no I (w := w) (k := 3) (by decide) rfl (no 3 (by decide))
      · obtain ⟨k34, g1, g2, g3⟩ := cu.2.2 qA qB
        rw [b0 qB, if_pos (rfl : (0 : Int32) = 0), g3]
        unfold f_X6_unit_b105
        by_cases q3 : U < 12 ∧ t = 0
        · rw [(nRU (h := h) G.2.1 hU t2 t1).1 q3, tb_r]
          obtain ⟨q3, rfl⟩ := q3
          have e12 : ¬ mo.1 2 0 = 12 := fun z => by have := m1.1.mp z; omega
          have et : mo.1 1 0 ≤ 0 := m1.2.mpr rfl
          rw [if_neg e12, if_pos et]
          unfold f_X7_unit_b152
          rw [holds_1, Option.bind_some, if_neg n10]
          obtain ⟨va, hva, rfl⟩ := ix_ex (x := f) qA.1.1
          have ha24 : va < 24 := by have := qA.1.2; rw [ix_toInt hva] at this; omega
          have ntk : ∀ s', s' < 24 → ¬ Tk mo U (Int32.ofNat s') → (h 3).1 6 s' = -1 := fun s' hs' z => by
            rcases G.2.2.2 s' hs' with q | ⟨v, hv, _, q⟩
            · exact q
            · exact absurd ⟨v, hv, by rw [← R.2.2.2.1, ← R.2.2.2.2]; exact q⟩ z
          have fa := ntk va ha24 (fun z => qB (Or.inr (Or.inl z)))
          have hnok : nOK k n := by
            by_cases q : k = 2
            · exact Or.inl q
            · right
              have em := (mo_67 (k := k) (by
                rcases qk with q | q | q | q
                · exact Or.inr (Or.inl q)
                · exact Or.inr (Or.inr (Or.inl q))
                · exact Or.inr (Or.inr (Or.inr (Or.inl q)))
                · exact Or.inr (Or.inr (Or.inr (Or.inr q)))) q).2.1
              rw [← em]
              exact Classical.byContradiction (fun z => qB (Or.inl ⟨q, z⟩))
          have hk0 : k ≠ 0 := fun z => by rw [z] at qk; revert qk; decide
          have hk5 : k = 0 ∨ k = 1 ∨ k = 2 ∨ k = 3 ∨ k = 4 := Or.inr qk
          by_cases qT : T2 k
          · obtain ⟨vb, hvb, rfl⟩ := ix_ex (x := s) (qA.2 qT).1
            have hb24 : vb < 24 := by have := (qA.2 qT).2; rw [ix_toInt hvb] at this; omega
            have fb := ntk vb hb24 (fun z => qB (Or.inr (Or.inr ⟨qT, Or.inl z⟩)))
            have hab : va ≠ vb := fun z => qB (Or.inr (Or.inr ⟨qT, Or.inr (by rw [z])⟩))
            rw [g1 qT, if_neg n10, t2_y qT, if_neg n10]
            refine AG_ok (r := Int32.ofNat U) (w := w) (INV_new (k := k) (n := n) (d := 0) (f := Int32.ofNat va) (s := Int32.ofNat vb) I q3 hnok (Or.inr (Or.inr ⟨va, vb, rfl⟩)) (fun s' _ => ?_) ?_) ?_ ?_ ?_
            · by_cases h1 : s' = vb
              · subst h1; right; refine ⟨fb, by simp [oi_i, upd], Or.inr (by simp [oi_i, upd])⟩
              · by_cases h2 : s' = va
                · subst h2; right; refine ⟨fa, by simp [oi_i, upd, h1], Or.inl (by simp [oi_i, upd])⟩
                · left; simp [oi_i, upd, h1, h2]
            · have ea : pa (oi (oi (oi (oi (oi (oi (oi (oi (h 3) 0 0 (Int32.ofNat (U + 1))) 1 U k) 3 U n) 2 U 0) 4 U (Int32.ofNat va)) 5 U (Int32.ofNat vb)) 6 va (Int32.ofNat U)) 6 vb (Int32.ofNat U)) U = va := by unfold pa; simp [oi_i, upd, ix_nat hva]
              have eb : pb (oi (oi (oi (oi (oi (oi (oi (oi (h 3) 0 0 (Int32.ofNat (U + 1))) 1 U k) 3 U n) 2 U 0) 4 U (Int32.ofNat va)) 5 U (Int32.ofNat vb)) 6 va (Int32.ofNat U)) 6 vb (Int32.ofNat U)) U = vb := by unfold pb; simp [oi_i, upd, ix_nat hvb]
              have ek : (oi (oi (oi (oi (oi (oi (oi (oi (h 3) 0 0 (Int32.ofNat (U + 1))) 1 U k) 3 U n) 2 U 0) 4 U (Int32.ofNat va)) 5 U (Int32.ofNat vb)) 6 va (Int32.ofNat U)) 6 vb (Int32.ofNat U)).1 1 U = k := by simp [oi_i, upd]
              refine ⟨by rw [ek]; exact hk5, fun _ => ⟨by rw [ea]; exact ha24, by rw [ea]; simp [oi_i, upd], by rw [ea]; simp [oi_i, upd]⟩, fun _ => ⟨by rw [eb]; exact hb24, by rw [eb]; simp [oi_i, upd], by rw [eb]; simp [oi_i, upd], by rw [ea, eb]; exact hab⟩, fun z => absurd (ek ▸ z) hk0, fun z1 z2 => ?_, by simp [oi_i, upd]⟩
              rw [ek] at z1 z2; exact absurd qT (fun y => y.elim z1 z2)
            · unfold f_X5_addTaker
              rw [uadd_ok _ _ _ _ _ G.2.1 q3, Option.bind_some]
              dsimp only
              rw [ptk_ok _ ha24, Option.bind_some, ptk_ok _ hb24]; rfl
            · rw [makes_ok (mo := oi mo 0 0 0) _ _ _ _ _ (by rw [oi_n (by decide)]; exact r0.symm) q3]; rfl
            · simp [oi_i, upd]
          · rw [g2 qT, if_pos (rfl : (0 : Int32) = 0), t2_n qT, if_pos (rfl : (0 : Int32) = 0)]
            refine AG_ok (r := Int32.ofNat U) (w := w) (INV_new (k := k) (n := n) (d := 0) (f := Int32.ofNat va) (s := -1) I q3 hnok (Or.inr (Or.inl ⟨va, rfl⟩)) (fun s' _ => ?_) ?_) ?_ ?_ ?_
            · by_cases h2 : s' = va
              · subst h2; right; refine ⟨fa, by simp [oi_i, upd], Or.inl (by simp [oi_i, upd])⟩
              · left; simp [oi_i, upd, h2]
            · have ea : pa (oi (oi (oi (oi (oi (oi (oi (h 3) 0 0 (Int32.ofNat (U + 1))) 1 U k) 3 U n) 2 U 0) 4 U (Int32.ofNat va)) 5 U (-1)) 6 va (Int32.ofNat U)) U = va := by unfold pa; simp [oi_i, upd, ix_nat hva]
              have ek : (oi (oi (oi (oi (oi (oi (oi (h 3) 0 0 (Int32.ofNat (U + 1))) 1 U k) 3 U n) 2 U 0) 4 U (Int32.ofNat va)) 5 U (-1)) 6 va (Int32.ofNat U)).1 1 U = k := by simp [oi_i, upd]
              refine ⟨by rw [ek]; exact hk5, fun _ => ⟨by rw [ea]; exact ha24, by rw [ea]; simp [oi_i, upd], by rw [ea]; simp [oi_i, upd]⟩, fun z => absurd (ek ▸ z) qT, fun z => absurd (ek ▸ z) hk0, fun _ _ => by simp [oi_i, upd], by simp [oi_i, upd]⟩
            · unfold f_X5_addTaker
              rw [uadd_ok _ _ _ _ _ G.2.1 q3, Option.bind_some]
              dsimp only
              rw [ptk_ok _ ha24, Option.bind_some, ptk_no]; rfl
            · rw [makes_ok (mo := oi mo 0 0 0) _ _ _ _ _ (by rw [oi_n (by decide)]; exact r0.symm) q3]; rfl
            · simp [oi_i, upd]
        · rw [(nRU (h := h) G.2.1 hU t2 t1).2 q3, tb_l]
          refine AG_no I (w := w) (k := 3) (by decide) rfl ?_
          rw [← no 3 (by decide)]
          by_cases e12 : mo.1 2 0 = 12
          · rw [if_pos e12]
          · have h9 : ¬ U = 12 := fun y => e12 (m1.1.mpr y)
            have et : ¬ mo.1 1 0 ≤ 0 := fun z => q3 ⟨by omega, m1.2.mp z⟩
            rw [if_neg e12, if_neg et]
    · rw [a0 qA, if_pos (rfl : (0 : Int32) = 0), cu.1 qA]
      exact AG_no I (w := w) (k := 2) (by decide) rfl (no 2 (by decide))
  · rw [if_neg qk, if_pos (rfl : (0 : Int32) = 0)]
    refine AG_no I (w := w) (k := 1) (by decide) ?_ (no 1 (by decide))
    unfold f_L_unit f_X6_unit
    rw [hos, if_neg qk, if_neg n10]; rfl
