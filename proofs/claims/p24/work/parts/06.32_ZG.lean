theorem GS_add {o o' : ObS} {U : Nat} (G : GS o U) (hU : U < 12) (c0 : o'.1 0 0 = Int32.ofNat (U + 1)) (c1 : ∀ u, u < U → o'.1 1 u = o.1 1 u ∧ o'.1 2 u = o.1 2 u ∧ o'.1 4 u = o.1 4 u ∧ o'.1 5 u = o.1 5 u)
    (c2 : ∀ s, s < 24 → o'.1 6 s = o.1 6 s ∨ (o.1 6 s = -1 ∧ o'.1 6 s = Int32.ofNat U ∧ (o'.1 4 U = Int32.ofNat s ∨ o'.1 5 U = Int32.ofNat s))) (c3 : GU o' U) : GS o' (U + 1) := by
  obtain ⟨g1, g2, g3, g4⟩ := G
  refine ⟨by omega, c0, fun u hu => ?_, fun s hs => ?_⟩
  · by_cases h : u = U
    · subst h; exact c3
    · obtain ⟨d1, d2, d4, d5⟩ := c1 u (by omega)
      have gu := g3 u (by omega)
      have ea : pa o' u = pa o u := by unfold pa; rw [d4]
      have eb : pb o' u = pb o u := by unfold pb; rw [d5]
      have tk : ∀ s, s < 24 → o.1 6 s = Int32.ofNat u → o'.1 6 s = Int32.ofNat u := fun s hs h9 => by
        rcases c2 s hs with q | ⟨q, _⟩
        · rw [q]; exact h9
        · rw [h9] at q; exact absurd q (ofn_m1 (by omega))
      unfold GU at gu ⊢
      rw [ea, eb, d1, d2, d4, d5]
      obtain ⟨p1, p2, p3, p4⟩ := gu
      exact ⟨p1, fun z => ⟨(p2 z).1, (p2 z).2.1, tk _ (p2 z).1 (p2 z).2.2⟩, fun z => ⟨(p3 z).1, (p3 z).2.1, tk _ (p3 z).1 (p3 z).2.2.1, (p3 z).2.2.2⟩, p4⟩
  · rcases c2 s hs with q | ⟨_, q, q2⟩
    · rw [q]
      rcases g4 s hs with r | ⟨u, hu, r1, r2⟩
      · exact Or.inl r
      · obtain ⟨_, _, d4, d5⟩ := c1 u hu
        exact Or.inr ⟨u, by omega, r1, by rw [d4, d5]; exact r2⟩
    · exact Or.inr ⟨U, by omega, q, q2⟩
theorem makes_ok {mo : ObS} {U : Nat} (k f s n d : Int32) (h : mo.1 2 0 = Int32.ofNat U) (hU : U < 12) : f_X7_makes mo k f s n d = some (Int32.ofNat U, oi (oi (oi (oi (oi (oi mo 3 U k) 6 U f) 7 U s) 4 U n) 5 U d) 2 0 (Int32.ofNat (U + 1))) := by
  have e : Int32.ofNat (U + 1) - 1 = Int32.ofNat U := by rw [← ix_suc, Int32.add_sub_cancel]
  unfold f_X7_makes
  simp (disch := omega) [h, ix_lt1, ix_le1, ix_lt2, ix_le2, ix_eq1, ix_eq2, ix_lt, ix_le, ix_eq, ix_inb, ix_nat, ix_suc, ix_dbl, -Int32.ofNat_add, -Int32.ofNat_mul, hU, oi_i, upd, e]
theorem uadd_ok {o : ObS} {U : Nat} (k n d f s : Int32) (h : o.1 0 0 = Int32.ofNat U) (hU : U < 12) : f_X5_add o k n d f s = some (Int32.ofNat U, oi (oi (oi (oi (oi (oi o 0 0 (Int32.ofNat (U + 1))) 1 U k) 3 U n) 2 U d) 4 U f) 5 U s) := by
  unfold f_X5_add
  simp (disch := omega) [h, ix_lt1, ix_le1, ix_lt2, ix_le2, ix_eq1, ix_eq2, ix_lt, ix_le, ix_eq, ix_inb, ix_nat, ix_suc, ix_dbl, -Int32.ofNat_add, -Int32.ofNat_mul, hU]
theorem ptk_ok {o : ObS} {s : Nat} (v : Int32) (hs : s < 24) : f_X5_putTaker o (Int32.ofNat s) v = some (oi o 6 s v) := by
  have h2 : ¬ 24 ≤ s := by omega
  unfold f_X5_putTaker f_X3_isThere
  simp (disch := omega) [ix_lt1, ix_le1, ix_lt2, ix_le2, ix_eq1, ix_eq2, ix_lt, ix_le, ix_eq, ix_inb, ix_nat, ix_suc, ix_dbl, -Int32.ofNat_add, -Int32.ofNat_mul, hs, h2]
theorem ptk_no {o : ObS} (v : Int32) : f_X5_putTaker o (-1) v = some o := rfl
theorem nRU {h : Nat → ObS} {U t : Nat} (h0 : (h 3).1 0 0 = Int32.ofNat U) (hU : U ≤ 12) (ht : (h 0).1 7 0 = Int32.ofNat t) (htt : t ≤ 300) : (U < 12 ∧ t = 0 → f_X6_needRoomForUnit h = some (.inr ())) ∧ (¬ (U < 12 ∧ t = 0) → f_X6_needRoomForUnit h = some (.inl 2)) := by
  unfold f_X6_needRoomForUnit f_X5_count f_X6_needNoTickGone
  rw [h0, ht]
  have e1 : Int32.ofNat U < 12 ↔ U < 12 := ix_lt (j := 12) (by omega) (by omega)
  have e2 : Int32.ofNat t ≤ 0 ↔ t ≤ 0 := ix_le (j := 0) (by omega) (by omega)
  constructor
  · rintro ⟨q1, q2⟩
    rw [if_pos (e1.mpr q1), if_pos (e2.mpr (by omega))]; rfl
  · intro q
    by_cases q1 : U < 12
    · rw [if_pos (e1.mpr q1), if_neg (fun z => q ⟨q1, by have := e2.mp z; omega⟩)]; rfl
    · rw [if_neg (fun z => q1 (e1.mp z))]
theorem nNT {h : Nat → ObS} {t : Nat} (ht : (h 0).1 7 0 = Int32.ofNat t) (htt : t ≤ 300) : (t = 0 → f_X6_needNoTickGone h = some (.inr ())) ∧ (¬ t = 0 → f_X6_needNoTickGone h = some (.inl 2)) := by
  unfold f_X6_needNoTickGone
  rw [ht]
  have e2 : Int32.ofNat t ≤ 0 ↔ t ≤ 0 := ix_le (j := 0) (by omega) (by omega)
  exact ⟨fun q => by rw [if_pos (e2.mpr (by omega))], fun q => by rw [if_neg (fun z => q (by have := e2.mp z; omega))]⟩
/-- the model's room -/
theorem mR {mo : ObS} {U t : Nat} (h0 : mo.1 2 0 = Int32.ofNat U) (hU : U ≤ 12) (ht : mo.1 1 0 = Int32.ofNat t) (htt : t ≤ 300) : (mo.1 2 0 = 12 ↔ U = 12) ∧ (mo.1 1 0 ≤ 0 ↔ t = 0) := by
  rw [h0, ht]
  exact ⟨ix_eq (j := 12) (by omega) (by omega), (ix_le (j := 0) (by omega) (by omega)).trans (by omega)⟩
/-- a new unit, in both -/
theorem INV_new {h : Nat → ObS} {mo o' : ObS} {U C : Nat} {k n d f s : Int32} (I : INV h mo U C 0) (hU : U < 12) (hn : nOK k n) (e : o' = oi (oi (oi (oi (oi (oi (h 3) 0 0 (Int32.ofNat (U + 1))) 1 U k) 3 U n) 2 U d) 4 U f) 5 U s ∨ (∃ a, o' = oi (oi (oi (oi (oi (oi (oi (h 3) 0 0 (Int32.ofNat (U + 1))) 1 U k) 3 U n) 2 U d) 4 U f) 5 U s) 6 a (Int32.ofNat U)) ∨ (∃ a b, o' = oi (oi (oi (oi (oi (oi (oi (oi (h 3) 0 0 (Int32.ofNat (U + 1))) 1 U k) 3 U n) 2 U d) 4 U f) 5 U s) 6 a (Int32.ofNat U)) 6 b (Int32.ofNat U)))
    (c2 : ∀ s', s' < 24 → o'.1 6 s' = (h 3).1 6 s' ∨ ((h 3).1 6 s' = -1 ∧ o'.1 6 s' = Int32.ofNat U ∧ (o'.1 4 U = Int32.ofNat s' ∨ o'.1 5 U = Int32.ofNat s'))) (c3 : GU o' U) : INV (hu h 3 o') (oi (oi (oi (oi (oi (oi (oi mo 0 0 0) 3 U k) 6 U f) 7 U s) 4 U n) 5 U d) 2 0 (Int32.ofNat (U + 1))) (U + 1) C 0 := by
  obtain ⟨⟨G, R, n1, n2, n3, n4, n5⟩, -⟩ := id I
  obtain ⟨r0, r1, r2, r3, r4⟩ := R
  have w : o'.1 0 0 = Int32.ofNat (U + 1) ∧ o'.1 1 = upd ((h 3).1 1) U k ∧ o'.1 3 = upd ((h 3).1 3) U n ∧ o'.1 2 = upd ((h 3).1 2) U d ∧ o'.1 4 = upd ((h 3).1 4) U f ∧ o'.1 5 = upd ((h 3).1 5) U s ∧ o'.1 8 = (h 3).1 8 ∧ o'.2 = (h 3).2 := by
    rcases e with rfl | ⟨a, rfl⟩ | ⟨a, b, rfl⟩ <;> exact ⟨by simp [oi_i, upd], by simp [oi_i], by simp [oi_i], by simp [oi_i], by simp [oi_i], by simp [oi_i], by simp [oi_i], rfl⟩
  obtain ⟨w0, w1, w3, w2, w4, w5, w8, wj⟩ := w
  refine INV_g I (by omega) (GS_add G hU w0 (fun u hu => ⟨by rw [w1]; exact upd_n (by omega), by rw [w2]; exact upd_n (by omega), by rw [w4]; exact upd_n (by omega), by rw [w5]; exact upd_n (by omega)⟩) c2 c3) ⟨?_, ?_, ?_, ?_, ?_⟩ ?_ w8 (fun u hu => ?_) wj (fun u hu => by rw [w1]; exact upd_n (by omega)) (fun j hj => ?_) rfl
  · rw [w0]; simp [oi_i, upd]
  · rw [w1, r1]; simp [oi_i]
  · rw [w2, r2]; simp [oi_i]
  · rw [w4, r3]; simp [oi_i]
  · rw [w5, r4]; simp [oi_i]
  · rw [w3, n1]; simp [oi_i]
  · rw [w1, w3]
    by_cases h9 : u = U
    · subst h9; rw [upd_s, upd_s]; exact hn
    · rw [upd_n h9, upd_n h9]; exact n3 u (by omega)
  · rw [oi_n (by omega), oi_n (by omega), oi_n (by omega), oi_n (by omega), oi_n (by omega), oi_n (by omega), oi_n (by omega)]
theorem ag_source {h : Nat → ObS} {mo : ObS} {U C t : Nat} (I : INV h mo U C t) (x y : Int32) (w : ObS) : AG (f_L_source h x y w) (f_X7_source mo x y) := by
  obtain ⟨⟨G, R, n1, n2, n3, n4, n5⟩, ⟨-, -, -, t1, -⟩, ⟨t2, t3⟩, -⟩ := id I
  have hU := G.1
  have r0 := R.1
  rw [G.2.1] at r0
  have m1 := mR r0.symm hU t3 t1
  have no : ∀ k : Int32, k ≠ 0 → f_X7_source_b58 mo x y k = some (0, oi mo 0 0 k) := fun k hk => by
    unfold f_X7_source_b58; rw [holds_0 hk]; rfl
  unfold f_L_source f_X6_source f_X7_source f_X7_source_b26 f_X7_source_b27 f_X7_source_b53
  rw [os_c (x := x) (0 ≤ x.toInt ∧ x.toInt ≤ 999) Iff.rfl, in_c (x := x) (0 ≤ x.toInt ∧ x.toInt ≤ 999) Iff.rfl, os_c (x := y) (0 ≤ y.toInt ∧ y.toInt ≤ 300) Iff.rfl, in_c (x := y) (0 ≤ y.toInt ∧ y.toInt ≤ 300) Iff.rfl]
  by_cases q1 : 0 ≤ x.toInt ∧ x.toInt ≤ 999
  · by_cases q2 : 0 ≤ y.toInt ∧ y.toInt ≤ 300
    · by_cases q3 : U < 12 ∧ t = 0
      · obtain ⟨q3, rfl⟩ := q3
        have e12 : ¬ mo.1 2 0 = 12 := fun z => by have := m1.1.mp z; omega
        have et : mo.1 1 0 ≤ 0 := m1.2.mpr rfl
        refine AG_ok (r := Int32.ofNat U) (w := w) (INV_new (k := 0) (n := x) (d := y) (f := -1) (s := -1) I q3 (Or.inr ⟨q1.1, q1.2⟩) (Or.inl rfl) (fun s' _ => Or.inl (by simp [oi_i])) ?_) ?_ ?_ ?_
        · have e1 : (oi (oi (oi (oi (oi (oi (h 3) 0 0 (Int32.ofNat (U + 1))) 1 U 0) 3 U x) 2 U y) 4 U (-1)) 5 U (-1)).1 1 U = 0 := by simp [oi_i, upd]
          refine ⟨Or.inl e1, fun z => absurd e1 z, fun z => ?_, fun _ => by simp [oi_i, upd], fun _ _ => by simp [oi_i, upd], ?_⟩
          · rw [e1] at z; exact absurd z (by decide)
          · simp [oi_i, upd]; exact q2
        · simp [q1, q2, (nRU (h := h) G.2.1 hU t2 t1).1 ⟨q3, rfl⟩, tb_r, f_X5_addSource, uadd_ok _ _ _ _ _ G.2.1 q3, sumE]
        · simp [q1, q2, e12, et, f_X7_source_b58, holds_1, makes_ok (mo := oi mo 0 0 0) _ _ _ _ _ (by rw [oi_n (by decide)]; exact r0.symm) q3]
        · simp [oi_i, upd]
      · refine AG_no I (w := w) (k := 2) (by decide) ?_ ?_
        · simp [q1, q2, (nRU (h := h) G.2.1 hU t2 t1).2 q3, tb_l, sumE]
        · rw [← no 2 (by decide)]
          by_cases e12 : mo.1 2 0 = 12
          · simp [q1, q2, e12]
          · have et : ¬ mo.1 1 0 ≤ 0 := fun z => q3 ⟨by
              have h9 : ¬ U = 12 := fun y => e12 (m1.1.mpr y)
              omega, m1.2.mp z⟩
            simp [q1, q2, e12, et]
    · refine AG_no I (w := w) (k := 1) (by decide) ?_ ?_
      · simp [q1, q2, sumE]
      · rw [← no 1 (by decide)]; simp [q1, q2]
  · refine AG_no I (w := w) (k := 1) (by decide) ?_ ?_
    · simp [q1, sumE]
    · rw [← no 1 (by decide)]; simp [q1]
