theorem oi_n {o : ObS} {k j : Nat} {v : Int32} {k' : Nat} (h : k' ≠ k) : (oi o k j v).1 k' = o.1 k' := by rw [oi_i, if_neg h]
theorem oj_n {o : ObS} {k j : Nat} {v : Int64} {k' : Nat} (h : k' ≠ k) : (oj o k j v).2 k' = o.2 k' := by rw [oj_j, if_neg h]
def WKS (o1 c a mo : ObS) (kd : Nat → Int32) (U C k A : Nat) : Prop :=
  ∃ (c' a' mo' : ObS) (A' : Nat) (ov : Int32), (∀ f, f_X1_work_b2 o1 (f + 1) (Int32.ofNat k) c a = f_X1_work_b2 o1 f (Int32.ofNat (k + 1)) c' a') ∧ f_X7_works mo (Int32.ofNat k) = some mo' ∧ IC c' mo' kd U C ∧ IA a' mo' A' ∧ mo'.1 35 = upd (mo.1 35) k ov ∧ (ov = 0 ∨ ov = 1) ∧ (A' = A ∨ (A' = A + 1 ∧ ov = 1 ∧ mo.1 35 k = 0)) ∧
    (∀ j, j ≠ 24 → j ≠ 34 → j ≠ 35 → j ≠ 37 → j ≠ 38 → j ≠ 39 → j ≠ 40 → mo'.1 j = mo.1 j) ∧ (∀ j, j ≠ 32 → j ≠ 33 → j ≠ 36 → mo'.2 j = mo.2 j)
theorem wk_m {o1 c a mo : ObS} {kd : Nat → Int32} {U C k A : Nat} (hU : U ≤ 12) (I : IC c mo kd U C) (hk : k < C) (hm : mo.1 28 k = -1) (f0 : o1.2 0 = mo.2 10) (f1 : o1.2 1 = mo.2 11) (hw : ∀ s, s < 24 → 0 ≤ (wm (o1.2 0 s) (o1.2 1 s)).toInt ∧ (wm (o1.2 0 s) (o1.2 1 s)).toInt ≤ 50000) (J : IA a mo A) (hA : mo.1 35 k = 0 → A < 900) : WKS o1 c a mo kd U C k A := by
  obtain ⟨i1, i2, i3, ⟨i4, i5, i6, i7, i8⟩, ⟨i9, i10, i11, i12, i13⟩, i14, i15, i16⟩ := id I
  have hk6 : k < 6 := by omega
  obtain ⟨⟨s, hs, p1⟩, p2, p3, ⟨⟨p4, p5⟩, p6⟩, p7⟩ := i14 k hk
  have p6 := p6 hm
  have hs24 : s < 24 := by omega
  obtain ⟨q2, q3, q4⟩ : c.1 1 k = 1 ∧ c.1 3 k = mo.1 25 k ∧ c.1 8 k = mo.1 31 k := by
    rcases p2 with h | h
    · exact h.2
    · exact absurd hm h.1
  obtain ⟨w, hw6⟩ := s_any o1 (c.1 6 k)
  obtain ⟨er, e1, e2, e3, e4⟩ := wm_ok (c := c) (mo := mo) (o1 := o1) hk6 hs24 p1 hm (by rw [i4]) q3 (by rw [i7]) (by rw [i5]) (i9 k) i10 p4 p5 f0 f1 hw hw6 p3
  have hme := me_ok (c := c) (o1 := o1) (w := w) hk6 hs24 (by rw [i4]; exact p1) hw6
  have eO : (mo.1 26 k).toInt64 + qS c o1 k / 1000 + qF c k w = qO c o1 k w := by unfold qO; rw [i5]
  -- the class's state behind `measure`, and the reference's before it warns
  generalize hc1 : oj (oj (oj (oj c 14 k (qE c o1 k)) 11 k (qS c o1 k)) 12 k (qF c k w)) 13 k (qO c o1 k w) = c1 at hme
  have c10 : c1.1 = c.1 := by rw [← hc1]; rfl
  have c11 : c1.2 11 = vp_updL (c.2 11) k (qS c o1 k) := by rw [← hc1]; simp [oj_j]
  have c12 : c1.2 12 = vp_updL (c.2 12) k (qF c k w) := by rw [← hc1]; simp [oj_j]
  have c13 : c1.2 13 = vp_updL (c.2 13) k (qO c o1 k w) := by rw [← hc1]; simp [oj_j]
  have c14 : c1.2 14 = vp_updL (c.2 14) k (qE c o1 k) := by rw [← hc1]; simp [oj_j]
  have c1g : c1.2 10 = c.2 10 := by rw [← hc1]; simp [oj_j]
  have hb := b143_ok (s97 := oj (oi mo 34 k er) 32 k (qS c o1 k)) (fd := qF c k w) hk6
  rw [oj_i, oi_n (show 27 ≠ 34 by decide), oi_n (show 26 ≠ 34 by decide), oi_n (show 22 ≠ 34 by decide), oj_j, if_pos rfl, show vp_updL ((oi mo 34 k er).2 32) k (qS c o1 k) k = qS c o1 k from if_pos rfl, eO] at hb
  generalize hm1 : oj (oj (oj (oi mo 34 k er) 32 k (qS c o1 k)) 36 k (qF c k w)) 33 k (qO c o1 k w) = m1 at hb
  have m10 : ∀ j, j ≠ 34 → m1.1 j = mo.1 j := fun j h => by rw [← hm1]; simp [oj_i, oi_i, h]
  have m34 : m1.1 34 = upd (mo.1 34) k er := by rw [← hm1]; simp [oj_i, oi_i]
  have m32 : m1.2 32 = vp_updL (mo.2 32) k (qS c o1 k) := by rw [← hm1]; simp [oj_j, oi_j]
  have m36 : m1.2 36 = vp_updL (mo.2 36) k (qF c k w) := by rw [← hm1]; simp [oj_j, oi_j]
  have m33 : m1.2 33 = vp_updL (mo.2 33) k (qO c o1 k w) := by rw [← hm1]; simp [oj_j, oi_j]
  have m2 : ∀ j, j ≠ 32 → j ≠ 33 → j ≠ 36 → m1.2 j = mo.2 j := fun j h h2 h3 => by rw [← hm1]; simp [oj_j, oi_j, h, h2, h3]
  -- either way the goals stay alike
  have key : ∀ (m2' : ObS) (gw : Nat → Int64), (∀ j, j ≠ 24 → m2'.1 j = m1.1 j) → m2'.2 = m1.2 → (∀ c3 : ObS, c3.1 = (oi c1 9 k 0).1 ∨ True → True) →
      (∀ j, gw j = (m2'.1 24 j).toInt64) → (∀ j, j < C → 0 ≤ (m2'.1 24 j).toInt ∧ (m2'.1 24 j).toInt ≤ 3000) → (∀ j, C ≤ j → m2'.1 24 j = 0) →
      f_X7_works_b143 (Int32.ofNat k) (oj (oi mo 34 k er) 32 k (qS c o1 k)) (qF c k w) = f_X7_warns m2' (Int32.ofNat k) →
      (∀ ov : Int32, ∃ c3 : ObS, f_X1_passOn (oi c1 9 k ov) (Int32.ofNat k) = some c3 ∧ c3.1 = (oi c1 9 k ov).1 ∧ c3.2 10 = gw ∧ ∀ j, j ≠ 10 → c3.2 j = c1.2 j) → WKS o1 c a mo kd U C k A := by
    intro m2' gw n1 n2 _ n3 n4 n5 n6 n7
    have n24 : ∀ j, j ≠ 24 → j ≠ 34 → m2'.1 j = mo.1 j := fun j h h2 => (n1 j h).trans (m10 j h2)
    have J2 : IA a m2' A := by
      obtain ⟨j1, j2, j3, j4⟩ := J
      refine ⟨j1, by rw [n24 37 (by decide) (by decide)]; exact j2, j3, ?_⟩
      rw [n24 40 (by decide) (by decide), n24 38 (by decide) (by decide)]; exact j4
    have n34 : m2'.1 34 = upd (mo.1 34) k er := (n1 34 (by decide)).trans m34
    have n34k : m2'.1 34 k = er := by rw [n34]; exact if_pos rfl
    have n31 := n24 31 (by decide) (by decide)
    have n35 := n24 35 (by decide) (by decide)
    obtain ⟨a', mo', ov, A', r1, r2, r3, r4, r5, r6, r7, r8⟩ := ww (c := c1) (a := a) (mo := m2') hk6 J2 (by rw [n35]; exact hA) (by rw [c14, n34k, e1]; exact if_pos rfl) (by rw [c10, n31]; exact q4) (by rw [c10, n35, i8]) (by rw [n31]; exact p6.1) (by rw [n31]; exact p6.2) (by rw [n34k]; exact e2) (by rw [n34k]; exact e3)
    obtain ⟨c3, t1, t2, t3, t4⟩ := n7 ov
    have x35 : mo'.1 35 = upd (mo.1 35) k ov := by rw [r4, n35]
    have x24 : mo'.1 24 = m2'.1 24 := r6 24 (by decide) (by decide) (by decide) (by decide) (by decide)
    have x34 : mo'.1 34 = upd (mo.1 34) k er := (r6 34 (by decide) (by decide) (by decide) (by decide) (by decide)).trans n34
    have xx : ∀ j, j ≠ 24 → j ≠ 34 → j ≠ 35 → j ≠ 37 → j ≠ 38 → j ≠ 39 → j ≠ 40 → mo'.1 j = mo.1 j := fun j h1 h2 h3 h4 h5 h6 h7 => (r6 j h3 h4 h5 h6 h7).trans (n24 j h1 h2)
    refine ⟨c3, a', mo', A', ov, ?_, ?_, ?_, r7, x35, r3, ?_, xx, fun j h1 h2 h3 => by rw [r5, n2]; exact m2 j h1 h2 h3⟩
    · intro f
      have b1 : ¬ C ≤ k := by omega
      have b2 : ¬ 6 ≤ k := by omega
      conv => lhs; unfold f_X1_work_b2
      simp (disch := omega) [i2, ix_lt1, ix_le1, ix_lt2, ix_le2, ix_eq1, ix_eq2, ix_lt, ix_le, ix_eq, ix_inb, ix_nat, ix_suc, ix_dbl, -Int32.ofNat_add, -Int32.ofNat_mul, b1, b2, hk6, q2, hme, r1, t1]
    · rw [e4, n6, r2]
    · refine IC_fin (c := c) (mo := mo) I hk r3 (fun j hj => by rw [t2, oi_i, if_neg hj, c10]) (by rw [t2, oi_i, if_pos rfl, c10]) ?_ ?_ ?_ ?_ (fun j => by rw [t3, x24]; exact n3 j) (by rw [x24]; exact n4) (by rw [x24]; exact n5) x35 xx
      · rw [t4 11 (by decide), r5, n2, c11, m32, i10]
      · rw [t4 12 (by decide), r5, n2, c12, m36, i11]
      · rw [t4 13 (by decide), r5, n2, c13, m33, i12]
      · intro j
        rw [t4 14 (by decide), x34, c14]; unfold vp_updL upd
        by_cases h : j = k
        · rw [if_pos h, if_pos h]; exact e1.symm
        · rw [if_neg h, if_neg h]; exact i13 j
    · rw [n35] at r8; exact r8
  have m24 : m1.1 24 = mo.1 24 := m10 24 (by decide)
  have g0 : ∀ j, j < C → 0 ≤ (m1.1 24 j).toInt ∧ (m1.1 24 j).toInt ≤ 3000 := fun j hj => by rw [m24]; exact (i14 j hj).2.2.2.1.1
  have g1 : ∀ j, C ≤ j → m1.1 24 j = 0 := fun j hj => by rw [m24]; exact (i16 j hj).2.1
  have stay : (f_X7_works_b143 (Int32.ofNat k) (oj (oi mo 34 k er) 32 k (qS c o1 k)) (qF c k w) = f_X7_warns m1 (Int32.ofNat k)) → (f_X1_isMeasuring c (c.1 5 k - 100) = some 0) → WKS o1 c a mo kd U C k A := by
    intro h1 h2
    refine key m1 (c.2 10) (fun _ _ => rfl) rfl (fun _ _ => trivial) (fun j => by rw [m24]; exact i9 j) g0 g1 h1 (fun ov => ⟨oi c1 9 k ov, ?_, rfl, c1g, fun _ _ => rfl⟩)
    have h3 : f_X1_isMeasuring (oi c1 9 k ov) (c.1 5 k - 100) = some 0 := by
      rw [← h2]; unfold f_X1_isMeasuring f_X1_isMade
      rw [oi_n (show 0 ≠ 9 by decide), oi_n (show 1 ≠ 9 by decide), c10]
    unfold f_X1_passOn
    rw [oi_n (show 5 ≠ 9 by decide), c10]
    simp (disch := omega) [ix_lt1, ix_le1, ix_lt2, ix_le2, ix_eq1, ix_eq2, ix_lt, ix_le, ix_eq, ix_inb, ix_nat, ix_suc, ix_dbl, -Int32.ofNat_add, -Int32.ofNat_mul, hk6, h3]
  rw [hb] at stay key
  rcases p7 with ⟨u, hu, h1, _⟩ | ⟨e, he, h1⟩
  · have h2 : mo.1 27 k - 100 < 0 := by
      rw [h1, Int32.lt_iff_toInt_lt]; exact sb_neg u (by omega)
    refine stay (by rw [if_pos h2]) ?_
    rw [i6]
    refine is_mn (C := C) (Or.inl ?_) i1 i2
    rw [h1]; exact sb_neg u (by omega)
  · have h2 : mo.1 27 k - 100 = Int32.ofNat e := by rw [h1, sb_100 e he]
    have h2n : ¬ Int32.ofNat e < 0 := by rw [show (0 : Int32) = Int32.ofNat 0 from rfl, ix_lt (by omega) (by omega)]; omega
    by_cases h3 : C ≤ e
    · refine stay (by rw [h2, if_neg h2n, i3, if_pos ((ix_le (by omega) (by omega)).mpr h3)]) ?_
      rw [i6, h2]
      exact is_mn (C := C) (Or.inr (by rw [ix_toInt (by omega)]; omega)) i1 i2
    · have h3n : ¬ Int32.ofNat C ≤ Int32.ofNat e := fun z => h3 ((ix_le (by omega) (by omega)).mp z)
      have he28 : m1.1 28 = mo.1 28 := m10 28 (by decide)
      by_cases h4 : mo.1 28 e = -1
      · have hce : c.1 1 e = 1 := by
          rcases (i14 e (by omega)).2.1 with h | h
          · exact h.2.1
          · exact absurd h4 h.1
        refine key (oi m1 24 e ((hd (qO c o1 k w) 0 3000).toInt32)) (vp_updL (c.2 10) e (hd (qO c o1 k w) 0 3000)) (fun j hj => by rw [oi_i, if_neg hj]) rfl (fun _ _ => trivial) (fun j => ?_) (fun j hj => ?_) (fun j hj => ?_) ?_ (fun ov => ⟨oj (oi c1 9 k ov) 10 e (hd (qO c o1 k w) 0 3000), ?_, rfl, ?_, fun j hj => by rw [oj_j, if_neg hj]; rfl⟩)
        · rw [oi_i, if_pos rfl]; unfold vp_updL upd
          by_cases h : j = e
          · rw [if_pos h, if_pos h]; exact (g_32 _).1.symm
          · rw [if_neg h, if_neg h, m24]; exact i9 j
        · rw [oi_i, if_pos rfl]; unfold upd
          by_cases h : j = e
          · rw [if_pos h]; exact (g_32 _).2
          · rw [if_neg h]; exact g0 j hj
        · rw [oi_i, if_pos rfl]; unfold upd; rw [if_neg (by omega)]; exact g1 j hj
        · rw [h2, if_neg h2n, i3, if_neg h3n, is_ra (by omega), he28, if_pos h4, Option.bind_some, if_pos rfl, ix_inb (by omega), ix_nat (by omega), if_pos (by simpa using he)]
        · have h5 : f_X1_isMeasuring (oi c1 9 k ov) (Int32.ofNat e) = some 1 := by
            rw [is_me (C := C) (by omega) i1 (by rw [oi_n (show 0 ≠ 9 by decide), c10]; exact i2), oi_n (show 1 ≠ 9 by decide), c10, hce]; rfl
          have h6 : c.1 5 k - 100 = Int32.ofNat e := by rw [i6, h2]
          have h7 : (oi c1 9 k ov).2 13 k = qO c o1 k w := by rw [oi_j, c13]; exact if_pos rfl
          unfold f_X1_passOn
          rw [oi_n (show 5 ≠ 9 by decide), c10]
          simp (disch := omega) only [ix_nat, h6]
          simp (disch := omega) [ix_lt1, ix_le1, ix_lt2, ix_le2, ix_eq1, ix_eq2, ix_lt, ix_le, ix_eq, ix_inb, ix_nat, ix_suc, ix_dbl, -Int32.ofNat_add, -Int32.ofNat_mul, hk6, he, h5, held6, oi_j, c13, vp_updL]
        · rw [oj_j, if_pos rfl, oi_j, c1g]
      · have hce : c.1 1 e = 0 := by
          rcases (i14 e (by omega)).2.1 with h | h
          · exact absurd h.1 h4
          · exact h.2.1
        refine stay (by rw [h2, if_neg h2n, i3, if_neg h3n, is_ra (by omega), he28, if_neg h4, Option.bind_some, if_neg (by decide)]) ?_
        rw [i6, h2, is_me (C := C) (by omega) i1 i2, hce]; rfl
