theorem it_SI {o : ObS} {U : Nat} {num : Nat → Int32} (G : GS o U) (hn : ∀ v, v < U → nOK (o.1 1 v) (num v)) : ∀ (k j : Nat) (t : (Nat → Int64) × (Nat → Int64)), j + 12 * k ≤ 3745 → SI o U U j t.1 t.2 → ∃ j', j' ≤ 3745 ∧ SI o U U j' (it o num U k t).1 (it o num U k t).2
  | 0, j, t, hj, S => ⟨j, by omega, S⟩
  | k + 1, j, t, hj, S => by
    have hU := G.1
    exact it_SI G hn k (j + U) _ (by omega) (it_ok2 G hn S (by omega))
theorem d_32 {a b : Int64} (h1 : 0 ≤ a.toInt) (h2 : a.toInt ≤ 50000) (h3 : 0 ≤ b.toInt) (h4 : b.toInt ≤ 50000) : (a.toInt32 - b.toInt32).toInt64 = a - b := by
  have e : ∀ c : Int64, 0 ≤ c.toInt → c.toInt ≤ 50000 → c.toInt32.toInt = c.toInt := fun c p q => by
    rw [Int64.toInt_toInt32]; exact Int.bmod_eq_of_le (by omega) (by omega)
  rw [← Int64.toInt_inj, to64, c_sub (by rw [e a h1 h2, e b h3 h4]; omega) (by rw [e a h1 h2, e b h3 h4]; omega), e a h1 h2, e b h3 h4, b_sub (by omega) (by omega)]
theorem gof {h : Nat → ObS} {mo : ObS} {U C t u s : Nat} (I : INV h mo U C t) (hu9 : u < U) (hs : s < 24) :
    ∃ (g : Int32) (o2 mo' : ObS), f_X6_gainOf h (Int32.ofNat u) (Int32.ofNat s) = some (g.toInt64, hu h 2 o2) ∧ f_X7_gainOf mo (Int32.ofNat u) (Int32.ofNat s) = some (g, mo') ∧ (∀ k, k ≠ 16 → mo'.1 k = mo.1 k) ∧ (∀ k, k ≠ 12 → k ≠ 13 → k ≠ 14 → k ≠ 15 → mo'.2 k = mo.2 k) := by
  obtain ⟨⟨G, R, n1, n2, n3, n4, n5⟩, ⟨f0, f1, ⟨j, hj, S⟩, t1, z0'⟩, -⟩ := id I
  have hU := G.1
  have h12 : u < 12 := by omega
  have gk := (G.2.2.1 u hu9).1
  have hnum : f_X5_numberOf (h 3) (Int32.ofNat u) = some ((h 3).1 3 u) := by
    unfold f_X5_numberOf
    simp (disch := omega) [u_made G.2.1 hU hu9, ix_lt1, ix_le1, ix_lt2, ix_le2, ix_eq1, ix_eq2, ix_lt, ix_le, ix_eq, ix_inb, ix_nat, ix_suc, ix_dbl, -Int32.ofNat_add, -Int32.ofNat_mul, h12]
  have nmOK : ∀ n, nOK ((h 3).1 1 u) n → ∀ v, v < U → nOK ((h 3).1 1 v) (nm (h 3) u n v) := fun n hn v hv => by
    unfold nm; by_cases q : v = u
    · subst q; rw [if_pos rfl]; exact hn
    · rw [if_neg q]; exact n3 v hv
  -- the number that is one more
  obtain ⟨m, hm1, hm2, hm3⟩ : ∃ m : Int32, f_X6_gainOf h (Int32.ofNat u) (Int32.ofNat s) = f_X6_gainOf_b31 h (Int32.ofNat u) (Int32.ofNat s) ((h 3).1 3 u) m ∧ nOK ((h 3).1 1 u) m ∧ ((h 3).1 1 u ≠ 2 → hd (((h 3).1 3 u).toInt64 + (1 : Int32).toInt64) 0 ((f_X7_mostOf ((h 3).1 1 u)).toInt64) = m.toInt64) := by
    have hg : f_X6_gainOf h (Int32.ofNat u) (Int32.ofNat s) = if f_X6_mostOf ((h 3).1 1 u) ≤ (h 3).1 3 u then f_X6_gainOf_b31 h (Int32.ofNat u) (Int32.ofNat s) ((h 3).1 3 u) ((h 3).1 3 u) else f_X6_gainOf_b31 h (Int32.ofNat u) (Int32.ofNat s) ((h 3).1 3 u) ((h 3).1 3 u + 1) := by
      unfold f_X6_gainOf
      rw [hnum, Option.bind_some, kd_of G.2.1 hU hu9, Option.bind_some]
    rw [hg]
    by_cases k2 : (h 3).1 1 u = 2
    · split
      · exact ⟨_, rfl, Or.inl k2, fun z => absurd k2 z⟩
      · exact ⟨_, rfl, Or.inl k2, fun z => absurd k2 z⟩
    · obtain ⟨e67, em, em0, em1⟩ := mo_67 gk k2
      have hn := n3 u hu9
      have hn : 0 ≤ ((h 3).1 3 u).toInt ∧ ((h 3).1 3 u).toInt ≤ mst ((h 3).1 1 u) := hn.elim (fun z => absurd z k2) id
      have o1 : ((1 : Int32).toInt64).toInt = 1 := rfl
      have e1 : (((h 3).1 3 u).toInt64 + (1 : Int32).toInt64).toInt = ((h 3).1 3 u).toInt + 1 := by
        rw [b_add (by rw [to64, o1]; omega) (by rw [to64, o1]; omega), to64, o1]
      have hh := hd_i (((h 3).1 3 u).toInt64 + (1 : Int32).toInt64) 0 ((f_X7_mostOf ((h 3).1 1 u)).toInt64)
      rw [e1, to64, em, show ((0 : Int64).toInt) = 0 from rfl] at hh
      by_cases q : f_X6_mostOf ((h 3).1 1 u) ≤ (h 3).1 3 u
      · rw [if_pos q]
        rw [e67, Int32.le_iff_toInt_le, em] at q
        refine ⟨_, rfl, n3 u hu9, fun _ => ?_⟩
        rw [← Int64.toInt_inj, hh, to64, if_neg (by omega), if_pos (by omega)]; omega
      · rw [if_neg q]
        rw [e67, Int32.le_iff_toInt_le, em] at q
        have e2 : ((h 3).1 3 u + 1).toInt = ((h 3).1 3 u).toInt + 1 := by
          rw [Int32.toInt_add]; show (((h 3).1 3 u).toInt + 1).bmod _ = _
          exact Int.bmod_eq_of_le (by omega) (by omega)
        refine ⟨_, rfl, Or.inr ⟨by omega, by omega⟩, fun _ => ?_⟩
        rw [← Int64.toInt_inj, hh, to64, e2, if_neg (by omega), if_neg (by omega)]
  have hx0 : (h 3).1 1 u ≠ 2 → hd (((h 3).1 3 u).toInt64 + (0 : Int32).toInt64) 0 ((f_X7_mostOf ((h 3).1 1 u)).toInt64) = ((h 3).1 3 u).toInt64 := fun k2 => by
    obtain ⟨e67, em, em0, em1⟩ := mo_67 gk k2
    have hn : 0 ≤ ((h 3).1 3 u).toInt ∧ ((h 3).1 3 u).toInt ≤ mst ((h 3).1 1 u) := (n3 u hu9).elim (fun z => absurd z k2) id
    have e1 : ((h 3).1 3 u).toInt64 + (0 : Int32).toInt64 = ((h 3).1 3 u).toInt64 := Int64.add_zero _
    rw [e1]
    have hh := hd_i (((h 3).1 3 u).toInt64) 0 ((f_X7_mostOf ((h 3).1 1 u)).toInt64)
    rw [to64, to64, em, show ((0 : Int64).toInt) = 0 from rfl] at hh
    rw [← Int64.toInt_inj, hh, to64, if_neg (by omega), if_neg (by omega)]
  have k1 := nmOK m hm2
  have k0 := nmOK ((h 3).1 3 u) (n3 u hu9)
  obtain ⟨o2, c1⟩ := cwl (s := s) G hu9 hs k1 (by omega) S
  obtain ⟨o3, c2⟩ := cwl (h := hu h 2 o2) (s := s) G hu9 hs k0 (by omega) S
  rw [hu_hu] at c2
  obtain ⟨mo1, d1, d2, d3⟩ := mwb (x3 := 1) G R n1.symm hu9 hs n3 k1 hm3 (show j ≤ 3600 by omega) (by rw [← f0, ← f1]; exact S)
  obtain ⟨mo2, e1, e2, e3⟩ := mwb (o := h 3) (mo := mo1) (x3 := 0) G (UR.co R (fun k hk => d2 k (by omega))) (by rw [d2 4 (by decide)]; exact n1.symm) hu9 hs n3 k0 hx0 (show j ≤ 3600 by omega) (by rw [d3 10 (by decide) (by decide) (by decide) (by decide), d3 11 (by decide) (by decide) (by decide) (by decide), ← f0, ← f1]; exact S)
  rw [d3 10 (by decide) (by decide) (by decide) (by decide), d3 11 (by decide) (by decide) (by decide) (by decide), ← f0, ← f1] at e1
  rw [← f0, ← f1] at d1
  obtain ⟨j1, hj1, S1⟩ := it_SI G k1 12 j ((h 1).2 0, (h 1).2 1) (by omega) S
  obtain ⟨j0, hj0, S0⟩ := it_SI G k0 12 j ((h 1).2 0, (h 1).2 1) (by omega) S
  have w1 := SI_wm (by omega) S1 s hs
  have w0 := SI_wm (by omega) S0 s hs
  have hd32 := d_32 w1.1 w1.2 w0.1 w0.2
  refine ⟨(wm ((it (h 3) (nm (h 3) u m) U 12 ((h 1).2 0, (h 1).2 1)).1 s) ((it (h 3) (nm (h 3) u m) U 12 ((h 1).2 0, (h 1).2 1)).2 s)).toInt32 - (wm ((it (h 3) (nm (h 3) u ((h 3).1 3 u)) U 12 ((h 1).2 0, (h 1).2 1)).1 s) ((it (h 3) (nm (h 3) u ((h 3).1 3 u)) U 12 ((h 1).2 0, (h 1).2 1)).2 s)).toInt32, o3, mo2, ?_, ?_, fun k hk => (e2 k hk).trans (d2 k hk), fun k h1 h2 h3 h4 => (e3 k h1 h2 h3 h4).trans (d3 k h1 h2 h3 h4)⟩
  · rw [hm1]
    unfold f_X6_gainOf_b31
    rw [c1, Option.bind_some]
    dsimp only
    rw [show f_X6_warmthLater (hu h 2 o2) (Int32.ofNat s) (Int32.ofNat u) ((h 3).1 3 u) = _ from c2, Option.bind_some]
    dsimp only
    exact congrArg some (Prod.ext hd32.symm rfl)
  · unfold f_X7_gainOf
    rw [d1, Option.bind_some]
    dsimp only
    rw [e1, Option.bind_some]
theorem INV_g2 {h : Nat → ObS} {mo mo' o2 : ObS} {U C t : Nat} (I : INV h mo U C t) (b : ∀ k, k ≠ 16 → mo'.1 k = mo.1 k) (c : ∀ k, k ≠ 12 → k ≠ 13 → k ≠ 14 → k ≠ 15 → mo'.2 k = mo.2 k) : INV (hu h 2 o2) mo' U C t := INV_co I (fun i hi => hu_n hi) (fun k _ h => b k h) c
theorem ag_gain {h : Nat → ObS} {mo : ObS} {U C t : Nat} (I : INV h mo U C t) (x y : Int32) (w : ObS) : AG (f_L_gain h x y w) (f_X7_gain mo x y) := by
  obtain ⟨⟨G, R, -⟩, -⟩ := id I
  have hU := G.1
  have r0 := R.1
  rw [G.2.1] at r0
  unfold f_L_gain f_X6_gain f_X7_gain
  rw [nU G.2.1 hU, tb_b, nS G.2.1 hU, tb_b, iU r0.symm hU, iS r0.symm hU]
  by_cases q1 : 0 ≤ x.toInt ∧ x.toInt < U
  · rw [if_pos q1, sB_t q1, Option.bind_some, if_neg n10]
    by_cases q2 : 0 ≤ y.toInt ∧ y.toInt < 2 * U
    · rw [if_pos q2, sB_t q2, Option.bind_some, if_neg n10]
      obtain ⟨u, huU, rfl⟩ := ex_n (x := x) (n := U) q1 (by omega)
      obtain ⟨s, hs, rfl⟩ := ex_n (x := y) (n := 2 * U) (by omega) (by omega)
      obtain ⟨g, o2, mo', e1, e2, e3, e4⟩ := gof (INV_0 I 0) huU (show s < 24 by omega)
      rw [e1, holds_1]
      refine AG_ok (r := g) (w := w) (INV_g2 (o2 := o2) (INV_0 I 0) e3 e4) ?_ ?_ (by rw [e3 0 (by decide)]; rfl)
      · simp [sumE, to_32]
      · rw [Option.bind_some, if_neg n10, e2]; rfl
    · rw [if_neg q2, sB_f q2, Option.bind_some, Option.bind_some, if_pos (rfl : (0 : Int32) = 0), holds_0 (by decide), Option.bind_some, if_pos rfl]
      exact AG_no I (w := w) (k := 1) (by decide) rfl rfl
  · rw [if_neg q1, sB_f q1, Option.bind_some, Option.bind_some, if_pos (rfl : (0 : Int32) = 0), holds_0 (by decide), Option.bind_some, if_pos rfl]
    exact AG_no I (w := w) (k := 1) (by decide) rfl rfl
theorem ag_relative {h : Nat → ObS} {mo : ObS} {U C t : Nat} (I : INV h mo U C t) (x y z v : Int32) (w : ObS) : AG (f_L_relative h x y z v w) (f_X7_relative mo x y z v) := by
  obtain ⟨⟨G, R, -⟩, -⟩ := id I
  have hU := G.1
  have r0 := R.1
  rw [G.2.1] at r0
  have no : f_X7_relative_b51 mo x y z v 1 = some (0, oi mo 0 0 1) := by
    unfold f_X7_relative_b51; rw [holds_0 (by decide)]; rfl
  unfold f_L_relative f_X6_relative f_X7_relative f_X7_relative_b37 f_X7_relative_b38
  rw [nU G.2.1 hU, tb_b, nU G.2.1 hU, tb_b, nS G.2.1 hU, tb_b, nS G.2.1 hU, tb_b, iU r0.symm hU, iU r0.symm hU, iS r0.symm hU, iS r0.symm hU]
  by_cases q1 : 0 ≤ x.toInt ∧ x.toInt < U
  · rw [if_pos q1, sB_t q1, Option.bind_some, if_neg n10]
    by_cases q2 : 0 ≤ y.toInt ∧ y.toInt < U
    · rw [if_pos q2, sB_t q2, Option.bind_some, if_neg n10]
      by_cases q3 : 0 ≤ z.toInt ∧ z.toInt < 2 * U
      · rw [if_pos q3, sB_t q3, Option.bind_some, if_neg n10]
        by_cases q4 : 0 ≤ v.toInt ∧ v.toInt < 2 * U
        · rw [if_pos q4, sB_t q4, Option.bind_some, if_neg n10, if_neg n10]
          obtain ⟨a, ha, rfl⟩ := ex_n (x := x) (n := U) q1 (by omega)
          obtain ⟨b, hb, rfl⟩ := ex_n (x := y) (n := U) q2 (by omega)
          obtain ⟨c, hc, rfl⟩ := ex_n (x := z) (n := 2 * U) (by omega) (by omega)
          obtain ⟨d, hd9, rfl⟩ := ex_n (x := v) (n := 2 * U) (by omega) (by omega)
          obtain ⟨g1, o1, m1, c1, d1, e1, f1⟩ := gof (INV_0 I 0) ha (show c < 24 by omega)
          have I1 := INV_g2 (o2 := o1) (INV_0 I 0) e1 f1
          obtain ⟨g2, o2, m2, c2, d2, e2, f2⟩ := gof I1 hb (show d < 24 by omega)
          have I2 := INV_g2 (o2 := o2) I1 e2 f2
          obtain ⟨g3, o3, m3, c3, d3, e3, f3⟩ := gof I2 ha (show d < 24 by omega)
          have I3 := INV_g2 (o2 := o3) I2 e3 f3
          obtain ⟨g4, o4, m4, c4, d4, e4, f4⟩ := gof I3 hb (show c < 24 by omega)
          have I4 := INV_g2 (o2 := o4) I3 e4 f4
          have m40 : m4.1 0 0 = 0 := by rw [e4 0 (by decide), e3 0 (by decide), e2 0 (by decide), e1 0 (by decide)]; rfl
          unfold f_X7_relative_b51
          rw [c1, holds_1]
          simp only [Option.bind_some, c2, c3, c4, d1, d2, d3, d4, if_neg n10]
          by_cases q : lg_cmp (g1.toInt64 * g2.toInt64 - g3.toInt64 * g4.toInt64) 0 = 0
          · refine AG_ok (r := -100000) (w := w) I4 ?_ ?_ m40
            · simp only [if_pos q]; rfl
            · simp only [if_pos q]
          · have q9 : ¬ g1.toInt64 * g2.toInt64 - g3.toInt64 * g4.toInt64 = 0 := fun z => q ((lg_cmp_eq _ _).mpr z)
            refine AG_ok (r := (100 * (g1.toInt64 * g2.toInt64) / (g1.toInt64 * g2.toInt64 - g3.toInt64 * g4.toInt64)).toInt32) (w := w) I4 ?_ ?_ m40
            · simp only [if_neg q, q9, not_false_eq_true, decide_true, if_true]; rfl
            · simp only [if_neg q, q9, not_false_eq_true, decide_true, if_true]
        · rw [if_neg q4, sB_f q4]
          refine AG_no I (w := w) (k := 1) (by decide) rfl ?_
          rw [Option.bind_some, if_pos (rfl : (0 : Int32) = 0), if_pos (rfl : (0 : Int32) = 0)]; exact no
      · rw [if_neg q3, sB_f q3]
        refine AG_no I (w := w) (k := 1) (by decide) rfl ?_
        rw [Option.bind_some, if_pos (rfl : (0 : Int32) = 0), if_pos (rfl : (0 : Int32) = 0)]; exact no
    · rw [if_neg q2, sB_f q2]
      refine AG_no I (w := w) (k := 1) (by decide) rfl ?_
      rw [Option.bind_some, if_pos (rfl : (0 : Int32) = 0), if_pos (rfl : (0 : Int32) = 0)]; exact no
  · rw [if_neg q1, sB_f q1]
    refine AG_no I (w := w) (k := 1) (by decide) rfl ?_
    rw [Option.bind_some, if_pos (rfl : (0 : Int32) = 0), if_pos (rfl : (0 : Int32) = 0)]; exact no
