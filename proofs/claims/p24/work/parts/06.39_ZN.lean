theorem uo_k2 (n n' d f1 h1 f2 h2 : Int64) : uo 2 n d f1 h1 f2 h2 = uo 2 n' d f1 h1 f2 h2 := by
  have a : ¬ (2 : Int32) = 0 := by decide
  have b : ¬ (2 : Int32) = 1 := by decide
  unfold uo; rw [if_neg a, if_neg b, if_pos rfl, if_neg a, if_neg b, if_pos rfl]
/-- the reference's pass of a gain -/
theorem mw22 {o : ObS} {U u : Nat} {n x3 : Int32} (G : GS o U) (hu9 : u < U) (hn0 : ∀ v, v < U → nOK (o.1 1 v) (o.1 3 v)) (hn : ∀ v, v < U → nOK (o.1 1 v) (nm o u n v)) (hx : o.1 1 u ≠ 2 → hd ((o.1 3 u).toInt64 + x3.toInt64) 0 ((f_X7_mostOf (o.1 1 u)).toInt64) = n.toInt64) (k : Int32 → ObS → Option (Int32 × ObS)) (i : Nat) : ∀ (d v j f : Nat) (mo : ObS), UR o mo → mo.1 4 = o.1 3 → v + d = U → j + d ≤ 3745 → d < f → SI o U v j (mo.2 10) (mo.2 11) → (∀ s, s < 24 → v ≤ s / 2 → mo.2 12 s = mo.2 10 s ∧ mo.2 13 s = mo.2 11 s) →
    ∃ mo' : ObS, f_X7_warmthBehind_b22 k (Int32.ofNat u) x3 (Int32.ofNat i) f (Int32.ofNat v) mo = k (Int32.ofNat (i + 1)) mo' ∧ mo'.2 10 = (pz o (nm o u n) d v (mo.2 10, mo.2 11, fun _ => 0)).1 ∧ mo'.2 11 = (pz o (nm o u n) d v (mo.2 10, mo.2 11, fun _ => 0)).2.1 ∧ (∀ k, k ≠ 8 → mo'.1 k = mo.1 k) ∧ (∀ v, 12 ≤ v → mo'.1 8 v = mo.1 8 v) ∧ (∀ k, k ≠ 10 → k ≠ 11 → mo'.2 k = mo.2 k)
  | d, v, j, 0, mo, R, h4, hv, hj, hf, S, ho => by omega
  | 0, v, j, f + 1, mo, R, h4, hv, hj, hf, S, ho => by
    obtain rfl : v = U := by omega
    have hU := G.1
    refine ⟨mo, ?_, rfl, rfl, fun _ _ => rfl, fun _ _ => rfl, fun _ _ _ => rfl⟩
    unfold f_X7_warmthBehind_b22
    rw [← R.1, G.2.1, if_pos ((ix_le (by omega) (by omega)).mpr (Nat.le_refl _)), ix_suc]
  | d + 1, v, j, f + 1, mo, R, h4, hv, hj, hf, S, ho => by
    have hU := G.1
    have hvU : v < U := by omega
    have h12 : v < 12 := by omega
    have b1 : ¬ Int32.ofNat U ≤ Int32.ofNat v := fun z => by have := (ix_le (by omega) (by omega)).mp z; omega
    have st := st_step G hvU (hn v hvU) S (by omega)
    have kv : mo.1 3 v = o.1 1 v := by rw [← R.2.1]
    have i12 : inb (Int32.ofNat v) 12 = true := by rw [ix_inb (by omega)]; simpa using h12
    -- one unit, whatever the number's way
    have go : ∀ mo1 : ObS, RUNS mo mo1 v (xo o (mo.2 10) (mo.2 11) v (nm o u n v)) → f_X7_warmthBehind_b22 k (Int32.ofNat u) x3 (Int32.ofNat i) (f + 1) (Int32.ofNat v) mo = f_X7_warmthBehind_b22 k (Int32.ofNat u) x3 (Int32.ofNat i) f (Int32.ofNat (v + 1)) mo1 →
        ∃ mo' : ObS, f_X7_warmthBehind_b22 k (Int32.ofNat u) x3 (Int32.ofNat i) (f + 1) (Int32.ofNat v) mo = k (Int32.ofNat (i + 1)) mo' ∧ mo'.2 10 = (pz o (nm o u n) (d + 1) v (mo.2 10, mo.2 11, fun _ => 0)).1 ∧ mo'.2 11 = (pz o (nm o u n) (d + 1) v (mo.2 10, mo.2 11, fun _ => 0)).2.1 ∧ (∀ k, k ≠ 8 → mo'.1 k = mo.1 k) ∧ (∀ v, 12 ≤ v → mo'.1 8 v = mo.1 8 v) ∧ (∀ k, k ≠ 10 → k ≠ 11 → mo'.2 k = mo.2 k) := by
      rintro mo1 ⟨q1, q2, q3, q4, q5⟩ he
      rw [← q2, ← q3] at st
      obtain ⟨mo', r0, r1, r2, r4, r5, r6⟩ := mw22 G hu9 hn0 hn hx k i d (v + 1) (j + 1) f mo1 (R.of q4) (by rw [q4 4 (by decide)]; exact h4) (by omega) (by omega) (by omega) st.1
        (fun s hs h9 => by rw [q5 12 (by decide) (by decide), q5 13 (by decide) (by decide), q2, q3, st2_n (by omega), st2_n (by omega)]; exact ho s hs (by omega))
      have pm := pz_M (o := o) (num := nm o u n) d (v + 1) (st2 (mo.2 10) v (xo o (mo.2 10) (mo.2 11) v (nm o u n v)).1 (xo o (mo.2 10) (mo.2 11) v (nm o u n v)).2.2.1, st2 (mo.2 11) v (xo o (mo.2 10) (mo.2 11) v (nm o u n v)).2.1 (xo o (mo.2 10) (mo.2 11) v (nm o u n v)).2.2.2.1, vp_updL (fun _ => 0) v (xo o (mo.2 10) (mo.2 11) v (nm o u n v)).2.2.2.2) (mo1.2 10, mo1.2 11, fun _ => 0) q2.symm q3.symm
      refine ⟨mo', he.trans r0, r1.trans pm.1.symm, r2.trans pm.2.symm, fun k hk => (r4 k hk).trans (q4 k hk), fun v' hv' => (r5 v' hv').trans ?_, fun k h1 h2 => (r6 k h1 h2).trans (q5 k h1 h2)⟩
      rw [q1]; unfold upd; rw [if_neg (by omega)]
    by_cases q : v = u
    · subst q
      have en : nm o v n v = n := if_pos rfl
      rw [en] at go
      by_cases q2 : o.1 1 v = 2
      · obtain ⟨mo1, e1, e2⟩ := m_stp R G hvU (hn0 v hvU) S (by omega) ho
        have ex : xo o (mo.2 10) (mo.2 11) v (o.1 3 v) = xo o (mo.2 10) (mo.2 11) v n := by unfold xo; rw [q2]; exact uo_k2 _ _ _ _ _ _ _
        refine go mo1 (ex ▸ e2) ?_
        conv => lhs; unfold f_X7_warmthBehind_b22 f_X7_warmthBehind_b52 f_X7_warmthBehind_b53
        rw [← R.1, G.2.1, if_neg b1, if_pos rfl, if_pos i12, ix_nat (by omega), kv, if_pos q2, if_pos rfl, if_pos i12, h4, e1, Option.bind_some, ix_suc]
      · have hn1 := hn v hvU
        rw [en] at hn1
        obtain ⟨mo1, e1, e2⟩ := m_stp R G hvU hn1 S (by omega) ho
        refine go mo1 e2 ?_
        conv => lhs; unfold f_X7_warmthBehind_b22 f_X7_warmthBehind_b52 f_X7_warmthBehind_b53
        rw [← R.1, G.2.1, if_neg b1, if_pos rfl, if_pos i12, ix_nat (by omega), kv, if_neg q2, if_neg n10, if_pos i12, if_pos i12, h4, held7, hx q2, e1, Option.bind_some, ix_suc]
    · have en : nm o u n v = o.1 3 v := if_neg q
      rw [en] at go
      obtain ⟨mo1, e1, e2⟩ := m_stp R G hvU (hn0 v hvU) S (by omega) ho
      refine go mo1 e2 ?_
      conv => lhs; unfold f_X7_warmthBehind_b22 f_X7_warmthBehind_b52 f_X7_warmthBehind_b53
      rw [← R.1, G.2.1, if_neg b1, if_neg (fun z => q ((ix_eq (by omega) (by omega)).mp z)), if_pos rfl, if_pos i12, ix_nat (by omega), h4, e1, Option.bind_some, ix_suc]
theorem mw8 {o : ObS} {U u s : Nat} {n x3 : Int32} (G : GS o U) (hu9 : u < U) (hn0 : ∀ v, v < U → nOK (o.1 1 v) (o.1 3 v)) (hn : ∀ v, v < U → nOK (o.1 1 v) (nm o u n v)) (hx : o.1 1 u ≠ 2 → hd ((o.1 3 u).toInt64 + x3.toInt64) 0 ((f_X7_mostOf (o.1 1 u)).toInt64) = n.toInt64) : ∀ (d i j f : Nat) (mo : ObS), UR o mo → mo.1 4 = o.1 3 → i + d = 12 → j + 12 * d ≤ 3745 → d < f → SI o U U j (mo.2 10) (mo.2 11) →
    ∃ mo' : ObS, f_X7_warmthBehind_b8 (Int32.ofNat s) (Int32.ofNat u) x3 f (Int32.ofNat i) mo = ((f_X7_warmthOf mo' (Int32.ofNat s)).bind fun r117 => (f_X7_keeps mo' 1).bind fun r124 => some (r117, r124)) ∧ mo'.2 10 = (it o (nm o u n) U d (mo.2 10, mo.2 11)).1 ∧ mo'.2 11 = (it o (nm o u n) U d (mo.2 10, mo.2 11)).2 ∧ (∀ k, k ≠ 8 → mo'.1 k = mo.1 k) ∧ (∀ v, 12 ≤ v → mo'.1 8 v = mo.1 8 v) ∧ (∀ k, k ≠ 10 → k ≠ 11 → k ≠ 12 → k ≠ 13 → mo'.2 k = mo.2 k)
  | d, i, j, 0, mo, R, h4, hi, hj, hf, S => by omega
  | 0, i, j, f + 1, mo, R, h4, hi, hj, hf, S => by
    obtain rfl : i = 12 := by omega
    refine ⟨mo, ?_, rfl, rfl, fun _ _ => rfl, fun _ _ => rfl, fun _ _ _ _ _ => rfl⟩
    unfold f_X7_warmthBehind_b8
    rw [if_pos (show (12 : Int32) ≤ Int32.ofNat 12 by decide)]
  | d + 1, i, j, f + 1, mo, R, h4, hi, hj, hf, S => by
    have hU := G.1
    have b1 : ¬ (12 : Int32) ≤ Int32.ofNat i := fun z => by have := (ix_le (i := 12) (by omega) (by omega)).mp z; omega
    obtain ⟨m1, a1, a2, a3, a4⟩ := ages_ok mo
    have e10 := a3 10 (by decide) (by decide)
    have e11 := a3 11 (by decide) (by decide)
    obtain ⟨m2, c1, c2, c3, c4, c5, c6⟩ := mw22 (n := n) (x3 := x3) G hu9 hn0 hn hx (f_X7_warmthBehind_b8 (Int32.ofNat s) (Int32.ofNat u) x3 f) i U 0 j 64 m1 (by unfold UR at R ⊢; rw [a2]; exact R) (by rw [a2]; exact h4) (by omega) (by omega) (by omega) (by rw [e10, e11]; exact SI_0 G S) (fun s hs _ => by rw [(a4 s hs).1, (a4 s hs).2, e10, e11]; exact ⟨rfl, rfl⟩)
    rw [e10, e11] at c2 c3
    have S2 := it_ok2 G hn S (by omega)
    rw [← c2, ← c3] at S2
    obtain ⟨m3, d1, d2, d3, d4, d5, d6⟩ := mw8 (s := s) G hu9 hn0 hn hx d (i + 1) (j + U) f m2 (UR.of (by unfold UR at R ⊢; rw [a2]; exact R) c4) (by rw [c4 4 (by decide), a2]; exact h4) (by omega) (by omega) (by omega) S2
    have eit : it o (nm o u n) U (d + 1) (mo.2 10, mo.2 11) = it o (nm o u n) U d (m2.2 10, m2.2 11) := by rw [c2, c3]; rfl
    refine ⟨m3, ?_, by rw [eit]; exact d2, by rw [eit]; exact d3, fun k hk => by rw [d4 k hk, c4 k hk, a2], fun v hv => by rw [d5 v hv, c5 v hv, a2], fun k h1 h2 h3 h4 => by rw [d6 k h1 h2 h3 h4, c6 k h1 h2, a3 k h3 h4]⟩
    conv => lhs; unfold f_X7_warmthBehind_b8
    rw [if_neg b1, a1, Option.bind_some, show f_X7_warmthBehind_b22 (f_X7_warmthBehind_b8 (Int32.ofNat s) (Int32.ofNat u) x3 f) (Int32.ofNat u) x3 (Int32.ofNat i) 64 0 m1 = _ from c1, d1]
theorem it_hi {o : ObS} {U : Nat} {num : Nat → Int32} (hU : U ≤ 12) : ∀ (k : Nat) (t : (Nat → Int64) × (Nat → Int64)) (s : Nat), 24 ≤ s → (it o num U k t).1 s = t.1 s ∧ (it o num U k t).2 s = t.2 s
  | 0, t, s, hs => ⟨rfl, rfl⟩
  | k + 1, t, s, hs => by
    obtain ⟨p, q⟩ := it_hi (o := o) (num := num) hU k ((pz o num U 0 (t.1, t.2, fun _ => 0)).1, (pz o num U 0 (t.1, t.2, fun _ => 0)).2.1) s hs
    obtain ⟨p2, q2⟩ := pz_hi (o := o) (num := num) hU U 0 (t.1, t.2, fun _ => 0) (by omega) s hs
    exact ⟨p.trans p2, q.trans q2⟩
theorem mwb {o mo : ObS} {U u s j : Nat} {n x3 : Int32} (G : GS o U) (R : UR o mo) (h4 : mo.1 4 = o.1 3) (hu9 : u < U) (hs : s < 24) (hn0 : ∀ v, v < U → nOK (o.1 1 v) (o.1 3 v)) (hn : ∀ v, v < U → nOK (o.1 1 v) (nm o u n v)) (hx : o.1 1 u ≠ 2 → hd ((o.1 3 u).toInt64 + x3.toInt64) 0 ((f_X7_mostOf (o.1 1 u)).toInt64) = n.toInt64) (hj : j ≤ 3600) (S : SI o U U j (mo.2 10) (mo.2 11)) :
    ∃ mo' : ObS, f_X7_warmthBehind mo (Int32.ofNat s) (Int32.ofNat u) x3 = some ((wm ((it o (nm o u n) U 12 (mo.2 10, mo.2 11)).1 s) ((it o (nm o u n) U 12 (mo.2 10, mo.2 11)).2 s)).toInt32, mo') ∧ (∀ k, k ≠ 16 → mo'.1 k = mo.1 k) ∧ (∀ k, k ≠ 12 → k ≠ 13 → k ≠ 14 → k ≠ 15 → mo'.2 k = mo.2 k) := by
  have hU := G.1
  obtain ⟨m1, a1, a2, a3, a4, a5, a6, a7⟩ := keeps_ok (x := 0) (Or.inl rfl) mo
  have e10 : m1.2 10 = mo.2 10 := by
    funext i; by_cases h : i < 24
    · rw [(a4 i h).1, if_pos rfl]
    · exact (a5 i (by omega)).1
  have e11 : m1.2 11 = mo.2 11 := by
    funext i; by_cases h : i < 24
    · rw [(a4 i h).2.2.1, if_pos rfl]
    · exact (a5 i (by omega)).2
  have e8 : m1.1 8 = mo.1 8 := by
    funext i; by_cases h : i < 12
    · rw [(a6 i h).1, if_pos rfl]
    · exact a7 i (by omega)
  have ek : ∀ k, k ≠ 16 → m1.1 k = mo.1 k := fun k hk => by
    by_cases h : k = 8
    · subst h; exact e8
    · exact a2 k h hk
  obtain ⟨m2, b1, b2, b3, b4, b5, b6⟩ := mw8 (s := s) (n := n) (x3 := x3) G hu9 hn0 hn hx 12 0 j 64 m1 (UR.co R (fun k hk => ek k (by omega))) (by rw [ek 4 (by decide)]; exact h4) (by omega) (by omega) (by omega) (by rw [e10, e11]; exact S)
  rw [e10, e11] at b2 b3
  obtain ⟨m3, c1, c2, c3, c4, c5, c6, c7⟩ := keeps_ok (x := 1) (Or.inr rfl) m2
  refine ⟨m3, ?_, fun k hk => ?_, fun k h1 h2 h3 h4' => ?_⟩
  · unfold f_X7_warmthBehind
    rw [a1, Option.bind_some, show f_X7_warmthBehind_b8 (Int32.ofNat s) (Int32.ofNat u) x3 64 0 m1 = _ from b1, m_warm hs, Option.bind_some, c1, Option.bind_some, b2, b3]
  · by_cases h : k = 8
    · subst h
      funext i; by_cases h : i < 12
      · rw [(c6 i h).1, if_neg n10, b4 16 (by decide), (a6 i h).2, if_pos rfl]
      · rw [c7 i (by omega), b5 i (by omega), e8]
    · rw [c2 k h hk, b4 k h, ek k hk]
  · by_cases h10 : k = 10
    · subst h10
      funext i; by_cases h : i < 24
      · rw [(c4 i h).1, if_neg n10, b6 14 (by decide) (by decide) (by decide) (by decide), (a4 i h).2.1, if_pos rfl]
      · rw [(c5 i (by omega)).1, b2, (it_hi hU 12 _ i (by omega)).1]
    · by_cases h11 : k = 11
      · subst h11
        funext i; by_cases h : i < 24
        · rw [(c4 i h).2.2.1, if_neg n10, b6 15 (by decide) (by decide) (by decide) (by decide), (a4 i h).2.2.2, if_pos rfl]
        · rw [(c5 i (by omega)).2, b3, (it_hi hU 12 _ i (by omega)).2]
      · rw [c3 k h10 h11 h3 h4', b6 k h10 h11 h1 h2, a3 k h10 h11 h3 h4']
