/-! all units give: once for the class's words and once for the reference's -/
def pz (o : ObS) (num : Nat → Int32) : Nat → Nat → (Nat → Int64) × (Nat → Int64) × (Nat → Int64) → (Nat → Int64) × (Nat → Int64) × (Nat → Int64)
  | 0, _, t => t
  | d + 1, u, t => pz o num d (u + 1) (st2 t.1 u (xo o t.1 t.2.1 u (num u)).1 (xo o t.1 t.2.1 u (num u)).2.2.1, st2 t.2.1 u (xo o t.1 t.2.1 u (num u)).2.1 (xo o t.1 t.2.1 u (num u)).2.2.2.1, vp_updL t.2.2 u (xo o t.1 t.2.1 u (num u)).2.2.2.2)
def HB (o : ObS) (u : Nat) (base : Int) (H M : Nat → Int64) : Prop := AA (TK o) u (fun s => (H s).toInt) = base + sm u (fun v => if o.1 1 v = 0 then (H (2 * v)).toInt else 0) - sm u (fun v => if o.1 1 v = 4 then (M v).toInt else 0)
theorem HB_step {o : ObS} {U u j : Nat} {F H M : Nat → Int64} {n : Int32} {base : Int} (G : GS o U) (hu : u < U) (hn : nOK (o.1 1 u) n) (S : SI o U u j F H) (hj : j ≤ 3744) (hb : HB o u base H M) :
    HB o (u + 1) base (st2 H u (xo o F H u n).2.1 (xo o F H u n).2.2.2.1) (vp_updL M u (xo o F H u n).2.2.2.2) := by
  have h := (st_step G hu hn S hj).2.1
  unfold HB at hb ⊢
  rw [h, hb]
  show _ = base + (sm u _ + _) - (sm u _ + _)
  have e1 : sm u (fun v => if o.1 1 v = 0 then (st2 H u (xo o F H u n).2.1 (xo o F H u n).2.2.2.1 (2 * v)).toInt else 0) = sm u (fun v => if o.1 1 v = 0 then (H (2 * v)).toInt else 0) := sm_ext (fun v hv => by rw [st2_n (by omega)])
  have e2 : sm u (fun v => if o.1 1 v = 4 then (vp_updL M u (xo o F H u n).2.2.2.2 v).toInt else 0) = sm u (fun v => if o.1 1 v = 4 then (M v).toInt else 0) := sm_ext (fun v hv => by rw [show vp_updL M u (xo o F H u n).2.2.2.2 v = M v from if_neg (by omega)])
  have e3 : vp_updL M u (xo o F H u n).2.2.2.2 u = (xo o F H u n).2.2.2.2 := if_pos rfl
  rw [e1, e2]; dsimp only; rw [e3, st2_a]; omega
theorem pz_ok {o : ObS} {U : Nat} {num : Nat → Int32} {base : Int} (G : GS o U) (hn : ∀ u, u < U → nOK (o.1 1 u) (num u)) : ∀ (d u j : Nat) (t : (Nat → Int64) × (Nat → Int64) × (Nat → Int64)), u + d = U → j + d ≤ 3745 → SI o U u j t.1 t.2.1 → 
    SI o U U (j + d) (pz o num d u t).1 (pz o num d u t).2.1 ∧ (HB o u base t.2.1 t.2.2 → HB o U base (pz o num d u t).2.1 (pz o num d u t).2.2)
  | 0, u, j, t, h, hj, S => by
    obtain rfl : u = U := by omega
    exact ⟨S, id⟩
  | d + 1, u, j, t, h, hj, S => by
    have st := st_step G (by omega) (hn u (by omega)) S (by omega)
    have := pz_ok (base := base) G hn d (u + 1) (j + 1) (st2 t.1 u (xo o t.1 t.2.1 u (num u)).1 (xo o t.1 t.2.1 u (num u)).2.2.1, st2 t.2.1 u (xo o t.1 t.2.1 u (num u)).2.1 (xo o t.1 t.2.1 u (num u)).2.2.2.1, vp_updL t.2.2 u (xo o t.1 t.2.1 u (num u)).2.2.2.2) (by omega) (by omega) st.1 
    rw [show j + 1 + d = j + (d + 1) by omega] at this
    exact ⟨this.1, fun hb => this.2 (HB_step G (by omega) (hn u (by omega)) S (by omega) hb)⟩
/-- the class's step -/
theorem c_stp {o0 o1 : ObS} {U u j : Nat} {n : Int32} (G : GS o0 U) (hu : u < U) (hn : nOK (o0.1 1 u) n) (S : SI o0 U u j (o1.2 0) (o1.2 1)) (hj : j ≤ 3744) :
    ∃ o1' : ObS, f_X5_give o0 o1 (Int32.ofNat u) n = some ((xo o0 (o1.2 0) (o1.2 1) u n).2.2.2.2, o1') ∧ o1'.2 0 = st2 (o1.2 0) u (xo o0 (o1.2 0) (o1.2 1) u n).1 (xo o0 (o1.2 0) (o1.2 1) u n).2.2.1 ∧ o1'.2 1 = st2 (o1.2 1) u (xo o0 (o1.2 0) (o1.2 1) u n).2.1 (xo o0 (o1.2 0) (o1.2 1) u n).2.2.2.1 := by
  have hU := G.1
  have gu := G.2.2.1 u hu
  exact c_give (a := pa o0 u) (b := pb o0 u) G.2.1 G.1 hu gu.1 (fun h => ⟨(gu.2.1 h).2.1, (gu.2.1 h).1⟩) (fun h => ⟨(gu.2.2.1 h).2.1, (gu.2.2.1 h).1⟩) (fun h h9 => S.2.2.1 u (by omega) (Or.inr ⟨h, h9⟩)) (st_step G hu hn S hj).2.2
theorem xo_i {o o' : ObS} (h : o.1 = o'.1) : xo o = xo o' := by
  funext F H u n; unfold xo pa pb; rw [h]
theorem pz_i {o o' : ObS} (h : o.1 = o'.1) (num : Nat → Int32) : ∀ (d u : Nat) (t : (Nat → Int64) × (Nat → Int64) × (Nat → Int64)), pz o num d u t = pz o' num d u t
  | 0, u, t => rfl
  | d + 1, u, t => by unfold pz; rw [xo_i h]; exact pz_i h num d (u + 1) _
theorem c_all {U : Nat} {num : Nat → Int32} : ∀ (d u j f : Nat) (o0 o1 : ObS), GS o0 U → (∀ v, v < U → nOK (o0.1 1 v) (o0.1 3 v)) → u + d = U → j + d ≤ 3745 → d < f → SI o0 U u j (o1.2 0) (o1.2 1) →
    ∃ o0' o1' : ObS, f_X5_giveAll_b2 f (Int32.ofNat u) o0 o1 = some (o0', o1') ∧ o0'.1 = o0.1 ∧ (o1'.2 0, o1'.2 1, o0'.2 7) = pz o0 (o0.1 3) d u (o1.2 0, o1.2 1, o0.2 7)
  | d, u, j, 0, o0, o1, G, hn, h, hj, hf, S => by omega
  | 0, u, j, f + 1, o0, o1, G, hn, h, hj, hf, S => by
    obtain rfl : u = U := by omega
    have hU := G.1
    refine ⟨o0, o1, ?_, rfl, rfl⟩
    unfold f_X5_giveAll_b2
    rw [G.2.1, if_pos ((ix_le (by omega) (by omega)).mpr (Nat.le_refl _))]
  | d + 1, u, j, f + 1, o0, o1, G, hn, h, hj, hf, S => by
    have hU := G.1
    obtain ⟨o1', e1, e2, e3⟩ := c_stp G (show u < U by omega) (hn u (by omega)) S (by omega)
    have st := st_step G (show u < U by omega) (hn u (by omega)) S (by omega)
    rw [← e2, ← e3] at st
    obtain ⟨p, q, r1, r2, r3⟩ := c_all (num := num) d (u + 1) (j + 1) f (oj o0 7 u (xo o0 (o1.2 0) (o1.2 1) u (o0.1 3 u)).2.2.2.2) o1' G hn (by omega) (by omega) (by omega) st.1
    refine ⟨p, q, ?_, r2, ?_⟩
    · unfold f_X5_giveAll_b2
      have a1 : ¬ U ≤ u := by omega
      have a2 : ¬ 12 ≤ u := by omega
      have a3 : u < 12 := by omega
      rw [← r1]
      simp (disch := omega) [G.2.1, ix_lt1, ix_le1, ix_lt2, ix_le2, ix_eq1, ix_eq2, ix_lt, ix_le, ix_eq, ix_inb, ix_nat, ix_suc, ix_dbl, -Int32.ofNat_add, -Int32.ofNat_mul, a1, a2, a3, e1]
    · rw [r3]
      rw [pz_i (oj_i o0 7 u _), oj_j, if_pos rfl, e2, e3]
      rfl
/-- the reference's unit rows are the class's -/
def UR (o mo : ObS) : Prop := o.1 0 0 = mo.1 2 0 ∧ o.1 1 = mo.1 3 ∧ o.1 2 = mo.1 5 ∧ o.1 4 = mo.1 6 ∧ o.1 5 = mo.1 7
theorem uo_k0 (n d f1 h1 f2 h2 : Int64) : uo 0 n d f1 h1 f2 h2 = (n, n * d, 0, 0, 0) := by unfold uo; rw [if_pos rfl]
theorem uo_k1 (n d f1 h1 f2 h2 f2' h2' : Int64) : uo 1 n d f1 h1 f2 h2 = uo 1 n d f1 h1 f2' h2' := by
  have a : ¬ (1 : Int32) = 0 := by decide
  unfold uo; rw [if_neg a, if_pos rfl, if_neg a, if_pos rfl]
theorem uo_k4 (n d f1 h1 f2 h2 f2' h2' : Int64) : uo 4 n d f1 h1 f2 h2 = uo 4 n d f1 h1 f2' h2' := by
  have a : ¬ (4 : Int32) = 0 := by decide
  have b : ¬ (4 : Int32) = 1 := by decide
  have c : ¬ (4 : Int32) = 2 := by decide
  have d : ¬ (4 : Int32) = 3 := by decide
  unfold uo; rw [if_neg a, if_neg b, if_neg c, if_neg d, if_neg a, if_neg b, if_neg c, if_neg d]
theorem m_stp {o mo : ObS} {U u j : Nat} {n : Int32} (R : UR o mo) (G : GS o U) (hu : u < U) (hn : nOK (o.1 1 u) n) (S : SI o U u j (mo.2 10) (mo.2 11)) (hj : j ≤ 3744) (ho : ∀ s, s < 24 → u ≤ s / 2 → mo.2 12 s = mo.2 10 s ∧ mo.2 13 s = mo.2 11 s) :
    ∃ mo' : ObS, f_X7_runs mo (Int32.ofNat u) n.toInt64 = some mo' ∧ RUNS mo mo' u (xo o (mo.2 10) (mo.2 11) u n) := by
  have hU := G.1
  have gu := G.2.2.1 u hu
  have st := st_step G hu hn S hj
  obtain ⟨r0, r1, r2, r3, r4⟩ := R
  unfold xo
  have p1 : o.1 1 u ≠ 0 → pa o u < 24 := fun h => (gu.2.1 h).1
  have p2 : o.1 1 u = 2 ∨ o.1 1 u = 3 → pb o u < 24 := fun h => (gu.2.2.1 h).1
  rw [r1, r2]
  by_cases hk0 : o.1 1 u = 0
  · -- a source takes nothing
    have q1 : ∀ f1 h1 f2 h2, uo (mo.1 3 u) n.toInt64 (mo.1 5 u).toInt64 f1 h1 f2 h2 = uo (mo.1 3 u) n.toInt64 (mo.1 5 u).toInt64 (mo.2 10 (pa o u)) (mo.2 11 (pa o u)) (mo.2 10 (pb o u)) (mo.2 11 (pb o u)) := by
      intro f1 h1 f2 h2; rw [← r1, hk0, uo_k0, uo_k0]
    obtain ⟨mo', e1, e2⟩ := m_runs (mo := mo) (u := u) (a := 0) (b := 0) (n := n.toInt64) (by omega) (by rw [← r1]; exact gu.1) (fun h => absurd (r1 ▸ hk0) h) (fun h => by rw [← r1, hk0] at h; exact absurd h (by decide)) rfl rfl rfl rfl (fun h => by rw [← r1, hk0] at h; exact absurd h (by decide))
    rw [q1] at e2
    exact ⟨mo', e1, e2⟩
  · have ha := p1 hk0
    have efa : (if u ≤ pa o u / 2 then mo.2 12 (pa o u) else mo.2 10 (pa o u)) = mo.2 10 (pa o u) := by
      split
      · exact (ho _ ha (by assumption)).1
      · rfl
    have eha : (if u ≤ pa o u / 2 then mo.2 13 (pa o u) else mo.2 11 (pa o u)) = mo.2 11 (pa o u) := by
      split
      · exact (ho _ ha (by assumption)).2
      · rfl
    by_cases hk2 : o.1 1 u = 2 ∨ o.1 1 u = 3
    · have hb := p2 hk2
      have efb : (if u ≤ pb o u / 2 then mo.2 12 (pb o u) else mo.2 10 (pb o u)) = mo.2 10 (pb o u) := by
        split
        · exact (ho _ hb (by assumption)).1
        · rfl
      have ehb : (if u ≤ pb o u / 2 then mo.2 13 (pb o u) else mo.2 11 (pb o u)) = mo.2 11 (pb o u) := by
        split
        · exact (ho _ hb (by assumption)).2
        · rfl
      exact m_runs (by omega) (by rw [← r1]; exact gu.1) (fun h => by rw [← r3]; exact ⟨(gu.2.1 hk0).2.1, ha⟩) (fun h => by rw [← r4]; exact ⟨(gu.2.2.1 hk2).2.1, hb⟩) efa eha efb ehb (fun h => st.2.2 (by rw [r1]; exact h))
    · have q1 : ∀ f2 h2, uo (mo.1 3 u) n.toInt64 (mo.1 5 u).toInt64 (mo.2 10 (pa o u)) (mo.2 11 (pa o u)) f2 h2 = uo (mo.1 3 u) n.toInt64 (mo.1 5 u).toInt64 (mo.2 10 (pa o u)) (mo.2 11 (pa o u)) (mo.2 10 (pb o u)) (mo.2 11 (pb o u)) := by
        intro f2 h2
        rw [← r1]
        rcases gu.1 with q | q | q | q | q
        · exact absurd q hk0
        · rw [q]; exact uo_k1 _ _ _ _ _ _ _ _
        · exact absurd (Or.inl q) hk2
        · exact absurd (Or.inr q) hk2
        · rw [q]; exact uo_k4 _ _ _ _ _ _ _ _
      obtain ⟨mo', e1, e2⟩ := m_runs (mo := mo) (u := u) (a := pa o u) (b := 0) (n := n.toInt64) (by omega) (by rw [← r1]; exact gu.1) (fun h => by rw [← r3]; exact ⟨(gu.2.1 hk0).2.1, ha⟩) (fun h => absurd (r1 ▸ h) hk2) efa eha rfl rfl (fun h => absurd (Or.inr (r1 ▸ h)) hk2)
      rw [q1] at e2
      exact ⟨mo', e1, e2⟩
