/-! the reference's run of all units; how it ages; its trends -/
theorem UR.of {o mo mo' : ObS} (h : UR o mo) (hk : ∀ k, k ≠ 8 → mo'.1 k = mo.1 k) : UR o mo' := by
  obtain ⟨a, b, c, d, e⟩ := h
  exact ⟨by rw [hk 2 (by decide)]; exact a, by rw [hk 3 (by decide)]; exact b, by rw [hk 5 (by decide)]; exact c, by rw [hk 6 (by decide)]; exact d, by rw [hk 7 (by decide)]; exact e⟩
theorem m_all {o : ObS} {U : Nat} : ∀ (d u j f : Nat) (mo : ObS) (M : Nat → Int64), UR o mo → GS o U → (∀ v, v < U → nOK (o.1 1 v) (mo.1 4 v)) → u + d = U → j + d ≤ 3745 → d < f → SI o U u j (mo.2 10) (mo.2 11) → (∀ s, s < 24 → u ≤ s / 2 → mo.2 12 s = mo.2 10 s ∧ mo.2 13 s = mo.2 11 s) → (∀ v, (M v).toInt32 = mo.1 8 v) →
    ∃ mo' : ObS, f_X7_ticks_b62 f (Int32.ofNat u) mo = f_X7_ticks_b90 64 0 mo' ∧ mo'.2 10 = (pz o (mo.1 4) d u (mo.2 10, mo.2 11, M)).1 ∧ mo'.2 11 = (pz o (mo.1 4) d u (mo.2 10, mo.2 11, M)).2.1 ∧ (∀ v, ((pz o (mo.1 4) d u (mo.2 10, mo.2 11, M)).2.2 v).toInt32 = mo'.1 8 v) ∧ (∀ k, k ≠ 8 → mo'.1 k = mo.1 k) ∧ (∀ k, k ≠ 10 → k ≠ 11 → mo'.2 k = mo.2 k)
  | d, u, j, 0, mo, M, R, G, hn, h, hj, hf, S, ho, hm => by omega
  | 0, u, j, f + 1, mo, M, R, G, hn, h, hj, hf, S, ho, hm => by
    obtain rfl : u = U := by omega
    have hU := G.1
    refine ⟨mo, ?_, rfl, rfl, hm, fun _ _ => rfl, fun _ _ _ => rfl⟩
    unfold f_X7_ticks_b62
    rw [← R.1, G.2.1, if_pos ((ix_le (by omega) (by omega)).mpr (Nat.le_refl _))]
  | d + 1, u, j, f + 1, mo, M, R, G, hn, h, hj, hf, S, ho, hm => by
    have hU := G.1
    obtain ⟨mo1, e1, q1, q2, q3, q4, q5⟩ := m_stp R G (show u < U by omega) (hn u (by omega)) S (by omega) ho
    have st := st_step G (show u < U by omega) (hn u (by omega)) S (by omega)
    rw [← q2, ← q3] at st
    have n1 : mo1.1 4 = mo.1 4 := q4 4 (by decide)
    obtain ⟨mo', r0, r1, r2, r3, r4, r5⟩ := m_all d (u + 1) (j + 1) f mo1 (vp_updL M u (xo o (mo.2 10) (mo.2 11) u (mo.1 4 u)).2.2.2.2) (R.of q4) G (by rw [n1]; exact hn) (by omega) (by omega) (by omega) st.1
      (fun s hs h9 => by rw [q5 12 (by decide) (by decide), q5 13 (by decide) (by decide), q2, q3, st2_n (by omega), st2_n (by omega)]; exact ho s hs (by omega))
      (fun v => by
        rw [q1]; unfold vp_updL upd
        by_cases h9 : v = u
        · rw [if_pos h9, if_pos h9]
        · rw [if_neg h9, if_neg h9]; exact hm v)
    refine ⟨mo', ?_, ?_, ?_, ?_, fun k hk => (r4 k hk).trans (q4 k hk), fun k hk hk9 => (r5 k hk hk9).trans (q5 k hk hk9)⟩
    · unfold f_X7_ticks_b62
      rw [← r0]
      have a1 : ¬ U ≤ u := by omega
      have a3 : u < 12 := by omega
      have r0 := R.1
      rw [G.2.1] at r0
      simp (disch := omega) [← r0, ix_lt1, ix_le1, ix_lt2, ix_le2, ix_eq1, ix_eq2, ix_lt, ix_le, ix_eq, ix_inb, ix_nat, ix_suc, ix_dbl, -Int32.ofNat_add, -Int32.ofNat_mul, a1, a3, e1]
    · rw [r1, n1, q2, q3]; rfl
    · rw [r2, n1, q2, q3]; rfl
    · intro v; rw [← r3 v, n1, q2, q3]; rfl
theorem ages_lp : ∀ (d s f : Nat) (mo : ObS), s + d = 24 → d < f → ∃ mo' : ObS, f_X7_ages_b2 f (Int32.ofNat s) mo = some mo' ∧ mo'.1 = mo.1 ∧ (∀ k, k ≠ 12 → k ≠ 13 → mo'.2 k = mo.2 k) ∧ (∀ i, s ≤ i → i < 24 → mo'.2 12 i = mo.2 10 i ∧ mo'.2 13 i = mo.2 11 i) ∧ (∀ i, i < s → mo'.2 12 i = mo.2 12 i ∧ mo'.2 13 i = mo.2 13 i)
  | d, s, 0, mo, h, hf => by omega
  | 0, s, f + 1, mo, h, hf => by
    obtain rfl : s = 24 := by omega
    exact ⟨mo, rfl, rfl, fun _ _ _ => rfl, fun i h1 h2 => by omega, fun i h1 => ⟨rfl, rfl⟩⟩
  | d + 1, s, f + 1, mo, h, hf => by
    obtain ⟨mo', e, e1, e2, e3, e4⟩ := ages_lp d (s + 1) f (oj (oj mo 12 s (mo.2 10 s)) 13 s (mo.2 11 s)) (by omega) (by omega)
    refine ⟨mo', ?_, e1, fun k h1 h2 => ?_, fun i h1 h2 => ?_, fun i h1 => ?_⟩
    · unfold f_X7_ages_b2
      rw [← e]
      have a1 : ¬ 24 ≤ s := by omega
      have a3 : s < 24 := by omega
      simp (disch := omega) [ix_lt1, ix_le1, ix_lt2, ix_le2, ix_eq1, ix_eq2, ix_lt, ix_le, ix_eq, ix_inb, ix_nat, ix_suc, ix_dbl, -Int32.ofNat_add, -Int32.ofNat_mul, a1, a3, oj_j]
    · rw [e2 k h1 h2]; simp [oj_j, h1, h2]
    · by_cases h9 : i = s
      · subst h9
        obtain ⟨p, q⟩ := e4 i (by omega)
        rw [p, q]; simp [oj_j, vp_updL]
      · obtain ⟨p, q⟩ := e3 i (by omega) h2
        rw [p, q]; simp [oj_j]
    · obtain ⟨p, q⟩ := e4 i (by omega)
      have : ¬ i = s := by omega
      rw [p, q]; simp [oj_j, vp_updL, this]
theorem ages_ok (mo : ObS) : ∃ mo' : ObS, f_X7_ages mo = some mo' ∧ mo'.1 = mo.1 ∧ (∀ k, k ≠ 12 → k ≠ 13 → mo'.2 k = mo.2 k) ∧ (∀ i, i < 24 → mo'.2 12 i = mo.2 10 i ∧ mo'.2 13 i = mo.2 11 i) := by
  obtain ⟨mo', a, b, c, d, e⟩ := ages_lp 24 0 64 mo (by omega) (by omega)
  exact ⟨mo', a, b, c, fun i hi => d i (by omega) hi⟩
theorem m_warm {o : ObS} {s : Nat} (h : s < 24) : f_X7_warmthOf o (Int32.ofNat s) = some (wm (o.2 10 s) (o.2 11 s)).toInt32 := by
  simp (disch := omega) [f_X7_warmthOf, ix_lt1, ix_le1, ix_lt2, ix_le2, ix_eq1, ix_eq2, ix_lt, ix_le, ix_eq, ix_inb, ix_nat, ix_suc, ix_dbl, -Int32.ofNat_add, -Int32.ofNat_mul, h, m_wf]
/-- the reference's trends of one tick -/
theorem b90_lp {U t : Nat} (hU : U ≤ 12) (ht : t < 300) : ∀ (d s f : Nat) (mo : ObS), s + d = 2 * U → d < f → mo.1 2 0 = Int32.ofNat U → mo.1 1 0 = Int32.ofNat (t + 1) →
    ∃ mo' : ObS, f_X7_ticks_b90 f (Int32.ofNat s) mo = some mo' ∧ mo'.2 = mo.2 ∧ (∀ k, k ≠ 17 → mo'.1 k = mo.1 k) ∧ (∀ i, s ≤ i → i < 2 * U → mo'.1 17 (24 * t + i) = (wm (mo.2 10 i) (mo.2 11 i)).toInt32) ∧ (∀ i, (i < 24 * t + s ∨ 24 * t + 2 * U ≤ i) → mo'.1 17 i = mo.1 17 i)
  | d, s, 0, mo, h, hf, h1, h2 => by omega
  | 0, s, f + 1, mo, h, hf, h1, h2 => by
    obtain rfl : s = 2 * U := by omega
    refine ⟨mo, ?_, rfl, fun _ _ => rfl, fun i h3 h4 => by omega, fun i _ => rfl⟩
    unfold f_X7_ticks_b90
    rw [h1, ix_dbl, if_pos ((ix_le (by omega) (by omega)).mpr (Nat.le_refl _))]
  | d + 1, s, f + 1, mo, h, hf, h1, h2 => by
    have hs : s < 24 := by omega
    have e0 : 24 * (mo.1 1 0 - 1) + Int32.ofNat s = Int32.ofNat (24 * t + s) := by
      rw [h2, ← ix_suc t, Int32.add_sub_cancel, show (24 : Int32) = Int32.ofNat 24 from rfl, ← Int32.ofNat_mul, ix_add]
    obtain ⟨mo', e, e1, e2, e3, e4⟩ := b90_lp hU ht d (s + 1) f (oi mo 17 (24 * t + s) (wm (mo.2 10 s) (mo.2 11 s)).toInt32) (by omega) (by omega) (by rw [oi_i]; exact h1) (by rw [oi_i]; exact h2)
    refine ⟨mo', ?_, e1, fun k h1 => ?_, fun i h3 h4 => ?_, fun i h3 => ?_⟩
    · unfold f_X7_ticks_b90
      rw [← e]
      have a1 : ¬ 2 * U ≤ s := by omega
      have a2 : 24 * t + s < 7200 := by omega
      rw [h1, e0, ix_dbl]
      simp (disch := omega) [ix_lt1, ix_le1, ix_lt2, ix_le2, ix_eq1, ix_eq2, ix_lt, ix_le, ix_eq, ix_inb, ix_nat, ix_suc, ix_dbl, -Int32.ofNat_add, -Int32.ofNat_mul, a1, a2, m_warm hs]
    · rw [e2 k h1, oi_i, if_neg h1]
    · by_cases h9 : i = s
      · subst h9
        rw [e4 _ (by omega), oi_i, if_pos rfl]; unfold upd; rw [if_pos rfl]
      · rw [e3 i (by omega) h4]; rfl
    · rw [e4 i (by omega), oi_i, if_pos rfl]; unfold upd; rw [if_neg (by omega)]
