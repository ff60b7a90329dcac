/-! a gain: what is kept, and twelve runs -/
theorem kb90_lp {x : Int32} (hx : x = 0 ∨ x = 1) : ∀ (d v f : Nat) (mo : ObS), v + d = 12 → d < f → ∃ mo' : ObS, f_X7_keeps_b90 x f (Int32.ofNat v) mo = some mo' ∧ mo'.2 = mo.2 ∧ (∀ k, k ≠ 8 → k ≠ 16 → mo'.1 k = mo.1 k) ∧ (∀ i, v ≤ i → i < 12 → mo'.1 8 i = (if x = 0 then mo.1 8 i else mo.1 16 i) ∧ mo'.1 16 i = (if x = 0 then mo.1 8 i else mo.1 16 i)) ∧ (∀ i, (i < v ∨ 12 ≤ i) → mo'.1 8 i = mo.1 8 i ∧ mo'.1 16 i = mo.1 16 i)
  | d, v, 0, mo, h, hf => by omega
  | 0, v, f + 1, mo, h, hf => by
    obtain rfl : v = 12 := by omega
    exact ⟨mo, rfl, rfl, fun _ _ _ => rfl, fun i h1 h2 => by omega, fun i _ => ⟨rfl, rfl⟩⟩
  | d + 1, v, f + 1, mo, h, hf => by
    have a1 : ¬ 12 ≤ v := by omega
    have a3 : v < 12 := by omega
    obtain ⟨mo', e, e1, e2, e3, e4⟩ := kb90_lp hx d (v + 1) f (oi (oi mo 16 v (if x = 0 then mo.1 8 v else mo.1 16 v)) 8 v (if x = 0 then mo.1 8 v else mo.1 16 v)) (by omega) (by omega)
    refine ⟨mo', ?_, e1, fun k h1 h2 => (e2 k h1 h2).trans (by rw [oi_n h1, oi_n h2]), fun i h1 h2 => ?_, fun i h1 => ?_⟩
    · conv => lhs; unfold f_X7_keeps_b90 f_X7_keeps_b120
      rw [← e]
      rcases hx with rfl | rfl <;> simp (disch := omega) [ix_lt1, ix_le1, ix_lt2, ix_le2, ix_eq1, ix_eq2, ix_lt, ix_le, ix_eq, ix_inb, ix_nat, ix_suc, ix_dbl, -Int32.ofNat_add, -Int32.ofNat_mul, a1, a3, oi_i, upd]
    · by_cases h9 : i = v
      · subst h9
        obtain ⟨p, q⟩ := e4 i (Or.inl (by omega))
        rw [p, q]; simp [oi_i, upd]
      · obtain ⟨p, q⟩ := e3 i (by omega) h2
        rw [p, q]; simp [oi_i, upd, h9]
    · obtain ⟨p, q⟩ := e4 i (by omega)
      have : ¬ i = v := by omega
      rw [p, q]; simp [oi_i, upd, this]
theorem kb2_lp {x : Int32} (hx : x = 0 ∨ x = 1) : ∀ (d s f : Nat) (mo : ObS), s + d = 24 → d < f → ∃ mo' : ObS, f_X7_keeps_b2 x f (Int32.ofNat s) mo = f_X7_keeps_b90 x 64 0 mo' ∧ mo'.1 = mo.1 ∧ (∀ k, k ≠ 10 → k ≠ 11 → k ≠ 14 → k ≠ 15 → mo'.2 k = mo.2 k) ∧ (∀ i, s ≤ i → i < 24 → mo'.2 10 i = (if x = 0 then mo.2 10 i else mo.2 14 i) ∧ mo'.2 14 i = (if x = 0 then mo.2 10 i else mo.2 14 i) ∧ mo'.2 11 i = (if x = 0 then mo.2 11 i else mo.2 15 i) ∧ mo'.2 15 i = (if x = 0 then mo.2 11 i else mo.2 15 i)) ∧ (∀ i, (i < s ∨ 24 ≤ i) → mo'.2 10 i = mo.2 10 i ∧ mo'.2 14 i = mo.2 14 i ∧ mo'.2 11 i = mo.2 11 i ∧ mo'.2 15 i = mo.2 15 i)
  | d, s, 0, mo, h, hf => by omega
  | 0, s, f + 1, mo, h, hf => by
    obtain rfl : s = 24 := by omega
    refine ⟨mo, ?_, rfl, fun _ _ _ _ _ => rfl, fun i h1 h2 => by omega, fun i _ => ⟨rfl, rfl, rfl, rfl⟩⟩
    conv => lhs; unfold f_X7_keeps_b2
    rw [if_pos (show (24 : Int32) ≤ Int32.ofNat 24 by decide)]
  | d + 1, s, f + 1, mo, h, hf => by
    have a1 : ¬ 24 ≤ s := by omega
    have a3 : s < 24 := by omega
    obtain ⟨mo', e, e1, e2, e3, e4⟩ := kb2_lp hx d (s + 1) f (oj (oj (oj (oj mo 14 s (if x = 0 then mo.2 10 s else mo.2 14 s)) 15 s (if x = 0 then mo.2 11 s else mo.2 15 s)) 10 s (if x = 0 then mo.2 10 s else mo.2 14 s)) 11 s (if x = 0 then mo.2 11 s else mo.2 15 s)) (by omega) (by omega)
    refine ⟨mo', ?_, e1, fun k h1 h2 h3 h4 => (e2 k h1 h2 h3 h4).trans (by rw [oj_n h2, oj_n h1, oj_n h4, oj_n h3]), fun i h1 h2 => ?_, fun i h1 => ?_⟩
    · conv => lhs; unfold f_X7_keeps_b2 f_X7_keeps_b32 f_X7_keeps_b57
      rw [← e]
      rcases hx with rfl | rfl <;> simp (disch := omega) [ix_lt1, ix_le1, ix_lt2, ix_le2, ix_eq1, ix_eq2, ix_lt, ix_le, ix_eq, ix_inb, ix_nat, ix_suc, ix_dbl, -Int32.ofNat_add, -Int32.ofNat_mul, a1, a3, oj_j, vp_updL]
    · by_cases h9 : i = s
      · subst h9
        obtain ⟨p, q, r, u⟩ := e4 i (Or.inl (by omega))
        rw [p, q, r, u]; simp [oj_j, vp_updL]
      · obtain ⟨p, q, r, u⟩ := e3 i (by omega) h2
        rw [p, q, r, u]; simp [oj_j, vp_updL, h9]
    · obtain ⟨p, q, r, u⟩ := e4 i (by omega)
      have : ¬ i = s := by omega
      rw [p, q, r, u]; simp [oj_j, vp_updL, this]
theorem keeps_ok {x : Int32} (hx : x = 0 ∨ x = 1) (mo : ObS) : ∃ mo' : ObS, f_X7_keeps mo x = some mo' ∧ (∀ k, k ≠ 8 → k ≠ 16 → mo'.1 k = mo.1 k) ∧ (∀ k, k ≠ 10 → k ≠ 11 → k ≠ 14 → k ≠ 15 → mo'.2 k = mo.2 k) ∧ (∀ i, i < 24 → mo'.2 10 i = (if x = 0 then mo.2 10 i else mo.2 14 i) ∧ mo'.2 14 i = (if x = 0 then mo.2 10 i else mo.2 14 i) ∧ mo'.2 11 i = (if x = 0 then mo.2 11 i else mo.2 15 i) ∧ mo'.2 15 i = (if x = 0 then mo.2 11 i else mo.2 15 i)) ∧ (∀ i, 24 ≤ i → mo'.2 10 i = mo.2 10 i ∧ mo'.2 11 i = mo.2 11 i) ∧ (∀ i, i < 12 → mo'.1 8 i = (if x = 0 then mo.1 8 i else mo.1 16 i) ∧ mo'.1 16 i = (if x = 0 then mo.1 8 i else mo.1 16 i)) ∧ (∀ i, 12 ≤ i → mo'.1 8 i = mo.1 8 i) := by
  obtain ⟨m1, a, b, c, d, e⟩ := kb2_lp hx 24 0 64 mo (by omega) (by omega)
  obtain ⟨m2, a', b', c', d', e'⟩ := kb90_lp hx 12 0 64 m1 (by omega) (by omega)
  refine ⟨m2, by unfold f_X7_keeps; exact a.trans a', fun k h1 h2 => by rw [c' k h1 h2, b], fun k h1 h2 h3 h4 => by rw [b', c k h1 h2 h3 h4], fun i hi => by rw [b']; exact d i (by omega) hi, fun i hi => ?_, fun i hi => ?_, fun i hi => ?_⟩
  · rw [b']; have := e i (Or.inr hi); exact ⟨this.1, this.2.2.1⟩
  · rw [← b]; exact d' i (by omega) hi
  · rw [← b]; exact (e' i (Or.inr hi)).1
/-- passes that agree where streams are -/
def AGR (F H F' H' : Nat → Int64) : Prop := ∀ s, s < 24 → F s = F' s ∧ H s = H' s
theorem xo_ag {o : ObS} {U u : Nat} {F H F' H' : Nat → Int64} {n : Int32} (G : GS o U) (hu : u < U) (a : AGR F H F' H') : xo o F H u n = xo o F' H' u n := by
  have gu := G.2.2.1 u hu
  have m1 : ((-1 : Int32).toNatClampNeg) = 0 := rfl
  have ha : pa o u < 24 := by
    by_cases h : o.1 1 u = 0
    · unfold pa; rw [gu.2.2.2.1 h, m1]; omega
    · exact (gu.2.1 h).1
  have hb : pb o u < 24 := by
    by_cases h : o.1 1 u = 2 ∨ o.1 1 u = 3
    · exact (gu.2.2.1 h).1
    · unfold pb; rw [gu.2.2.2.2.1 (fun z => h (Or.inl z)) (fun z => h (Or.inr z)), m1]; omega
  unfold xo
  rw [(a _ ha).1, (a _ ha).2, (a _ hb).1, (a _ hb).2]
theorem st2_ag {F F' : Nat → Int64} {u s : Nat} {a c : Int64} (h : F s = F' s) : st2 F u a c s = st2 F' u a c s := by
  unfold st2 vp_updL; split
  · rfl
  · split
    · rfl
    · exact h
theorem pz_ag {o : ObS} {U : Nat} {num : Nat → Int32} (G : GS o U) : ∀ (d u : Nat) (t t' : (Nat → Int64) × (Nat → Int64) × (Nat → Int64)), u + d = U → AGR t.1 t.2.1 t'.1 t'.2.1 → AGR (pz o num d u t).1 (pz o num d u t).2.1 (pz o num d u t').1 (pz o num d u t').2.1
  | 0, u, t, t', h, a => a
  | d + 1, u, t, t', h, a => by
    unfold pz
    refine pz_ag G d (u + 1) _ _ (by omega) (fun s hs => ?_)
    dsimp only
    rw [xo_ag G (by omega) a]
    exact ⟨st2_ag (a s hs).1, st2_ag (a s hs).2⟩
theorem pz_hi {o : ObS} {U : Nat} {num : Nat → Int32} (hU : U ≤ 12) : ∀ (d u : Nat) (t : (Nat → Int64) × (Nat → Int64) × (Nat → Int64)), u + d = U → ∀ s, 24 ≤ s → (pz o num d u t).1 s = t.1 s ∧ (pz o num d u t).2.1 s = t.2.1 s
  | 0, u, t, h, s, hs => ⟨rfl, rfl⟩
  | d + 1, u, t, h, s, hs => by
    unfold pz
    obtain ⟨p, q⟩ := pz_hi (o := o) (num := num) hU d (u + 1) (st2 t.1 u (xo o t.1 t.2.1 u (num u)).1 (xo o t.1 t.2.1 u (num u)).2.2.1, st2 t.2.1 u (xo o t.1 t.2.1 u (num u)).2.1 (xo o t.1 t.2.1 u (num u)).2.2.2.1, vp_updL t.2.2 u (xo o t.1 t.2.1 u (num u)).2.2.2.2) (by omega) s hs
    rw [p, q]
    exact ⟨st2_n (by omega), st2_n (by omega)⟩
/-- some passes -/
def it (o : ObS) (num : Nat → Int32) (U : Nat) : Nat → (Nat → Int64) × (Nat → Int64) → (Nat → Int64) × (Nat → Int64)
  | 0, t => t
  | k + 1, t => it o num U k ((pz o num U 0 (t.1, t.2, fun _ => 0)).1, (pz o num U 0 (t.1, t.2, fun _ => 0)).2.1)
theorem it_ag {o : ObS} {U : Nat} {num : Nat → Int32} (G : GS o U) : ∀ (k : Nat) (t t' : (Nat → Int64) × (Nat → Int64)), AGR t.1 t.2 t'.1 t'.2 → AGR (it o num U k t).1 (it o num U k t).2 (it o num U k t').1 (it o num U k t').2
  | 0, t, t', a => a
  | k + 1, t, t', a => it_ag G k _ _ (pz_ag G U 0 _ _ (by omega) a)
theorem pz_M {o : ObS} {num : Nat → Int32} : ∀ (d u : Nat) (t t' : (Nat → Int64) × (Nat → Int64) × (Nat → Int64)), t.1 = t'.1 → t.2.1 = t'.2.1 → (pz o num d u t).1 = (pz o num d u t').1 ∧ (pz o num d u t).2.1 = (pz o num d u t').2.1
  | 0, u, t, t', h1, h2 => ⟨h1, h2⟩
  | d + 1, u, t, t', h1, h2 => by
    unfold pz
    exact pz_M d (u + 1) _ _ (by dsimp only; rw [h1, h2]) (by dsimp only; rw [h1, h2])
