/-! trends -/
theorem pl_ok {t s : Nat} : f_X4_placeOf (Int32.ofNat s) (Int32.ofNat (t + 1)) = Int32.ofNat (24 * t + s) := by
  unfold f_X4_placeOf
  rw [← ix_suc t, Int32.add_sub_cancel, show (24 : Int32) = Int32.ofNat 24 from rfl, ← Int32.ofNat_mul, ix_add, Nat.mul_comm]
theorem kp_ok {o : ObS} {i : Nat} (h : o.1 1 0 = 7200) (hi : i < 7200) : f_X4_isKept o (Int32.ofNat i) = 1 := by
  have a1 : ¬ 7200 ≤ i := by omega
  unfold f_X4_isKept
  rw [h, show ((7200 : Int32).toNatClampNeg) = 7200 from rfl]
  rw [if_neg (by rw [show (0 : Int32) = Int32.ofNat 0 from rfl, ix_lt (by omega) (by omega)]; omega), if_neg (by rw [ix_le (by omega) (by omega)]; omega)]
theorem kp_lp {t : Nat} (ht : t < 300) (o1 : ObS) : ∀ (d s f : Nat) (o : ObS), s + d = 24 → d < f → o.1 1 0 = 7200 →
    ∃ o' : ObS, f_X4_keep_b19 o1 (Int32.ofNat (t + 1)) f o (Int32.ofNat s) = some o' ∧ o'.1 1 0 = 7200 ∧ (∀ i, s ≤ i → i < 24 → o'.1 0 (24 * t + i) = (wm (o1.2 0 i) (o1.2 1 i)).toInt32) ∧ (∀ i, i < 24 * t + s → o'.1 0 i = o.1 0 i)
  | d, s, 0, o, h, hf, hl => by omega
  | 0, s, f + 1, o, h, hf, hl => by
    obtain rfl : s = 24 := by omega
    exact ⟨o, rfl, hl, fun i h1 h2 => by omega, fun i _ => rfl⟩
  | d + 1, s, f + 1, o, h, hf, hl => by
    have hs : s < 24 := by omega
    have a1 : ¬ 24 ≤ s := by omega
    have a2 : 24 * t + s < 7200 := by omega
    obtain ⟨o', e, e1, e2, e3⟩ := kp_lp ht o1 d (s + 1) f (oi o 0 (24 * t + s) (wm (o1.2 0 s) (o1.2 1 s)).toInt32) (by omega) (by omega) (by rw [oi_i]; exact hl)
    refine ⟨o', ?_, e1, fun i h1 h2 => ?_, fun i h1 => ?_⟩
    · conv => lhs; unfold f_X4_keep_b19
      rw [← e, pl_ok, kp_ok hl a2, hl]
      simp (disch := omega) [ix_lt1, ix_le1, ix_lt2, ix_le2, ix_eq1, ix_eq2, ix_lt, ix_le, ix_eq, ix_inb, ix_nat, ix_suc, ix_dbl, -Int32.ofNat_add, -Int32.ofNat_mul, a1, a2, s_warm hs]
    · by_cases h9 : i = s
      · subst h9
        rw [e3 _ (by omega), oi_i, if_pos rfl]; unfold upd; rw [if_pos rfl]
      · exact e2 i (by omega) h2
    · rw [e3 i (by omega), oi_i, if_pos rfl]; unfold upd; rw [if_neg (by omega)]
def IR (o mo : ObS) (U t : Nat) : Prop := ((t = 0 ∧ o.1 1 0 = 0) ∨ (0 < t ∧ o.1 1 0 = 7200)) ∧ ∀ r s, r < t → s < 2 * U → o.1 0 (24 * r + s) = mo.1 17 (24 * r + s)
theorem kp_all {o o1 mo mo' : ObS} {U t : Nat} (hU : U ≤ 12) (ht : t < 300) (R : IR o mo U t) (e1 : o1.2 0 = mo.2 10) (e2 : o1.2 1 = mo.2 11) (h1 : ∀ i, i < 2 * U → mo'.1 17 (24 * t + i) = (wm (mo.2 10 i) (mo.2 11 i)).toInt32) (h2 : ∀ i, i < 24 * t → mo'.1 17 i = mo.1 17 i) :
    ∃ o' : ObS, f_X4_keep o o1 (Int32.ofNat (t + 1)) = some o' ∧ IR o' mo' U (t + 1) := by
  obtain ⟨hl, hr⟩ := R
  have go : ∀ o2 : ObS, o2.1 1 0 = 7200 → (∀ r s, r < t → s < 2 * U → o2.1 0 (24 * r + s) = mo.1 17 (24 * r + s)) → ∃ o' : ObS, f_X4_keep_b19 o1 (Int32.ofNat (t + 1)) 64 o2 0 = some o' ∧ IR o' mo' U (t + 1) := by
    intro o2 q1 q2
    obtain ⟨o', a, b, c, d⟩ := kp_lp ht o1 24 0 64 o2 (by omega) (by omega) q1
    refine ⟨o', a, Or.inr ⟨by omega, b⟩, fun r s h3 h4 => ?_⟩
    by_cases h9 : r = t
    · subst h9; rw [c s (by omega) (by omega), h1 s h4, e1, e2]
    · rw [d _ (by omega), h2 _ (by omega)]; exact q2 r s (by omega) h4
  unfold f_X4_keep
  rcases hl with ⟨h0, hl⟩ | ⟨h0, hl⟩
  · rw [hl, show Int32.ofNat ((0 : Int32).toNatClampNeg) = 0 from rfl, if_pos rfl]
    exact go (tn_new o) rfl (fun r s h3 h4 => by omega)
  · rw [hl, show Int32.ofNat ((7200 : Int32).toNatClampNeg) = 7200 from rfl, if_neg (by decide)]
    exact go o hl hr
theorem tr_at {o : ObS} {mo : ObS} {U t r s : Nat} (hU : U ≤ 12) (ht : t ≤ 300) (R : IR o mo U t) (hr : r < t) (hs : s < 2 * U) : f_X4_warmthAt o (Int32.ofNat s) (Int32.ofNat (r + 1)) = some (mo.1 17 (24 * r + s)) := by
  obtain ⟨hl, hr2⟩ := R
  have hl : o.1 1 0 = 7200 := by
    rcases hl with ⟨a, _⟩ | ⟨_, a⟩
    · omega
    · exact a
  have a2 : 24 * r + s < 7200 := by omega
  unfold f_X4_warmthAt
  rw [pl_ok, kp_ok hl a2, hl, show ((7200 : Int32).toNatClampNeg) = 7200 from rfl, if_neg (by decide), ix_inb (by omega), ix_nat (by omega), if_pos (by simpa using a2), hr2 r s hr hs]
