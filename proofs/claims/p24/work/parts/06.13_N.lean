/-! the script of disturbances -/
theorem put_n {o : ObS} {u U : Nat} {n : Int32} (h : o.1 0 0 = Int32.ofNat U) (hU : U ≤ 12) (hu : u < U) : f_X5_putNumber o (Int32.ofNat u) n = some (oi o 3 u n) := by
  have a3 : u < 12 := by omega
  simp (disch := omega) [f_X5_putNumber, u_made h hU hu, ix_lt1, ix_le1, ix_lt2, ix_le2, ix_eq1, ix_eq2, ix_lt, ix_le, ix_eq, ix_inb, ix_nat, ix_suc, ix_dbl, -Int32.ofNat_add, -Int32.ofNat_mul, a3]
theorem wr_ok {o : ObS} {i : Nat} (a b c : Int32) (hi : i < 40) : f_X2_write o (Int32.ofNat i) a b c = some (oi (oi (oi o 1 i a) 2 i b) 3 i c) := by
  have a3 : ¬ 40 ≤ i := by omega
  have a4 : ¬ Int32.ofNat i < 0 := by rw [show (0 : Int32) = Int32.ofNat 0 from rfl, ix_lt (by omega) (by omega)]; omega
  unfold f_X2_write
  rw [if_neg a4]
  simp (disch := omega) [ix_lt1, ix_le1, ix_lt2, ix_le2, ix_eq1, ix_eq2, ix_lt, ix_le, ix_eq, ix_inb, ix_nat, ix_suc, ix_dbl, -Int32.ofNat_add, -Int32.ofNat_mul, a3, hi]
def IP1 (p mo : ObS) (kd : Nat → Int32) (U i : Nat) : Prop := p.1 1 i = mo.1 19 i ∧ p.1 2 i = mo.1 20 i ∧ p.1 3 i = mo.1 21 i ∧ ∃ u, u < U ∧ mo.1 20 i = Int32.ofNat u ∧ nOK (kd u) (mo.1 21 i)
def IP (p mo : ObS) (kd : Nat → Int32) (U N : Nat) : Prop := N ≤ 40 ∧ p.1 0 0 = Int32.ofNat N ∧ mo.1 18 0 = Int32.ofNat N ∧ ∀ i, i < N → IP1 p mo kd U i
theorem play_lp {kd : Nat → Int32} {U N t : Nat} (hU : U ≤ 12) (hN : N ≤ 40) : ∀ (d i l f g : Nat) (p o mo : ObS), i + d = N → l ≤ i → d < f → d < g → p.1 0 0 = Int32.ofNat N → mo.1 18 0 = Int32.ofNat N → o.1 0 0 = Int32.ofNat U → mo.1 1 0 = Int32.ofNat t → o.1 3 = mo.1 4 → (∀ u, u < U → nOK (kd u) (o.1 3 u)) → (∀ i', (i' < l ∨ (i ≤ i' ∧ i' < N)) → IP1 p mo kd U i') →
    ∃ p' o' mo' : ObS, ∃ l' : Nat, f_X2_playInto_b5 (Int32.ofNat t) f (Int32.ofNat i) (Int32.ofNat l) p o = some (p', o') ∧ f_X7_disturbs_b4 g (Int32.ofNat i) (Int32.ofNat l) mo = some mo' ∧ IP p' mo' kd U l' ∧ o'.1 3 = mo'.1 4 ∧ (∀ u, u < U → nOK (kd u) (o'.1 3 u)) ∧ (∀ k, k ≠ 3 → o'.1 k = o.1 k) ∧ o'.2 = o.2 ∧ (∀ k, k ≠ 4 → k ≠ 18 → k ≠ 19 → k ≠ 20 → k ≠ 21 → mo'.1 k = mo.1 k) ∧ mo'.2 = mo.2
  | d, i, l, 0, g, p, o, mo, h, hl, hf, hg, e1, e2, e3, e4, e5, e6, e7 => by omega
  | d, i, l, f + 1, 0, p, o, mo, h, hl, hf, hg, e1, e2, e3, e4, e5, e6, e7 => by omega
  | 0, i, l, f + 1, g + 1, p, o, mo, h, hl, hf, hg, e1, e2, e3, e4, e5, e6, e7 => by
    obtain rfl : i = N := by omega
    refine ⟨oi p 0 0 (Int32.ofNat l), o, oi mo 18 0 (Int32.ofNat l), l, ?_, ?_, ⟨by omega, by simp [oi_i, upd], by simp [oi_i, upd], fun i' hi' => ?_⟩, by simpa [oi_i] using e5, e6, fun _ _ => rfl, rfl, fun k h1 h2 h3 h4 h5 => by simp [oi_i, h2], rfl⟩
    · unfold f_X2_playInto_b5
      rw [e1, if_pos ((ix_le (by omega) (by omega)).mpr (Nat.le_refl _))]; rfl
    · unfold f_X7_disturbs_b4
      rw [e2, if_pos ((ix_le (by omega) (by omega)).mpr (Nat.le_refl _))]; rfl
    · have := e7 i' (Or.inl hi')
      unfold IP1 at this ⊢
      simpa [oi_i] using this
  | d + 1, i, l, f + 1, g + 1, p, o, mo, h, hl, hf, hg, e1, e2, e3, e4, e5, e6, e7 => by
    have a1 : ¬ N ≤ i := by omega
    have a2 : ¬ 40 ≤ i := by omega
    have a3 : i < 40 := by omega
    have a4 : l < 40 := by omega
    obtain ⟨r1, r2, r3, u, hu, r4, r5⟩ := e7 i (Or.inr ⟨by omega, by omega⟩)
    have a5 : u < 12 := by omega
    by_cases ht : mo.1 19 i = Int32.ofNat t
    · obtain ⟨p', o', mo', l', q1, q2, q3, q4, q5, q6, q7, q8, q9⟩ := play_lp hU hN d (i + 1) l f g p (oi o 3 u (mo.1 21 i)) (oi mo 4 u (mo.1 21 i)) (by omega) (by omega) (by omega) (by omega) e1 (by rw [oi_i]; exact e2) (by rw [oi_i]; exact e3) (by rw [oi_i]; exact e4) (by rw [oi_i, oi_i, if_pos rfl, if_pos rfl, e5])
        (fun v hv => by
          rw [oi_i, if_pos rfl]; unfold upd
          by_cases h9 : v = u
          · subst h9; rw [if_pos rfl]; exact r5
          · rw [if_neg h9]; exact e6 v hv)
        (fun i' hi' => by
          have := e7 i' (hi'.elim Or.inl (fun q => Or.inr ⟨by omega, q.2⟩))
          unfold IP1 at this ⊢
          simpa [oi_i] using this)
      refine ⟨p', o', mo', l', ?_, ?_, q3, q4, q5, fun k hk => (q6 k hk).trans (by rw [oi_i, if_neg hk]), q7, fun k h1 h2 h3 h4 h5 => (q8 k h1 h2 h3 h4 h5).trans (by rw [oi_i, if_neg h1]), q9⟩
      · conv => lhs; unfold f_X2_playInto_b5
        rw [← q1, e1]
        simp (disch := omega) [ix_lt1, ix_le1, ix_lt2, ix_le2, ix_eq1, ix_eq2, ix_lt, ix_le, ix_eq, ix_inb, ix_nat, ix_suc, ix_dbl, -Int32.ofNat_add, -Int32.ofNat_mul, a1, a2, a3, r1, r2, r3, r4, ht, put_n e3 hU hu]
      · conv => lhs; unfold f_X7_disturbs_b4
        rw [← q2, e2, e4]
        simp (disch := omega) [ix_lt1, ix_le1, ix_lt2, ix_le2, ix_eq1, ix_eq2, ix_lt, ix_le, ix_eq, ix_inb, ix_nat, ix_suc, ix_dbl, -Int32.ofNat_add, -Int32.ofNat_mul, a1, a3, r4, ht, a5]
    · obtain ⟨p', o', mo', l', q1, q2, q3, q4, q5, q6, q7, q8, q9⟩ := play_lp hU hN d (i + 1) (l + 1) f g (oi (oi (oi p 1 l (mo.1 19 i)) 2 l (mo.1 20 i)) 3 l (mo.1 21 i)) o (oi (oi (oi mo 19 l (mo.1 19 i)) 20 l (mo.1 20 i)) 21 l (mo.1 21 i)) (by omega) (by omega) (by omega) (by omega) e1 e2 e3 e4 e5 e6
        (fun i' hi' => by
          unfold IP1
          simp only [oi_i]
          simp
          unfold upd
          by_cases h9 : i' = l
          · subst h9; simp; exact ⟨u, hu, r4, r5⟩
          · simp only [if_neg h9]
            exact e7 i' (by omega))
      refine ⟨p', o', mo', l', ?_, ?_, q3, q4, q5, q6, q7, fun k h1 h2 h3 h4 h5 => (q8 k h1 h2 h3 h4 h5).trans (by simp [oi_i, h3, h4, h5]), q9⟩
      · conv => lhs; unfold f_X2_playInto_b5
        rw [← q1, e1]
        simp (disch := omega) [ix_lt1, ix_le1, ix_lt2, ix_le2, ix_eq1, ix_eq2, ix_lt, ix_le, ix_eq, ix_inb, ix_nat, ix_suc, ix_dbl, -Int32.ofNat_add, -Int32.ofNat_mul, a1, a2, a3, r1, r2, r3, ht, wr_ok _ _ _ a4]
      · conv => lhs; unfold f_X7_disturbs_b4
        rw [← q2, e2, e4]
        simp (disch := omega) [ix_lt1, ix_le1, ix_lt2, ix_le2, ix_eq1, ix_eq2, ix_lt, ix_le, ix_eq, ix_inb, ix_nat, ix_suc, ix_dbl, -Int32.ofNat_add, -Int32.ofNat_mul, a1, a3, a4, ht, oi_i]
