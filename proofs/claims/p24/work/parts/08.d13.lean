theorem tk_ex {U C n : Nat} (hn : n ≤ 50) : ∀ (d i f g : Nat) (h : Nat → ObS) (mo : ObS) (t : Nat), i + d = n → t + d ≤ 300 → d < f → d < g → INV h mo U C t → EX h U t →
    ∃ (h' : Nat → ObS) (mo' : ObS), f_X6_tick_b44 (Int32.ofNat n) f (Int32.ofNat i) h = some (.inr (Int32.ofNat (t + d), h')) ∧ f_X7_tick_b42 (Int32.ofNat n) g (Int32.ofNat i) mo = some (Int32.ofNat (t + d), mo') ∧ INV h' mo' U C (t + d) ∧ mo'.1 0 = mo.1 0 ∧ EX h' U (t + d) ∧ (h' 3).1 1 = (h 3).1 1
  | d, i, 0, g, h, mo, t, hi, ht, hf, hg, I, X => by omega
  | d, i, f + 1, 0, h, mo, t, hi, ht, hf, hg, I, X => by omega
  | 0, i, f + 1, g + 1, h, mo, t, hi, ht, hf, hg, I, X => by
    obtain rfl : i = n := by omega
    refine ⟨h, mo, ?_, ?_, I, rfl, X, rfl⟩
    · unfold f_X6_tick_b44
      rw [if_pos ((ix_le (by omega) (by omega)).mpr (Nat.le_refl _)), I.2.2.1.1]; rfl
    · unfold f_X7_tick_b42
      rw [if_pos ((ix_le (by omega) (by omega)).mpr (Nat.le_refl _)), I.2.2.1.2]; rfl
  | d + 1, i, f + 1, g + 1, h, mo, t, hi, ht, hf, hg, I, X => by
    have b1 : ¬ n ≤ i := by omega
    obtain ⟨h1, m1, e1, e2, e3, e4, e5, e6⟩ := tick_ex I X (by omega)
    obtain ⟨h', mo', r1, r2, r3, r4, r5, r6⟩ := tk_ex (U := U) (C := C) hn d (i + 1) f g h1 m1 (t + 1) (by omega) (by omega) (by omega) (by omega) e3 e5
    rw [show t + 1 + d = t + (d + 1) by omega] at r1 r2 r3 r5
    refine ⟨h', mo', ?_, ?_, r3, r4.trans e4, r5, r6.trans e6⟩
    · conv => lhs; unfold f_X6_tick_b44
      rw [if_neg (fun z => b1 ((ix_le (by omega) (by omega)).mp z)), e1, Option.bind_some, ix_suc]; exact r1
    · conv => lhs; unfold f_X7_tick_b42
      rw [if_neg (fun z => b1 ((ix_le (by omega) (by omega)).mp z)), e2, Option.bind_some, ix_suc]; exact r2
