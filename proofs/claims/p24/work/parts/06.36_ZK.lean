/-! ticks -/
theorem tk_lp {U C n : Nat} (hn : n ≤ 50) : ∀ (d i f g : Nat) (h : Nat → ObS) (mo : ObS) (t : Nat), i + d = n → t + d ≤ 300 → d < f → d < g → INV h mo U C t →
    ∃ (h' : Nat → ObS) (mo' : ObS), f_X6_tick_b44 (Int32.ofNat n) f (Int32.ofNat i) h = some (.inr (Int32.ofNat (t + d), h')) ∧ f_X7_tick_b42 (Int32.ofNat n) g (Int32.ofNat i) mo = some (Int32.ofNat (t + d), mo') ∧ INV h' mo' U C (t + d) ∧ mo'.1 0 = mo.1 0
  | d, i, 0, g, h, mo, t, hi, ht, hf, hg, I => by omega
  | d, i, f + 1, 0, h, mo, t, hi, ht, hf, hg, I => by omega
  | 0, i, f + 1, g + 1, h, mo, t, hi, ht, hf, hg, I => by
    obtain rfl : i = n := by omega
    refine ⟨h, mo, ?_, ?_, I, rfl⟩
    · unfold f_X6_tick_b44
      rw [if_pos ((ix_le (by omega) (by omega)).mpr (Nat.le_refl _)), I.2.2.1.1]; rfl
    · unfold f_X7_tick_b42
      rw [if_pos ((ix_le (by omega) (by omega)).mpr (Nat.le_refl _)), I.2.2.1.2]; rfl
  | d + 1, i, f + 1, g + 1, h, mo, t, hi, ht, hf, hg, I => by
    have b1 : ¬ n ≤ i := by omega
    obtain ⟨h1, m1, e1, e2, e3, e4⟩ := tick_ok I (by omega)
    obtain ⟨h', mo', r1, r2, r3, r4⟩ := tk_lp (U := U) (C := C) hn d (i + 1) f g h1 m1 (t + 1) (by omega) (by omega) (by omega) (by omega) e3
    rw [show t + 1 + d = t + (d + 1) by omega] at r1 r2 r3
    refine ⟨h', mo', ?_, ?_, r3, r4.trans e4⟩
    · conv => lhs; unfold f_X6_tick_b44
      rw [if_neg (fun z => b1 ((ix_le (by omega) (by omega)).mp z)), e1, Option.bind_some, ix_suc]; exact r1
    · conv => lhs; unfold f_X7_tick_b42
      rw [if_neg (fun z => b1 ((ix_le (by omega) (by omega)).mp z)), e2, Option.bind_some, ix_suc]; exact r2
theorem ag_tick {h : Nat → ObS} {mo : ObS} {U C t : Nat} (I : INV h mo U C t) (x : Int32) (w : ObS) : AG (f_L_tick h x w) (f_X7_tick mo x) := by
  have t1 := I.2.1.2.2.2.1
  obtain ⟨t2, t3⟩ := I.2.2.1
  unfold f_L_tick f_X6_tick f_X7_tick
  rw [os_c (x := x) (1 ≤ x.toInt ∧ x.toInt ≤ 50) Iff.rfl, in_c (x := x) (1 ≤ x.toInt ∧ x.toInt ≤ 50) Iff.rfl, t2, t3]
  by_cases q : 1 ≤ x.toInt ∧ x.toInt ≤ 50
  · rw [if_pos q, if_pos q, if_pos (rfl : (0 : Int32) = 0), if_neg n10]
    obtain ⟨n, hn, rfl⟩ := ix_ex (x := x) (by omega)
    rw [ix_toInt hn] at q
    rw [ix_add]
    have e : Int32.ofNat (t + n) ≤ 300 ↔ t + n ≤ 300 := ix_le (j := 300) (by omega) (by omega)
    by_cases q2 : t + n ≤ 300
    · rw [if_pos (e.mpr q2), if_pos (e.mpr q2), holds_1, Option.bind_some, if_neg n10]
      obtain ⟨h', mo', r1, r2, r3, r4⟩ := tk_lp (U := U) (C := C) (n := n) (by omega) n 0 64 64 h (oi mo 0 0 0) t (by omega) (by omega) (by omega) (by omega) (INV_0 I 0)
      rw [show f_X6_tick_b44 (Int32.ofNat n) 64 0 h = _ from r1, show f_X7_tick_b42 (Int32.ofNat n) 64 0 (oi mo 0 0 0) = _ from r2]
      exact AG_ok (r := Int32.ofNat (t + n)) (w := w) r3 rfl rfl (by rw [r4]; rfl)
    · rw [if_neg (fun z => q2 (e.mp z)), if_neg (fun z => q2 (e.mp z))]
      refine AG_no I (w := w) (k := 2) (by decide) rfl ?_
      rw [holds_0 (by decide), Option.bind_some, if_pos rfl]
  · rw [if_neg q, if_neg q, if_neg n10, if_pos (rfl : (0 : Int32) = 0)]
    refine AG_no I (w := w) (k := 1) (by decide) rfl ?_
    rw [holds_0 (by decide), Option.bind_some, if_pos rfl]
theorem ag_balance {h : Nat → ObS} {mo : ObS} {U C t : Nat} (I : INV h mo U C t) : f_X6_balance h = some 0 := by
  obtain ⟨⟨G, -⟩, ⟨-, -, ⟨j, -, S⟩, -⟩, -, ⟨base, b1, b2⟩, -⟩ := I
  exact bal_0 G S b2 b1
