theorem o_tick {h : Nat → ObS} {mo : ObS} {U C t : Nat} (I : INV h mo U C t) (X : EX h U t) (a b c d : Int32) : OUT h U (f_L_does_10 h a b c d) (f_X7_tick mo a) := by
  have t1 := I.2.1.2.2.2.1
  obtain ⟨t2, t3⟩ := I.2.2.1
  unfold f_L_does_10 f_X6_tick f_X7_tick
  rw [os_c (x := a) (1 ≤ a.toInt ∧ a.toInt ≤ 50) Iff.rfl, in_c (x := a) (1 ≤ a.toInt ∧ a.toInt ≤ 50) Iff.rfl, t2, t3]
  by_cases q : 1 ≤ a.toInt ∧ a.toInt ≤ 50
  · rw [if_pos q, if_pos q, if_pos (rfl : (0 : Int32) = 0), if_neg n10]
    obtain ⟨n, hn, rfl⟩ := ix_ex (x := a) (by omega)
    rw [ix_toInt hn] at q
    rw [ix_add]
    have e : Int32.ofNat (t + n) ≤ 300 ↔ t + n ≤ 300 := ix_le (j := 300) (by omega) (by omega)
    by_cases q2 : t + n ≤ 300
    · rw [if_pos (e.mpr q2), if_pos (e.mpr q2), holds_1, Option.bind_some, if_neg n10]
      obtain ⟨h', mo', r1, r2, r3, r4, r5, r6⟩ := tk_ex (U := U) (C := C) (n := n) (by omega) n 0 64 64 h (oi mo 0 0 0) t (by omega) (by omega) (by omega) (by omega) (INV_0 I 0) X
      refine ⟨Int32.ofNat (t + n), mo', r2, Or.inr ⟨by rw [r4]; rfl, h', do_ok r1, ⟨C, t + n, r3, r5⟩, r6, Or.inl (ix_ne (by omega))⟩⟩
    · rw [if_neg (fun z => q2 (e.mp z)), if_neg (fun z => q2 (e.mp z))]
      exact ⟨0, oi mo 0 0 2, by rw [holds_0 (by decide), Option.bind_some, if_pos rfl], Or.inl ⟨by show (2 : Int32) ≠ 0; decide, do_th (k := 2) (by omega) rfl⟩⟩
  · rw [if_neg q, if_neg q, if_neg n10, if_pos (rfl : (0 : Int32) = 0)]
    exact ⟨0, oi mo 0 0 1, by rw [holds_0 (by decide), Option.bind_some, if_pos rfl], Or.inl ⟨by show (1 : Int32) ≠ 0; decide, do_th (k := 1) (by omega) rfl⟩⟩

