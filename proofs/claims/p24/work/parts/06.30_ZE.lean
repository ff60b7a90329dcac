theorem nHi {h : Nat → ObS} {C : Nat} {x : Int32} (h0 : (h 4).1 0 0 = Int32.ofNat C) (hC : C ≤ 6) (hx : 100 ≤ x.toInt) : f_X6_needHigherController h (x - 100) = bN (101 + C ≤ x.toInt ∧ x.toInt ≤ 105) 3 := by
  have e : (x - 100).toInt = x.toInt - 100 := c_sub (by show _ ≤ _ - (100 : Int); omega) (by have := x.toInt_lt; show _ - (100 : Int) < _; omega)
  unfold f_X6_needHigherController f_X1_count bN
  rw [h0, ix_suc, os_c (101 + C ≤ x.toInt ∧ x.toInt ≤ 105) (by rw [ix_toInt (by omega), e]; show _ ∧ _ ≤ (5 : Int) ↔ _; omega)]
  by_cases q : 101 + C ≤ x.toInt ∧ x.toInt ≤ 105
  · rw [if_pos q, if_pos q]; rfl
  · rw [if_neg q, if_neg q]; rfl
theorem nMx {h : Nat → ObS} {mo : ObS} {U C : Nat} {x : Int32} (G : GS (h 3) U) (R : UR (h 3) mo) (hx : (0 ≤ x.toInt ∧ x.toInt < U) ∨ (101 + C ≤ x.toInt ∧ x.toInt ≤ 105)) : (f_X6_needNoMix h x = some (.inl 1) ∧ f_X7_isMix mo x = some 1) ∨ (f_X6_needNoMix h x = some (.inr ()) ∧ f_X7_isMix mo x = some 0 ∧ (C < 6 → DR ((h 3).1 1) U C x)) := by
  have hU := G.1
  rcases hx with q | q
  · obtain ⟨u, huU, rfl⟩ := ex_n (x := x) (n := U) q (by omega)
    have h12 : u < 12 := by omega
    have h13 : ¬ 12 ≤ u := by omega
    have rk := R.2.1
    unfold f_X6_needNoMix f_X7_isMix
    rw [kd_of G.2.1 hU huU, ← rk]
    by_cases g : (h 3).1 1 u = 2
    · refine Or.inl ⟨by simp [g], ?_⟩
      simp (disch := omega) [ix_lt1, ix_le1, ix_lt2, ix_le2, ix_eq1, ix_eq2, ix_lt, ix_le, ix_eq, ix_inb, ix_nat, ix_suc, ix_dbl, -Int32.ofNat_add, -Int32.ofNat_mul, h12, h13, g]
    · refine Or.inr ⟨by simp [g], ?_, fun _ => Or.inl ⟨u, huU, rfl, g⟩⟩
      simp (disch := omega) [ix_lt1, ix_le1, ix_lt2, ix_le2, ix_eq1, ix_eq2, ix_lt, ix_le, ix_eq, ix_inb, ix_nat, ix_suc, ix_dbl, -Int32.ofNat_add, -Int32.ofNat_mul, h12, h13, g]
  · obtain ⟨v, hv, rfl⟩ := ix_ex (x := x) (by omega)
    rw [ix_toInt hv] at q
    have a1 : U ≤ v := by omega
    have a2 : 12 ≤ v := by omega
    refine Or.inr ⟨?_, ?_, fun hC => Or.inr ⟨v - 100, by omega, by congr 1; omega⟩⟩
    · unfold f_X6_needNoMix f_X5_kindOf f_X5_isMade
      rw [G.2.1]
      simp (disch := omega) [ix_lt1, ix_le1, ix_lt2, ix_le2, ix_eq1, ix_eq2, ix_lt, ix_le, ix_eq, ix_inb, ix_nat, ix_suc, ix_dbl, -Int32.ofNat_add, -Int32.ofNat_mul, a1]
    · unfold f_X7_isMix
      simp (disch := omega) [ix_lt1, ix_le1, ix_lt2, ix_le2, ix_eq1, ix_eq2, ix_lt, ix_le, ix_eq, ix_inb, ix_nat, ix_suc, ix_dbl, -Int32.ofNat_add, -Int32.ofNat_mul, a2]
theorem nRm {h : Nat → ObS} {C : Nat} (h0 : (h 4).1 0 0 = Int32.ofNat C) (hC : C ≤ 6) : f_X6_needRoomForController h = bN (C < 6) 2 := by
  unfold f_X6_needRoomForController f_X1_count bN
  rw [h0]
  by_cases q : C < 6
  · rw [if_pos q, if_pos (show Int32.ofNat C < 6 from (ix_lt (j := 6) (by omega) (by omega)).mpr q)]
  · rw [if_neg q, if_neg (show ¬ Int32.ofNat C < 6 from fun z => q ((ix_lt (j := 6) (by omega) (by omega)).mp z))]
theorem tb_l {α β : Type} {k : Nat} {f : α → Option (Nat ⊕ β)} : tb (some (.inl k)) f = some (.inl k) := rfl
theorem tb_r {α β : Type} {a : α} {f : α → Option (Nat ⊕ β)} : tb (some (.inr a)) f = f a := rfl
theorem ag_control {h : Nat → ObS} {mo : ObS} {U C t : Nat} (I : INV h mo U C t) (x g f b d : Int32) (w : ObS) : AG (f_L_control h x g f b d w) (f_X7_control mo x g f b d) := by
  obtain ⟨⟨G, R, -⟩, -, -, -, -, -, IC0, -⟩ := id I
  obtain ⟨i1, i2, i3, -⟩ := id IC0
  have hU := G.1
  have r0 := R.1
  rw [G.2.1] at r0
  have no : ∀ k : Int32, k ≠ 0 → f_X7_control_b106 mo x g f b d k = some (0, oi mo 0 0 k) := fun k hk => by
    unfold f_X7_control_b106; rw [holds_0 hk]; rfl
  have hm : f_X7_control mo x g f b d = if (0 ≤ x.toInt ∧ x.toInt < 2 * U) ∧ ((0 ≤ d.toInt ∧ d.toInt < U) ∨ (101 + C ≤ d.toInt ∧ d.toInt ≤ 105)) then (if (0 ≤ g.toInt ∧ g.toInt ≤ 3000) ∧ (-99 ≤ f.toInt ∧ f.toInt ≤ 99) ∧ (0 ≤ b.toInt ∧ b.toInt ≤ 99999) then f_X7_control_b62 mo x g f b d 1 1 else f_X7_control_b106 mo x g f b d 2) else f_X7_control_b106 mo x g f b d 1 := by
    unfold f_X7_control f_X7_control_b21 f_X7_control_b22 f_X7_control_b61 f_X7_canDrive
    rw [iS r0.symm hU, iU r0.symm hU, i3, show (101 : Int32) + Int32.ofNat C = Int32.ofNat (101 + C) from (Int32.ofNat_add 101 C).symm, in_c (x := d) (101 + C ≤ d.toInt ∧ d.toInt ≤ 105) (by rw [ix_toInt (by omega)]; show _ ∧ _ ≤ (105 : Int) ↔ _; omega), in_c (x := g) (0 ≤ g.toInt ∧ g.toInt ≤ 3000) Iff.rfl, in_c (x := f) (-99 ≤ f.toInt ∧ f.toInt ≤ 99) Iff.rfl, in_c (x := b) (0 ≤ b.toInt ∧ b.toInt ≤ 99999) Iff.rfl]
    by_cases q : 0 ≤ x.toInt ∧ x.toInt < 2 * U <;> by_cases q2 : 0 ≤ d.toInt ∧ d.toInt < U <;> by_cases q3 : 101 + C ≤ d.toInt ∧ d.toInt ≤ 105 <;> by_cases q4 : 0 ≤ g.toInt ∧ g.toInt ≤ 3000 <;> by_cases q5 : -99 ≤ f.toInt ∧ f.toInt ≤ 99 <;> by_cases q6 : 0 ≤ b.toInt ∧ b.toInt ≤ 99999 <;> simp [sB, q, q2, q3, q4, q5, q6, f_X7_control_b62, f_X7_control_b88]
  have hc : f_X6_control h x g f b d = if (0 ≤ x.toInt ∧ x.toInt < 2 * U) ∧ ((0 ≤ d.toInt ∧ d.toInt < U) ∨ (101 + C ≤ d.toInt ∧ d.toInt ≤ 105)) then f_X6_control_b30 h x g f b d else some (.inl 3) := by
    unfold f_X6_control
    rw [nS G.2.1 hU, tb_b]
    by_cases q : 0 ≤ x.toInt ∧ x.toInt < 2 * U
    · rw [if_pos q]
      by_cases h9 : (100 : Int) ≤ d.toInt
      · rw [if_pos (show (100 : Int32) ≤ d from (Int32.le_iff_toInt_le (x := 100) (y := d)).mpr h9), nHi i2 i1 h9, tb_b]
        by_cases q3 : 101 + C ≤ d.toInt ∧ d.toInt ≤ 105
        · rw [if_pos q3, if_pos ⟨q, Or.inr q3⟩]
        · rw [if_neg q3, if_neg (fun z => z.2.elim (fun z => by omega) q3)]
      · rw [if_neg (show ¬ (100 : Int32) ≤ d from fun z => h9 ((Int32.le_iff_toInt_le (x := 100) (y := d)).mp z)), nU G.2.1 hU, tb_b]
        by_cases q2 : 0 ≤ d.toInt ∧ d.toInt < U
        · rw [if_pos q2, if_pos ⟨q, Or.inl q2⟩]
        · rw [if_neg q2, if_neg (fun z => z.2.elim q2 (fun z => by omega))]
    · rw [if_neg q, if_neg (fun z => q z.1)]
  have hcb : f_X6_control_b30 h x g f b d = if (0 ≤ g.toInt ∧ g.toInt ≤ 3000) ∧ (-99 ≤ f.toInt ∧ f.toInt ≤ 99) ∧ (0 ≤ b.toInt ∧ b.toInt ≤ 99999) then tb (f_X6_needNoMix h d) (fun r76 => tb (f_X6_needRoomForController h) fun r80 => (f_X1_addMeasuring (h 4) x g f b d).bind fun r94 => some (.inr (r94.1, (hu h 4 r94.2)))) else some (.inl 1) := by
    unfold f_X6_control_b30
    rw [os_c (x := g) (0 ≤ g.toInt ∧ g.toInt ≤ 3000) Iff.rfl, os_c (x := f) (-99 ≤ f.toInt ∧ f.toInt ≤ 99) Iff.rfl, os_c (x := b) (0 ≤ b.toInt ∧ b.toInt ≤ 99999) Iff.rfl]
    by_cases q4 : 0 ≤ g.toInt ∧ g.toInt ≤ 3000 <;> by_cases q5 : -99 ≤ f.toInt ∧ f.toInt ≤ 99 <;> by_cases q6 : 0 ≤ b.toInt ∧ b.toInt ≤ 99999 <;> simp [q4, q5, q6]
  unfold f_L_control
  rw [hm, hc]
  by_cases q : (0 ≤ x.toInt ∧ x.toInt < 2 * U) ∧ ((0 ≤ d.toInt ∧ d.toInt < U) ∨ (101 + C ≤ d.toInt ∧ d.toInt ≤ 105))
  · rw [if_pos q, if_pos q, hcb]
    by_cases q2 : (0 ≤ g.toInt ∧ g.toInt ≤ 3000) ∧ (-99 ≤ f.toInt ∧ f.toInt ≤ 99) ∧ (0 ≤ b.toInt ∧ b.toInt ≤ 99999)
    · rw [if_pos q2, if_pos q2]
      unfold f_X7_control_b62
      rw [if_neg n10, if_neg n10, i3]
      rcases nMx (C := C) G R q.2 with ⟨e1, e2⟩ | ⟨e1, e2, e3⟩
      rotate_left
      · rw [e1, e2, Option.bind_some, tb_r, nRm i2 i1, tb_b, if_pos (rfl : (0 : Int32) = 0)]
        by_cases hC : C < 6
        · obtain ⟨s, hs, rfl⟩ := ex_n (x := x) (n := 2 * U) (by omega) (by omega)
          rw [if_pos hC, if_neg (by rw [show (6 : Int32) = Int32.ofNat 6 from rfl, ix_eq (by omega) (by omega)]; omega)]
          refine AG_ok (r := Int32.ofNat C) (w := w) (INV_c (C' := C + 1) I (fun j h0 h1 => ?_) (by rfl) (IC_ctl (s := s) (g := g) (f := f) (b := b) (d := d) (k0 := 0) IC0 hC hs q2.1 (e3 hC))) ?_ ?_ ?_
          · rw [oi_n (by omega), oi_n (by omega), oi_n (by omega), oi_n (by omega), oi_n (by omega), oi_n (by omega), oi_n (by omega), oi_n (by omega), oi_n (by omega), oi_n h0]
          · unfold f_X1_addMeasuring
            rw [add_ok _ _ _ i2 hC, Option.bind_some]
            have hmd : f_X1_isMade (oi (oi (oi (oi (oi (h 4) 0 0 (Int32.ofNat (C + 1))) 2 C (Int32.ofNat s)) 3 C f) 5 C d) 6 C (-1)) (Int32.ofNat C) = 1 := c_made (C := C + 1) (by simp [oi_i, upd]) (by omega) (by omega)
            dsimp only
            rw [hmd]
            simp (disch := omega) [ix_lt1, ix_le1, ix_lt2, ix_le2, ix_eq1, ix_eq2, ix_lt, ix_le, ix_eq, ix_inb, ix_nat, ix_suc, ix_dbl, -Int32.ofNat_add, -Int32.ofNat_mul, hC, wr_1, sumE]
          · unfold f_X7_control_b106
            rw [holds_1, Option.bind_some, if_neg n10, adds_ok _ _ _ _ _ _ (by rw [oi_n (by decide)]; exact i3) hC, Option.bind_some]
          · simp [oi_i, upd]
        · rw [if_neg hC, if_pos (by rw [show (6 : Int32) = Int32.ofNat 6 from rfl, ix_eq (by omega) (by omega)]; omega)]
          exact AG_no I (w := w) (k := 3) (by decide) rfl (no 3 (by decide))
      · rw [e1, e2, Option.bind_some, tb_l, if_neg n10]
        exact AG_no I (w := w) (k := 2) (by decide) rfl (no 2 (by decide))
    · rw [if_neg q2, if_neg q2]
      exact AG_no I (w := w) (k := 2) (by decide) rfl (no 2 (by decide))
  · rw [if_neg q, if_neg q]
    exact AG_no I (w := w) (k := 1) (by decide) rfl (no 1 (by decide))
theorem ag_ratio {h : Nat → ObS} {mo : ObS} {U C t : Nat} (I : INV h mo U C t) (x r d : Int32) (w : ObS) : AG (f_L_ratio h x r d w) (f_X7_ratio mo x r d) := by
  obtain ⟨⟨G, R, -⟩, -, -, -, -, -, IC0, -⟩ := id I
  obtain ⟨i1, i2, i3, -⟩ := id IC0
  have hU := G.1
  have r0 := R.1
  rw [G.2.1] at r0
  have no : ∀ k : Int32, k ≠ 0 → f_X7_ratio_b70 mo x r d k = some (0, oi mo 0 0 k) := fun k hk => by
    unfold f_X7_ratio_b70; rw [holds_0 hk]; rfl
  have hm : f_X7_ratio mo x r d = if (0 ≤ x.toInt ∧ x.toInt < 2 * U) ∧ (0 ≤ d.toInt ∧ d.toInt < U) then (if (0 ≤ r.toInt ∧ r.toInt ≤ 999) then (f_X7_isMix mo d).bind fun r46 => if r46 = (0 : Int32) then (if (mo.1 22 0) = 6 then f_X7_ratio_b70 mo x r d 3 else f_X7_ratio_b70 mo x r d 0) else f_X7_ratio_b70 mo x r d 2 else f_X7_ratio_b70 mo x r d 2) else f_X7_ratio_b70 mo x r d 1 := by
    unfold f_X7_ratio f_X7_ratio_b20 f_X7_ratio_b21 f_X7_ratio_b52
    rw [iS r0.symm hU, iU r0.symm hU, in_c (x := r) (0 ≤ r.toInt ∧ r.toInt ≤ 999) Iff.rfl]
    by_cases q : 0 ≤ x.toInt ∧ x.toInt < 2 * U <;> by_cases q2 : 0 ≤ d.toInt ∧ d.toInt < U <;> by_cases q3 : 0 ≤ r.toInt ∧ r.toInt ≤ 999 <;> simp [sB, q, q2, q3]
  have hc : f_X6_ratio h x r d = if (0 ≤ x.toInt ∧ x.toInt < 2 * U) ∧ (0 ≤ d.toInt ∧ d.toInt < U) then (if (0 ≤ r.toInt ∧ r.toInt ≤ 999) then tb (f_X6_needNoMix h d) (fun r33 => tb (f_X6_needRoomForController h) fun r37 => (f_X1_addRatio (h 4) x r d).bind fun r47 => some (.inr (r47.1, (hu h 4 r47.2)))) else some (.inl 1)) else some (.inl 3) := by
    unfold f_X6_ratio
    rw [nS G.2.1 hU, tb_b, nU G.2.1 hU, tb_b, os_c (x := r) (0 ≤ r.toInt ∧ r.toInt ≤ 999) Iff.rfl]
    by_cases q : 0 ≤ x.toInt ∧ x.toInt < 2 * U <;> by_cases q2 : 0 ≤ d.toInt ∧ d.toInt < U <;> by_cases q3 : 0 ≤ r.toInt ∧ r.toInt ≤ 999 <;> simp [q, q2, q3]
  unfold f_L_ratio
  rw [hm, hc]
  by_cases q : (0 ≤ x.toInt ∧ x.toInt < 2 * U) ∧ (0 ≤ d.toInt ∧ d.toInt < U)
  · rw [if_pos q, if_pos q]
    by_cases q2 : (0 ≤ r.toInt ∧ r.toInt ≤ 999)
    · rw [if_pos q2, if_pos q2]
      rw [i3]
      rcases nMx (C := C) G R (Or.inl q.2) with ⟨e1, e2⟩ | ⟨e1, e2, e3⟩
      rotate_left
      · rw [e1, e2, Option.bind_some, tb_r, nRm i2 i1, tb_b, if_pos (rfl : (0 : Int32) = 0)]
        by_cases hC : C < 6
        · obtain ⟨s, hs, rfl⟩ := ex_n (x := x) (n := 2 * U) (by omega) (by omega)
          rw [if_pos hC, if_neg (by rw [show (6 : Int32) = Int32.ofNat 6 from rfl, ix_eq (by omega) (by omega)]; omega)]
          refine AG_ok (r := Int32.ofNat C) (w := w) (INV_c (C' := C + 1) I (fun j h0 h1 => ?_) (by rfl) (IC_rat (s := s) (r := r) (d := d) (k0 := 0) IC0 hC hs (fun z => by rw [z] at q2; exact absurd q2.1 (by decide)) (e3 hC))) ?_ ?_ ?_
          · rw [oi_n (by omega), oi_n (by omega), oi_n (by omega), oi_n (by omega), oi_n (by omega), oi_n (by omega), oi_n (by omega), oi_n (by omega), oi_n (by omega), oi_n h0]
          · unfold f_X1_addRatio
            rw [add_ok _ _ _ i2 hC]
            rfl
          · unfold f_X7_ratio_b70
            rw [holds_1, Option.bind_some, if_neg n10, adds_ok _ _ _ _ _ _ (by rw [oi_n (by decide)]; exact i3) hC, Option.bind_some]
          · simp [oi_i, upd]
        · rw [if_neg hC, if_pos (by rw [show (6 : Int32) = Int32.ofNat 6 from rfl, ix_eq (by omega) (by omega)]; omega)]
          exact AG_no I (w := w) (k := 3) (by decide) rfl (no 3 (by decide))
      · rw [e1, e2, Option.bind_some, tb_l, if_neg n10]
        exact AG_no I (w := w) (k := 2) (by decide) rfl (no 2 (by decide))
    · rw [if_neg q2, if_neg q2]
      exact AG_no I (w := w) (k := 2) (by decide) rfl (no 2 (by decide))
  · rw [if_neg q, if_neg q]
    exact AG_no I (w := w) (k := 1) (by decide) rfl (no 1 (by decide))
