/-! what is only asked -/
def AR (h : Nat → ObS) (L : Option (Int32 × ObS)) (M : Option (Int32 × ObS)) : Prop :=
  ∃ (k : Int32) (w' : ObS) (r : Int32) (mo' : ObS) (U C t : Nat), L = some (k, w') ∧ M = some (r, mo') ∧ mo'.1 0 0 = k ∧ (k = 0 → w'.2 0 0 = r.toInt64) ∧ INV h mo' U C t
theorem AR_no {L M : Option (Int32 × ObS)} {h : Nat → ObS} {mo w : ObS} {U C t : Nat} {k : Int32} (I : INV h mo U C t) (hk : k ≠ 0) (h1 : L = some (k, w)) (h2 : M = some (0, oi mo 0 0 k)) : AR h L M :=
  ⟨k, w, 0, oi mo 0 0 k, U, C, t, h1, h2, rfl, fun z => absurd z hk, INV_0 I k⟩
theorem AR_ok {L M : Option (Int32 × ObS)} {h : Nat → ObS} {mo w : ObS} {U C t : Nat} {r : Int32} (I : INV h mo U C t) (h1 : L = some (0, oj w 0 ((0 : Int32).toNatClampNeg) r.toInt64)) (h2 : M = some (r, oi mo 0 0 0)) : AR h L M :=
  ⟨0, _, r, oi mo 0 0 0, U, C, t, h1, h2, rfl, fun _ => by rw [oj_j, if_pos rfl]; exact if_pos rfl, INV_0 I 0⟩
theorem i32 {x y : Int32} : x = y ↔ x.toInt = y.toInt := Int32.toInt_inj.symm
theorem ag_of {h : Nat → ObS} {mo : ObS} {U C t : Nat} (I : INV h mo U C t) (x y : Int32) (w : ObS) : AR h (f_L_of h x y w) (f_X7_of mo x y) := by
  obtain ⟨⟨G, R, n1, n2, n3, n4, n5⟩, ⟨f0, f1, S, t1, z0'⟩, -⟩ := id I
  have hU := G.1
  have r0 := R.1
  rw [G.2.1] at r0
  unfold f_L_of f_X6_of f_X7_of
  rw [nS G.2.1 hU, tb_b, iS r0.symm hU]
  by_cases q : 0 ≤ x.toInt ∧ x.toInt < 2 * U
  · rw [if_pos q]
    obtain ⟨s, hs, rfl⟩ := ex_n (x := x) (n := 2 * U) (by omega) (by omega)
    have hs24 : s < 24 := by omega
    have hin : f_X7_in y 0 2 = if y = 0 ∨ y = 1 ∨ y = 2 then 1 else 0 := in_c _ (by
      rw [i32, i32, i32]; show (0 : Int) ≤ _ ∧ _ ≤ (2 : Int) ↔ _ = (0 : Int) ∨ _ = (1 : Int) ∨ _ = (2 : Int); omega)
    unfold sB
    rw [if_pos q]
    by_cases y0 : y = 0
    · subst y0
      refine AR_ok I (w := w) (r := (mo.2 10 s).toInt32) ?_ ?_
      · simp (disch := omega) [s_flow hs24, sumE, f0]
      · simp (disch := omega) [hin, f_X7_of_b27, holds_1, ix_lt1, ix_le1, ix_lt2, ix_le2, ix_eq1, ix_eq2, ix_lt, ix_le, ix_eq, ix_inb, ix_nat, ix_suc, ix_dbl, -Int32.ofNat_add, -Int32.ofNat_mul, hs24]; rfl
    · by_cases y1 : y = 1
      · subst y1
        refine AR_ok I (w := w) (r := (mo.2 11 s).toInt32) ?_ ?_
        · simp (disch := omega) [s_heat hs24, sumE, f1]
        · simp (disch := omega) [hin, f_X7_of_b27, holds_1, ix_lt1, ix_le1, ix_lt2, ix_le2, ix_eq1, ix_eq2, ix_lt, ix_le, ix_eq, ix_inb, ix_nat, ix_suc, ix_dbl, -Int32.ofNat_add, -Int32.ofNat_mul, hs24]; rfl
      · by_cases y2 : y = 2
        · subst y2
          refine AR_ok I (w := w) (r := (wm (mo.2 10 s) (mo.2 11 s)).toInt32) ?_ ?_
          · simp (disch := omega) [s_warm hs24, sumE, f0, f1]
          · simp (disch := omega) [hin, f_X7_of_b27, holds_1, m_warm hs24]; rfl
        · refine AR_no I (w := w) (k := 2) (by decide) ?_ ?_
          · simp [y0, y1, y2, sumE]
          · simp [hin, y0, y1, y2, f_X7_of_b27, holds_0]
  · rw [if_neg q]
    refine AR_no I (w := w) (k := 1) (by decide) rfl ?_
    unfold sB; rw [if_neg q]; simp [f_X7_of_b27, holds_0]
theorem ag_ofUnit {h : Nat → ObS} {mo : ObS} {U C t : Nat} (I : INV h mo U C t) (x y : Int32) (w : ObS) : AR h (f_L_ofUnit h x y w) (f_X7_ofUnit mo x y) := by
  obtain ⟨⟨G, R, n1, n2, n3, n4, n5⟩, -⟩ := id I
  have hU := G.1
  have r0 := R.1
  rw [G.2.1] at r0
  unfold f_L_ofUnit f_X6_ofUnit f_X7_ofUnit
  rw [nU G.2.1 hU, tb_b, iU r0.symm hU]
  by_cases q : 0 ≤ x.toInt ∧ x.toInt < U
  · rw [if_pos q]
    obtain ⟨s, hs, rfl⟩ := ex_n (x := x) (n := U) q (by omega)
    have hs12 : s < 12 := by omega
    have hin : f_X7_in y 0 1 = if y = 0 ∨ y = 1 then 1 else 0 := in_c _ (by
      rw [i32, i32]; show (0 : Int) ≤ _ ∧ _ ≤ (1 : Int) ↔ _ = (0 : Int) ∨ _ = (1 : Int); omega)
    unfold sB
    rw [if_pos q]
    by_cases y0 : y = 0
    · subst y0
      refine AR_ok I (w := w) (r := mo.1 4 s) ?_ ?_
      · simp (disch := omega) [f_X5_numberOf, u_made G.2.1 hU hs, ix_lt1, ix_le1, ix_lt2, ix_le2, ix_eq1, ix_eq2, ix_lt, ix_le, ix_eq, ix_inb, ix_nat, ix_suc, ix_dbl, -Int32.ofNat_add, -Int32.ofNat_mul, hs12, sumE, n1]
      · simp (disch := omega) [hin, f_X7_ofUnit_b27, holds_1, ix_lt1, ix_le1, ix_lt2, ix_le2, ix_eq1, ix_eq2, ix_lt, ix_le, ix_eq, ix_inb, ix_nat, ix_suc, ix_dbl, -Int32.ofNat_add, -Int32.ofNat_mul, hs12, oi_i]
    · by_cases y1 : y = 1
      · subst y1
        refine AR_ok I (w := w) (r := mo.1 8 s) ?_ ?_
        · simp (disch := omega) [f_X5_movedBy, u_made G.2.1 hU hs, ix_lt1, ix_le1, ix_lt2, ix_le2, ix_eq1, ix_eq2, ix_lt, ix_le, ix_eq, ix_inb, ix_nat, ix_suc, ix_dbl, -Int32.ofNat_add, -Int32.ofNat_mul, hs12, sumE, n5]
        · simp (disch := omega) [hin, f_X7_ofUnit_b27, holds_1, ix_lt1, ix_le1, ix_lt2, ix_le2, ix_eq1, ix_eq2, ix_lt, ix_le, ix_eq, ix_inb, ix_nat, ix_suc, ix_dbl, -Int32.ofNat_add, -Int32.ofNat_mul, hs12, oi_i]
      · refine AR_no I (w := w) (k := 2) (by decide) ?_ ?_
        · simp [y0, y1, sumE]
        · simp [hin, y0, y1, f_X7_ofUnit_b27, holds_0]
  · rw [if_neg q]
    refine AR_no I (w := w) (k := 1) (by decide) rfl ?_
    unfold sB; rw [if_neg q]; simp [f_X7_ofUnit_b27, holds_0]
theorem to_32 (v : Int32) : v.toInt64.toInt32 = v := by
  rw [← Int32.toInt_inj, Int64.toInt_toInt32, to64]
  have := v.toInt_lt
  have := v.le_toInt
  exact Int.bmod_eq_of_le (by omega) (by omega)
theorem ag_ofC {h : Nat → ObS} {mo : ObS} {U C t : Nat} (I : INV h mo U C t) (x y : Int32) (w : ObS) : AR h (f_L_ofController h x y w) (f_X7_ofController mo x y) := by
  obtain ⟨-, -, -, -, -, -, ⟨i1, i2, i3, ⟨i4, i5, i6, i7, i8⟩, ⟨i9, i10, i11, i12, i13⟩, i14, i15, i16⟩, -⟩ := id I
  unfold f_L_ofController f_X6_ofController f_X7_ofController
  rw [nC i2 i1, tb_b, iC i3 i1]
  by_cases q : 0 ≤ x.toInt ∧ x.toInt < C
  · rw [if_pos q]
    obtain ⟨s, hs, rfl⟩ := ex_n (x := x) (n := C) q (by omega)
    have hs6 : s < 6 := by omega
    have hin : f_X7_in y 0 3 = if y = 0 ∨ y = 1 ∨ y = 2 ∨ y = 3 then 1 else 0 := in_c _ (by
      rw [i32, i32, i32, i32]; show (0 : Int) ≤ _ ∧ _ ≤ (3 : Int) ↔ _ = (0 : Int) ∨ _ = (1 : Int) ∨ _ = (2 : Int) ∨ _ = (3 : Int); omega)
    have hm := c_made i2 i1 hs
    unfold sB
    rw [if_pos q]
    by_cases y0 : y = 0
    · subst y0
      refine AR_ok I (w := w) (r := mo.1 24 s) ?_ ?_
      · simp (disch := omega) [f_X1_goalOf, hm, ix_lt1, ix_le1, ix_lt2, ix_le2, ix_eq1, ix_eq2, ix_lt, ix_le, ix_eq, ix_inb, ix_nat, ix_suc, ix_dbl, -Int32.ofNat_add, -Int32.ofNat_mul, hs6, sumE, i9, to_32]
      · simp (disch := omega) [hin, f_X7_ofController_b27, holds_1, ix_lt1, ix_le1, ix_lt2, ix_le2, ix_eq1, ix_eq2, ix_lt, ix_le, ix_eq, ix_inb, ix_nat, ix_suc, ix_dbl, -Int32.ofNat_add, -Int32.ofNat_mul, hs6, oi_i]
    · by_cases y1 : y = 1
      · subst y1
        refine AR_ok I (w := w) (r := (mo.2 32 s).toInt32) ?_ ?_
        · simp (disch := omega) [f_X1_sumOf, hm, ix_lt1, ix_le1, ix_lt2, ix_le2, ix_eq1, ix_eq2, ix_lt, ix_le, ix_eq, ix_inb, ix_nat, ix_suc, ix_dbl, -Int32.ofNat_add, -Int32.ofNat_mul, hs6, sumE, i10]
        · simp (disch := omega) [hin, f_X7_ofController_b27, holds_1, ix_lt1, ix_le1, ix_lt2, ix_le2, ix_eq1, ix_eq2, ix_lt, ix_le, ix_eq, ix_inb, ix_nat, ix_suc, ix_dbl, -Int32.ofNat_add, -Int32.ofNat_mul, hs6, oi_j]
      · by_cases y2 : y = 2
        · subst y2
          refine AR_ok I (w := w) (r := (mo.2 33 s).toInt32) ?_ ?_
          · simp (disch := omega) [f_X1_outputOf, hm, ix_lt1, ix_le1, ix_lt2, ix_le2, ix_eq1, ix_eq2, ix_lt, ix_le, ix_eq, ix_inb, ix_nat, ix_suc, ix_dbl, -Int32.ofNat_add, -Int32.ofNat_mul, hs6, sumE, i12]
          · simp (disch := omega) [hin, f_X7_ofController_b27, holds_1, ix_lt1, ix_le1, ix_lt2, ix_le2, ix_eq1, ix_eq2, ix_lt, ix_le, ix_eq, ix_inb, ix_nat, ix_suc, ix_dbl, -Int32.ofNat_add, -Int32.ofNat_mul, hs6, oi_j]
        · by_cases y3 : y = 3
          · subst y3
            refine AR_ok I (w := w) (r := mo.1 34 s) ?_ ?_
            · simp (disch := omega) [f_X1_errorOf, hm, ix_lt1, ix_le1, ix_lt2, ix_le2, ix_eq1, ix_eq2, ix_lt, ix_le, ix_eq, ix_inb, ix_nat, ix_suc, ix_dbl, -Int32.ofNat_add, -Int32.ofNat_mul, hs6, sumE, i13, to_32]
            · simp (disch := omega) [hin, f_X7_ofController_b27, holds_1, ix_lt1, ix_le1, ix_lt2, ix_le2, ix_eq1, ix_eq2, ix_lt, ix_le, ix_eq, ix_inb, ix_nat, ix_suc, ix_dbl, -Int32.ofNat_add, -Int32.ofNat_mul, hs6, oi_i]
          · refine AR_no I (w := w) (k := 2) (by decide) ?_ ?_
            · simp [y0, y1, y2, y3, sumE]
            · simp [hin, y0, y1, y2, y3, f_X7_ofController_b27, holds_0]
  · rw [if_neg q]
    refine AR_no I (w := w) (k := 1) (by decide) rfl ?_
    unfold sB; rw [if_neg q]; simp [f_X7_ofController_b27, holds_0]
theorem ag_trend {h : Nat → ObS} {mo : ObS} {U C t : Nat} (I : INV h mo U C t) (x y : Int32) (w : ObS) : AR h (f_L_trend h x y w) (f_X7_trend mo x y) := by
  obtain ⟨⟨G, R, -⟩, ⟨-, -, -, t1, -⟩, ⟨t2, t3⟩, -, -, -, -, IR0⟩ := id I
  have hU := G.1
  have r0 := R.1
  rw [G.2.1] at r0
  unfold f_L_trend f_X6_trend f_X7_trend f_X7_trend_b25
  rw [nS G.2.1 hU, tb_b, iS r0.symm hU, t2, t3]
  by_cases q : 0 ≤ x.toInt ∧ x.toInt < 2 * U
  · rw [if_pos q]
    obtain ⟨s, hs, rfl⟩ := ex_n (x := x) (n := 2 * U) (by omega) (by omega)
    unfold sB
    rw [if_pos q, os_c (1 ≤ y.toInt ∧ y.toInt ≤ t) (by rw [ix_toInt (by omega)]; exact Iff.rfl), in_c (1 ≤ y.toInt ∧ y.toInt ≤ t) (by rw [ix_toInt (by omega)]; exact Iff.rfl)]
    by_cases p : 1 ≤ y.toInt ∧ y.toInt ≤ t
    · obtain ⟨v, hv, rfl⟩ := ix_ex (x := y) (by omega)
      rw [ix_toInt hv] at p
      obtain ⟨r, rfl⟩ : ∃ r, v = r + 1 := ⟨v - 1, by omega⟩
      have a2 : 24 * r + s < 7200 := by omega
      have e0 : 24 * (Int32.ofNat (r + 1) - 1) + Int32.ofNat s = Int32.ofNat (24 * r + s) := by
        rw [← ix_suc r, Int32.add_sub_cancel, show (24 : Int32) = Int32.ofNat 24 from rfl, ← Int32.ofNat_mul, ix_add]
      refine AR_ok I (w := w) (r := mo.1 17 (24 * r + s)) ?_ ?_
      · rw [ix_toInt hv, if_pos p, if_pos rfl, tr_at hU t1 IR0 (by omega) hs]; rfl
      · rw [ix_toInt hv, if_pos p, Option.bind_some, if_neg (by decide), if_neg (by decide)]
        unfold f_X7_trend_b26
        rw [holds_1, Option.bind_some, if_neg (show ¬ (1 : Int32) = 0 by decide), e0, ix_inb (by omega), ix_nat (by omega), if_pos (by simpa using a2), oi_n (show 17 ≠ 0 by decide)]
    · rw [if_neg p, if_neg p]
      refine AR_no I (w := w) (k := 1) (by decide) rfl ?_
      rw [Option.bind_some, if_neg (by decide), if_pos rfl]
      simp [f_X7_trend_b26, holds_0]
  · rw [if_neg q]
    refine AR_no I (w := w) (k := 1) (by decide) rfl ?_
    unfold sB; rw [if_neg q]; simp [f_X7_trend_b26, holds_0]
