/-! units that are driven -/
theorem tk_gr {o : ObS} {u U : Nat} (h : o.1 0 0 = Int32.ofNat U) (hU : U ≤ 12) (hu : u < U) : f_X5_takesGreatest o (Int32.ofNat u) = some (if o.1 8 u = 0 then 0 else 1) := by
  have a3 : u < 12 := by omega
  unfold f_X5_takesGreatest
  by_cases q : o.1 8 u = 0 <;> simp (disch := omega) [u_made h hU hu, ix_lt1, ix_le1, ix_lt2, ix_le2, ix_eq1, ix_eq2, ix_lt, ix_le, ix_eq, ix_inb, ix_nat, ix_suc, ix_dbl, -Int32.ofNat_add, -Int32.ofNat_mul, a3, q]
theorem kd_of {o : ObS} {u U : Nat} (h : o.1 0 0 = Int32.ofNat U) (hU : U ≤ 12) (hu : u < U) : f_X5_kindOf o (Int32.ofNat u) = some (o.1 1 u) := by
  have a3 : u < 12 := by omega
  unfold f_X5_kindOf
  simp (disch := omega) [u_made h hU hu, ix_lt1, ix_le1, ix_lt2, ix_le2, ix_eq1, ix_eq2, ix_lt, ix_le, ix_eq, ix_inb, ix_nat, ix_suc, ix_dbl, -Int32.ofNat_add, -Int32.ofNat_mul, a3]
theorem c_made {c : ObS} {k C : Nat} (h : c.1 0 0 = Int32.ofNat C) (hC : C ≤ 6) (hk : k < C) : f_X1_isMade c (Int32.ofNat k) = 1 := by
  have a1 : ¬ C ≤ k := by omega
  have a2 : ¬ 6 ≤ k := by omega
  simp (disch := omega) [f_X1_isMade, ix_lt1, ix_le1, ix_lt2, ix_le2, ix_eq1, ix_eq2, ix_lt, ix_le, ix_eq, ix_inb, ix_nat, ix_suc, ix_dbl, -Int32.ofNat_add, -Int32.ofNat_mul, h, a1, a2]
theorem ofn_m1 {e : Nat} (h : e < 100) : ¬ Int32.ofNat e = -1 := fun z => by
  have := Int32.toInt_inj.mpr z
  rw [ix_toInt (by omega)] at this
  have z : ((-1 : Int32).toInt) = -1 := rfl
  omega
theorem ch_lp {c mo : ObS} {u C : Nat} (hu : u < 12) (hC : C ≤ 6) (h0 : c.1 0 0 = Int32.ofNat C) (h1 : mo.1 22 0 = Int32.ofNat C) (h2 : c.1 5 = mo.1 27) (h3 : c.2 13 = mo.2 33) : ∀ (d k f g : Nat) (x : Int32), k + d = C → d < f → d < g → (x = -1 ∨ ∃ e, e < C ∧ x = Int32.ofNat e ∧ mo.1 27 e = Int32.ofNat u) →
    ∃ y : Int32, f_X1_chosenFor_b5 c (Int32.ofNat u) (if mo.1 9 u = 0 then 0 else 1) f (Int32.ofNat k) x = some y ∧ f_X7_driven_b4 mo (Int32.ofNat u) g (Int32.ofNat k) x = (if y = -1 then some mo else f_X7_driven_b103 (Int32.ofNat u) y 64 0 mo) ∧ (y = -1 ∨ ∃ e, e < C ∧ y = Int32.ofNat e ∧ mo.1 27 e = Int32.ofNat u)
  | d, k, 0, g, x, h, hf, hg, hx => by omega
  | d, k, f + 1, 0, x, h, hf, hg, hx => by omega
  | 0, k, f + 1, g + 1, x, h, hf, hg, hx => by
    obtain rfl : k = C := by omega
    refine ⟨x, ?_, ?_, hx⟩
    · unfold f_X1_chosenFor_b5
      rw [h0, if_pos ((ix_le (by omega) (by omega)).mpr (Nat.le_refl _))]
    · unfold f_X7_driven_b4
      rw [h1, if_pos ((ix_le (by omega) (by omega)).mpr (Nat.le_refl _))]
  | d + 1, k, f + 1, g + 1, x, h, hf, hg, hx => by
    have b1 : ¬ C ≤ k := by omega
    have b2 : ¬ 6 ≤ k := by omega
    have b3 : k < 6 := by omega
    have step : ∀ x' : Int32, (x' = -1 ∨ ∃ e, e < C ∧ x' = Int32.ofNat e ∧ mo.1 27 e = Int32.ofNat u) →
        f_X1_chosenFor_b5 c (Int32.ofNat u) (if mo.1 9 u = 0 then 0 else 1) (f + 1) (Int32.ofNat k) x = f_X1_chosenFor_b5 c (Int32.ofNat u) (if mo.1 9 u = 0 then 0 else 1) f (Int32.ofNat (k + 1)) x' →
        f_X7_driven_b4 mo (Int32.ofNat u) (g + 1) (Int32.ofNat k) x = f_X7_driven_b4 mo (Int32.ofNat u) g (Int32.ofNat (k + 1)) x' →
        ∃ y : Int32, f_X1_chosenFor_b5 c (Int32.ofNat u) (if mo.1 9 u = 0 then 0 else 1) (f + 1) (Int32.ofNat k) x = some y ∧ f_X7_driven_b4 mo (Int32.ofNat u) (g + 1) (Int32.ofNat k) x = (if y = -1 then some mo else f_X7_driven_b103 (Int32.ofNat u) y 64 0 mo) ∧ (y = -1 ∨ ∃ e, e < C ∧ y = Int32.ofNat e ∧ mo.1 27 e = Int32.ofNat u) := by
      intro x' hx' q1 q2
      rw [q1, q2]
      exact ch_lp hu hC h0 h1 h2 h3 d (k + 1) f g x' (by omega) (by omega) (by omega) hx'
    by_cases hd : mo.1 27 k = Int32.ofNat u
    · rcases hx with rfl | ⟨e, he, rfl, hx⟩
      · refine step (Int32.ofNat k) (Or.inr ⟨k, by omega, rfl, hd⟩) ?_ ?_
        · conv => lhs; unfold f_X1_chosenFor_b5
          have hm : f_X1_isMade c (-1) = 0 := rfl
          simp (disch := omega) [h0, ix_lt1, ix_le1, ix_lt2, ix_le2, ix_eq1, ix_eq2, ix_lt, ix_le, ix_eq, ix_inb, ix_nat, ix_suc, ix_dbl, -Int32.ofNat_add, -Int32.ofNat_mul, b1, b2, b3, h2, hd, hm]
        · conv => lhs; unfold f_X7_driven_b4 f_X7_driven_b71
          simp (disch := omega) [h1, ix_lt1, ix_le1, ix_lt2, ix_le2, ix_eq1, ix_eq2, ix_lt, ix_le, ix_eq, ix_inb, ix_nat, ix_suc, ix_dbl, -Int32.ofNat_add, -Int32.ofNat_mul, b1, b3, hd]
      · have he6 : e < 6 := by omega
        have hm := c_made h0 hC he
        have n1 := ofn_m1 (e := e) (by omega)
        by_cases hg0 : mo.1 9 u = 0
        · by_cases hc : 0 ≤ lg_cmp (mo.2 33 k) (mo.2 33 e)
          · refine step (Int32.ofNat e) (Or.inr ⟨e, he, rfl, hx⟩) ?_ ?_
            · conv => lhs; unfold f_X1_chosenFor_b5
              simp (disch := omega) [h0, ix_lt1, ix_le1, ix_lt2, ix_le2, ix_eq1, ix_eq2, ix_lt, ix_le, ix_eq, ix_inb, ix_nat, ix_suc, ix_dbl, -Int32.ofNat_add, -Int32.ofNat_mul, b1, b2, b3, he6, h2, hd, hm, hg0, f_X1_goesAhead, h3, hc]
            · conv => lhs; unfold f_X7_driven_b4 f_X7_driven_b71
              simp (disch := omega) [h1, ix_lt1, ix_le1, ix_lt2, ix_le2, ix_eq1, ix_eq2, ix_lt, ix_le, ix_eq, ix_inb, ix_nat, ix_suc, ix_dbl, -Int32.ofNat_add, -Int32.ofNat_mul, b1, b3, hu, he6, hd, n1, hg0, hc]
          · refine step (Int32.ofNat k) (Or.inr ⟨k, by omega, rfl, hd⟩) ?_ ?_
            · conv => lhs; unfold f_X1_chosenFor_b5
              simp (disch := omega) [h0, ix_lt1, ix_le1, ix_lt2, ix_le2, ix_eq1, ix_eq2, ix_lt, ix_le, ix_eq, ix_inb, ix_nat, ix_suc, ix_dbl, -Int32.ofNat_add, -Int32.ofNat_mul, b1, b2, b3, he6, h2, hd, hm, hg0, f_X1_goesAhead, h3, hc]
            · conv => lhs; unfold f_X7_driven_b4 f_X7_driven_b71
              simp (disch := omega) [h1, ix_lt1, ix_le1, ix_lt2, ix_le2, ix_eq1, ix_eq2, ix_lt, ix_le, ix_eq, ix_inb, ix_nat, ix_suc, ix_dbl, -Int32.ofNat_add, -Int32.ofNat_mul, b1, b3, hu, he6, hd, n1, hg0, hc]
        · by_cases hc : lg_cmp (mo.2 33 k) (mo.2 33 e) ≤ 0
          · refine step (Int32.ofNat e) (Or.inr ⟨e, he, rfl, hx⟩) ?_ ?_
            · conv => lhs; unfold f_X1_chosenFor_b5
              simp (disch := omega) [h0, ix_lt1, ix_le1, ix_lt2, ix_le2, ix_eq1, ix_eq2, ix_lt, ix_le, ix_eq, ix_inb, ix_nat, ix_suc, ix_dbl, -Int32.ofNat_add, -Int32.ofNat_mul, b1, b2, b3, he6, h2, hd, hm, hg0, f_X1_goesAhead, h3, hc]
            · conv => lhs; unfold f_X7_driven_b4 f_X7_driven_b71
              simp (disch := omega) [h1, ix_lt1, ix_le1, ix_lt2, ix_le2, ix_eq1, ix_eq2, ix_lt, ix_le, ix_eq, ix_inb, ix_nat, ix_suc, ix_dbl, -Int32.ofNat_add, -Int32.ofNat_mul, b1, b3, hu, he6, hd, n1, hg0, hc]
          · refine step (Int32.ofNat k) (Or.inr ⟨k, by omega, rfl, hd⟩) ?_ ?_
            · conv => lhs; unfold f_X1_chosenFor_b5
              simp (disch := omega) [h0, ix_lt1, ix_le1, ix_lt2, ix_le2, ix_eq1, ix_eq2, ix_lt, ix_le, ix_eq, ix_inb, ix_nat, ix_suc, ix_dbl, -Int32.ofNat_add, -Int32.ofNat_mul, b1, b2, b3, he6, h2, hd, hm, hg0, f_X1_goesAhead, h3, hc]
            · conv => lhs; unfold f_X7_driven_b4 f_X7_driven_b71
              simp (disch := omega) [h1, ix_lt1, ix_le1, ix_lt2, ix_le2, ix_eq1, ix_eq2, ix_lt, ix_le, ix_eq, ix_inb, ix_nat, ix_suc, ix_dbl, -Int32.ofNat_add, -Int32.ofNat_mul, b1, b3, hu, he6, hd, n1, hg0, hc]
    · refine step x hx ?_ ?_
      · conv => lhs; unfold f_X1_chosenFor_b5
        simp (disch := omega) [h0, ix_lt1, ix_le1, ix_lt2, ix_le2, ix_eq1, ix_eq2, ix_lt, ix_le, ix_eq, ix_inb, ix_nat, ix_suc, ix_dbl, -Int32.ofNat_add, -Int32.ofNat_mul, b1, b2, b3, h2, hd]
      · conv => lhs; unfold f_X7_driven_b4 f_X7_driven_b71
        simp (disch := omega) [h1, ix_lt1, ix_le1, ix_lt2, ix_le2, ix_eq1, ix_eq2, ix_lt, ix_le, ix_eq, ix_inb, ix_nat, ix_suc, ix_dbl, -Int32.ofNat_add, -Int32.ofNat_mul, b1, b3, hd]
def LF (u e k f g : Nat) (v : Int64) (c mo : ObS) : Prop := ∃ c' mo' : ObS, f_X1_letFollow_b3 (Int32.ofNat u) v f (Int32.ofNat k) c = some c' ∧ f_X7_driven_b103 (Int32.ofNat u) (Int32.ofNat e) g (Int32.ofNat k) mo = some (oi mo' 4 u ((hd v 0 ((f_X7_mostOf (mo.1 3 u)).toInt64)).toInt32)) ∧ c'.1 = c.1 ∧ mo'.1 = mo.1 ∧ c'.2 11 = mo'.2 32 ∧ (∀ j, j ≠ 11 → c'.2 j = c.2 j) ∧ (∀ j, j ≠ 32 → mo'.2 j = mo.2 j)
/-- the last of `driven`: the sums of those that were not taken, and the unit's number -/
theorem lf_lp {u e C : Nat} {v : Int64} (hu : u < 12) (he : e < C) (hC : C ≤ 6) : ∀ (d k f g : Nat) (c mo : ObS), k + d = C → d < f → d < g → c.1 0 0 = Int32.ofNat C → mo.1 22 0 = Int32.ofNat C → c.1 5 = mo.1 27 → c.1 4 = mo.1 26 → c.2 13 = mo.2 33 → c.2 12 = mo.2 36 → c.2 11 = mo.2 32 → (∀ j, j < C → (c.1 1 j = 0 ↔ mo.1 28 j ≠ -1)) → mo.2 33 e = v →
    LF u e k f g v c mo
  | d, k, 0, g, c, mo, h, hf, hg, e1, e2, e3, e4, e5, e6, e7, e8, e9 => by omega
  | d, k, f + 1, 0, c, mo, h, hf, hg, e1, e2, e3, e4, e5, e6, e7, e8, e9 => by omega
  | 0, k, f + 1, g + 1, c, mo, h, hf, hg, e1, e2, e3, e4, e5, e6, e7, e8, e9 => by
    obtain rfl : k = C := by omega
    have he6 : e < 6 := by omega
    refine ⟨c, mo, ?_, ?_, rfl, rfl, e7, fun _ _ => rfl, fun _ _ => rfl⟩
    · unfold f_X1_letFollow_b3
      rw [e1, if_pos ((ix_le (by omega) (by omega)).mpr (Nat.le_refl _))]
    · unfold f_X7_driven_b103
      rw [e2, if_pos ((ix_le (by omega) (by omega)).mpr (Nat.le_refl _))]
      simp (disch := omega) [ix_lt1, ix_le1, ix_lt2, ix_le2, ix_eq1, ix_eq2, ix_lt, ix_le, ix_eq, ix_inb, ix_nat, ix_suc, ix_dbl, -Int32.ofNat_add, -Int32.ofNat_mul, hu, he6, held7, e9]
  | d + 1, k, f + 1, g + 1, c, mo, h, hf, hg, e1, e2, e3, e4, e5, e6, e7, e8, e9 => by
    have b1 : ¬ C ≤ k := by omega
    have b2 : ¬ 6 ≤ k := by omega
    have b3 : k < 6 := by omega
    have he6 : e < 6 := by omega
    have stay : f_X1_letFollow_b3 (Int32.ofNat u) v (f + 1) (Int32.ofNat k) c = f_X1_letFollow_b3 (Int32.ofNat u) v f (Int32.ofNat (k + 1)) c → f_X7_driven_b103 (Int32.ofNat u) (Int32.ofNat e) (g + 1) (Int32.ofNat k) mo = f_X7_driven_b103 (Int32.ofNat u) (Int32.ofNat e) g (Int32.ofNat (k + 1)) mo → LF u e k (f + 1) (g + 1) v c mo := fun q1 q2 => by
      unfold LF; rw [q1, q2]
      exact lf_lp hu he hC d (k + 1) f g c mo (by omega) (by omega) (by omega) e1 e2 e3 e4 e5 e6 e7 e8 e9
    by_cases hd1 : mo.1 27 k = Int32.ofNat u
    · by_cases hr : mo.1 28 k = -1
      · have hm : ¬ c.1 1 k = 0 := fun z => (e8 k (by omega)).mp z hr
        by_cases hq : mo.2 33 k = v
        · refine stay ?_ ?_
          · conv => lhs; unfold f_X1_letFollow_b3
            simp (disch := omega) [e1, ix_lt1, ix_le1, ix_lt2, ix_le2, ix_eq1, ix_eq2, ix_lt, ix_le, ix_eq, ix_inb, ix_nat, ix_suc, ix_dbl, -Int32.ofNat_add, -Int32.ofNat_mul, b1, b2, b3, e3, hd1, hm, lg_cmp_eq, e5, hq]
          · conv => lhs; unfold f_X7_driven_b103
            simp (disch := omega) [e2, ix_lt1, ix_le1, ix_lt2, ix_le2, ix_eq1, ix_eq2, ix_lt, ix_le, ix_eq, ix_inb, ix_nat, ix_suc, ix_dbl, -Int32.ofNat_add, -Int32.ofNat_mul, b1, b3, he6, hd1, is_ra b3, hr, lg_cmp_eq, hq, e9]
        · obtain ⟨c', mo', r1, r2, r3, r4, r5, r6, r7⟩ := lf_lp (v := v) hu he hC d (k + 1) f g (oj c 11 k (hd ((v - (mo.1 26 k).toInt64 - mo.2 36 k) * 1000) (-10000000) 10000000)) (oj mo 32 k (hd ((v - (mo.1 26 k).toInt64 - mo.2 36 k) * 1000) (-10000000) 10000000)) (by omega) (by omega) (by omega) e1 e2 e3 e4 (by rw [oj_n (by decide), oj_n (by decide)]; exact e5) (by rw [oj_n (by decide), oj_n (by decide)]; exact e6) (by rw [oj_j, oj_j, if_pos rfl, if_pos rfl, e7]) e8 (by rw [oj_n (by decide)]; exact e9)
          refine ⟨c', mo', ?_, ?_, r3, r4, r5, fun j hj => (r6 j hj).trans (oj_n hj), fun j hj => (r7 j hj).trans (oj_n hj)⟩
          · conv => lhs; unfold f_X1_letFollow_b3
            rw [← r1]
            simp (disch := omega) [e1, ix_lt1, ix_le1, ix_lt2, ix_le2, ix_eq1, ix_eq2, ix_lt, ix_le, ix_eq, ix_inb, ix_nat, ix_suc, ix_dbl, -Int32.ofNat_add, -Int32.ofNat_mul, b1, b2, b3, e3, hd1, hm, lg_cmp_eq, e5, hq, e4, e6, hs_hd]
          · conv => lhs; unfold f_X7_driven_b103
            rw [oj_i] at r2
            rw [← r2]
            simp (disch := omega) [e2, ix_lt1, ix_le1, ix_lt2, ix_le2, ix_eq1, ix_eq2, ix_lt, ix_le, ix_eq, ix_inb, ix_nat, ix_suc, ix_dbl, -Int32.ofNat_add, -Int32.ofNat_mul, b1, b3, he6, hd1, is_ra b3, hr, lg_cmp_eq, hq, e9, held7]
      · have hm : c.1 1 k = 0 := (e8 k (by omega)).mpr hr
        refine stay ?_ ?_
        · conv => lhs; unfold f_X1_letFollow_b3
          simp (disch := omega) [e1, ix_lt1, ix_le1, ix_lt2, ix_le2, ix_eq1, ix_eq2, ix_lt, ix_le, ix_eq, ix_inb, ix_nat, ix_suc, ix_dbl, -Int32.ofNat_add, -Int32.ofNat_mul, b1, b2, b3, e3, hd1, hm]
        · conv => lhs; unfold f_X7_driven_b103
          simp (disch := omega) [e2, ix_lt1, ix_le1, ix_lt2, ix_le2, ix_eq1, ix_eq2, ix_lt, ix_le, ix_eq, ix_inb, ix_nat, ix_suc, ix_dbl, -Int32.ofNat_add, -Int32.ofNat_mul, b1, b3, he6, hd1, is_ra b3, hr]
    · refine stay ?_ ?_
      · conv => lhs; unfold f_X1_letFollow_b3
        simp (disch := omega) [e1, ix_lt1, ix_le1, ix_lt2, ix_le2, ix_eq1, ix_eq2, ix_lt, ix_le, ix_eq, ix_inb, ix_nat, ix_suc, ix_dbl, -Int32.ofNat_add, -Int32.ofNat_mul, b1, b2, b3, e3, hd1]
      · conv => lhs; unfold f_X7_driven_b103
        simp (disch := omega) [e2, ix_lt1, ix_le1, ix_lt2, ix_le2, ix_eq1, ix_eq2, ix_lt, ix_le, ix_eq, ix_inb, ix_nat, ix_suc, ix_dbl, -Int32.ofNat_add, -Int32.ofNat_mul, b1, b3, he6, hd1]
