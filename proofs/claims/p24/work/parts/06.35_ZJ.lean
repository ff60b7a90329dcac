/-! an alarm taken away -/
def RA (o m : ObS) (A : Nat) : Prop := ∀ j, j < A → o.1 1 j = m.1 40 j ∧ o.2 2 j = (m.1 38 j).toInt64 ∧ 0 < (m.1 38 j).toInt
theorem told_lp {a s2 : ObS} {A : Nat} (h0 : a.1 0 0 = Int32.ofNat A) (h1 : s2.1 37 0 = Int32.ofNat A) (hA : A ≤ 900) (R : RA a s2 A) : ∀ (d i f f' g : Nat), i + d = A → g < i → d < f → d < f' →
    ∃ y, y < A ∧ f_X0_toldFirst_b7 a f (Int32.ofNat i) (a.2 2 g) (Int32.ofNat g) = some (Int32.ofNat y) ∧ f_X7_quit_b18 s2 f' (Int32.ofNat i) (Int32.ofNat g) = f_X7_quit_b72 s2 (Int32.ofNat y) 1900 (Int32.ofNat y) (oi s2 37 0 (s2.1 37 0 - 1))
  | d, i, 0, f', g, h, hg, hf, hf' => by omega
  | d, i, f + 1, 0, g, h, hg, hf, hf' => by omega
  | 0, i, f + 1, f' + 1, g, h, hg, hf, hf' => by
    obtain rfl : i = A := by omega
    have a3 : g < 1800 := by omega
    refine ⟨g, hg, ?_, ?_⟩
    · unfold f_X0_toldFirst_b7
      rw [h0, if_pos ((ix_le (by omega) (by omega)).mpr (Nat.le_refl _))]
    · unfold f_X7_quit_b18
      rw [if_pos (by rw [h1]; exact (ix_le (by omega) (by omega)).mpr (Nat.le_refl _)), ix_inb (by omega), if_pos (show decide (g < 1800) = true by simpa using a3), Option.bind_some]
  | d + 1, i, f + 1, f' + 1, g, h, hg, hf, hf' => by
    have b1 : ¬ A ≤ i := by omega
    have b2 : ¬ 900 ≤ i := by omega
    have b3 : i < 900 := by omega
    have b4 : i < 1800 := by omega
    have b5 : g < 1800 := by omega
    have b6 : i < 2147483648 := by omega
    have ri := (R i (by omega)).2.1
    have rg := (R g (by omega)).2.1
    by_cases q : s2.1 38 i ≤ s2.1 38 g
    · have q2 : lg_cmp (a.2 2 i) (a.2 2 g) ≤ 0 := by
        rw [lg_cmp_le, ri, rg, Int64.le_iff_toInt_le, to64, to64]; exact Int32.le_iff_toInt_le.mp q
      obtain ⟨y, y1, y2, y3⟩ := told_lp h0 h1 hA R d (i + 1) f f' g (by omega) (by omega) (by omega) (by omega)
      refine ⟨y, y1, ?_, ?_⟩
      · conv => lhs; unfold f_X0_toldFirst_b7
        rw [← y2]
        simp (disch := omega) [h0, ix_lt1, ix_le1, ix_lt2, ix_le2, ix_eq1, ix_eq2, ix_lt, ix_le, ix_eq, ix_inb, ix_nat, ix_suc, ix_dbl, -Int32.ofNat_add, -Int32.ofNat_mul, b1, b2, b3, q2]
      · conv => lhs; unfold f_X7_quit_b18
        rw [← y3]
        simp (disch := omega) [h1, ix_lt1, ix_le1, ix_lt2, ix_le2, ix_eq1, ix_eq2, ix_lt, ix_le, ix_eq, ix_inb, ix_nat, ix_suc, ix_dbl, -Int32.ofNat_add, -Int32.ofNat_mul, b1, b4, b5, q]
    · have q2 : ¬ lg_cmp (a.2 2 i) (a.2 2 g) ≤ 0 := by
        rw [lg_cmp_le, ri, rg, Int64.le_iff_toInt_le, to64, to64]; exact fun z => q (Int32.le_iff_toInt_le.mpr z)
      obtain ⟨y, y1, y2, y3⟩ := told_lp h0 h1 hA R d (i + 1) f f' i (by omega) (by omega) (by omega) (by omega)
      refine ⟨y, y1, ?_, ?_⟩
      · conv => lhs; unfold f_X0_toldFirst_b7
        rw [← y2]
        simp (disch := omega) [h0, ix_lt1, ix_le1, ix_lt2, ix_le2, ix_eq1, ix_eq2, ix_lt, ix_le, ix_eq, ix_inb, ix_nat, ix_suc, ix_dbl, -Int32.ofNat_add, -Int32.ofNat_mul, b1, b2, b3, q2]
      · conv => lhs; unfold f_X7_quit_b18
        rw [← y3]
        simp (disch := omega) [h1, ix_lt1, ix_le1, ix_lt2, ix_le2, ix_eq1, ix_eq2, ix_lt, ix_le, ix_eq, ix_inb, ix_nat, ix_suc, ix_dbl, -Int32.ofNat_add, -Int32.ofNat_mul, b1, b4, b5, q]
theorem sh_lp {a s2 : ObS} {A B y : Nat} (hA : A ≤ 900) (hB : B + 1 = A) : ∀ (d i f f' : Nat) (o m : ObS), i + 1 + d = A → d < f → d < f' → o.1 0 0 = Int32.ofNat A → m.1 37 0 = Int32.ofNat B → RA o m A →
    ∃ o' m' : ObS, f_X0_takeFirst_b35 a (Int32.ofNat y) f (Int32.ofNat i) o = some (a.1 1 (Int32.ofNat y).toNatClampNeg, o') ∧ f_X7_quit_b72 s2 (Int32.ofNat y) f' (Int32.ofNat i) m = some (s2.1 40 (Int32.ofNat y).toNatClampNeg, m') ∧ IA o' m' B ∧ (∀ k, k < 37 → m'.1 k = m.1 k) ∧ m'.2 = m.2
  | d, i, 0, f', o, m, h, hf, hf', h0, h1, R => by omega
  | d, i, f + 1, 0, o, m, h, hf, hf', h0, h1, R => by omega
  | 0, i, f + 1, f' + 1, o, m, h, hf, hf', h0, h1, R => by
    obtain rfl : A = i + 1 := by omega
    obtain rfl : B = i := by omega
    have e : Int32.ofNat (B + 1) - 1 = Int32.ofNat B := by rw [← ix_suc, Int32.add_sub_cancel]
    refine ⟨oi o 0 0 (Int32.ofNat B), m, ?_, ?_, ⟨by simp [oi_i, upd], h1, by omega, fun j hj => ?_⟩, fun _ _ => rfl, rfl⟩
    · unfold f_X0_takeFirst_b35
      rw [h0, ix_suc, if_pos ((ix_le (by omega) (by omega)).mpr (Nat.le_refl _)), Option.bind_some, e]
    · unfold f_X7_quit_b72
      rw [h1, if_pos ((ix_le (by omega) (by omega)).mpr (by omega))]
    · have := R j (by omega)
      simp [oi_i, oi_j]; exact this
  | d + 1, i, f + 1, f' + 1, o, m, h, hf, hf', h0, h1, R => by
    have b1 : ¬ A ≤ i + 1 := by omega
    have b2 : ¬ 900 ≤ i + 1 := by omega
    have b3 : i + 1 < 900 := by omega
    have b4 : i < 900 := by omega
    have b5 : i + 1 < 1800 := by omega
    have b6 : i < 1800 := by omega
    have b7 : ¬ B ≤ i := by omega
    obtain ⟨o', m', e1, e2, e3, e4, e5⟩ := sh_lp (a := a) (s2 := s2) (y := y) hA hB d (i + 1) f f' (oj (oi o 1 i (o.1 1 (i + 1))) 2 i (o.2 2 (i + 1))) (oi (oi (oi m 38 i (m.1 38 (i + 1))) 39 i (m.1 39 (i + 1))) 40 i (m.1 40 (i + 1))) (by omega) (by omega) (by omega) (by simp [oi_i, oj_i]; exact h0) (by simp [oi_i]; exact h1) (fun j hj => by
      by_cases h9 : j = i
      · subst h9
        have := R (j + 1) (by omega)
        simp [oi_i, oj_i, oj_j, upd, vp_updL]; exact this
      · have := R j hj
        simp [oi_i, oj_i, oj_j, oi_j, upd, vp_updL, h9]; exact this)
    refine ⟨o', m', ?_, ?_, e3, fun k hk => (e4 k hk).trans (by rw [oi_n (by omega), oi_n (by omega), oi_n (by omega)]), e5⟩
    · conv => lhs; unfold f_X0_takeFirst_b35
      rw [← e1]
      simp (disch := omega) [h0, ix_lt1, ix_le1, ix_lt2, ix_le2, ix_eq1, ix_eq2, ix_lt, ix_le, ix_eq, ix_inb, ix_nat, ix_suc, ix_dbl, -Int32.ofNat_add, -Int32.ofNat_mul, b1, b2, b3, b4, oi_j]
    · conv => lhs; unfold f_X7_quit_b72
      rw [← e2]
      simp (disch := omega) [h1, ix_lt1, ix_le1, ix_lt2, ix_le2, ix_eq1, ix_eq2, ix_lt, ix_le, ix_eq, ix_inb, ix_nat, ix_suc, ix_dbl, -Int32.ofNat_add, -Int32.ofNat_mul, b5, b6, b7, oi_i]
theorem INV_a {h : Nat → ObS} {mo mo' a' : ObS} {U C t A' : Nat} (I : INV h mo U C t) (b1 : ∀ j, j ≠ 0 → j < 37 → mo'.1 j = mo.1 j) (b2 : mo'.2 = mo.2) (i : IA a' mo' A') (le : (A' : Int) ≤ PO (mo.1 35) t 0) : INV (hu h 5 a') mo' U C t := by
  obtain ⟨⟨G, R, n1, n2, n3, n4, n5⟩, ⟨f0, f1, S, t1, z0'⟩, ⟨t2, t3⟩, B, ⟨N, P⟩, -, IC0, IR0⟩ := I
  refine ⟨⟨G, UR.co R (fun k _ => b1 k (by omega) (by omega)), by rw [b1 4 (by decide) (by decide)]; exact n1, by rw [b1 9 (by decide) (by decide)]; exact n2, n3, by rw [b1 9 (by decide) (by decide)]; exact n4, by rw [b1 8 (by decide) (by decide)]; exact n5⟩, ⟨by rw [b2]; exact f0, by rw [b2]; exact f1, S, t1, z0'⟩, ⟨t2, by rw [b1 1 (by decide) (by decide)]; exact t3⟩, B, ⟨N, IP_co P (fun k _ _ => b1 k (by omega) (by omega))⟩, ⟨A', i, by rw [b1 35 (by decide) (by decide)]; exact le⟩, IC_co IC0 (fun k _ _ => b1 k (by omega) (by omega)) (fun k _ => by rw [b2]), IR_co IR0 (b1 17 (by decide) (by decide))⟩
theorem ag_quit {h : Nat → ObS} {mo : ObS} {U C t : Nat} (I : INV h mo U C t) : ∃ (r : Int32) (h' : Nat → ObS) (mo' : ObS), f_X6_quit h = some (r, h') ∧ f_X7_quit mo = some (r, mo') ∧ INV h' mo' U C t := by
  obtain ⟨-, -, -, -, -, ⟨A, ⟨q0, q1, q2, q3⟩, hA⟩, -⟩ := id I
  by_cases h0 : A = 0
  · subst h0
    have e : f_X0_toldFirst (h 5) = some (-1) := by
      unfold f_X0_toldFirst f_X0_toldFirst_b7
      rw [q0]; rfl
    refine ⟨-1, h, oi mo 0 0 0, ?_, ?_, INV_0 I 0⟩
    · unfold f_X6_quit f_X0_takeFirst
      rw [e, Option.bind_some, if_pos (by decide), Option.bind_some]
      have : hu h 5 (h 5) = h := by
        funext i; unfold hu; by_cases z : i = 5
        · subst z; rfl
        · rw [beq_no z]; rfl
      dsimp only
      rw [this]
    · unfold f_X7_quit
      rw [Option.bind_some, oi_n (show 37 ≠ 0 by decide), q1, if_pos (show Int32.ofNat 0 = (0 : Int32) from rfl)]
  · have R : RA (h 5) (oi mo 0 0 0) A := fun j hj => by
      rw [oi_n (show 40 ≠ 0 by decide), oi_n (show 38 ≠ 0 by decide)]; exact q3 j hj
    have s37 : (oi mo 0 0 0).1 37 0 = Int32.ofNat A := by rw [oi_n (show 37 ≠ 0 by decide)]; exact q1
    obtain ⟨y, y1, y2, y3⟩ := told_lp (a := h 5) (s2 := oi mo 0 0 0) q0 s37 q2 R (A - 1) 1 999 1900 0 (by omega) (by omega) (by omega) (by omega)
    have e : f_X0_toldFirst (h 5) = some (Int32.ofNat y) := by
      unfold f_X0_toldFirst
      rw [← y2]
      conv => lhs; unfold f_X0_toldFirst_b7
      have p0 := q3 0 (by omega)
      have b1 : ¬ A ≤ 0 := by omega
      have c1 : ¬ Int32.ofNat A ≤ 0 := fun z => b1 ((ix_le (j := 0) (by omega) (by omega)).mp z)
      have c2 : ¬ lg_cmp ((h 5).2 2 0) 0 ≤ 0 := by
        rw [lg_cmp_le, p0.2.1, Int64.le_iff_toInt_le, to64]; show ¬ _ ≤ (0 : Int); omega
      rw [q0, if_neg c1, if_neg (by decide), if_pos (by decide)]
      rw [show ((0 : Int32).toNatClampNeg) = 0 from rfl, if_neg c2, if_pos (by decide)]
      rfl
    have sub : Int32.ofNat A - 1 = Int32.ofNat (A - 1) := by
      obtain ⟨B, rfl⟩ : ∃ B, A = B + 1 := ⟨A - 1, by omega⟩
      rw [← ix_suc, Int32.add_sub_cancel]; rfl
    obtain ⟨o', m', e1, e2, e3, e4, e5⟩ := sh_lp (a := h 5) (s2 := oi mo 0 0 0) (y := y) (B := A - 1) q2 (by omega) (A - 1 - y) y 1000 1900 (h 5) (oi (oi mo 0 0 0) 37 0 (Int32.ofNat (A - 1))) (by omega) (by omega) (by omega) q0 (by rw [oi_s]; exact upd_s) (fun j hj => by
      have := R j hj
      rw [oi_n (show 40 ≠ 37 by decide), oi_n (show 38 ≠ 37 by decide)]; exact this)
    refine ⟨(h 5).1 1 y, hu h 5 o', m', ?_, ?_, INV_a I (fun j h1 h2 => by rw [e4 j h2, oi_n (by omega), oi_n h1]) (by rw [e5]; rfl) e3 (by omega)⟩
    · have b1 : ¬ A ≤ y := by omega
      have b2 : y < 900 := by omega
      have c1 : ¬ Int32.ofNat y < 0 := by rw [show (0 : Int32) = Int32.ofNat 0 from rfl, ix_lt (by omega) (by omega)]; omega
      unfold f_X6_quit f_X0_takeFirst
      rw [e, Option.bind_some, if_neg c1, q0, if_neg (fun z => b1 ((ix_le (by omega) (by omega)).mp z)), if_pos (show Int32.ofNat y < 900 from (ix_lt (j := 900) (by omega) (by omega)).mpr b2), ix_inb (by omega), if_pos (show decide (y < 900) = true by simpa using b2), e1, Option.bind_some, ix_nat (by omega)]
    · have c1 : ¬ Int32.ofNat A = 0 := fun z => h0 ((ix_eq (j := 0) (by omega) (by omega)).mp z)
      unfold f_X7_quit
      rw [Option.bind_some, s37, if_neg c1, show f_X7_quit_b18 (oi mo 0 0 0) 1900 1 0 = _ from y3, s37, sub, e2, ix_nat (by omega)]
      have := (R y y1).1
      rw [this]
