theorem upd_id (f : Nat → Int32) (k : Nat) : upd f k (f k) = f := by
  funext j; unfold upd; by_cases h : j = k
  · subst h; rw [if_pos rfl]
  · rw [if_neg h]
theorem wk_r {o1 c a mo : ObS} {kd : Nat → Int32} {U C k A : Nat} (hU : U ≤ 12) (I : IC c mo kd U C) (hk : k < C) (hm : mo.1 28 k ≠ -1) (f0 : o1.2 0 = mo.2 10) (J : IA a mo A) : WKS o1 c a mo kd U C k A := by
  obtain ⟨i1, i2, i3, ⟨i4, i5, i6, i7, i8⟩, ⟨i9, i10, i11, i12, i13⟩, i14, i15, i16⟩ := id I
  have hk6 : k < 6 := by omega
  obtain ⟨⟨s, hs, p1⟩, p2, p3, ⟨p4, p5⟩, p7⟩ := i14 k hk
  have hs24 : s < 24 := by omega
  obtain ⟨q2, q3⟩ : c.1 1 k = 0 ∧ c.1 3 k = mo.1 28 k := by
    rcases p2 with h | h
    · exact absurd h.1 hm
    · exact h.2
  have b1 : ¬ C ≤ k := by omega
  have b2 : ¬ 6 ≤ k := by omega
  refine ⟨oj c 13 k (mo.2 10 s * (mo.1 28 k).toInt64 / 100), a, oj mo 33 k (mo.2 10 s * (mo.1 28 k).toInt64 / 100), A, mo.1 35 k, fun f => ?_, ?_, ?_, J, (upd_id _ _).symm, i15 k, Or.inl rfl, fun _ _ _ _ _ _ _ _ => rfl, fun j h1 h2 h3 => oj_n h2⟩
  · conv => lhs; unfold f_X1_work_b2
    have p1' : c.1 2 k = Int32.ofNat s := by rw [i4]; exact p1
    simp (disch := omega) [i2, ix_lt1, ix_le1, ix_lt2, ix_le2, ix_eq1, ix_eq2, ix_lt, ix_le, ix_eq, ix_inb, ix_nat, ix_suc, ix_dbl, -Int32.ofNat_add, -Int32.ofNat_mul, b1, b2, hk6, q2, q3, p1', s_flow hs24, f0]
  · unfold f_X7_works
    rw [is_ra hk6, if_neg hm]
    simp (disch := omega) [ix_lt1, ix_le1, ix_lt2, ix_le2, ix_eq1, ix_eq2, ix_lt, ix_le, ix_eq, ix_inb, ix_nat, ix_suc, ix_dbl, -Int32.ofNat_add, -Int32.ofNat_mul, hk6, p1, hs24]
  · refine IC_fin (c := c) (mo := mo) (ov := mo.1 35 k) I hk (i15 k) (fun _ _ => rfl) (by rw [← i8, upd_id]; rfl) ?_ ?_ ?_ ?_ ?_ ?_ ?_ (upd_id _ _).symm (fun _ _ _ _ _ _ _ _ => rfl)
    · rw [oj_n (by decide), oj_n (by decide)]; exact i10
    · rw [oj_n (by decide), oj_n (by decide)]; exact i11
    · rw [oj_j, oj_j, if_pos rfl, if_pos rfl, i12]
    · intro j; rw [oj_n (by decide)]; exact i13 j
    · intro j; rw [oj_n (by decide)]; exact i9 j
    · intro j hj; exact (i14 j hj).2.2.2.1.1
    · intro j hj; exact (i16 j hj).2.1
theorem wk_any {o1 c a mo : ObS} {kd : Nat → Int32} {U C k A : Nat} (hU : U ≤ 12) (I : IC c mo kd U C) (hk : k < C) (f0 : o1.2 0 = mo.2 10) (f1 : o1.2 1 = mo.2 11) (hw : ∀ s, s < 24 → 0 ≤ (wm (o1.2 0 s) (o1.2 1 s)).toInt ∧ (wm (o1.2 0 s) (o1.2 1 s)).toInt ≤ 50000) (J : IA a mo A) (hA : mo.1 35 k = 0 → A < 900) : WKS o1 c a mo kd U C k A := by
  by_cases h : mo.1 28 k = -1
  · exact wk_m hU I hk h f0 f1 hw J hA
  · exact wk_r hU I hk h f0 J
/-- how many alarms there can be -/
def PO (ov : Nat → Int32) (t k : Nat) : Int := sm 6 (fun i => ((if i < k then (t : Int) + 1 else t) + (ov i).toInt) / 2)
theorem PO_le {ov : Nat → Int32} {t k : Nat} (ht : t + 1 ≤ 300) (ho : ∀ i, ov i = 0 ∨ ov i = 1) : PO ov t k ≤ 900 := by
  have h : PO ov t k ≤ sm 6 (fun _ => 150) := sm_mono (fun i _ => by
    have : (ov i).toInt ≤ 1 := by rcases ho i with h | h <;> rw [h] <;> decide
    split <;> omega)
  exact h
theorem PO_step {ov : Nat → Int32} {t k : Nat} {v : Int32} (hk : k < 6) (hv : v = 0 ∨ v = 1) (ho : ov k = 0 ∨ ov k = 1) : PO ov t k + (if v = 1 ∧ ov k = 0 then 1 else 0) ≤ PO (upd ov k v) t (k + 1) := by
  have h1 : sm 6 (fun i => ((if i < k then (t : Int) + 1 else t) + (ov i).toInt) / 2 + (if i = k then (if v = 1 ∧ ov k = 0 then 1 else 0) else 0)) ≤ PO (upd ov k v) t (k + 1) := sm_mono (fun i hi => by
    by_cases h : i = k
    · subst h
      rw [if_neg (show ¬ i < i by omega), if_pos (rfl : i = i), if_pos (show i < i + 1 by omega), show upd ov i v i = v from if_pos rfl]
      rcases hv with rfl | rfl <;> rcases ho with h2 | h2 <;> rw [h2]
      · rw [if_neg (by decide)]; show ((t : Int) + 0) / 2 + 0 ≤ (t + 1 + 0) / 2; omega
      · rw [if_neg (by decide)]; show ((t : Int) + 1) / 2 + 0 ≤ (t + 1 + 0) / 2; omega
      · rw [if_pos (by decide)]; show ((t : Int) + 0) / 2 + 1 ≤ (t + 1 + 1) / 2; omega
      · rw [if_neg (by decide)]; show ((t : Int) + 1) / 2 + 0 ≤ (t + 1 + 1) / 2; omega
    · rw [if_neg h, show upd ov k v i = ov i from if_neg h]
      by_cases h2 : i < k
      · rw [if_pos h2, if_pos (by omega)]; omega
      · rw [if_neg h2, if_neg (by omega)]; omega)
  rw [sm_add, sm_pt, if_pos hk] at h1
  exact h1
theorem PO_up {ov : Nat → Int32} {t k : Nat} : PO ov t k ≤ PO ov (t + 1) 0 := sm_mono (fun i _ => by
  rw [if_neg (by omega : ¬ i < 0)]; split <;> omega)
theorem work_lp {o1 : ObS} {kd : Nat → Int32} {U C t : Nat} (hU : U ≤ 12) (ht : t + 1 ≤ 300) : ∀ (d k f g : Nat) (c a mo : ObS) (A : Nat), k + d = C → d < f → d < g → IC c mo kd U C → o1.2 0 = mo.2 10 → o1.2 1 = mo.2 11 → (∀ s, s < 24 → 0 ≤ (wm (o1.2 0 s) (o1.2 1 s)).toInt ∧ (wm (o1.2 0 s) (o1.2 1 s)).toInt ≤ 50000) → IA a mo A → (A : Int) ≤ PO (mo.1 35) t k →
    ∃ (c' a' mo' : ObS) (A' : Nat), f_X1_work_b2 o1 f (Int32.ofNat k) c a = some (c', a') ∧ f_X7_ticks_b16 g (Int32.ofNat k) mo = f_X7_ticks_b37 64 0 mo' ∧ IC c' mo' kd U C ∧ IA a' mo' A' ∧ (A' : Int) ≤ PO (mo'.1 35) (t + 1) 0 ∧ (∀ j, j ≠ 24 → j ≠ 34 → j ≠ 35 → j ≠ 37 → j ≠ 38 → j ≠ 39 → j ≠ 40 → mo'.1 j = mo.1 j) ∧ (∀ j, j ≠ 32 → j ≠ 33 → j ≠ 36 → mo'.2 j = mo.2 j)
  | d, k, 0, g, c, a, mo, A, h, hf, hg, I, f0, f1, hw, J, hA => by omega
  | d, k, f + 1, 0, c, a, mo, A, h, hf, hg, I, f0, f1, hw, J, hA => by omega
  | 0, k, f + 1, g + 1, c, a, mo, A, h, hf, hg, I, f0, f1, hw, J, hA => by
    obtain rfl : k = C := by omega
    have i1 := I.1
    have i2 := I.2.1
    have i3 := I.2.2.1
    refine ⟨c, a, mo, A, ?_, ?_, I, J, Int.le_trans hA PO_up, fun _ _ _ _ _ _ _ _ => rfl, fun _ _ _ _ => rfl⟩
    · unfold f_X1_work_b2
      rw [i2, if_pos ((ix_le (by omega) (by omega)).mpr (Nat.le_refl _))]
    · conv => lhs; unfold f_X7_ticks_b16
      rw [i3, if_pos ((ix_le (by omega) (by omega)).mpr (Nat.le_refl _))]
  | d + 1, k, f + 1, g + 1, c, a, mo, A, h, hf, hg, I, f0, f1, hw, J, hA => by
    have i1 := I.1
    have i3 := I.2.2.1
    have i15 := I.2.2.2.2.2.2.1
    have hk6 : k < 6 := by omega
    have h9 : mo.1 35 k = 0 → A < 900 := fun h0 => by
      have := PO_step (ov := mo.1 35) (t := t) (k := k) (v := 1) hk6 (Or.inr rfl) (i15 k)
      rw [if_pos ⟨rfl, h0⟩] at this
      have h2 := PO_le (ov := upd (mo.1 35) k 1) (t := t) (k := k + 1) ht (fun i => by
        unfold upd; by_cases q : i = k
        · rw [if_pos q]; exact Or.inr rfl
        · rw [if_neg q]; exact i15 i)
      omega
    obtain ⟨c1, a1, m1, A1, ov, r1, r2, r3, r4, r5, r6, r7, r8, r9⟩ := wk_any hU I (show k < C by omega) f0 f1 hw J h9
    have hA1 : (A1 : Int) ≤ PO (m1.1 35) t (k + 1) := by
      have := PO_step (ov := mo.1 35) (t := t) (k := k) (v := ov) hk6 r6 (i15 k)
      rw [r5]
      rcases r7 with q | ⟨q, q2, q3⟩
      · split at this <;> omega
      · rw [if_pos ⟨q2, q3⟩] at this; omega
    obtain ⟨c', a', mo', A', s1, s2, s3, s4, s5, s6, s7⟩ := work_lp hU ht d (k + 1) f g c1 a1 m1 A1 (by omega) (by omega) (by omega) r3 (by rw [r9 10 (by decide) (by decide) (by decide)]; exact f0) (by rw [r9 11 (by decide) (by decide) (by decide)]; exact f1) hw r4 hA1
    refine ⟨c', a', mo', A', by rw [r1 f]; exact s1, ?_, s3, s4, s5, fun j h1 h2 h3 h4 h5 h6 h7 => (s6 j h1 h2 h3 h4 h5 h6 h7).trans (r8 j h1 h2 h3 h4 h5 h6 h7), fun j h1 h2 h3 => (s7 j h1 h2 h3).trans (r9 j h1 h2 h3)⟩
    conv => lhs; unfold f_X7_ticks_b16
    have b1 : ¬ C ≤ k := by omega
    rw [← s2, i3, if_neg (fun z => b1 ((ix_le (by omega) (by omega)).mp z)), r2, Option.bind_some, ix_suc]
