theorem IC_fin {c mo c' mo' : ObS} {kd : Nat → Int32} {U C k : Nat} {ov : Int32} (I : IC c mo kd U C) (hk : k < C) (hv : ov = 0 ∨ ov = 1) (a1 : ∀ j, j ≠ 9 → c'.1 j = c.1 j) (a2 : c'.1 9 = upd (c.1 9) k ov) (a3 : c'.2 11 = mo'.2 32) (a4 : c'.2 12 = mo'.2 36) (a5 : c'.2 13 = mo'.2 33) (a6 : ∀ j, c'.2 14 j = (mo'.1 34 j).toInt64)
    (g1 : ∀ j, c'.2 10 j = (mo'.1 24 j).toInt64) (g2 : ∀ j, j < C → 0 ≤ (mo'.1 24 j).toInt ∧ (mo'.1 24 j).toInt ≤ 3000) (g3 : ∀ j, C ≤ j → mo'.1 24 j = 0) (a7 : mo'.1 35 = upd (mo.1 35) k ov) (a8 : ∀ j, j ≠ 24 → j ≠ 34 → j ≠ 35 → j ≠ 37 → j ≠ 38 → j ≠ 39 → j ≠ 40 → mo'.1 j = mo.1 j) : IC c' mo' kd U C := by
  obtain ⟨i1, i2, i3, ⟨i4, i5, i6, i7, i8⟩, ⟨i9, i10, i11, i12, i13⟩, i14, i15, i16⟩ := I
  have b22 : mo'.1 22 = mo.1 22 := a8 22 (by decide) (by decide) (by decide) (by decide) (by decide) (by decide) (by decide)
  have b23 : mo'.1 23 = mo.1 23 := a8 23 (by decide) (by decide) (by decide) (by decide) (by decide) (by decide) (by decide)
  have b25 : mo'.1 25 = mo.1 25 := a8 25 (by decide) (by decide) (by decide) (by decide) (by decide) (by decide) (by decide)
  have b26 : mo'.1 26 = mo.1 26 := a8 26 (by decide) (by decide) (by decide) (by decide) (by decide) (by decide) (by decide)
  have b27 : mo'.1 27 = mo.1 27 := a8 27 (by decide) (by decide) (by decide) (by decide) (by decide) (by decide) (by decide)
  have b28 : mo'.1 28 = mo.1 28 := a8 28 (by decide) (by decide) (by decide) (by decide) (by decide) (by decide) (by decide)
  have b29 : mo'.1 29 = mo.1 29 := a8 29 (by decide) (by decide) (by decide) (by decide) (by decide) (by decide) (by decide)
  have b30 : mo'.1 30 = mo.1 30 := a8 30 (by decide) (by decide) (by decide) (by decide) (by decide) (by decide) (by decide)
  have b31 : mo'.1 31 = mo.1 31 := a8 31 (by decide) (by decide) (by decide) (by decide) (by decide) (by decide) (by decide)
  have d0 := a1 0 (by decide)
  have d1 := a1 1 (by decide)
  have d2 := a1 2 (by decide)
  have d3 := a1 3 (by decide)
  have d4 := a1 4 (by decide)
  have d5 := a1 5 (by decide)
  have d6 := a1 6 (by decide)
  have d7 := a1 7 (by decide)
  have d8 := a1 8 (by decide)
  refine ⟨i1, by rw [d0]; exact i2, by rw [b22]; exact i3, ⟨by rw [d2, b23]; exact i4, by rw [d4, b26]; exact i5, by rw [d5, b27]; exact i6, by rw [d7, b30]; exact i7, by rw [a2, a7, i8]⟩, ⟨g1, a3, a4, a5, a6⟩, fun j hj => ?_, fun j => ?_, fun j hj => ?_⟩
  · obtain ⟨p1, p2, p3, ⟨p4, p5⟩, p6⟩ := i14 j hj
    unfold CK
    rw [b23, b25, b27, b28, b29, b30, b31, d1, d3, d6, d8]
    exact ⟨p1, p2, p3, ⟨g2 j hj, p5⟩, p6⟩
  · rw [a7]; unfold upd
    by_cases h : j = k
    · rw [if_pos h]; exact hv
    · rw [if_neg h]; exact i15 j
  · obtain ⟨p1, p2, p3, p4, p5⟩ := i16 j hj
    rw [d1, d4, d7, a7]
    exact ⟨p1, g3 j hj, p3, p4, by unfold upd; rw [if_neg (by omega)]; exact p5⟩
theorem b143_ok {s97 : ObS} {k : Nat} {fd : Int64} (hk : k < 6) : f_X7_works_b143 (Int32.ofNat k) s97 fd =
    (if ((s97.1 27 k) - 100) < (0 : Int32) then (f_X7_warns (oj (oj s97 36 k fd) 33 k ((s97.1 26 k).toInt64 + s97.2 32 k / 1000 + fd)) (Int32.ofNat k)) else
    if (s97.1 22 0) ≤ ((s97.1 27 k) - 100) then (f_X7_warns (oj (oj s97 36 k fd) 33 k ((s97.1 26 k).toInt64 + s97.2 32 k / 1000 + fd)) (Int32.ofNat k)) else
    (f_X7_isRatio (oj (oj s97 36 k fd) 33 k ((s97.1 26 k).toInt64 + s97.2 32 k / 1000 + fd)) ((s97.1 27 k) - 100)).bind fun r =>
      if r = (0 : Int32) then if inb ((s97.1 27 k) - 100) 6 then f_X7_warns (oi (oj (oj s97 36 k fd) 33 k ((s97.1 26 k).toInt64 + s97.2 32 k / 1000 + fd)) 24 ((s97.1 27 k) - 100).toNatClampNeg ((hd ((s97.1 26 k).toInt64 + s97.2 32 k / 1000 + fd) 0 3000).toInt32)) (Int32.ofNat k) else none
      else (f_X7_warns (oj (oj s97 36 k fd) 33 k ((s97.1 26 k).toInt64 + s97.2 32 k / 1000 + fd)) (Int32.ofNat k))) := by
  have bs : ∀ x : Option ObS, (x.bind fun r => some r) = x := fun x => by cases x <;> rfl
  unfold f_X7_works_b143
  simp (disch := omega) only [ix_lt1, ix_le1, ix_lt2, ix_le2, ix_eq1, ix_eq2, ix_lt, ix_le, ix_eq, ix_inb, ix_nat, ix_suc, ix_dbl, -Int32.ofNat_add, -Int32.ofNat_mul, hk, decide_true, if_true, Option.bind_some, bs, oj_i, oj_j, held7]
  simp [vp_updL]
