theorem IC_add {c mo c' mo' : ObS} {kd : Nat → Int32} {U C : Nat} (I : IC c mo kd U C) (hC : C < 6) (c0 : c'.1 0 0 = Int32.ofNat (C + 1)) (m0 : mo'.1 22 0 = Int32.ofNat (C + 1))
    (r1 : ∀ k j, 1 ≤ k → j ≠ C → c'.1 k j = c.1 k j) (r2 : ∀ j, j ≠ C → c'.2 10 j = c.2 10 j) (r3 : ∀ k j, 23 ≤ k → j ≠ C → mo'.1 k j = mo.1 k j) (r4 : ∀ k, k ≠ 10 → c'.2 k = c.2 k) (r5 : mo'.2 = mo.2) (r6 : mo'.1 34 = mo.1 34) (r7 : mo'.1 35 = mo.1 35) (r8 : c'.1 9 = c.1 9)
    (s1 : c'.1 2 C = mo'.1 23 C) (s2 : c'.1 4 C = mo'.1 26 C) (s3 : c'.1 5 C = mo'.1 27 C) (s4 : c'.1 7 C = mo'.1 30 C) (s5 : c'.2 10 C = (mo'.1 24 C).toInt64) (s6 : CK c' mo' kd U C) : IC c' mo' kd U (C + 1) := by
  obtain ⟨i1, i2, i3, ⟨i4, i5, i6, i7, i8⟩, ⟨i9, i10, i11, i12, i13⟩, i14, i15, i16⟩ := I
  have fe : ∀ (a b : Nat), 1 ≤ a → 23 ≤ b → c.1 a = mo.1 b → c'.1 a C = mo'.1 b C → c'.1 a = mo'.1 b := by
    intro a b ha hb h1 h2; funext j
    by_cases h : j = C
    · subst h; exact h2
    · rw [r1 a j ha h, r3 b j hb h, h1]
  refine ⟨by omega, c0, m0, ⟨fe 2 23 (by decide) (by decide) i4 s1, fe 4 26 (by decide) (by decide) i5 s2, fe 5 27 (by decide) (by decide) i6 s3, fe 7 30 (by decide) (by decide) i7 s4, by rw [r8, r7]; exact i8⟩, ⟨fun j => ?_, by rw [r4 11 (by decide), r5]; exact i10, by rw [r4 12 (by decide), r5]; exact i11, by rw [r4 13 (by decide), r5]; exact i12, fun j => by rw [r4 14 (by decide), r6]; exact i13 j⟩, fun j hj => ?_, fun j => by rw [r7]; exact i15 j, fun j hj => ?_⟩
  · by_cases h : j = C
    · subst h; exact s5
    · rw [r2 j h, r3 24 j (by decide) h]; exact i9 j
  · by_cases h : j = C
    · subst h; exact s6
    · have := i14 j (by omega)
      unfold CK at this ⊢
      rw [r1 1 j (by decide) h, r1 3 j (by decide) h, r1 6 j (by decide) h, r1 8 j (by decide) h, r3 23 j (by decide) h, r3 24 j (by decide) h, r3 25 j (by decide) h, r3 27 j (by decide) h, r3 28 j (by decide) h, r3 29 j (by decide) h, r3 30 j (by decide) h, r3 31 j (by decide) h]
      exact this
  · rw [r1 1 j (by decide) (by omega), r3 24 j (by decide) (by omega), r1 4 j (by decide) (by omega), r1 7 j (by decide) (by omega), r7]
    exact i16 j (by omega)
theorem oi_o {o : ObS} {k j : Nat} {v : Int32} {k' j' : Nat} (h : j' ≠ j) : (oi o k j v).1 k' j' = o.1 k' j' := by
  rw [oi_i]; by_cases q : k' = k
  · subst q; rw [if_pos rfl]; exact if_neg h
  · rw [if_neg q]
theorem upd_n {f : Nat → Int32} {i j : Nat} {v : Int32} (h : j ≠ i) : upd f i v j = f j := if_neg h
theorem upd_s {f : Nat → Int32} {i : Nat} {v : Int32} : upd f i v i = v := if_pos rfl
theorem vpL_n {f : Nat → Int64} {i j : Nat} {v : Int64} (h : j ≠ i) : vp_updL f i v j = f j := if_neg h
theorem vpL_s {f : Nat → Int64} {i : Nat} {v : Int64} : vp_updL f i v i = v := if_pos rfl
theorem adds_ok {mo : ObS} {C : Nat} (x g f b r d : Int32) (h : mo.1 22 0 = Int32.ofNat C) (hC : C < 6) : f_X7_adds mo x g f b r d = some (Int32.ofNat C, oi (oi (oi (oi (oi (oi (oi (oi (oi mo 23 C x) 24 C g) 25 C f) 26 C b) 28 C r) 27 C d) 30 C 0) 31 C 500) 22 0 (Int32.ofNat (C + 1))) := by
  unfold f_X7_adds
  simp (disch := omega) [h, ix_lt1, ix_le1, ix_lt2, ix_le2, ix_eq1, ix_eq2, ix_lt, ix_le, ix_eq, ix_inb, ix_nat, ix_suc, ix_dbl, -Int32.ofNat_add, -Int32.ofNat_mul, hC, oi_i]
theorem add_ok {c : ObS} {C : Nat} (x f d : Int32) (h : c.1 0 0 = Int32.ofNat C) (hC : C < 6) : f_X1_add c x f d = some (Int32.ofNat C, oi (oi (oi (oi (oi c 0 0 (Int32.ofNat (C + 1))) 2 C x) 3 C f) 5 C d) 6 C (-1)) := by
  unfold f_X1_add
  simp (disch := omega) [h, ix_lt1, ix_le1, ix_lt2, ix_le2, ix_eq1, ix_eq2, ix_lt, ix_le, ix_eq, ix_inb, ix_nat, ix_suc, ix_dbl, -Int32.ofNat_add, -Int32.ofNat_mul, hC]
/-- what drives what -/
def DR (kd : Nat → Int32) (U C : Nat) (d : Int32) : Prop := (∃ u, u < U ∧ d = Int32.ofNat u ∧ kd u ≠ 2) ∨ ∃ e, e < 6 ∧ d = Int32.ofNat (100 + e)
theorem IC_ctl {c mo : ObS} {kd : Nat → Int32} {U C s : Nat} {g f b d k0 : Int32} (I : IC c mo kd U C) (hC : C < 6) (hs : s < 2 * U) (hg : 0 ≤ g.toInt ∧ g.toInt ≤ 3000) (hd : DR kd U C d) :
    IC (oi (oi (oj (oi (oi (oi (oi (oi (oi c 0 0 (Int32.ofNat (C + 1))) 2 C (Int32.ofNat s)) 3 C f) 5 C d) 6 C (-1)) 1 C 1) 10 C g.toInt64) 4 C b) 8 C 500) (oi (oi (oi (oi (oi (oi (oi (oi (oi (oi mo 0 0 k0) 23 C (Int32.ofNat s)) 24 C g) 25 C f) 26 C b) 28 C (-1)) 27 C d) 30 C 0) 31 C 500) 22 0 (Int32.ofNat (C + 1))) kd U (C + 1) := by
  have i16 := I.2.2.2.2.2.2.2 C (Nat.le_refl _)
  refine IC_add I hC ?_ ?_ (fun k j hk hj => ?_) (fun j hj => ?_) (fun k j hk hj => ?_) (fun k hk => ?_) rfl ?_ ?_ ?_ ?_ ?_ ?_ ?_ ?_ ⟨⟨s, hs, ?_⟩, Or.inl ⟨?_, ?_, ?_, ?_⟩, Or.inl ?_, ⟨?_, fun _ => ?_⟩, ?_⟩
  · simp [oi_i, oj_i, upd]
  · simp [oi_i, upd]
  · rw [oi_o hj, oi_o hj, oj_i, oi_o hj, oi_o hj, oi_o hj, oi_o hj, oi_o hj, oi_n (by omega)]
  · simp [oi_i, oj_j, oi_j, vp_updL, hj]
  · rw [oi_n (by omega), oi_o hj, oi_o hj, oi_o hj, oi_o hj, oi_o hj, oi_o hj, oi_o hj, oi_o hj, oi_n (by omega)]
  · simp [oi_j, oj_j, hk]
  · simp [oi_i]
  · simp [oi_i]
  · simp [oi_i, oj_i]
  · simp [oi_i, oj_i, upd]
  · simp [oi_i, oj_i, upd]
  · simp [oi_i, oj_i, upd]
  · simp [oi_i, oj_i, upd]; exact i16.2.2.2.1
  · simp [oi_i, oj_j, oi_j, upd, vp_updL]
  · simp [oi_i, upd]
  · simp [oi_i, upd]
  · simp [oi_i, oj_i, upd]
  · simp [oi_i, oj_i, upd]
  · simp [oi_i, oj_i, upd]
  · simp [oi_i, upd]
  · simp [oi_i, upd]; exact hg
  · simp [oi_i, upd]
  · have e : (oi (oi (oi (oi (oi (oi (oi (oi (oi (oi mo 0 0 k0) 23 C (Int32.ofNat s)) 24 C g) 25 C f) 26 C b) 28 C (-1)) 27 C d) 30 C 0) 31 C 500) 22 0 (Int32.ofNat (C + 1))).1 27 C = d := by simp [oi_i, upd]
    rw [e]; exact hd
theorem IC_rat {c mo : ObS} {kd : Nat → Int32} {U C s : Nat} {r d k0 : Int32} (I : IC c mo kd U C) (hC : C < 6) (hs : s < 2 * U) (hr : r ≠ -1) (hd : DR kd U C d) :
    IC (oi (oi (oi (oi (oi c 0 0 (Int32.ofNat (C + 1))) 2 C (Int32.ofNat s)) 3 C r) 5 C d) 6 C (-1)) (oi (oi (oi (oi (oi (oi (oi (oi (oi (oi mo 0 0 k0) 23 C (Int32.ofNat s)) 24 C 0) 25 C 0) 26 C 0) 28 C r) 27 C d) 30 C 0) 31 C 500) 22 0 (Int32.ofNat (C + 1))) kd U (C + 1) := by
  have i16 := I.2.2.2.2.2.2.2 C (Nat.le_refl _)
  have i9 := I.2.2.2.2.1.1 C
  refine IC_add I hC ?_ ?_ (fun k j hk hj => ?_) (fun j hj => ?_) (fun k j hk hj => ?_) (fun k hk => ?_) rfl ?_ ?_ ?_ ?_ ?_ ?_ ?_ ?_ ⟨⟨s, hs, ?_⟩, Or.inr ⟨?_, ?_, ?_⟩, Or.inl ?_, ⟨?_, fun h => ?_⟩, ?_⟩
  · simp [oi_i, upd]
  · simp [oi_i, upd]
  · rw [oi_o hj, oi_o hj, oi_o hj, oi_o hj, oi_n (by omega)]
  · rfl
  · rw [oi_n (by omega), oi_o hj, oi_o hj, oi_o hj, oi_o hj, oi_o hj, oi_o hj, oi_o hj, oi_o hj, oi_n (by omega)]
  · rfl
  · simp [oi_i]
  · simp [oi_i]
  · simp [oi_i]
  · simp [oi_i, upd]
  · simp [oi_i, upd]; exact i16.2.2.1
  · simp [oi_i, upd]
  · simp [oi_i, upd]; exact i16.2.2.2.1
  · simp [oi_i, oi_j, upd]; rw [i9, i16.2.1]; rfl
  · simp [oi_i, upd]
  · simp [oi_i, upd]; exact hr
  · simp [oi_i]; exact i16.1
  · simp [oi_i, upd]
  · simp [oi_i, upd]
  · simp [oi_i, upd]
  · simp [oi_i, upd] at h; exact absurd h hr
  · have e : (oi (oi (oi (oi (oi (oi (oi (oi (oi (oi mo 0 0 k0) 23 C (Int32.ofNat s)) 24 C 0) 25 C 0) 26 C 0) 28 C r) 27 C d) 30 C 0) 31 C 500) 22 0 (Int32.ofNat (C + 1))).1 27 C = d := by simp [oi_i, upd]
    rw [e]; exact hd
