/-! a whole tick -/
def INV (h : Nat → ObS) (mo : ObS) (U C t : Nat) : Prop :=
  (GS (h 3) U ∧ UR (h 3) mo ∧ (h 3).1 3 = mo.1 4 ∧ (h 3).1 8 = mo.1 9 ∧ (∀ u, u < U → nOK ((h 3).1 1 u) ((h 3).1 3 u)) ∧ (∀ u, u < 12 → mo.1 9 u = 0 ∨ mo.1 9 u = 1) ∧ ∀ v, ((h 3).2 7 v).toInt32 = mo.1 8 v) ∧
  ((h 1).2 0 = mo.2 10 ∧ (h 1).2 1 = mo.2 11 ∧ (∃ j, j ≤ 12 * t ∧ SI (h 3) U U j ((h 1).2 0) ((h 1).2 1)) ∧ t ≤ 300 ∧ (t = 0 → (∀ s, (h 1).2 0 s = 0 ∧ (h 1).2 1 s = 0) ∧ (∀ u, (h 3).2 7 u = 0) ∧ (h 0).2 8 0 = 0)) ∧
  ((h 0).1 7 0 = Int32.ofNat t ∧ mo.1 1 0 = Int32.ofNat t) ∧
  (∃ base, (h 0).2 8 0 = Int64.ofInt base ∧ HB (h 3) U base ((h 1).2 1) ((h 3).2 7)) ∧
  (∃ N, IP (h 6) mo ((h 3).1 1) U N) ∧
  (∃ A : Nat, IA (h 5) mo A ∧ (A : Int) ≤ PO (mo.1 35) t 0) ∧
  IC (h 4) mo ((h 3).1 1) U C ∧
  IR (h 7) mo U t
theorem IC_co {c mo mo' : ObS} {kd : Nat → Int32} {U C : Nat} (I : IC c mo kd U C) (a2 : ∀ j, 22 ≤ j → j ≤ 35 → mo'.1 j = mo.1 j) (a5 : ∀ j, 32 ≤ j → mo'.2 j = mo.2 j) : IC c mo' kd U C := by
  obtain ⟨i1, i2, i3, ⟨i4, i5, i6, i7, i8⟩, ⟨i9, i10, i11, i12, i13⟩, i14, i15, i16⟩ := I
  have b22 := a2 22 (by decide) (by decide)
  have b23 := a2 23 (by decide) (by decide)
  have b24 := a2 24 (by decide) (by decide)
  have b25 := a2 25 (by decide) (by decide)
  have b26 := a2 26 (by decide) (by decide)
  have b27 := a2 27 (by decide) (by decide)
  have b28 := a2 28 (by decide) (by decide)
  have b29 := a2 29 (by decide) (by decide)
  have b30 := a2 30 (by decide) (by decide)
  have b31 := a2 31 (by decide) (by decide)
  have b34 := a2 34 (by decide) (by decide)
  have b35 := a2 35 (by decide) (by decide)
  refine ⟨i1, i2, by rw [b22]; exact i3, ⟨by rw [b23]; exact i4, by rw [b26]; exact i5, by rw [b27]; exact i6, by rw [b30]; exact i7, by rw [b35]; exact i8⟩, ⟨fun j => by rw [b24]; exact i9 j, by rw [a5 32 (by decide)]; exact i10, by rw [a5 36 (by decide)]; exact i11, by rw [a5 33 (by decide)]; exact i12, fun j => by rw [b34]; exact i13 j⟩, fun j hj => ?_, fun j => by rw [b35]; exact i15 j, fun j hj => by rw [b24, b35]; exact i16 j hj⟩
  have := i14 j hj
  unfold CK at this ⊢
  rw [b23, b24, b25, b27, b28, b29, b30, b31]
  exact this
theorem IP_co {p mo mo' : ObS} {kd : Nat → Int32} {U N : Nat} (I : IP p mo kd U N) (a : ∀ j, 18 ≤ j → j ≤ 21 → mo'.1 j = mo.1 j) : IP p mo' kd U N := by
  unfold IP IP1 at *
  rw [a 18 (by decide) (by decide), a 19 (by decide) (by decide), a 20 (by decide) (by decide), a 21 (by decide) (by decide)]
  exact I
theorem IA_co {p mo mo' : ObS} {A : Nat} (I : IA p mo A) (a : ∀ j, 37 ≤ j → mo'.1 j = mo.1 j) : IA p mo' A := by
  unfold IA at *
  rw [a 37 (by decide), a 38 (by decide), a 40 (by decide)]
  exact I
theorem IR_co {p mo mo' : ObS} {U t : Nat} (I : IR p mo U t) (a : mo'.1 17 = mo.1 17) : IR p mo' U t := by
  unfold IR at *
  rw [a]; exact I
theorem UR.co {o mo mo' : ObS} (h : UR o mo) (a : ∀ j, j = 2 ∨ j = 3 ∨ j = 5 ∨ j = 6 ∨ j = 7 → mo'.1 j = mo.1 j) : UR o mo' := by
  unfold UR at *
  rw [a 2 (by omega), a 3 (by omega), a 5 (by omega), a 6 (by omega), a 7 (by omega)]
  exact h
theorem AA_Ug {o : ObS} {U : Nat} {F : Nat → Int64} (G : GS o U) (hz : ∀ s, s < 24 → U ≤ s / 2 → (F s).toInt = 0) : AA (TK o) U (fun s => (F s).toInt) = sm 24 (gUn o F) + sm 24 (gHe o F) := by
  rw [← sm_add]
  refine sm_ext (fun s hs => ?_)
  have hz := hz s hs
  unfold gUn gHe
  rcases TK_ge G hs with h | ⟨h1, h2⟩
  · rw [if_pos h, if_pos h]
    by_cases q : s / 2 < U
    · rw [if_pos (Or.inl ⟨q, by omega⟩)]; exact (Int.add_zero _).symm
    · have := hz (by omega)
      show (if _ then (F s).toInt else 0) = _
      rw [this]; split <;> rfl
  · rw [if_neg (show ¬ TK o s = -1 by omega), if_neg (show ¬ TK o s = -1 by omega)]
    by_cases q : s / 2 < U
    · by_cases q2 : ((s / 2 : Nat) : Int) < TK o s
      · rw [if_pos q2, if_neg (fun z => by rcases z with z | z <;> omega)]; rfl
      · rw [if_neg q2, if_pos (Or.inl ⟨q, by omega⟩)]; exact (Int.zero_add _).symm
    · have := hz (by omega)
      show (if _ then (F s).toInt else 0) = _
      rw [this]; split <;> split <;> rfl
theorem SI_0 {o : ObS} {U j : Nat} {F H : Nat → Int64} (G : GS o U) (S : SI o U U j F H) : SI o U 0 j F H := by
  refine ⟨S.1, ?_, S.2.2.1, S.2.2.2⟩
  have h1 := AA_Ug (F := F) G (fun s hs h => by
    have e : s = 2 * (s / 2) ∨ s = 2 * (s / 2) + 1 := by omega
    rcases e with e | e
    · have := (S.2.2.2 (s / 2) h (by omega)).1; rw [e, this]; rfl
    · have := (S.2.2.1 (s / 2) (by omega) (Or.inl h)).1; rw [e, this]; rfl)
  have h2 := AA_0 (H := F) G
  have h3 : 0 ≤ sm 24 (gUn o F) := sm_nn (fun s hs => by
    unfold gUn; split
    · exact (S.1 s hs).1.1
    · omega)
  have := S.2.1
  omega
theorem SI_up {o : ObS} {U k j j' : Nat} {F H : Nat → Int64} (h : j ≤ j') (S : SI o U k j F H) : SI o U k j' F H := by
  refine ⟨fun s hs => ?_, by have := S.2.1; omega, S.2.2⟩
  obtain ⟨⟨a, b, c⟩, d⟩ := S.1 s hs
  have e : ((300 : Int) + j) * (F s).toInt ≤ (300 + j') * (F s).toInt := Int.mul_le_mul_of_nonneg_right (by omega) a
  exact ⟨⟨a, b, by omega⟩, by omega⟩
theorem SI_wm {o : ObS} {U k j : Nat} {F H : Nat → Int64} (hj : j ≤ 4000) (S : SI o U k j F H) : ∀ s, s < 24 → 0 ≤ (wm (F s) (H s)).toInt ∧ (wm (F s) (H s)).toInt ≤ 50000 := fun s hs =>
  w_le (K := 300 + j) (B := 999 * j) (by omega) (by omega) (by omega) (S.1 s hs).1 (S.1 s hs).2
