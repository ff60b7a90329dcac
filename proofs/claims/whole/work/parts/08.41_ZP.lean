/-! the law's cases and its loop -/
theorem fin_AG {L : Option (Int32 × (Nat → ObS) × ObS)} {M : Option (Int32 × ObS)} {kk : (Nat → ObS) → ObS → ObS → Option Int32} (A : AG L M) (ih : ∀ h mo w U C t, INV h mo U C t → kk h mo w = some 1) :
    (L.bind fun r1 => M.bind fun r2 => if (f_X7_thrown r2.2) = r1.1 then if r1.1 = (0 : Int32) then if (lg_cmp (r1.2.2.2 0 ((0 : Int32).toNatClampNeg)) r2.1.toInt64) = (0 : Int32) then kk r1.2.1 r2.2 r1.2.2 else some (0 : Int32) else kk r1.2.1 r2.2 r1.2.2 else some (0 : Int32)) = some 1 := by
  obtain ⟨k, h', w', r, mo', U, C, t, e1, e2, e3, e4, I⟩ := A
  rw [e1, e2, Option.bind_some, Option.bind_some]
  dsimp only
  rw [show f_X7_thrown mo' = k from e3, if_pos rfl]
  by_cases hk : k = 0
  · have hz : lg_cmp (w'.2 0 ((0 : Int32).toNatClampNeg)) r.toInt64 = 0 := (lg_cmp_eq _ _).mpr (e4 hk)
    rw [if_pos hk, if_pos hz]; exact ih _ _ _ _ _ _ I
  · rw [if_neg hk]; exact ih _ _ _ _ _ _ I
theorem fin_AR {h : Nat → ObS} {L M : Option (Int32 × ObS)} {kk : (Nat → ObS) → ObS → ObS → Option Int32} (A : AR h L M) (ih : ∀ h mo w U C t, INV h mo U C t → kk h mo w = some 1) :
    (L.bind fun r1 => M.bind fun r2 => if (f_X7_thrown r2.2) = r1.1 then if r1.1 = (0 : Int32) then if (lg_cmp (r1.2.2 0 ((0 : Int32).toNatClampNeg)) r2.1.toInt64) = (0 : Int32) then kk h r2.2 r1.2 else some (0 : Int32) else kk h r2.2 r1.2 else some (0 : Int32)) = some 1 := by
  obtain ⟨k, w', r, mo', U, C, t, e1, e2, e3, e4, I⟩ := A
  rw [e1, e2, Option.bind_some, Option.bind_some]
  dsimp only
  rw [show f_X7_thrown mo' = k from e3, if_pos rfl]
  by_cases hk : k = 0
  · have hz : lg_cmp (w'.2 0 ((0 : Int32).toNatClampNeg)) r.toInt64 = 0 := (lg_cmp_eq _ _).mpr (e4 hk)
    rw [if_pos hk, if_pos hz]; exact ih _ _ _ _ _ _ I
  · rw [if_neg hk]; exact ih _ _ _ _ _ _ I
section LC
variable {xs : Nat → Int32} {L : Nat} {x4 : Int32} {h : Nat → ObS} {mo w : ObS} {U C t : Nat} {kk : (Nat → ObS) → ObS → ObS → Option Int32}
theorem cs_0 (I : INV h mo U C t) (i1 : inb (x4 + 1) L = true) (i2 : inb (x4 + 2) L = true) (i3 : inb (x4 + 3) L = true) (i4 : inb (x4 + 4) L = true) (i5 : inb (x4 + 5) L = true) (ih : ∀ h mo w U C t, INV h mo U C t → kk h mo w = some 1) : f_law_c0 xs L x4 h mo w kk = some 1 := by
  unfold f_law_c0
  simp only [i1, i2, i3, i4, i5, if_true]
  exact fin_AG (ag_source I _ _ w) ih
theorem cs_1 (I : INV h mo U C t) (i1 : inb (x4 + 1) L = true) (i2 : inb (x4 + 2) L = true) (i3 : inb (x4 + 3) L = true) (i4 : inb (x4 + 4) L = true) (i5 : inb (x4 + 5) L = true) (ih : ∀ h mo w U C t, INV h mo U C t → kk h mo w = some 1) : f_law_c1 xs L x4 h mo w kk = some 1 := by
  unfold f_law_c1
  simp only [i1, i2, i3, i4, i5, if_true]
  exact fin_AG (ag_unit I _ _ _ _ w) ih
theorem cs_2 (I : INV h mo U C t) (i1 : inb (x4 + 1) L = true) (i2 : inb (x4 + 2) L = true) (i3 : inb (x4 + 3) L = true) (i4 : inb (x4 + 4) L = true) (i5 : inb (x4 + 5) L = true) (ih : ∀ h mo w U C t, INV h mo U C t → kk h mo w = some 1) : f_law_c2 xs L x4 h mo w kk = some 1 := by
  unfold f_law_c2
  simp only [i1, i2, i3, i4, i5, if_true]
  exact fin_AG (ag_back I _ _ w) ih
theorem cs_3 (I : INV h mo U C t) (i1 : inb (x4 + 1) L = true) (i2 : inb (x4 + 2) L = true) (i3 : inb (x4 + 3) L = true) (i4 : inb (x4 + 4) L = true) (i5 : inb (x4 + 5) L = true) (ih : ∀ h mo w U C t, INV h mo U C t → kk h mo w = some 1) : f_law_c3 xs L x4 h mo w kk = some 1 := by
  unfold f_law_c3
  simp only [i1, i2, i3, i4, i5, if_true]
  exact fin_AG (ag_set I _ _ w) ih
theorem cs_4 (I : INV h mo U C t) (i1 : inb (x4 + 1) L = true) (i2 : inb (x4 + 2) L = true) (i3 : inb (x4 + 3) L = true) (i4 : inb (x4 + 4) L = true) (i5 : inb (x4 + 5) L = true) (ih : ∀ h mo w U C t, INV h mo U C t → kk h mo w = some 1) : f_law_c4 xs L x4 h mo w kk = some 1 := by
  unfold f_law_c4
  simp only [i1, i2, i3, i4, i5, if_true]
  exact fin_AG (ag_disturb I _ _ _ w) ih
theorem cs_5 (I : INV h mo U C t) (i1 : inb (x4 + 1) L = true) (i2 : inb (x4 + 2) L = true) (i3 : inb (x4 + 3) L = true) (i4 : inb (x4 + 4) L = true) (i5 : inb (x4 + 5) L = true) (ih : ∀ h mo w U C t, INV h mo U C t → kk h mo w = some 1) : f_law_c5 xs L x4 h mo w kk = some 1 := by
  unfold f_law_c5
  simp only [i1, i2, i3, i4, i5, if_true]
  exact fin_AG (ag_control I _ _ _ _ _ w) ih
theorem cs_6 (I : INV h mo U C t) (i1 : inb (x4 + 1) L = true) (i2 : inb (x4 + 2) L = true) (i3 : inb (x4 + 3) L = true) (i4 : inb (x4 + 4) L = true) (i5 : inb (x4 + 5) L = true) (ih : ∀ h mo w U C t, INV h mo U C t → kk h mo w = some 1) : f_law_c6 xs L x4 h mo w kk = some 1 := by
  unfold f_law_c6
  simp only [i1, i2, i3, i4, i5, if_true]
  exact fin_AG (ag_ratio I _ _ _ w) ih
theorem cs_7 (I : INV h mo U C t) (i1 : inb (x4 + 1) L = true) (i2 : inb (x4 + 2) L = true) (i3 : inb (x4 + 3) L = true) (i4 : inb (x4 + 4) L = true) (i5 : inb (x4 + 5) L = true) (ih : ∀ h mo w U C t, INV h mo U C t → kk h mo w = some 1) : f_law_c7 xs L x4 h mo w kk = some 1 := by
  unfold f_law_c7
  simp only [i1, i2, i3, if_true]
  obtain ⟨k, h', mo', U', C', t', e1, e2, e3, I'⟩ := ag_feed I (xs (x4 + 1).toNatClampNeg) (xs (x4 + 2).toNatClampNeg) (xs (x4 + 3).toNatClampNeg)
  rw [e1, e2, Option.bind_some, Option.bind_some]
  dsimp only
  rw [show f_X7_thrown mo' = k from e3, if_pos rfl]
  exact ih _ _ _ _ _ _ I'
theorem cs_8 (I : INV h mo U C t) (i1 : inb (x4 + 1) L = true) (i2 : inb (x4 + 2) L = true) (i3 : inb (x4 + 3) L = true) (i4 : inb (x4 + 4) L = true) (i5 : inb (x4 + 5) L = true) (ih : ∀ h mo w U C t, INV h mo U C t → kk h mo w = some 1) : f_law_c8 xs L x4 h mo w kk = some 1 := by
  unfold f_law_c8
  simp only [i1, i2, i3, i4, i5, if_true]
  exact fin_AG (ag_aim I _ _ _ w) ih
theorem cs_9 (I : INV h mo U C t) (i1 : inb (x4 + 1) L = true) (i2 : inb (x4 + 2) L = true) (i3 : inb (x4 + 3) L = true) (i4 : inb (x4 + 4) L = true) (i5 : inb (x4 + 5) L = true) (ih : ∀ h mo w U C t, INV h mo U C t → kk h mo w = some 1) : f_law_c9 xs L x4 h mo w kk = some 1 := by
  unfold f_law_c9
  simp only [i1, if_true]
  obtain ⟨⟨k, h', w', r, mo', U', C', t', e1, e2, e3, e4, I'⟩, e5⟩ := ag_select I (xs (x4 + 1).toNatClampNeg) w
  have hr := e5 _ _ e2
  rw [e1, e2, Option.bind_some, Option.bind_some]
  dsimp only
  rw [show f_X7_thrown mo' = k from e3, if_pos rfl]
  by_cases hk : k = 0
  · rw [if_pos hk]
    rcases hr with rfl | rfl
    · have hz : lg_cmp (w'.2 0 ((0 : Int32).toNatClampNeg)) 0 = 0 := (lg_cmp_eq _ _).mpr ((e4 hk).trans rfl)
      rw [if_pos (rfl : (0 : Int32) = 0), if_pos hz]; exact ih _ _ _ _ _ _ I'
    · have hz : lg_cmp (w'.2 0 ((0 : Int32).toNatClampNeg)) 1 = 0 := (lg_cmp_eq _ _).mpr ((e4 hk).trans rfl)
      rw [if_neg n10, if_pos hz]; exact ih _ _ _ _ _ _ I'
  · rw [if_neg hk]; exact ih _ _ _ _ _ _ I'
theorem cs_10 (I : INV h mo U C t) (i1 : inb (x4 + 1) L = true) (i2 : inb (x4 + 2) L = true) (i3 : inb (x4 + 3) L = true) (i4 : inb (x4 + 4) L = true) (i5 : inb (x4 + 5) L = true) (ih : ∀ h mo w U C t, INV h mo U C t → kk h mo w = some 1) : f_law_c10 xs L x4 h mo w kk = some 1 := by
  unfold f_law_c10
  simp only [i1, i2, i3, i4, i5, if_true]
  exact fin_AG (ag_tick I _ w) ih
theorem cs_11 (I : INV h mo U C t) (i1 : inb (x4 + 1) L = true) (i2 : inb (x4 + 2) L = true) (i3 : inb (x4 + 3) L = true) (i4 : inb (x4 + 4) L = true) (i5 : inb (x4 + 5) L = true) (ih : ∀ h mo w U C t, INV h mo U C t → kk h mo w = some 1) : f_law_c11 xs L x4 h mo w kk = some 1 := by
  unfold f_law_c11
  obtain ⟨r, h', mo', e1, e2, I'⟩ := ag_quit I
  rw [e1, e2, Option.bind_some, Option.bind_some]
  dsimp only
  rw [if_pos rfl]; exact ih _ _ _ _ _ _ I'
theorem cs_12 (I : INV h mo U C t) (i1 : inb (x4 + 1) L = true) (i2 : inb (x4 + 2) L = true) (i3 : inb (x4 + 3) L = true) (i4 : inb (x4 + 4) L = true) (i5 : inb (x4 + 5) L = true) (ih : ∀ h mo w U C t, INV h mo U C t → kk h mo w = some 1) : f_law_c12 xs L x4 h mo w kk = some 1 := by
  unfold f_law_c12
  simp only [i1, i2, if_true]
  exact fin_AR (ag_of I _ _ w) ih
theorem cs_13 (I : INV h mo U C t) (i1 : inb (x4 + 1) L = true) (i2 : inb (x4 + 2) L = true) (i3 : inb (x4 + 3) L = true) (i4 : inb (x4 + 4) L = true) (i5 : inb (x4 + 5) L = true) (ih : ∀ h mo w U C t, INV h mo U C t → kk h mo w = some 1) : f_law_c13 xs L x4 h mo w kk = some 1 := by
  unfold f_law_c13
  simp only [i1, i2, if_true]
  exact fin_AR (ag_ofUnit I _ _ w) ih
theorem cs_14 (I : INV h mo U C t) (i1 : inb (x4 + 1) L = true) (i2 : inb (x4 + 2) L = true) (i3 : inb (x4 + 3) L = true) (i4 : inb (x4 + 4) L = true) (i5 : inb (x4 + 5) L = true) (ih : ∀ h mo w U C t, INV h mo U C t → kk h mo w = some 1) : f_law_c14 xs L x4 h mo w kk = some 1 := by
  unfold f_law_c14
  simp only [i1, i2, if_true]
  exact fin_AR (ag_ofC I _ _ w) ih
theorem cs_15 (I : INV h mo U C t) (i1 : inb (x4 + 1) L = true) (i2 : inb (x4 + 2) L = true) (i3 : inb (x4 + 3) L = true) (i4 : inb (x4 + 4) L = true) (i5 : inb (x4 + 5) L = true) (ih : ∀ h mo w U C t, INV h mo U C t → kk h mo w = some 1) : f_law_c15 xs L x4 h mo w kk = some 1 := by
  unfold f_law_c15
  simp only [i1, i2, if_true]
  exact fin_AR (ag_trend I _ _ w) ih
theorem cs_16 (I : INV h mo U C t) (i1 : inb (x4 + 1) L = true) (i2 : inb (x4 + 2) L = true) (i3 : inb (x4 + 3) L = true) (i4 : inb (x4 + 4) L = true) (i5 : inb (x4 + 5) L = true) (ih : ∀ h mo w U C t, INV h mo U C t → kk h mo w = some 1) : f_law_c16 xs L x4 h mo w kk = some 1 := by
  unfold f_law_c16
  rw [ag_balance I, Option.bind_some]
  exact ih _ _ _ _ _ _ (INV_0 I 0)
theorem cs_17 (I : INV h mo U C t) (i1 : inb (x4 + 1) L = true) (i2 : inb (x4 + 2) L = true) (i3 : inb (x4 + 3) L = true) (i4 : inb (x4 + 4) L = true) (i5 : inb (x4 + 5) L = true) (ih : ∀ h mo w U C t, INV h mo U C t → kk h mo w = some 1) : f_law_c17 xs L x4 h mo w kk = some 1 := by
  unfold f_law_c17
  obtain ⟨-, -, -, -, -, ⟨A, ⟨q0, q1, -⟩, -⟩, -⟩ := id I
  unfold f_X7_alarms f_X6_alarms f_X0_count
  rw [Option.bind_some, Option.bind_some]
  dsimp only
  rw [oi_n (show 37 ≠ 0 by decide), q0, q1, if_pos rfl]
  exact ih _ _ _ _ _ _ (INV_0 I 0)
theorem cs_18 (I : INV h mo U C t) (i1 : inb (x4 + 1) L = true) (i2 : inb (x4 + 2) L = true) (i3 : inb (x4 + 3) L = true) (i4 : inb (x4 + 4) L = true) (i5 : inb (x4 + 5) L = true) (ih : ∀ h mo w U C t, INV h mo U C t → kk h mo w = some 1) : f_law_c18 xs L x4 h mo w kk = some 1 := by
  unfold f_law_c18
  simp only [i1, i2, i3, i4, i5, if_true]
  exact fin_AG (ag_gain I _ _ w) ih
theorem cs_19 (I : INV h mo U C t) (i1 : inb (x4 + 1) L = true) (i2 : inb (x4 + 2) L = true) (i3 : inb (x4 + 3) L = true) (i4 : inb (x4 + 4) L = true) (i5 : inb (x4 + 5) L = true) (ih : ∀ h mo w U C t, INV h mo U C t → kk h mo w = some 1) : f_law_c19 xs L x4 h mo w kk = some 1 := by
  unfold f_law_c19
  simp only [i1, i2, i3, i4, i5, if_true]
  exact fin_AG (ag_relative I _ _ _ _ w) ih
theorem cs_20 (I : INV h mo U C t) (i1 : inb (x4 + 1) L = true) (i2 : inb (x4 + 2) L = true) (i3 : inb (x4 + 3) L = true) (i4 : inb (x4 + 4) L = true) (i5 : inb (x4 + 5) L = true) (ih : ∀ h mo w U C t, INV h mo U C t → kk h mo w = some 1) : f_law_c20 xs L x4 h mo w kk = some 1 := by
  unfold f_law_c20
  obtain ⟨t2, t3⟩ := I.2.2.1
  unfold f_X7_now f_X6_now
  rw [Option.bind_some, Option.bind_some]
  dsimp only
  rw [oi_n (show 1 ≠ 0 by decide), t2, t3, if_pos rfl]
  exact ih _ _ _ _ _ _ (INV_0 I 0)
end LC
theorem law_lp (xs : Nat → Int32) (L : Nat) (hL : L ≤ 3072) : ∀ (n i : Nat) (h : Nat → ObS) (mo w : ObS) (U C t : Nat), L + 6 ≤ i + 6 * (n + 1) → i ≤ 3100 → INV h mo U C t → f_law_b xs L (n + 1) (Int32.ofNat i) h mo w = some 1 := by
  intro n
  induction n with
  | zero =>
    intro i h mo w U C t hn hi I
    conv => lhs; unfold f_law_b
    have e6 : (Int32.ofNat L - 6).toInt = L - 6 := by
      rw [c_sub (by rw [ix_toInt (by omega)]; show _ ≤ _ - (6 : Int); omega) (by rw [ix_toInt (by omega)]; show _ - (6 : Int) < _; omega), ix_toInt (by omega)]; rfl
    rw [if_pos (by rw [Int32.lt_iff_toInt_lt, e6, ix_toInt (by omega)]; omega)]
  | succ n ihn =>
    intro i h mo w U C t hn hi I
    conv => lhs; unfold f_law_b
    have e6 : (Int32.ofNat L - 6).toInt = L - 6 := by
      rw [c_sub (by rw [ix_toInt (by omega)]; show _ ≤ _ - (6 : Int); omega) (by rw [ix_toInt (by omega)]; show _ - (6 : Int) < _; omega), ix_toInt (by omega)]; rfl
    by_cases q : (L : Int) - 6 < i
    · rw [if_pos (by rw [Int32.lt_iff_toInt_lt, e6, ix_toInt (by omega)]; exact q)]
    · rw [if_neg (by rw [Int32.lt_iff_toInt_lt, e6, ix_toInt (by omega)]; exact q)]
      have ib : ∀ k, k ≤ 5 → inb (Int32.ofNat i + Int32.ofNat k) L = true := fun k hk => by
        rw [ix_add, ix_inb (by omega)]; simp; omega
      have i0 : inb (Int32.ofNat i) L = true := by rw [ix_inb (by omega)]; simp; omega
      have i1 : inb (Int32.ofNat i + 1) L = true := ib 1 (by omega)
      have i2 : inb (Int32.ofNat i + 2) L = true := ib 2 (by omega)
      have i3 : inb (Int32.ofNat i + 3) L = true := ib 3 (by omega)
      have i4 : inb (Int32.ofNat i + 4) L = true := ib 4 (by omega)
      have i5 : inb (Int32.ofNat i + 5) L = true := ib 5 (by omega)
      have ih : ∀ h mo w U C t, INV h mo U C t → f_law_b xs L (n + 1) (Int32.ofNat i + 6) h mo w = some 1 := fun h mo w U C t I => by
        rw [show Int32.ofNat i + 6 = Int32.ofNat (i + 6) from ix_add i 6]
        exact ihn (i + 6) h mo w U C t (by omega) (by omega) I
      rw [if_pos i0]
      by_cases c0 : ((xs (Int32.ofNat i).toNatClampNeg) &&& 31) = 0
      · rw [if_pos c0]; exact cs_0 I i1 i2 i3 i4 i5 ih
      rw [if_neg c0]
      by_cases c1 : ((xs (Int32.ofNat i).toNatClampNeg) &&& 31) = 1
      · rw [if_pos c1]; exact cs_1 I i1 i2 i3 i4 i5 ih
      rw [if_neg c1]
      by_cases c2 : ((xs (Int32.ofNat i).toNatClampNeg) &&& 31) = 2
      · rw [if_pos c2]; exact cs_2 I i1 i2 i3 i4 i5 ih
      rw [if_neg c2]
      by_cases c3 : ((xs (Int32.ofNat i).toNatClampNeg) &&& 31) = 3
      · rw [if_pos c3]; exact cs_3 I i1 i2 i3 i4 i5 ih
      rw [if_neg c3]
      by_cases c4 : ((xs (Int32.ofNat i).toNatClampNeg) &&& 31) = 4
      · rw [if_pos c4]; exact cs_4 I i1 i2 i3 i4 i5 ih
      rw [if_neg c4]
      by_cases c5 : ((xs (Int32.ofNat i).toNatClampNeg) &&& 31) = 5
      · rw [if_pos c5]; exact cs_5 I i1 i2 i3 i4 i5 ih
      rw [if_neg c5]
      by_cases c6 : ((xs (Int32.ofNat i).toNatClampNeg) &&& 31) = 6
      · rw [if_pos c6]; exact cs_6 I i1 i2 i3 i4 i5 ih
      rw [if_neg c6]
      by_cases c7 : ((xs (Int32.ofNat i).toNatClampNeg) &&& 31) = 7
      · rw [if_pos c7]; exact cs_7 I i1 i2 i3 i4 i5 ih
      rw [if_neg c7]
      by_cases c8 : ((xs (Int32.ofNat i).toNatClampNeg) &&& 31) = 8
      · rw [if_pos c8]; exact cs_8 I i1 i2 i3 i4 i5 ih
      rw [if_neg c8]
      by_cases c9 : ((xs (Int32.ofNat i).toNatClampNeg) &&& 31) = 9
      · rw [if_pos c9]; exact cs_9 I i1 i2 i3 i4 i5 ih
      rw [if_neg c9]
      by_cases c10 : ((xs (Int32.ofNat i).toNatClampNeg) &&& 31) = 10
      · rw [if_pos c10]; exact cs_10 I i1 i2 i3 i4 i5 ih
      rw [if_neg c10]
      by_cases c11 : ((xs (Int32.ofNat i).toNatClampNeg) &&& 31) = 11
      · rw [if_pos c11]; exact cs_11 I i1 i2 i3 i4 i5 ih
      rw [if_neg c11]
      by_cases c12 : ((xs (Int32.ofNat i).toNatClampNeg) &&& 31) = 12
      · rw [if_pos c12]; exact cs_12 I i1 i2 i3 i4 i5 ih
      rw [if_neg c12]
      by_cases c13 : ((xs (Int32.ofNat i).toNatClampNeg) &&& 31) = 13
      · rw [if_pos c13]; exact cs_13 I i1 i2 i3 i4 i5 ih
      rw [if_neg c13]
      by_cases c14 : ((xs (Int32.ofNat i).toNatClampNeg) &&& 31) = 14
      · rw [if_pos c14]; exact cs_14 I i1 i2 i3 i4 i5 ih
      rw [if_neg c14]
      by_cases c15 : ((xs (Int32.ofNat i).toNatClampNeg) &&& 31) = 15
      · rw [if_pos c15]; exact cs_15 I i1 i2 i3 i4 i5 ih
      rw [if_neg c15]
      by_cases c16 : ((xs (Int32.ofNat i).toNatClampNeg) &&& 31) = 16
      · rw [if_pos c16]; exact cs_16 I i1 i2 i3 i4 i5 ih
      rw [if_neg c16]
      by_cases c17 : ((xs (Int32.ofNat i).toNatClampNeg) &&& 31) = 17
      · rw [if_pos c17]; exact cs_17 I i1 i2 i3 i4 i5 ih
      rw [if_neg c17]
      by_cases c18 : ((xs (Int32.ofNat i).toNatClampNeg) &&& 31) = 18
      · rw [if_pos c18]; exact cs_18 I i1 i2 i3 i4 i5 ih
      rw [if_neg c18]
      by_cases c19 : ((xs (Int32.ofNat i).toNatClampNeg) &&& 31) = 19
      · rw [if_pos c19]; exact cs_19 I i1 i2 i3 i4 i5 ih
      rw [if_neg c19]
      by_cases c20 : ((xs (Int32.ofNat i).toNatClampNeg) &&& 31) = 20
      · rw [if_pos c20]; exact cs_20 I i1 i2 i3 i4 i5 ih
      rw [if_neg c20]
      exact ih _ _ _ _ _ _ I
theorem ini_lp : ∀ (d s f : Nat) (o : ObS), s + d = 24 → d < f → ∃ o' : ObS, f_X5_init_b75 f (Int32.ofNat s) o = some o' ∧ (∀ i, s ≤ i → i < 24 → o'.1 6 i = -1) ∧ (∀ i, i < s → o'.1 6 i = o.1 6 i) ∧ (∀ k, k ≠ 6 → o'.1 k = o.1 k) ∧ o'.2 = o.2
  | d, s, 0, o, h, hf => by omega
  | 0, s, f + 1, o, h, hf => by
    obtain rfl : s = 24 := by omega
    exact ⟨o, rfl, fun i h1 h2 => by omega, fun i _ => rfl, fun _ _ => rfl, rfl⟩
  | d + 1, s, f + 1, o, h, hf => by
    have a1 : ¬ 24 ≤ s := by omega
    have a3 : s < 24 := by omega
    obtain ⟨o', e, e1, e2, e3, e4⟩ := ini_lp d (s + 1) f (oi o 6 s (-1)) (by omega) (by omega)
    refine ⟨o', ?_, fun i h1 h2 => ?_, fun i h1 => ?_, fun k hk => (e3 k hk).trans (oi_n hk), e4⟩
    · conv => lhs; unfold f_X5_init_b75
      rw [← e]
      simp (disch := omega) [ix_lt1, ix_le1, ix_lt2, ix_le2, ix_eq1, ix_eq2, ix_lt, ix_le, ix_eq, ix_inb, ix_nat, ix_suc, ix_dbl, -Int32.ofNat_add, -Int32.ofNat_mul, a1, a3]
    · by_cases h9 : i = s
      · subst h9; rw [e2 i (by omega), oi_s]; exact upd_s
      · exact e1 i (by omega) h2
    · rw [e2 i (by omega), oi_s]; exact upd_n (by omega)
theorem INV_start {R5 : ObS} (e1 : ∀ i, i < 24 → R5.1 6 i = -1) (e3 : ∀ k, k ≠ 6 → R5.1 k = z0.1 k) (e4 : R5.2 = z0.2) : INV (hu (fun _ => z0) 3 R5) z0 0 0 0 := by
  have zs : ∀ s, (z0.2 0 s : Int64) = 0 ∧ (z0.2 1 s : Int64) = 0 := fun s => ⟨rfl, rfl⟩
  refine ⟨⟨⟨by omega, ?_, fun u hu9 => by omega, fun s hs => Or.inl (e1 s hs)⟩, ⟨?_, ?_, ?_, ?_, ?_⟩, ?_, ?_, fun u hu9 => by omega, fun u _ => Or.inl rfl, fun v => ?_⟩, ⟨rfl, rfl, ⟨0, by omega, SI_z zs⟩, by omega, fun _ => ⟨zs, fun u => ?_, rfl⟩⟩, ⟨rfl, rfl⟩, ⟨0, rfl, HB_z (fun s => rfl) (fun u => ?_)⟩, ⟨0, by omega, rfl, rfl, fun i hi => by omega⟩, ⟨0, ⟨rfl, rfl, by omega, fun i hi => by omega⟩, ?_⟩, ⟨by omega, rfl, rfl, ⟨rfl, rfl, rfl, rfl, rfl⟩, ⟨fun _ => rfl, rfl, rfl, rfl, fun _ => rfl⟩, fun k hk => by omega, fun k => Or.inl rfl, fun k _ => ⟨rfl, rfl, rfl, rfl, rfl⟩⟩, ⟨Or.inl ⟨rfl, rfl⟩, fun r s hr => by omega⟩⟩
  · show R5.1 0 0 = _; rw [e3 0 (by decide)]; rfl
  · show R5.1 0 0 = _; rw [e3 0 (by decide)]; rfl
  · show R5.1 1 = _; rw [e3 1 (by decide)]; rfl
  · show R5.1 2 = _; rw [e3 2 (by decide)]; rfl
  · show R5.1 4 = _; rw [e3 4 (by decide)]; rfl
  · show R5.1 5 = _; rw [e3 5 (by decide)]; rfl
  · show R5.1 3 = _; rw [e3 3 (by decide)]; rfl
  · show R5.1 8 = _; rw [e3 8 (by decide)]; rfl
  · show (R5.2 7 v).toInt32 = _; rw [e4]; rfl
  · show R5.2 7 u = 0; rw [e4]; rfl
  · show R5.2 7 u = 0; rw [e4]; rfl
  · exact sm_nn (f := fun i => ((if i < 0 then ((0 : Nat) : Int) + 1 else (0 : Nat)) + (z0.1 35 i).toInt) / 2) (fun i _ => by rw [if_neg (by omega), show (z0.1 35 i).toInt = 0 from rfl]; decide)
/-- the law holds -/
theorem law_true (xs : Nat → Int32) (L : Nat) (hL : L ≤ 3072) : ∃ R5, f_X5_init = some R5 ∧ f_law_b xs L 513 0 (hu (fun _ => z0) 3 R5) z0 z0 = some 1 := by
  obtain ⟨R5, e, e1, e2, e3, e4⟩ := ini_lp 24 0 64 z0 (by omega) (by omega)
  exact ⟨R5, e, law_lp xs L hL 512 0 _ z0 z0 0 0 0 (by omega) (by omega) (INV_start (fun i hi => e1 i (by omega) hi) e3 e4)⟩
