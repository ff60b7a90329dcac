/-! calls: what they need, refusals, what is only asked -/
theorem os_i (x a b : Int32) : f_X6_isOutside x a b = if a.toInt ≤ x.toInt ∧ x.toInt ≤ b.toInt then 0 else 1 := by
  unfold f_X6_isOutside
  simp only [Int32.lt_iff_toInt_lt, Int32.le_iff_toInt_le]
  by_cases h1 : x.toInt < a.toInt
  · rw [if_pos h1, if_neg (by omega)]
  · rw [if_neg h1]
    by_cases h2 : x.toInt ≤ b.toInt
    · rw [if_pos h2, if_pos (by omega)]
    · rw [if_neg h2, if_neg (by omega)]
theorem in_i (x a b : Int32) : f_X7_in x a b = if a.toInt ≤ x.toInt ∧ x.toInt ≤ b.toInt then 1 else 0 := by
  unfold f_X7_in
  simp only [Int32.lt_iff_toInt_lt]
  by_cases h1 : x.toInt < a.toInt
  · rw [if_pos h1, if_neg (by omega)]
  · rw [if_neg h1]
    by_cases h2 : b.toInt < x.toInt
    · rw [if_pos h2, if_neg (by omega)]
    · rw [if_neg h2, if_pos (by omega)]
theorem os_c {x a b : Int32} (c : Prop) [Decidable c] (h : a.toInt ≤ x.toInt ∧ x.toInt ≤ b.toInt ↔ c) : f_X6_isOutside x a b = if c then 0 else 1 := by
  rw [os_i]; by_cases q : c
  · rw [if_pos q, if_pos (h.mpr q)]
  · rw [if_neg q, if_neg (fun z => q (h.mp z))]
theorem in_c {x a b : Int32} (c : Prop) [Decidable c] (h : a.toInt ≤ x.toInt ∧ x.toInt ≤ b.toInt ↔ c) : f_X7_in x a b = if c then 1 else 0 := by
  rw [in_i]; by_cases q : c
  · rw [if_pos q, if_pos (h.mpr q)]
  · rw [if_neg q, if_neg (fun z => q (h.mp z))]
theorem z32 : ((0 : Int32).toInt) = 0 := rfl
theorem sb1_i {n : Nat} (h : n < 1000) : (Int32.ofNat n - 1).toInt = n - 1 := by
  rw [c_sub (by rw [ix_toInt (by omega)]; show _ ≤ _ - (1 : Int); omega) (by rw [ix_toInt (by omega)]; show _ - (1 : Int) < _; omega), ix_toInt (by omega)]; rfl
def bN (c : Prop) [Decidable c] (k : Nat) : Option (Nat ⊕ Unit) := if c then some (.inr ()) else some (.inl k)
theorem tb_b {β : Type} {c : Prop} [Decidable c] {k : Nat} {f : Unit → Option (Nat ⊕ β)} : tb (bN c k) f = if c then f () else some (.inl k) := by
  unfold bN; split <;> rfl
theorem nU {h : Nat → ObS} {U : Nat} {x : Int32} (h0 : (h 3).1 0 0 = Int32.ofNat U) (hU : U ≤ 12) : f_X6_needUnit h x = bN (0 ≤ x.toInt ∧ x.toInt < U) 3 := by
  unfold f_X6_needUnit f_X5_count bN
  rw [h0, os_c (0 ≤ x.toInt ∧ x.toInt < U) (by rw [sb1_i (by omega), z32]; omega)]
  by_cases q : 0 ≤ x.toInt ∧ x.toInt < U
  · rw [if_pos q, if_pos q]; rfl
  · rw [if_neg q, if_neg q]; rfl
theorem nS {h : Nat → ObS} {U : Nat} {x : Int32} (h0 : (h 3).1 0 0 = Int32.ofNat U) (hU : U ≤ 12) : f_X6_needStream h x = bN (0 ≤ x.toInt ∧ x.toInt < 2 * U) 3 := by
  unfold f_X6_needStream f_X5_count bN
  rw [h0, ix_dbl, os_c (0 ≤ x.toInt ∧ x.toInt < 2 * U) (by rw [sb1_i (by omega), z32]; omega)]
  by_cases q : 0 ≤ x.toInt ∧ x.toInt < 2 * U
  · rw [if_pos q, if_pos q]; rfl
  · rw [if_neg q, if_neg q]; rfl
theorem nSN {h : Nat → ObS} {U : Nat} {x : Int32} (h0 : (h 3).1 0 0 = Int32.ofNat U) (hU : U ≤ 12) : f_X6_needStreamForNewUnit h x = bN (0 ≤ x.toInt ∧ x.toInt < 2 * U + 2) 3 := by
  unfold f_X6_needStreamForNewUnit f_X5_count bN
  rw [h0, ix_dbl, ix_suc, os_c (0 ≤ x.toInt ∧ x.toInt < 2 * U + 2) (by rw [ix_toInt (by omega), z32]; omega)]
  by_cases q : 0 ≤ x.toInt ∧ x.toInt < 2 * U + 2
  · rw [if_pos q, if_pos q]; rfl
  · rw [if_neg q, if_neg q]; rfl
theorem nC {h : Nat → ObS} {C : Nat} {x : Int32} (h0 : (h 4).1 0 0 = Int32.ofNat C) (hC : C ≤ 6) : f_X6_needController h x = bN (0 ≤ x.toInt ∧ x.toInt < C) 3 := by
  unfold f_X6_needController f_X1_count bN
  rw [h0, os_c (0 ≤ x.toInt ∧ x.toInt < C) (by rw [sb1_i (by omega), z32]; omega)]
  by_cases q : 0 ≤ x.toInt ∧ x.toInt < C
  · rw [if_pos q, if_pos q]; rfl
  · rw [if_neg q, if_neg q]; rfl
def sB (c : Prop) [Decidable c] : Option Int32 := if c then some 1 else some 0
theorem iU {mo : ObS} {U : Nat} {x : Int32} (h0 : mo.1 2 0 = Int32.ofNat U) (hU : U ≤ 12) : f_X7_isUnit mo x = sB (0 ≤ x.toInt ∧ x.toInt < U) := by
  unfold f_X7_isUnit sB
  rw [h0, in_c (0 ≤ x.toInt ∧ x.toInt < U) (by rw [sb1_i (by omega), z32]; omega)]
  by_cases q : 0 ≤ x.toInt ∧ x.toInt < U
  · rw [if_pos q, if_pos q]; rfl
  · rw [if_neg q, if_neg q]; rfl
theorem iS {mo : ObS} {U : Nat} {x : Int32} (h0 : mo.1 2 0 = Int32.ofNat U) (hU : U ≤ 12) : f_X7_isStream mo x = sB (0 ≤ x.toInt ∧ x.toInt < 2 * U) := by
  unfold f_X7_isStream sB
  rw [h0, ix_dbl, in_c (0 ≤ x.toInt ∧ x.toInt < 2 * U) (by rw [sb1_i (by omega), z32]; omega)]
  by_cases q : 0 ≤ x.toInt ∧ x.toInt < 2 * U
  · rw [if_pos q, if_pos q]; rfl
  · rw [if_neg q, if_neg q]; rfl
theorem iC {mo : ObS} {C : Nat} {x : Int32} (h0 : mo.1 22 0 = Int32.ofNat C) (hC : C ≤ 6) : f_X7_isController mo x = sB (0 ≤ x.toInt ∧ x.toInt < C) := by
  unfold f_X7_isController sB
  rw [h0, in_c (0 ≤ x.toInt ∧ x.toInt < C) (by rw [sb1_i (by omega), z32]; omega)]
  by_cases q : 0 ≤ x.toInt ∧ x.toInt < C
  · rw [if_pos q, if_pos q]; rfl
  · rw [if_neg q, if_neg q]; rfl
theorem ex_n {x : Int32} {n : Nat} (h : 0 ≤ x.toInt ∧ x.toInt < n) (hn : n ≤ 1000) : ∃ u, u < n ∧ x = Int32.ofNat u := by
  obtain ⟨u, hu, rfl⟩ := ix_ex h.1
  rw [ix_toInt hu] at h
  exact ⟨u, by omega, rfl⟩
theorem holds_1 {mo : ObS} : f_X7_holds mo 0 = some (1, oi mo 0 0 0) := rfl
theorem holds_0 {mo : ObS} {k : Int32} (hk : ¬ k = 0) : f_X7_holds mo k = some (0, oi mo 0 0 k) := by
  unfold f_X7_holds; rw [Option.bind_some, if_neg hk]
theorem INV_co {h h' : Nat → ObS} {mo mo' : ObS} {U C t : Nat} (I : INV h mo U C t) (a : ∀ i, i ≠ 2 → h' i = h i) (b : ∀ j, j ≠ 0 → j ≠ 16 → mo'.1 j = mo.1 j) (c : ∀ j, j ≠ 12 → j ≠ 13 → j ≠ 14 → j ≠ 15 → mo'.2 j = mo.2 j) : INV h' mo' U C t := by
  obtain ⟨⟨G, R, n1, n2, n3, n4, n5⟩, ⟨f0, f1, S, t1, z0'⟩, ⟨t2, t3⟩, B, ⟨N, P⟩, ⟨A, IAl, hA⟩, IC0, IR0⟩ := I
  unfold INV
  rw [a 0 (by decide), a 1 (by decide), a 3 (by decide), a 4 (by decide), a 5 (by decide), a 6 (by decide), a 7 (by decide), b 4 (by decide) (by decide), b 9 (by decide) (by decide), b 8 (by decide) (by decide), b 1 (by decide) (by decide), b 35 (by decide) (by decide), c 10 (by decide) (by decide) (by decide) (by decide), c 11 (by decide) (by decide) (by decide) (by decide)]
  exact ⟨⟨G, UR.co R (fun k _ => b k (by omega) (by omega)), n1, n2, n3, n4, n5⟩, ⟨f0, f1, S, t1, z0'⟩, ⟨t2, t3⟩, B, ⟨N, IP_co P (fun k _ _ => b k (by omega) (by omega))⟩, ⟨A, IA_co IAl (fun k _ => b k (by omega) (by omega)), hA⟩, IC_co IC0 (fun k _ _ => b k (by omega) (by omega)) (fun k _ => c k (by omega) (by omega) (by omega) (by omega)), IR_co IR0 (b 17 (by decide) (by decide))⟩
theorem INV_0 {h : Nat → ObS} {mo : ObS} {U C t : Nat} (I : INV h mo U C t) (k : Int32) : INV h (oi mo 0 0 k) U C t := INV_co I (fun _ _ => rfl) (fun _ h1 _ => oi_n h1) (fun _ _ _ _ _ => rfl)
/-- a call's answers agree, and what holds always goes on -/
def AG (L : Option (Int32 × (Nat → ObS) × ObS)) (M : Option (Int32 × ObS)) : Prop :=
  ∃ (k : Int32) (h' : Nat → ObS) (w' : ObS) (r : Int32) (mo' : ObS) (U C t : Nat), L = some (k, h', w') ∧ M = some (r, mo') ∧ mo'.1 0 0 = k ∧ (k = 0 → w'.2 0 0 = r.toInt64) ∧ INV h' mo' U C t
theorem AG_no {L : Option (Int32 × (Nat → ObS) × ObS)} {M : Option (Int32 × ObS)} {h : Nat → ObS} {mo w : ObS} {U C t : Nat} {k : Int32} (I : INV h mo U C t) (hk : k ≠ 0) (h1 : L = some (k, h, w)) (h2 : M = some (0, oi mo 0 0 k)) : AG L M :=
  ⟨k, h, w, 0, oi mo 0 0 k, U, C, t, h1, h2, rfl, fun z => absurd z hk, INV_0 I k⟩
theorem AG_ok {L : Option (Int32 × (Nat → ObS) × ObS)} {M : Option (Int32 × ObS)} {h' : Nat → ObS} {mo' w : ObS} {U C t : Nat} {r : Int32} (I : INV h' mo' U C t) (h1 : L = some (0, h', oj w 0 ((0 : Int32).toNatClampNeg) r.toInt64)) (h2 : M = some (r, mo')) (h3 : mo'.1 0 0 = 0) : AG L M :=
  ⟨0, h', _, r, mo', U, C, t, h1, h2, h3, fun _ => by rw [oj_j, if_pos rfl]; exact if_pos rfl, I⟩
