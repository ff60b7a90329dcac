/-! numbers that count -/
theorem ix_toInt {i : Nat} (h : i < 2147483648) : (Int32.ofNat i).toInt = i := Int32.toInt_ofNat_of_lt h
theorem ix_nat {i : Nat} (h : i < 2147483648) : (Int32.ofNat i).toNatClampNeg = i := by
  unfold Int32.toNatClampNeg; rw [ix_toInt h]; rfl
theorem ix_lt {i j : Nat} (hi : i < 2147483648) (hj : j < 2147483648) : (Int32.ofNat i < Int32.ofNat j) ↔ i < j := by
  rw [Int32.lt_iff_toInt_lt, ix_toInt hi, ix_toInt hj]; omega
theorem ix_le {i j : Nat} (hi : i < 2147483648) (hj : j < 2147483648) : (Int32.ofNat i ≤ Int32.ofNat j) ↔ i ≤ j := by
  rw [Int32.le_iff_toInt_le, ix_toInt hi, ix_toInt hj]; omega
theorem ix_eq {i j : Nat} (hi : i < 2147483648) (hj : j < 2147483648) : (Int32.ofNat i = Int32.ofNat j) ↔ i = j := by
  rw [← Int32.toInt_inj, ix_toInt hi, ix_toInt hj]; omega
theorem ix_lt1 {i j : Nat} (hi : i < 2147483648) (hj : (OfNat.ofNat j : Nat) < 2147483648) : (Int32.ofNat i < no_index (OfNat.ofNat j)) ↔ i < (OfNat.ofNat j : Nat) := ix_lt hi hj
theorem ix_le1 {i j : Nat} (hi : i < 2147483648) (hj : (OfNat.ofNat j : Nat) < 2147483648) : (no_index (OfNat.ofNat j) ≤ Int32.ofNat i) ↔ (OfNat.ofNat j : Nat) ≤ i := ix_le hj hi
theorem ix_lt2 {i j : Nat} (hi : i < 2147483648) (hj : (OfNat.ofNat j : Nat) < 2147483648) : (no_index (OfNat.ofNat j) < Int32.ofNat i) ↔ (OfNat.ofNat j : Nat) < i := ix_lt hj hi
theorem ix_le2 {i j : Nat} (hi : i < 2147483648) (hj : (OfNat.ofNat j : Nat) < 2147483648) : (Int32.ofNat i ≤ no_index (OfNat.ofNat j)) ↔ i ≤ (OfNat.ofNat j : Nat) := ix_le hi hj
theorem ix_inb {i n : Nat} (hi : i < 2147483648) : inb (Int32.ofNat i) n = decide (i < n) := by
  unfold inb; rw [ix_nat hi]
  have : ¬ (Int32.ofNat i < 0) := by rw [show (0 : Int32) = Int32.ofNat 0 from rfl, ix_lt hi (by omega)]; omega
  simp [this]
theorem ix_add (i j : Nat) : Int32.ofNat i + Int32.ofNat j = Int32.ofNat (i + j) := (Int32.ofNat_add i j).symm
theorem ix_suc (i : Nat) : Int32.ofNat i + 1 = Int32.ofNat (i + 1) := (Int32.ofNat_add i 1).symm
theorem ix_dbl (i : Nat) : 2 * Int32.ofNat i = Int32.ofNat (2 * i) := (Int32.ofNat_mul 2 i).symm
theorem ix_ex {x : Int32} (h : 0 ≤ x.toInt) : ∃ n : Nat, n < 2147483648 ∧ x = Int32.ofNat n := by
  have := x.toInt_lt
  exact ⟨x.toInt.toNat, by omega, by rw [← Int32.toInt_inj, ix_toInt (by omega)]; omega⟩
theorem ix_eq1 {i j : Nat} (hi : i < 2147483648) (hj : (OfNat.ofNat j : Nat) < 2147483648) : (Int32.ofNat i = no_index (OfNat.ofNat j)) ↔ i = (OfNat.ofNat j : Nat) := ix_eq hi hj
theorem ix_eq2 {i j : Nat} (hi : i < 2147483648) (hj : (OfNat.ofNat j : Nat) < 2147483648) : (no_index (OfNat.ofNat j) = Int32.ofNat i) ↔ (OfNat.ofNat j : Nat) = i := ix_eq hj hi
