/-! a train in order -/
theorem ob_r {α : Type} (a : α) : ob (some (.inr a) : Option (Nat ⊕ α)) = some a := rfl
theorem t_32 {x : Int64} (h0 : 0 ≤ x.toInt) (h1 : x.toInt < 2147483648) : x.toInt32.toInt = x.toInt := by
  rw [Int64.toInt_toInt32]; exact Int.bmod_eq_of_le (by omega) (by omega)
theorem t_64 {x : Int64} (h0 : 0 ≤ x.toInt) (h1 : x.toInt < 2147483648) : x.toInt32.toInt64 = x := by
  rw [← Int64.toInt_inj, to64, t_32 h0 h1]
theorem dvn {i c : Nat} (hi : i < 2147483648) (h0 : 0 < c) (hc : c < 2147483648) : Int32.ofNat i / Int32.ofNat c = Int32.ofNat (i / c) := by
  have hd : i / c ≤ i := Nat.div_le_self i c
  have hp : 0 ≤ (i : Int) / (c : Int) := Int.ediv_nonneg (by omega) (by omega)
  rw [← Int32.toInt_inj, Int32.toInt_div, ix_toInt hi, ix_toInt hc, ix_toInt (by omega), Int.tdiv_eq_ediv_of_nonneg (by omega), ← Int.natCast_ediv]
  exact Int.bmod_eq_of_le (by omega) (by omega)
theorem mdn {i c : Nat} (hi : i < 2147483648) (h0 : 0 < c) (hc : c < 2147483648) : Int32.ofNat i - Int32.ofNat i / Int32.ofNat c * Int32.ofNat c = Int32.ofNat (i % c) := by
  have e := Nat.div_add_mod i c
  have e2 : i / c * c = c * (i / c) := Nat.mul_comm _ _
  rw [dvn hi h0 hc, ← Int32.ofNat_mul, ← Int32.toInt_inj, c_sub (by rw [ix_toInt (by omega), ix_toInt (by omega)]; omega) (by rw [ix_toInt (by omega), ix_toInt (by omega)]; omega), ix_toInt hi, ix_toInt (by omega), ix_toInt (by omega)]
  omega
section OT
variable {h : Nat → ObS} {mo : ObS} {U C t : Nat}
theorem of_0 (I : INV h mo U C t) {s : Nat} (hs : s < 2 * U) : f_X6_of h (Int32.ofNat s) 0 = some (.inr ((h 1).2 0 s).toInt32) := by
  have G := I.1.1
  have hU := G.1
  have q : 0 ≤ (Int32.ofNat s).toInt ∧ (Int32.ofNat s).toInt < 2 * U := by rw [ix_toInt (by omega)]; omega
  unfold f_X6_of
  rw [nS G.2.1 hU, tb_b, if_pos q, if_pos rfl, s_flow (by omega), Option.bind_some]
theorem of_1 (I : INV h mo U C t) {s : Nat} (hs : s < 2 * U) : f_X6_of h (Int32.ofNat s) 1 = some (.inr ((h 1).2 1 s).toInt32) := by
  have G := I.1.1
  have hU := G.1
  have q : 0 ≤ (Int32.ofNat s).toInt ∧ (Int32.ofNat s).toInt < 2 * U := by rw [ix_toInt (by omega)]; omega
  unfold f_X6_of
  rw [nS G.2.1 hU, tb_b, if_pos q, if_neg n10, if_pos rfl, s_heat (by omega), Option.bind_some]
theorem of_2 (I : INV h mo U C t) {s : Nat} (hs : s < 2 * U) : f_X6_of h (Int32.ofNat s) 2 = some (.inr (wm ((h 1).2 0 s) ((h 1).2 1 s)).toInt32) := by
  have G := I.1.1
  have hU := G.1
  have q : 0 ≤ (Int32.ofNat s).toInt ∧ (Int32.ofNat s).toInt < 2 * U := by rw [ix_toInt (by omega)]; omega
  unfold f_X6_of
  rw [nS G.2.1 hU, tb_b, if_pos q, if_neg (by decide), if_neg (by decide), if_pos rfl, s_warm (by omega), Option.bind_some]
theorem of_x (I : INV h mo U C t) {s : Nat} (hs : 2 * U ≤ s) (h9 : s < 1000) (y : Int32) : f_X6_of h (Int32.ofNat s) y = some (.inl 3) := by
  have G := I.1.1
  have hU := G.1
  have q : ¬ (0 ≤ (Int32.ofNat s).toInt ∧ (Int32.ofNat s).toInt < 2 * U) := by rw [ix_toInt (by omega)]; omega
  unfold f_X6_of
  rw [nS G.2.1 hU, tb_b, if_neg q]
theorem ou_0 (I : INV h mo U C t) {u : Nat} (hu : u < U) : f_X6_ofUnit h (Int32.ofNat u) 0 = some (.inr ((h 3).1 3 u)) := by
  have G := I.1.1
  have hU := G.1
  have h12 : u < 12 := by omega
  have q : 0 ≤ (Int32.ofNat u).toInt ∧ (Int32.ofNat u).toInt < U := by rw [ix_toInt (by omega)]; omega
  unfold f_X6_ofUnit
  rw [nU G.2.1 hU, tb_b, if_pos q, if_pos rfl]
  unfold f_X5_numberOf
  rw [u_made G.2.1 hU hu, if_neg n10, ix_inb (by omega), if_pos (show decide (u < 12) = true by simpa using h12), ix_nat (by omega), Option.bind_some]
theorem ou_1 (I : INV h mo U C t) {u : Nat} (hu : u < U) : f_X6_ofUnit h (Int32.ofNat u) 1 = some (.inr ((h 3).2 7 u).toInt32) := by
  have G := I.1.1
  have hU := G.1
  have h12 : u < 12 := by omega
  have q : 0 ≤ (Int32.ofNat u).toInt ∧ (Int32.ofNat u).toInt < U := by rw [ix_toInt (by omega)]; omega
  unfold f_X6_ofUnit
  rw [nU G.2.1 hU, tb_b, if_pos q, if_neg n10, if_pos rfl]
  unfold f_X5_movedBy
  rw [u_made G.2.1 hU hu, if_neg n10, ix_inb (by omega), if_pos (show decide (u < 12) = true by simpa using h12), ix_nat (by omega), Option.bind_some]
theorem oc_0 (I : INV h mo U C t) {c : Nat} (hc : c < C) : f_X6_ofController h (Int32.ofNat c) 0 = some (.inr (mo.1 24 c)) := by
  obtain ⟨i1, i2, i3, -, ⟨i9, -⟩, -⟩ := I.2.2.2.2.2.2.1
  have h6 : c < 6 := by omega
  have q : 0 ≤ (Int32.ofNat c).toInt ∧ (Int32.ofNat c).toInt < C := by rw [ix_toInt (by omega)]; omega
  unfold f_X6_ofController
  rw [nC i2 i1, tb_b, if_pos q, if_pos rfl]
  unfold f_X1_goalOf
  rw [c_made i2 i1 hc, if_neg n10, ix_inb (by omega), if_pos (show decide (c < 6) = true by simpa using h6), ix_nat (by omega), Option.bind_some, i9, to_32]
theorem oc_1 (I : INV h mo U C t) {c : Nat} (hc : c < C) : f_X6_ofController h (Int32.ofNat c) 1 = some (.inr ((h 4).2 11 c).toInt32) := by
  obtain ⟨i1, i2, i3, -⟩ := I.2.2.2.2.2.2.1
  have h6 : c < 6 := by omega
  have q : 0 ≤ (Int32.ofNat c).toInt ∧ (Int32.ofNat c).toInt < C := by rw [ix_toInt (by omega)]; omega
  unfold f_X6_ofController
  rw [nC i2 i1, tb_b, if_pos q, if_neg n10, if_pos rfl]
  unfold f_X1_sumOf
  rw [c_made i2 i1 hc, if_neg n10, ix_inb (by omega), if_pos (show decide (c < 6) = true by simpa using h6), ix_nat (by omega), Option.bind_some]
theorem oc_x (I : INV h mo U C t) {c : Nat} (hc : C ≤ c) (h9 : c < 1000) (y : Int32) : f_X6_ofController h (Int32.ofNat c) y = some (.inl 3) := by
  obtain ⟨i1, i2, i3, -⟩ := I.2.2.2.2.2.2.1
  have q : ¬ (0 ≤ (Int32.ofNat c).toInt ∧ (Int32.ofNat c).toInt < C) := by rw [ix_toInt (by omega)]; omega
  unfold f_X6_ofController
  rw [nC i2 i1, tb_b, if_neg q]
theorem tr_w (I : INV h mo U C t) (X : EX h U t) {s : Nat} (hs : s < 2 * U) (ht : 0 < t) : f_X6_trend h (Int32.ofNat s) (f_X6_now h) = some (.inr (wm ((h 1).2 0 s) ((h 1).2 1 s)).toInt32) := by
  obtain ⟨⟨G, -⟩, ⟨-, -, -, t1, -⟩, ⟨t2, t3⟩, -, -, -, -, IR0⟩ := id I
  have hU := G.1
  obtain ⟨r, rfl⟩ : ∃ r, t = r + 1 := ⟨t - 1, by omega⟩
  have q : 0 ≤ (Int32.ofNat s).toInt ∧ (Int32.ofNat s).toInt < 2 * U := by rw [ix_toInt (by omega)]; omega
  have o9 : f_X6_isOutside (Int32.ofNat (r + 1)) 1 (Int32.ofNat (r + 1)) = 0 := by
    rw [os_i, if_pos (show (1 : Int32).toInt ≤ (Int32.ofNat (r + 1)).toInt ∧ (Int32.ofNat (r + 1)).toInt ≤ (Int32.ofNat (r + 1)).toInt by rw [ix_toInt (by omega)]; exact ⟨by show (1 : Int) ≤ _; omega, Int.le_refl _⟩)]
  unfold f_X6_trend f_X6_now
  rw [nS G.2.1 hU, tb_b, if_pos q, t2, o9, if_pos rfl, tr_at hU t1 IR0 (Nat.lt_succ_self r) hs, Option.bind_some, ← IR0.2 r s (Nat.lt_succ_self r) hs]
  have := X.1 ht s hs
  rw [Nat.add_sub_cancel] at this
  rw [this]
theorem b219_ok {k : Int32 → Int32 → Option Int32} {kn : Nat → Int32} {v K m : Int32} (e_k : kn (v / (2 : Int32)).toNatClampNeg = K) (e_u : f_X6_ofUnit h (v / (2 : Int32)) 1 = some (.inr m)) (hK : K = 0 ∨ K = 1 ∨ K = 2 ∨ K = 3 ∨ K = 4) (m0 : K = 0 ∨ K = 1 ∨ K = 2 → m = 0) (m4 : K = 4 → ¬ m < 0) (e_0 : K ≠ 1 ∧ K ≠ 3 → f_X6_of h v 0 = some (.inr 0) ∧ f_X6_of h v 1 = some (.inr 0)) : f_L_isInOrder_b219 k h kn v 1 = k 1 (v + 1) := by
  unfold f_L_isInOrder_b219
  rw [if_neg n10, e_k, e_u, ob_r]
  rcases hK with rfl | rfl | rfl | rfl | rfl
  · obtain ⟨a, b⟩ := e_0 (by decide)
    rw [a, b, m0 (Or.inl rfl)]; rfl
  · rw [m0 (Or.inr (Or.inl rfl))]; rfl
  · obtain ⟨a, b⟩ := e_0 (by decide)
    rw [a, b, m0 (Or.inr (Or.inr rfl))]; rfl
  · rfl
  · obtain ⟨a, b⟩ := e_0 (by decide)
    rw [a, b]
    exact (if_neg (m4 rfl) : (if m < 0 then k 0 (v + 1) else k 1 (v + 1)) = k 1 (v + 1))
theorem b126_ex {k : Int32 → Int32 → Option Int32} {kn : Nat → Int32} {v : Int32} (hin : inb (v / (2 : Int32)) 12 = true) : f_L_isInOrder_b126 k h kn (-2100000000) v 1 = k 1 (v + 1) := by
  unfold f_L_isInOrder_b126
  rw [if_pos hin, if_pos rfl]
theorem b126_ok {k : Int32 → Int32 → Option Int32} {kn : Nat → Int32} {r v : Int32} (hin : inb (v / (2 : Int32)) 12 = true) (hr : ¬ r = -2100000000) (odd : v - v / (2 : Int32) * (2 : Int32) = 1 → ∃ K n, kn (v / (2 : Int32)).toNatClampNeg = K ∧ (K = 0 ∨ K = 1 ∨ K = 2 ∨ K = 3 ∨ K = 4) ∧ f_X6_ofUnit h (v / (2 : Int32)) 0 = some (.inr n) ∧ nOK K n ∧ f_L_isInOrder_b219 k h kn v 1 = k 1 (v + 1)) : f_L_isInOrder_b126 k h kn r v 1 = k 1 (v + 1) := by
  unfold f_L_isInOrder_b126
  rw [if_pos hin, if_neg hr]
  by_cases q : v - v / (2 : Int32) * (2 : Int32) = 1
  · obtain ⟨K, n, e1, e2, e3, e4, e5⟩ := odd q
    rw [if_pos q, if_neg n10, e3, ob_r, Option.bind_some, e1]
    by_cases k2 : K = 2
    · rw [if_pos k2]; exact e5
    · have e4 : 0 ≤ n.toInt ∧ n.toInt ≤ mst K := e4.elim (fun z => absurd z k2) id
      rw [if_neg k2, if_neg (show ¬ n < 0 by rw [Int32.lt_iff_toInt_lt, z32]; omega)]
      unfold mst at e4
      by_cases k0 : K = 0
      · rw [if_pos k0] at e4
        rw [if_pos k0, if_neg (show ¬ (999 : Int32) < n by rw [Int32.lt_iff_toInt_lt]; show ¬ (999 : Int) < _; omega)]; exact e5
      · rw [if_neg k0] at e4
        rw [if_neg k0]
        by_cases k1 : K = 1
        · rw [if_pos k1] at e4
          rw [if_pos k1, if_neg (show ¬ (100 : Int32) < n by rw [Int32.lt_iff_toInt_lt]; show ¬ (100 : Int) < _; omega)]; exact e5
        · rw [if_neg k1] at e4
          rw [if_neg k1]
          by_cases k3 : K = 3
          · rw [if_pos k3] at e4
            rw [if_pos k3, if_neg (show ¬ (9999 : Int32) < n by rw [Int32.lt_iff_toInt_lt]; show ¬ (9999 : Int) < _; omega)]; exact e5
          · rw [if_neg k3] at e4
            rw [if_neg k3, if_neg (show ¬ (99999 : Int32) < n by rw [Int32.lt_iff_toInt_lt]; show ¬ (99999 : Int) < _; omega)]; exact e5
  · rw [if_neg q]
theorem or2_lp (I : INV h mo U C t) (X : EX h U t) : ∀ (d c n : Nat), c + d = 6 → d < n → f_L_isInOrder_b307 h n (Int32.ofNat c) 1 = some 1
  | d, c, 0, hi, hn => by omega
  | 0, c, n + 1, hi, hn => by
    obtain rfl : c = 6 := by omega
    unfold f_L_isInOrder_b307
    rw [if_pos (show (6 : Int32) ≤ Int32.ofNat 6 by decide), if_pos (show isb 1 = true by decide)]
  | d + 1, c, n + 1, hi, hn => by
    have ih := or2_lp I X d (c + 1) n (by omega) (by omega)
    rw [← ix_suc] at ih
    unfold f_L_isInOrder_b307
    rw [if_neg (fun z => by have := (ix_le (i := 6) (by omega) (by omega)).mp z; omega), if_neg n10]
    by_cases q : c < C
    · have b := X.2.2.1 c
      have e32 : ((h 4).2 11 c).toInt32.toInt = ((h 4).2 11 c).toInt := by
        rw [Int64.toInt_toInt32]; exact Int.bmod_eq_of_le (by omega) (by omega)
      have g := ((I.2.2.2.2.2.2.1.2.2.2.2.2.1 c q).2.2.2.1.1)
      have n1 : ¬ ((h 4).2 11 c).toInt32 = -2100000000 := ne_ge (by omega)
      rw [show f_L_does_14 h (Int32.ofNat c) 1 0 0 = DQ (f_X6_ofController h (Int32.ofNat c) 1) from rfl, oc_1 I q, show DQ (some (.inr ((h 4).2 11 c).toInt32)) = some ((h 4).2 11 c).toInt32 from rfl, Option.bind_some, if_neg n1, if_neg (show ¬ ((h 4).2 11 c).toInt32 < (-10000000 : Int32) by rw [Int32.lt_iff_toInt_lt, e32]; show ¬ _ < (-10000000 : Int); omega), if_neg (show ¬ (10000000 : Int32) < ((h 4).2 11 c).toInt32 by rw [Int32.lt_iff_toInt_lt, e32]; show ¬ (10000000 : Int) < _; omega), oc_0 I q, ob_r, Option.bind_some, if_neg (show ¬ mo.1 24 c < (0 : Int32) by rw [Int32.lt_iff_toInt_lt, z32]; omega), Option.bind_some, if_neg (show ¬ (3000 : Int32) < mo.1 24 c by rw [Int32.lt_iff_toInt_lt]; show ¬ (3000 : Int) < _; omega)]
      exact ih
    · rw [show f_L_does_14 h (Int32.ofNat c) 1 0 0 = DQ (f_X6_ofController h (Int32.ofNat c) 1) from rfl, oc_x I (by omega) (by omega), show DQ (some (.inl 3)) = some (-2100000000) from rfl, Option.bind_some, if_pos rfl]
      exact ih
theorem or_lp (I : INV h mo U C t) (X : EX h U t) {kn : Nat → Int32} (hk : ∀ u, u < U → (h 3).1 1 u = kn u) : ∀ (d i n : Nat), i + d = 24 → d < n → f_L_isInOrder_b15 h kn n 1 (Int32.ofNat i) = some 1
  | d, i, 0, hi, hn => by omega
  | 0, i, n + 1, hi, hn => by
    obtain rfl : i = 24 := by omega
    unfold f_L_isInOrder_b15
    rw [if_pos (show (24 : Int32) ≤ Int32.ofNat 24 by decide)]
    exact or2_lp I X 6 0 7 (by omega) (by omega)
  | d + 1, i, n + 1, hi, hn => by
    have ih := or_lp I X hk d (i + 1) n (by omega) (by omega)
    rw [← ix_suc] at ih
    obtain ⟨G, -⟩ := I.1
    have hU := G.1
    have e2 : Int32.ofNat i / (2 : Int32) = Int32.ofNat (i / 2) := dvn (c := 2) (by omega) (by omega) (by omega)
    have hin : inb (Int32.ofNat i / (2 : Int32)) 12 = true := by
      rw [e2, ix_inb (by omega)]; exact decide_eq_true (by omega)
    unfold f_L_isInOrder_b15
    rw [if_neg (fun z => by have := (ix_le (i := 24) (by omega) (by omega)).mp z; omega), if_neg n10, show f_L_does_12 h (Int32.ofNat i) 0 0 0 = DQ (f_X6_of h (Int32.ofNat i) 0) from rfl]
    by_cases q : i < 2 * U
    · obtain ⟨j, hj, S⟩ := I.2.1.2.2.1
      have ht3 := I.2.1.2.2.2.1
      obtain ⟨j2, hj2, T⟩ := X.2.2.2.2
      have sF := S.1 i (by omega)
      have sH := T.1 i (by omega)
      have sW := SI_wm (by omega) S i (by omega)
      have f0 := sF.1.1
      have h0 := sF.1.2.1
      have f1 := sF.2
      have eF := t_32 f0 (by omega)
      have eH := t_32 h0 (by omega)
      have lF := t_64 f0 (by omega)
      have lH := t_64 h0 (by omega)
      have lW := t_64 sW.1 (by omega)
      have c2 : ¬ ((h 1).2 0 i).toInt32 = -2100000000 := ne_ge (by omega)
      have c3 : ¬ ((h 1).2 0 i).toInt32 < 0 := by rw [Int32.lt_iff_toInt_lt, z32]; omega
      have c4 : ¬ ((h 1).2 1 i).toInt32 < 0 := by rw [Int32.lt_iff_toInt_lt, z32]; omega
      have nx : ∀ k : Int32 → Int32 → Option Int32, f_L_isInOrder_b126 k h kn ((h 1).2 0 i).toInt32 (Int32.ofNat i) 1 = k 1 (Int32.ofNat i + 1) := by
        intro k
        refine b126_ok hin c2 (fun od => ?_)
        have em : Int32.ofNat i - Int32.ofNat i / (2 : Int32) * (2 : Int32) = Int32.ofNat (i % 2) := mdn (c := 2) (by omega) (by omega) (by omega)
        rw [em, show (1 : Int32) = Int32.ofNat 1 from rfl, ix_eq (by omega) (by omega)] at od
        have hu : i / 2 < U := by omega
        have gk := (G.2.2.1 (i / 2) hu).1
        have mv := X.2.2.2.1 (i / 2) (by omega)
        have nOK0 := I.1.2.2.2.2.1 (i / 2) hu
        have ek : kn (Int32.ofNat i / (2 : Int32)).toNatClampNeg = (h 3).1 1 (i / 2) := by rw [e2, ix_nat (by omega), hk _ hu]
        refine ⟨_, _, ek, gk, by rw [e2]; exact ou_0 I hu, nOK0, ?_⟩
        refine b219_ok ek (by rw [e2]; exact ou_1 I hu) gk (fun z => by rw [mv.1 z]; rfl) (fun z => ?_) (fun z => ?_)
        · have mv := mv.2 z
          rw [Int32.lt_iff_toInt_lt, z32, t_32 mv.1 (by omega)]; omega
        · have z9 := S.2.2.1 (i / 2) (by omega) (Or.inr z)
          rw [show 2 * (i / 2) + 1 = i by omega] at z9
          exact ⟨by rw [of_0 I q, z9.1]; rfl, by rw [of_1 I q, z9.2]; rfl⟩
      have nw : f_X6_now h = Int32.ofNat t := I.2.2.1.1
      rw [of_0 I q, show DQ (some (.inr ((h 1).2 0 i).toInt32)) = some ((h 1).2 0 i).toInt32 from rfl, Option.bind_some, if_neg c2]
      by_cases z : ((h 1).2 0 i).toInt32 = 0
      · have z64 : (h 1).2 0 i = 0 := by rw [← lF, z]; rfl
        have w0 : wm ((h 1).2 0 i) ((h 1).2 1 i) = 0 := by unfold wm; rw [if_pos z64]
        have zc : lg_cmp ((0 : Int64).toInt32).toInt64 0 = 0 := (lg_cmp_eq _ _).mpr rfl
        rw [if_pos z, if_neg c3, of_1 I q, ob_r, Option.bind_some, if_neg c4, of_2 I q, ob_r, Option.bind_some, w0, if_pos zc]
        by_cases t0 : f_X6_now h = 0
        · rw [if_pos t0, nx]; exact ih
        · have ht : 0 < t := by
            rcases Nat.eq_zero_or_pos t with e | e
            · exact absurd (by rw [nw, e]; rfl) t0
            · exact e
          rw [if_neg t0, tr_w I X q ht, ob_r, Option.bind_some, w0, if_pos zc, nx]; exact ih
      · have z64 : ¬ (h 1).2 0 i = 0 := fun y => z (by rw [y]; rfl)
        have wq : (10 * ((h 1).2 1 i).toInt32.toInt64) / ((h 1).2 0 i).toInt32.toInt64 = wm ((h 1).2 0 i) ((h 1).2 1 i) := by
          rw [lF, lH]; unfold wm; rw [if_neg z64]
        have g9 : decide (¬ ((h 1).2 0 i).toInt32.toInt64 = (0 : Int64)) = true := by rw [lF]; exact decide_eq_true z64
        rw [if_neg z, of_1 I q, ob_r, Option.bind_some, if_pos g9, if_neg c3, Option.bind_some, if_neg c4, of_2 I q, ob_r, Option.bind_some, wq, if_pos ((lg_cmp_eq _ _).mpr lW)]
        by_cases t0 : f_X6_now h = 0
        · rw [if_pos t0, nx]; exact ih
        · have ht : 0 < t := by
            rcases Nat.eq_zero_or_pos t with e | e
            · exact absurd (by rw [nw, e]; rfl) t0
            · exact e
          rw [if_neg t0, tr_w I X q ht, ob_r, Option.bind_some, if_pos ((lg_cmp_eq _ _).mpr lW), nx]; exact ih
    · rw [of_x I (by omega) (by omega), show DQ (some (.inl 3)) = some (-2100000000) from rfl, Option.bind_some, if_pos rfl, b126_ex hin]
      exact ih
theorem order_true (I : INV h mo U C t) (X : EX h U t) {kn : Nat → Int32} (hk : ∀ u, u < U → (h 3).1 1 u = kn u) : f_L_isInOrder h kn = some 1 := by
  unfold f_L_isInOrder
  rw [ag_balance I, Option.bind_some, if_pos rfl]
  exact or_lp I X hk 24 0 25 (by omega) (by omega)
end OT
