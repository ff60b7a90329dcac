/-! the balance -/
theorem o_add (a : Int) (x : Int64) : Int64.ofInt a + x = Int64.ofInt (a + x.toInt) := by
  rw [Int64.ofInt_add, Int64.ofInt_toInt]
theorem ix_ltx {i : Nat} {x : Int32} (h : i < 2147483648) : (Int32.ofNat i < x) ↔ (i : Int) < x.toInt := by
  rw [Int32.lt_iff_toInt_lt, ix_toInt h]
theorem m1_iff {x : Int32} : x = -1 ↔ x.toInt = -1 := ⟨fun h => by rw [h]; rfl, fun h => Int32.toInt_inj.mp h⟩
def gUn (o : ObS) (H : Nat → Int64) (s : Nat) : Int := if TK o s = -1 then (H s).toInt else 0
def gHe (o : ObS) (H : Nat → Int64) (s : Nat) : Int := if TK o s = -1 then 0 else if ((s / 2 : Nat) : Int) < TK o s then 0 else (H s).toInt
def gMa (o : ObS) (H : Nat → Int64) (v : Nat) : Int := if o.1 1 v = 0 then (H (2 * v)).toInt else 0
def gCo (o : ObS) (M : Nat → Int64) (v : Nat) : Int := if o.1 1 v = 4 then (M v).toInt else 0
theorem un_lp (o o1 : ObS) : ∀ (d s f : Nat), s + d = 24 → d < f → f_X5_heatUntaken_b5 o o1 f (Int32.ofNat s) (Int64.ofInt (sm s (gUn o (o1.2 1)))) = some (Int64.ofInt (sm 24 (gUn o (o1.2 1))))
  | d, s, 0, h, hf => by omega
  | 0, s, f + 1, h, hf => by
    obtain rfl : s = 24 := by omega
    rfl
  | d + 1, s, f + 1, h, hf => by
    have hs : s < 24 := by omega
    have a1 : ¬ 24 ≤ s := by omega
    rw [← un_lp o o1 d (s + 1) f (by omega) (by omega)]
    conv => lhs; unfold f_X5_heatUntaken_b5
    show _ = f_X5_heatUntaken_b5 o o1 f _ (Int64.ofInt (sm s (gUn o (o1.2 1)) + gUn o (o1.2 1) s))
    by_cases q : o.1 6 s = -1
    · have q2 : TK o s = -1 := m1_iff.mp q
      simp (disch := omega) [ix_lt1, ix_le1, ix_lt2, ix_le2, ix_eq1, ix_eq2, ix_lt, ix_le, ix_eq, ix_inb, ix_nat, ix_suc, ix_dbl, -Int32.ofNat_add, -Int32.ofNat_mul, a1, hs, q, s_heat hs, o_add, -Int64.ofInt_add, -Int64.ofInt_toInt, gUn, q2]
    · have q2 : ¬ TK o s = -1 := fun z => q (m1_iff.mpr z)
      simp (disch := omega) [ix_lt1, ix_le1, ix_lt2, ix_le2, ix_eq1, ix_eq2, ix_lt, ix_le, ix_eq, ix_inb, ix_nat, ix_suc, ix_dbl, -Int32.ofNat_add, -Int32.ofNat_mul, a1, hs, q, gUn, q2]
theorem he_lp (o o1 : ObS) : ∀ (d s f : Nat), s + d = 24 → d < f → f_X5_heatHeldOver_b5 o o1 f (Int32.ofNat s) (Int64.ofInt (sm s (gHe o (o1.2 1)))) = some (Int64.ofInt (sm 24 (gHe o (o1.2 1))))
  | d, s, 0, h, hf => by omega
  | 0, s, f + 1, h, hf => by
    obtain rfl : s = 24 := by omega
    rfl
  | d + 1, s, f + 1, h, hf => by
    have hs : s < 24 := by omega
    have a1 : ¬ 24 ≤ s := by omega
    rw [← he_lp o o1 d (s + 1) f (by omega) (by omega)]
    conv => lhs; unfold f_X5_heatHeldOver_b5
    show _ = f_X5_heatHeldOver_b5 o o1 f _ (Int64.ofInt (sm s (gHe o (o1.2 1)) + gHe o (o1.2 1) s))
    by_cases q : o.1 6 s = -1
    · have q2 : TK o s = -1 := m1_iff.mp q
      simp (disch := omega) [ix_lt1, ix_le1, ix_lt2, ix_le2, ix_eq1, ix_eq2, ix_lt, ix_le, ix_eq, ix_inb, ix_nat, ix_suc, ix_dbl, -Int32.ofNat_add, -Int32.ofNat_mul, a1, hs, q, gHe, q2]
    · have q2 : ¬ TK o s = -1 := fun z => q (m1_iff.mpr z)
      by_cases q3 : ((s / 2 : Nat) : Int) < TK o s
      · have q4 : Int32.ofNat (s / 2) < o.1 6 s := (ix_ltx (by omega)).mpr q3
        rw [show gHe o (o1.2 1) s = 0 by unfold gHe; rw [if_neg q2, if_pos q3]]
        simp (disch := omega) [ix_lt1, ix_le1, ix_lt2, ix_le2, ix_eq1, ix_eq2, ix_lt, ix_le, ix_eq, ix_inb, ix_nat, ix_suc, ix_dbl, -Int32.ofNat_add, -Int32.ofNat_mul, a1, hs, q, ix_half, q4]
      · have q4 : ¬ Int32.ofNat (s / 2) < o.1 6 s := fun z => q3 ((ix_ltx (by omega)).mp z)
        rw [show gHe o (o1.2 1) s = (o1.2 1 s).toInt by unfold gHe; rw [if_neg q2, if_neg q3]]
        simp (disch := omega) [ix_lt1, ix_le1, ix_lt2, ix_le2, ix_eq1, ix_eq2, ix_lt, ix_le, ix_eq, ix_inb, ix_nat, ix_suc, ix_dbl, -Int32.ofNat_add, -Int32.ofNat_mul, a1, hs, q, ix_half, q4, s_heat hs, o_add, -Int64.ofInt_add, -Int64.ofInt_toInt]
theorem ma_lp (o o1 : ObS) {U : Nat} (hc : o.1 0 0 = Int32.ofNat U) (hU : U ≤ 12) : ∀ (d u f : Nat), u + d = U → d < f → f_X5_heatMade_b5 o o1 f (Int32.ofNat u) (Int64.ofInt (sm u (gMa o (o1.2 1)))) = some (Int64.ofInt (sm U (gMa o (o1.2 1))))
  | d, u, 0, h, hf => by omega
  | 0, u, f + 1, h, hf => by
    obtain rfl : u = U := by omega
    unfold f_X5_heatMade_b5
    rw [hc, if_pos ((ix_le (by omega) (by omega)).mpr (Nat.le_refl _))]
  | d + 1, u, f + 1, h, hf => by
    have hs : u < 12 := by omega
    have h2 : 2 * u < 24 := by omega
    have a1 : ¬ 12 ≤ u := by omega
    have a2 : ¬ U ≤ u := by omega
    rw [← ma_lp o o1 hc hU d (u + 1) f (by omega) (by omega)]
    conv => lhs; unfold f_X5_heatMade_b5
    show _ = f_X5_heatMade_b5 o o1 f _ (Int64.ofInt (sm u (gMa o (o1.2 1)) + gMa o (o1.2 1) u))
    by_cases q : o.1 1 u = 0
    · simp (disch := omega) [hc, ix_lt1, ix_le1, ix_lt2, ix_le2, ix_eq1, ix_eq2, ix_lt, ix_le, ix_eq, ix_inb, ix_nat, ix_suc, ix_dbl, -Int32.ofNat_add, -Int32.ofNat_mul, a1, a2, hs, q, s_heat h2, o_add, -Int64.ofInt_add, -Int64.ofInt_toInt, gMa]
    · simp (disch := omega) [hc, ix_lt1, ix_le1, ix_lt2, ix_le2, ix_eq1, ix_eq2, ix_lt, ix_le, ix_eq, ix_inb, ix_nat, ix_suc, ix_dbl, -Int32.ofNat_add, -Int32.ofNat_mul, a1, a2, hs, q, gMa]
theorem co_lp (o : ObS) {U : Nat} (hc : o.1 0 0 = Int32.ofNat U) (hU : U ≤ 12) : ∀ (d u f : Nat), u + d = U → d < f → f_X5_heatCooledAway_b4 o f (Int32.ofNat u) (Int64.ofInt (sm u (gCo o (o.2 7)))) = some (Int64.ofInt (sm U (gCo o (o.2 7))))
  | d, u, 0, h, hf => by omega
  | 0, u, f + 1, h, hf => by
    obtain rfl : u = U := by omega
    unfold f_X5_heatCooledAway_b4
    rw [hc, if_pos ((ix_le (by omega) (by omega)).mpr (Nat.le_refl _))]
  | d + 1, u, f + 1, h, hf => by
    have hs : u < 12 := by omega
    have a1 : ¬ 12 ≤ u := by omega
    have a2 : ¬ U ≤ u := by omega
    rw [← co_lp o hc hU d (u + 1) f (by omega) (by omega)]
    conv => lhs; unfold f_X5_heatCooledAway_b4
    show _ = f_X5_heatCooledAway_b4 o f _ (Int64.ofInt (sm u (gCo o (o.2 7)) + gCo o (o.2 7) u))
    by_cases q : o.1 1 u = 4
    · simp (disch := omega) [hc, ix_lt1, ix_le1, ix_lt2, ix_le2, ix_eq1, ix_eq2, ix_lt, ix_le, ix_eq, ix_inb, ix_nat, ix_suc, ix_dbl, -Int32.ofNat_add, -Int32.ofNat_mul, a1, a2, hs, q, o_add, -Int64.ofInt_add, -Int64.ofInt_toInt, gCo]
    · simp (disch := omega) [hc, ix_lt1, ix_le1, ix_lt2, ix_le2, ix_eq1, ix_eq2, ix_lt, ix_le, ix_eq, ix_inb, ix_nat, ix_suc, ix_dbl, -Int32.ofNat_add, -Int32.ofNat_mul, a1, a2, hs, q, gCo]
theorem TK_ge {o : ObS} {U s : Nat} (G : GS o U) (hs : s < 24) : TK o s = -1 ∨ (0 ≤ TK o s ∧ TK o s < U) := by
  have hU := G.1
  rcases G.2.2.2 s hs with h | ⟨u, hu, h, _⟩
  · exact Or.inl (m1_iff.mp h)
  · right; rw [TK_eq (by omega) h]; omega
theorem AA_0 {o : ObS} {U : Nat} {H : Nat → Int64} (G : GS o U) : AA (TK o) 0 (fun s => (H s).toInt) = sm 24 (gHe o H) := sm_ext (fun s hs => by
  unfold gHe
  rcases TK_ge G hs with h | ⟨h1, h2⟩
  · rw [if_pos h, if_neg (fun q => by rcases q with q | q <;> omega)]
  · rw [if_neg (show ¬ TK o s = -1 by omega)]
    by_cases q : ((s / 2 : Nat) : Int) < TK o s
    · rw [if_pos q, if_neg (fun z => by rcases z with z | z <;> omega)]
    · rw [if_neg q, if_pos (Or.inr ⟨by omega, by omega, by omega⟩)])
theorem AA_U {o : ObS} {U j : Nat} {F H : Nat → Int64} (G : GS o U) (S : SI o U U j F H) : AA (TK o) U (fun s => (H s).toInt) = sm 24 (gUn o H) + sm 24 (gHe o H) := by
  rw [← sm_add]
  refine sm_ext (fun s hs => ?_)
  have hz : U ≤ s / 2 → (H s).toInt = 0 := by
    intro h
    have e : s = 2 * (s / 2) ∨ s = 2 * (s / 2) + 1 := by omega
    rcases e with e | e
    · have := (S.2.2.2 (s / 2) h (by omega)).2; rw [e, this]; rfl
    · have := (S.2.2.1 (s / 2) (by omega) (Or.inl h)).2; rw [e, this]; rfl
  unfold gUn gHe
  rcases TK_ge G hs with h | ⟨h1, h2⟩
  · rw [if_pos h, if_pos h]
    by_cases q : s / 2 < U
    · rw [if_pos (Or.inl ⟨q, by omega⟩)]; exact (Int.add_zero _).symm
    · have := hz (by omega)
      show (if _ then (H s).toInt else 0) = _
      rw [this]; split <;> rfl
  · rw [if_neg (show ¬ TK o s = -1 by omega), if_neg (show ¬ TK o s = -1 by omega)]
    by_cases q : s / 2 < U
    · by_cases q2 : ((s / 2 : Nat) : Int) < TK o s
      · rw [if_pos q2, if_neg (fun z => by rcases z with z | z <;> omega)]; rfl
      · rw [if_neg q2, if_pos (Or.inl ⟨q, by omega⟩)]; exact (Int.zero_add _).symm
    · have := hz (by omega)
      show (if _ then (H s).toInt else 0) = _
      rw [this]; split <;> split <;> rfl
/-- the balance is none -/
theorem bal_0 {h : Nat → ObS} {U j : Nat} {base : Int} (G : GS (h 3) U) (S : SI (h 3) U U j ((h 1).2 0) ((h 1).2 1)) (hb : HB (h 3) U base ((h 1).2 1) ((h 3).2 7)) (hh : (h 0).2 8 0 = Int64.ofInt base) : f_X6_balance h = some 0 := by
  have e1 := he_lp (h 3) (h 1) 24 0 64 (by omega) (by omega)
  have e2 := ma_lp (h 3) (h 1) G.2.1 G.1 U 0 64 (by omega) (by have := G.1; omega)
  have e3 := un_lp (h 3) (h 1) 24 0 64 (by omega) (by omega)
  have e4 := co_lp (h 3) G.2.1 G.1 U 0 64 (by omega) (by have := G.1; omega)
  have hk := AA_U G S
  unfold HB at hb
  rw [hk] at hb
  have z : Int64.ofInt (sm 0 (fun _ => 0)) = 0 := rfl
  unfold f_X6_balance f_X5_heatHeldOver f_X5_heatMade f_X5_heatUntaken f_X5_heatCooledAway
  rw [show f_X5_heatHeldOver_b5 (h 3) (h 1) 64 0 0 = _ from e1, Option.bind_some, show f_X5_heatMade_b5 (h 3) (h 1) 64 0 0 = _ from e2, Option.bind_some, show f_X5_heatUntaken_b5 (h 3) (h 1) 64 0 0 = _ from e3, Option.bind_some, show f_X5_heatCooledAway_b4 (h 3) 64 0 0 = _ from e4, Option.bind_some, hh, ← Int64.ofInt_sub, ← Int64.ofInt_sub, ← Int64.ofInt_sub, ← Int64.ofInt_sub]
  have e5 : sm U (gMa (h 3) ((h 1).2 1)) - sm 24 (gUn (h 3) ((h 1).2 1)) - sm U (gCo (h 3) ((h 3).2 7)) - (sm 24 (gHe (h 3) ((h 1).2 1)) - base) = 0 := by
    have q1 : sm U (gMa (h 3) ((h 1).2 1)) = sm U (fun v => if (h 3).1 1 v = 0 then ((h 1).2 1 (2 * v)).toInt else 0) := rfl
    have q2 : sm U (gCo (h 3) ((h 3).2 7)) = sm U (fun v => if (h 3).1 1 v = 4 then ((h 3).2 7 v).toInt else 0) := rfl
    omega
  rw [e5]; rfl
