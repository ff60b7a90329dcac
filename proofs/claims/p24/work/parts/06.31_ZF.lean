/-! a new unit; another stream for a unit -/
def Tk (mo : ObS) (U : Nat) (x : Int32) : Prop := ∃ v, v < U ∧ (mo.1 6 v = x ∨ mo.1 7 v = x)
theorem it_lp {mo : ObS} {U : Nat} {x : Int32} (h0 : mo.1 2 0 = Int32.ofNat U) (hU : U ≤ 12) : ∀ (d u f : Nat) (a : Int32), u + d = U → d < f → (a = 0 ∨ a = 1) → ∃ r, f_X7_isTaken_b4 mo x f (Int32.ofNat u) a = some r ∧ (r = 0 ∨ r = 1) ∧ (r = 1 ↔ a = 1 ∨ ∃ v, u ≤ v ∧ v < U ∧ (mo.1 6 v = x ∨ mo.1 7 v = x))
  | d, u, 0, a, h, hf, ha => by omega
  | 0, u, f + 1, a, h, hf, ha => by
    obtain rfl : u = U := by omega
    refine ⟨a, ?_, ha, ⟨Or.inl, fun z => ?_⟩⟩
    · unfold f_X7_isTaken_b4
      rw [h0, if_pos ((ix_le (by omega) (by omega)).mpr (Nat.le_refl _))]
      rcases ha with rfl | rfl <;> rfl
    · rcases z with z | ⟨v, h1, h2, _⟩
      · exact z
      · omega
  | d + 1, u, f + 1, a, h, hf, ha => by
    have a1 : ¬ U ≤ u := by omega
    have a3 : u < 12 := by omega
    have step : ∀ a' : Int32, (a' = 0 ∨ a' = 1) → (a' = 1 ↔ a = 1 ∨ mo.1 6 u = x ∨ mo.1 7 u = x) → f_X7_isTaken_b4 mo x (f + 1) (Int32.ofNat u) a = f_X7_isTaken_b4 mo x f (Int32.ofNat (u + 1)) a' → ∃ r, f_X7_isTaken_b4 mo x (f + 1) (Int32.ofNat u) a = some r ∧ (r = 0 ∨ r = 1) ∧ (r = 1 ↔ a = 1 ∨ ∃ v, u ≤ v ∧ v < U ∧ (mo.1 6 v = x ∨ mo.1 7 v = x)) := by
      intro a' ha' he hs
      obtain ⟨r, r1, r2, r3⟩ := it_lp h0 hU d (u + 1) f a' (by omega) (by omega) ha'
      refine ⟨r, by rw [hs]; exact r1, r2, r3.trans ⟨fun z => ?_, fun z => ?_⟩⟩
      · rcases z with z | ⟨v, h1, h2, h3⟩
        · rcases he.mp z with z | z
          · exact Or.inl z
          · exact Or.inr ⟨u, Nat.le_refl _, by omega, z⟩
        · exact Or.inr ⟨v, by omega, h2, h3⟩
      · rcases z with z | ⟨v, h1, h2, h3⟩
        · exact Or.inl (he.mpr (Or.inl z))
        · by_cases h9 : v = u
          · subst h9; exact Or.inl (he.mpr (Or.inr h3))
          · exact Or.inr ⟨v, by omega, h2, h3⟩
    rcases ha with rfl | rfl
    · by_cases q1 : mo.1 6 u = x
      · refine step 1 (Or.inr rfl) ⟨fun _ => Or.inr (Or.inl q1), fun _ => rfl⟩ ?_
        conv => lhs; unfold f_X7_isTaken_b4
        simp (disch := omega) [h0, ix_lt1, ix_le1, ix_lt2, ix_le2, ix_eq1, ix_eq2, ix_lt, ix_le, ix_eq, ix_inb, ix_nat, ix_suc, ix_dbl, -Int32.ofNat_add, -Int32.ofNat_mul, a1, a3, q1]
      · by_cases q2 : mo.1 7 u = x
        · refine step 1 (Or.inr rfl) ⟨fun _ => Or.inr (Or.inr q2), fun _ => rfl⟩ ?_
          conv => lhs; unfold f_X7_isTaken_b4
          simp (disch := omega) [h0, ix_lt1, ix_le1, ix_lt2, ix_le2, ix_eq1, ix_eq2, ix_lt, ix_le, ix_eq, ix_inb, ix_nat, ix_suc, ix_dbl, -Int32.ofNat_add, -Int32.ofNat_mul, a1, a3, q1, q2]
        · refine step 0 (Or.inl rfl) ⟨fun z => absurd z (by decide), fun z => z.elim (fun z => absurd z (by decide)) (fun z => z.elim (fun z => absurd z q1) (fun z => absurd z q2))⟩ ?_
          conv => lhs; unfold f_X7_isTaken_b4
          simp (disch := omega) [h0, ix_lt1, ix_le1, ix_lt2, ix_le2, ix_eq1, ix_eq2, ix_lt, ix_le, ix_eq, ix_inb, ix_nat, ix_suc, ix_dbl, -Int32.ofNat_add, -Int32.ofNat_mul, a1, a3, q1, q2]
    · refine step 1 (Or.inr rfl) ⟨fun _ => Or.inl rfl, fun _ => rfl⟩ ?_
      conv => lhs; unfold f_X7_isTaken_b4
      simp (disch := omega) [h0, ix_lt1, ix_le1, ix_lt2, ix_le2, ix_eq1, ix_eq2, ix_lt, ix_le, ix_eq, ix_inb, ix_nat, ix_suc, ix_dbl, -Int32.ofNat_add, -Int32.ofNat_mul, a1]
theorem it_ok {mo : ObS} {U : Nat} (x : Int32) (h0 : mo.1 2 0 = Int32.ofNat U) (hU : U ≤ 12) : (Tk mo U x → f_X7_isTaken mo x = some 1) ∧ (¬ Tk mo U x → f_X7_isTaken mo x = some 0) := by
  obtain ⟨r, r1, r2, r3⟩ := it_lp (x := x) h0 hU U 0 64 0 (by omega) (by omega) (Or.inl rfl)
  have e : r = 1 ↔ Tk mo U x := r3.trans ⟨fun z => by
    rcases z with z | ⟨v, _, h2, h3⟩
    · exact absurd z (by decide)
    · exact ⟨v, h2, h3⟩, fun ⟨v, h2, h3⟩ => Or.inr ⟨v, by omega, h2, h3⟩⟩
  unfold f_X7_isTaken
  rw [show f_X7_isTaken_b4 mo x 64 0 0 = _ from r1]
  refine ⟨fun z => by rw [e.mpr z], fun z => ?_⟩
  rcases r2 with rfl | rfl
  · rfl
  · exact absurd (e.mp rfl) z
theorem free_ok {h : Nat → ObS} {mo : ObS} {U s : Nat} (G : GS (h 3) U) (R : UR (h 3) mo) (hs : s < 2147483648) : (Tk mo U (Int32.ofNat s) → f_X6_needFreeStream h (Int32.ofNat s) = some (.inl 2)) ∧ (¬ Tk mo U (Int32.ofNat s) → f_X6_needFreeStream h (Int32.ofNat s) = some (.inr ())) := by
  have hU := G.1
  obtain ⟨-, rk, -, r4, r5⟩ := R
  have key : Tk mo U (Int32.ofNat s) ↔ s < 24 ∧ (h 3).1 6 s ≠ -1 := by
    constructor
    · rintro ⟨v, hv, q⟩
      rw [← r4, ← r5] at q
      have gu := G.2.2.1 v hv
      rcases q with q | q
      · have hk0 : (h 3).1 1 v ≠ 0 := fun z => by
          rw [gu.2.2.2.1 z] at q
          have := Int32.toInt_inj.mpr q; rw [ix_toInt hs] at this
          have z : ((-1 : Int32).toInt) = -1 := rfl
          omega
        obtain ⟨b1, b2, b3⟩ := gu.2.1 hk0
        rw [b2, ix_eq (by omega) hs] at q
        subst q
        exact ⟨b1, by rw [b3]; exact ofn_m1 (by omega)⟩
      · have hk2 : (h 3).1 1 v = 2 ∨ (h 3).1 1 v = 3 := by
          apply Classical.byContradiction
          intro z
          rw [gu.2.2.2.2.1 (fun a => z (Or.inl a)) (fun a => z (Or.inr a))] at q
          have := Int32.toInt_inj.mpr q; rw [ix_toInt hs] at this
          have z : ((-1 : Int32).toInt) = -1 := rfl
          omega
        obtain ⟨b1, b2, b3, -⟩ := gu.2.2.1 hk2
        rw [b2, ix_eq (by omega) hs] at q
        subst q
        exact ⟨b1, by rw [b3]; exact ofn_m1 (by omega)⟩
    · rintro ⟨q1, q2⟩
      rcases G.2.2.2 s q1 with q | ⟨v, hv, _, q⟩
      · exact absurd q q2
      · rw [r4, r5] at q; exact ⟨v, hv, q⟩
  unfold f_X6_needFreeStream f_X5_isTaken f_X3_isThere
  have n0 : ¬ Int32.ofNat s < 0 := by rw [show (0 : Int32) = Int32.ofNat 0 from rfl, ix_lt hs (by omega)]; omega
  constructor
  · intro z
    obtain ⟨q1, q2⟩ := key.mp z
    have q3 : ¬ 24 ≤ s := by omega
    rw [if_neg n0]
    simp (disch := omega) [ix_lt1, ix_le1, ix_lt2, ix_le2, ix_eq1, ix_eq2, ix_lt, ix_le, ix_eq, ix_inb, ix_nat, ix_suc, ix_dbl, -Int32.ofNat_add, -Int32.ofNat_mul, q1, q2, q3]
  · intro z
    rw [if_neg n0]
    by_cases q1 : s < 24
    · have q2 : (h 3).1 6 s = -1 := Classical.byContradiction (fun y => z (key.mpr ⟨q1, y⟩))
      have q3 : ¬ 24 ≤ s := by omega
      simp (disch := omega) [ix_lt1, ix_le1, ix_lt2, ix_le2, ix_eq1, ix_eq2, ix_lt, ix_le, ix_eq, ix_inb, ix_nat, ix_suc, ix_dbl, -Int32.ofNat_add, -Int32.ofNat_mul, q1, q2, q3]
    · have q3 : 24 ≤ s := by omega
      simp (disch := omega) [ix_lt1, ix_le1, ix_lt2, ix_le2, ix_eq1, ix_eq2, ix_lt, ix_le, ix_eq, ix_inb, ix_nat, ix_suc, ix_dbl, -Int32.ofNat_add, -Int32.ofNat_mul, q3]
theorem SI_z {o : ObS} {U k j : Nat} {F H : Nat → Int64} (z : ∀ s, F s = 0 ∧ H s = 0) : SI o U k j F H := by
  have e0 : ((0 : Int64).toInt) = 0 := rfl
  refine ⟨fun s hs => ?_, ?_, fun u _ _ => z _, fun u _ _ => z _⟩
  · rw [(z s).1, (z s).2]
    refine ⟨⟨by rw [e0]; exact Int.le_refl 0, by rw [e0]; exact Int.le_refl 0, by rw [e0]; omega⟩, by rw [e0]; omega⟩
  · have : AA (TK o) k (fun s => (F s).toInt) = sm 24 (fun i => if i = 24 then 0 else 0) := sm_ext (fun s hs => by dsimp only; rw [(z s).1, e0]; simp)
    rw [this, sm_pt, if_neg (by omega)]; omega
theorem HB_z {o : ObS} {u : Nat} {H M : Nat → Int64} (z : ∀ s, H s = 0) (m : ∀ u, M u = 0) : HB o u 0 H M := by
  have e0 : ((0 : Int64).toInt) = 0 := rfl
  have e1 : AA (TK o) u (fun s => (H s).toInt) = sm 24 (fun i => if i = 24 then 0 else 0) := sm_ext (fun s hs => by dsimp only; rw [z s, e0]; simp)
  have e2 : sm u (fun v => if o.1 1 v = 0 then (H (2 * v)).toInt else 0) = sm u (fun i => if i = u then 0 else 0) := sm_ext (fun v hv => by rw [z, e0]; simp)
  have e3 : sm u (fun v => if o.1 1 v = 4 then (M v).toInt else 0) = sm u (fun i => if i = u then 0 else 0) := sm_ext (fun v hv => by rw [m, e0]; simp)
  unfold HB
  rw [e1, e2, e3, sm_pt, sm_pt, if_neg (by omega), if_neg (by omega)]; rfl
theorem INV_g {h : Nat → ObS} {mo mo' o' : ObS} {U U' C : Nat} (I : INV h mo U C 0) (hUU : U ≤ U') (G' : GS o' U') (R' : UR o' mo') (c1 : o'.1 3 = mo'.1 4) (c2 : o'.1 8 = (h 3).1 8) (c3 : ∀ u, u < U' → nOK (o'.1 1 u) (o'.1 3 u)) (c4 : o'.2 = (h 3).2) (c5 : ∀ u, u < U → o'.1 1 u = (h 3).1 1 u)
    (b1 : ∀ j, j = 1 ∨ 8 ≤ j → mo'.1 j = mo.1 j) (b2 : mo'.2 = mo.2) : INV (hu h 3 o') mo' U' C 0 := by
  obtain ⟨⟨G, R, n1, n2, n3, n4, n5⟩, ⟨f0, f1, S, t1, z0'⟩, ⟨t2, t3⟩, B, ⟨N, P⟩, ⟨A, IAl, hA⟩, IC0, IR0⟩ := I
  obtain ⟨zs, zm, zh⟩ := z0' rfl
  refine ⟨⟨G', R', c1, ?_, c3, by rw [b1 9 (by omega)]; exact n4, ?_⟩, ⟨by rw [b2]; exact f0, by rw [b2]; exact f1, ⟨0, by omega, SI_z zs⟩, by omega, ?_⟩, ⟨t2, by rw [b1 1 (by omega)]; exact t3⟩, ⟨0, zh, HB_z (fun s => (zs s).2) (fun u => ?_)⟩, ⟨N, ?_⟩, ⟨A, IA_co IAl (fun k _ => b1 k (by omega)), by rw [b1 35 (by omega)]; exact hA⟩, ?_, ?_⟩
  · show o'.1 8 = _; rw [c2, b1 9 (by omega)]; exact n2
  · intro v; show (o'.2 7 v).toInt32 = _; rw [c4, b1 8 (by omega)]; exact n5 v
  · intro _; exact ⟨zs, fun u => by show o'.2 7 u = 0; rw [c4]; exact zm u, zh⟩
  · show o'.2 7 u = 0; rw [c4]; exact zm u
  · show IP (h 6) mo' (o'.1 1) U' N
    obtain ⟨p0, p1, p2, p3⟩ := IP_co P (mo' := mo') (fun k _ _ => b1 k (by omega))
    refine ⟨p0, p1, p2, fun i hi => ?_⟩
    obtain ⟨a, b, c, u, hu1, d, e⟩ := p3 i hi
    exact ⟨a, b, c, u, by omega, d, by rw [c5 u hu1]; exact e⟩
  · show IC (h 4) mo' (o'.1 1) U' C
    obtain ⟨i1, i2, i3, i4, i5, i14, i15, i16⟩ := IC_co IC0 (mo' := mo') (fun k _ _ => b1 k (by omega)) (fun k _ => by rw [b2])
    refine ⟨i1, i2, i3, i4, i5, fun k hk => ?_, i15, i16⟩
    obtain ⟨⟨s, hs, p1⟩, p2, p3, p4, p6⟩ := i14 k hk
    refine ⟨⟨s, by omega, p1⟩, p2, p3, p4, ?_⟩
    rcases p6 with ⟨u, hu1, q1, q2⟩ | q
    · exact Or.inl ⟨u, by omega, q1, by rw [c5 u hu1]; exact q2⟩
    · exact Or.inr q
  · have hl : (h 7).1 1 0 = 0 := by
      rcases IR0.1 with ⟨_, a⟩ | ⟨a, _⟩
      · exact a
      · omega
    exact ⟨Or.inl ⟨rfl, hl⟩, fun r s hr => by omega⟩
