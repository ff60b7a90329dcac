/-! units and their streams: what holds always, and a unit's step -/
def TK (o : ObS) : Nat → Int := fun s => (o.1 6 s).toInt
def pa (o : ObS) (u : Nat) : Nat := (o.1 4 u).toNatClampNeg
def pb (o : ObS) (u : Nat) : Nat := (o.1 5 u).toNatClampNeg
def mst (k : Int32) : Int := if k = 0 then 999 else if k = 1 then 100 else if k = 3 then 9999 else 99999
def nOK (k n : Int32) : Prop := k = 2 ∨ (0 ≤ n.toInt ∧ n.toInt ≤ mst k)
def GU (o : ObS) (u : Nat) : Prop := (o.1 1 u = 0 ∨ o.1 1 u = 1 ∨ o.1 1 u = 2 ∨ o.1 1 u = 3 ∨ o.1 1 u = 4) ∧
  (o.1 1 u ≠ 0 → pa o u < 24 ∧ o.1 4 u = Int32.ofNat (pa o u) ∧ o.1 6 (pa o u) = Int32.ofNat u) ∧
  (o.1 1 u = 2 ∨ o.1 1 u = 3 → pb o u < 24 ∧ o.1 5 u = Int32.ofNat (pb o u) ∧ o.1 6 (pb o u) = Int32.ofNat u ∧ pa o u ≠ pb o u) ∧
  (o.1 1 u = 0 → o.1 4 u = -1) ∧ (o.1 1 u ≠ 2 → o.1 1 u ≠ 3 → o.1 5 u = -1) ∧ 0 ≤ (o.1 2 u).toInt ∧ (o.1 2 u).toInt ≤ 300
def GS (o : ObS) (U : Nat) : Prop := U ≤ 12 ∧ o.1 0 0 = Int32.ofNat U ∧ (∀ u, u < U → GU o u) ∧ ∀ s, s < 24 → o.1 6 s = -1 ∨ ∃ u, u < U ∧ o.1 6 s = Int32.ofNat u ∧ (o.1 4 u = Int32.ofNat s ∨ o.1 5 u = Int32.ofNat s)
def SI (o : ObS) (U k j : Nat) (F H : Nat → Int64) : Prop :=
  (∀ s, s < 24 → SO (300 + j) (F s) (H s) ∧ (F s).toInt ≤ 999 * j) ∧ AA (TK o) k (fun s => (F s).toInt) ≤ 999 * j ∧
  (∀ u, u < 12 → U ≤ u ∨ (o.1 1 u ≠ 1 ∧ o.1 1 u ≠ 3) → F (2 * u + 1) = 0 ∧ H (2 * u + 1) = 0) ∧ (∀ u, U ≤ u → u < 12 → F (2 * u) = 0 ∧ H (2 * u) = 0)
def xo (o : ObS) (F H : Nat → Int64) (u : Nat) (n : Int32) : Int64 × Int64 × Int64 × Int64 × Int64 := uo (o.1 1 u) n.toInt64 (o.1 2 u).toInt64 (F (pa o u)) (H (pa o u)) (F (pb o u)) (H (pb o u))
theorem GS_who {o : ObS} {U u s : Nat} (G : GS o U) (hu : u < U) (hs : s < 24) : TK o s = (u : Int) → o.1 4 u = Int32.ofNat s ∨ o.1 5 u = Int32.ofNat s := by
  intro h
  have hU := G.1
  have e : o.1 6 s = Int32.ofNat u := by rw [← Int32.toInt_inj, ix_toInt (by omega)]; exact h
  rcases G.2.2.2 s hs with h1 | ⟨v, hv, h1, h2⟩
  · rw [h1] at e
    have := (Int32.toInt_inj.mpr e); rw [ix_toInt (by omega)] at this
    have z : ((-1 : Int32).toInt) = -1 := rfl
    omega
  · rw [h1, ix_eq (by omega) (by omega)] at e
    subst e; exact h2
theorem TK_eq {o : ObS} {s u : Nat} (hu : u < 12) (h : o.1 6 s = Int32.ofNat u) : TK o s = (u : Int) := by
  show (o.1 6 s).toInt = _; rw [h, ix_toInt (by omega)]
theorem ne_m1 {s : Nat} (h : s < 24) : (-1 : Int32) ≠ Int32.ofNat s := fun e => by
  have := Int32.toInt_inj.mpr e
  rw [ix_toInt (by omega)] at this
  have z : ((-1 : Int32).toInt) = -1 := rfl
  omega
theorem st2_n {F : Nat → Int64} {u s : Nat} {a c : Int64} (h : s / 2 ≠ u) : st2 F u a c s = F s := by
  unfold st2 vp_updL; rw [if_neg (by omega), if_neg (by omega)]
theorem st2_a {F : Nat → Int64} {u : Nat} {a c : Int64} : st2 F u a c (2 * u) = a := by
  unfold st2 vp_updL; rw [if_neg (by omega), if_pos rfl]
theorem st2_c {F : Nat → Int64} {u : Nat} {a c : Int64} : st2 F u a c (2 * u + 1) = c := by
  unfold st2 vp_updL; rw [if_pos rfl]
theorem SI_fin {o : ObS} {U u j : Nat} {F H : Nat → Int64} {x : Int64 × Int64 × Int64 × Int64 × Int64} {fl ht : Int} (hU : U ≤ 12) (hu : u < U) (S : SI o U u j F H) (ok : uoOK (300 + j) x fl ht)
    (hf : (fl ≤ 999 ∧ II (TK o) u (fun s => (F s).toInt) = 0) ∨ fl = II (TK o) u (fun s => (F s).toInt)) (hz : o.1 1 u ≠ 1 ∧ o.1 1 u ≠ 3 → x.2.2.1 = 0 ∧ x.2.2.2.1 = 0) :
    SI o U (u + 1) (j + 1) (st2 F u x.1 x.2.2.1) (st2 H u x.2.1 x.2.2.2.1) ∧ AA (TK o) (u + 1) (fun s => (st2 H u x.2.1 x.2.2.2.1 s).toInt) = AA (TK o) u (fun s => (H s).toInt) + ht - II (TK o) u (fun s => (H s).toInt) := by
  obtain ⟨s1, s2, s3, s4⟩ := S
  obtain ⟨o1, o2, o3, o4, o5, o6, o7, o8⟩ := ok
  have hI := II_le (T := TK o) (k := u) (G := fun s => (F s).toInt) (fun s hs => (s1 s hs).1.1)
  have hfl : fl ≤ 999 * (j + 1) := by rcases hf with h | h <;> omega
  have eF := AA_step (T := TK o) (k := u) (G := fun s => (F s).toInt) (G' := fun s => (st2 F u x.1 x.2.2.1 s).toInt) (by omega) (fun s hs h => by show (st2 F u x.1 x.2.2.1 s).toInt = _; rw [st2_n h])
  have eH := AA_step (T := TK o) (k := u) (G := fun s => (H s).toInt) (G' := fun s => (st2 H u x.2.1 x.2.2.2.1 s).toInt) (by omega) (fun s hs h => by show (st2 H u x.2.1 x.2.2.2.1 s).toInt = _; rw [st2_n h])
  simp only [st2_a, st2_c] at eF eH
  have ej : ((300 : Int) + (j + 1 : Nat)) = 300 + j + 1 := by omega
  refine ⟨⟨fun s hs => ?_, by omega, fun v hv h => ?_, fun v h hv => ?_⟩, by omega⟩
  · by_cases h : s / 2 = u
    · have h2 : s = 2 * u ∨ s = 2 * u + 1 := by omega
      rcases h2 with rfl | rfl
      · rw [st2_a, st2_a]; exact ⟨⟨o1, o2, by rw [ej]; exact o3⟩, by omega⟩
      · rw [st2_c, st2_c]; exact ⟨⟨o4, o5, by rw [ej]; exact o6⟩, by omega⟩
    · rw [st2_n h, st2_n h]
      obtain ⟨⟨a, b, c⟩, d⟩ := s1 s hs
      refine ⟨⟨a, b, ?_⟩, by omega⟩
      have e9 : ((300 : Int) + (j + 1 : Nat)) * (F s).toInt = (300 + j) * (F s).toInt + (F s).toInt := by
        rw [show ((300 : Int) + (j + 1 : Nat)) = 300 + j + 1 by omega, Int.add_mul, Int.one_mul]
      omega
  · by_cases h1 : v = u
    · subst h1; rw [st2_c, st2_c]; exact hz (h.elim (fun q => by omega) id)
    · rw [st2_n (by omega), st2_n (by omega)]; exact s3 v hv h
  · rw [st2_n (by omega), st2_n (by omega)]; exact s4 v h hv
theorem to64 (n : Int32) : n.toInt64.toInt = n.toInt := Int32.toInt_toInt64 n
theorem st_step {o : ObS} {U u j : Nat} {F H : Nat → Int64} {n : Int32} (G : GS o U) (hu : u < U) (hn : nOK (o.1 1 u) n) (S : SI o U u j F H) (hj : j ≤ 3744) :
    SI o U (u + 1) (j + 1) (st2 F u (xo o F H u n).1 (xo o F H u n).2.2.1) (st2 H u (xo o F H u n).2.1 (xo o F H u n).2.2.2.1) ∧
    AA (TK o) (u + 1) (fun s => (st2 H u (xo o F H u n).2.1 (xo o F H u n).2.2.2.1 s).toInt) = AA (TK o) u (fun s => (H s).toInt) + (if o.1 1 u = 0 then (xo o F H u n).2.1.toInt else 0) - (if o.1 1 u = 4 then (xo o F H u n).2.2.2.2.toInt else 0) ∧
    (o.1 1 u = 3 → n.toInt64 + mn (F (pa o u)) (F (pb o u)) ≠ 0 → ¬ 10 * (n.toInt64 + mn (F (pa o u)) (F (pb o u))) = 0) := by
  have hU := G.1
  obtain ⟨gk, ga, gb, g0, g1, gd0, gd1⟩ := G.2.2.1 u hu
  have hB : (999 * j : Int) ≤ 4000000 := by omega
  have hK : (0 : Int) ≤ 300 + j := by omega
  have hK2 : (300 + j : Int) ≤ 5000 := by omega
  have hI := II_le (T := TK o) (k := u) (G := fun s => (F s).toInt) (fun s hs => (S.1 s hs).1.1)
  have hA := S.2.1
  have z : ((0 : Int64).toInt) = 0 := rfl
  rcases gk with hk | hk | hk | hk | hk
  · have hn : 0 ≤ n.toInt ∧ n.toInt ≤ 999 := by
      rcases hn with h | h
      · rw [hk] at h; exact absurd h (by decide)
      · rw [hk] at h; exact h
    have i0 : ∀ G : Nat → Int, II (TK o) u G = 0 := fun G' => II_0 (fun s hs h => by
      rcases GS_who G hu hs h with q | q
      · rw [g0 hk] at q; exact ne_m1 hs q
      · rw [g1 (by rw [hk]; decide) (by rw [hk]; decide)] at q; exact ne_m1 hs q)
    have ok := uo_0 (K := 300 + j) (n := n.toInt64) (d := (o.1 2 u).toInt64) (f1 := F (pa o u)) (h1 := H (pa o u)) (f2 := F (pb o u)) (h2 := H (pb o u)) (by omega) (by rw [to64]; exact hn.1) (by rw [to64]; exact hn.2) (by rw [to64]; exact gd0) (by rw [to64]; exact gd1)
    rw [← hk] at ok
    have ok : uoOK (300 + j) (xo o F H u n) _ _ := ok
    have fin := SI_fin hU hu S ok (Or.inl ⟨by rw [to64]; exact hn.2, i0 _⟩) (fun _ => by unfold xo; rw [hk]; exact ⟨rfl, rfl⟩)
    refine ⟨fin.1, ?_, fun h => by rw [hk] at h; exact absurd h (by decide)⟩
    have e8 := ok.2.2.2.2.2.2.2
    have e9 : (xo o F H u n).2.2.2.1.toInt = 0 := by unfold xo; rw [hk]; rfl
    rw [fin.2, i0, if_pos hk, if_neg (by rw [hk]; decide)]; omega
  · have hn : 0 ≤ n.toInt ∧ n.toInt ≤ 100 := by
      rcases hn with h | h
      · rw [hk] at h; exact absurd h (by decide)
      · rw [hk] at h; exact h
    obtain ⟨a1, a2, a3⟩ := ga (by rw [hk]; decide)
    have i1 : ∀ G : Nat → Int, II (TK o) u G = G (pa o u) := fun G' => II_1 a1 (fun s hs => ⟨fun h => by
      rcases GS_who G hu hs h with q | q
      · rw [a2, ix_eq (by omega) (by omega)] at q; exact q.symm
      · rw [g1 (by rw [hk]; decide) (by rw [hk]; decide)] at q; exact absurd q (ne_m1 hs), fun h => by subst h; exact TK_eq (by omega) a3⟩)
    rw [i1] at hI
    have ok := uo_1 (K := 300 + j) (B := 999 * j) (n := n.toInt64) (d := (o.1 2 u).toInt64) (f1 := F (pa o u)) (h1 := H (pa o u)) (f2 := F (pb o u)) (h2 := H (pb o u)) hK hK2 hB (by rw [to64]; exact hn.1) (by rw [to64]; exact hn.2) (S.1 _ a1).1 (S.1 _ a1).2
    rw [← hk] at ok
    have ok : uoOK (300 + j) (xo o F H u n) _ _ := ok
    have fin := SI_fin hU hu S ok (Or.inr (i1 (fun s => (F s).toInt)).symm) (fun q => absurd hk q.1)
    refine ⟨fin.1, ?_, fun h => by rw [hk] at h; exact absurd h (by decide)⟩
    rw [fin.2, i1, if_neg (by rw [hk]; decide), if_neg (by rw [hk]; decide)]; omega
  · obtain ⟨a1, a2, a3⟩ := ga (by rw [hk]; decide)
    obtain ⟨b1, b2, b3, b4⟩ := gb (Or.inl hk)
    have i2 : ∀ G : Nat → Int, II (TK o) u G = G (pa o u) + G (pb o u) := fun G' => II_2 a1 b1 b4 (fun s hs => ⟨fun h => by
      rcases GS_who G hu hs h with q | q
      · rw [a2, ix_eq (by omega) (by omega)] at q; exact Or.inl q.symm
      · rw [b2, ix_eq (by omega) (by omega)] at q; exact Or.inr q.symm, fun h => by
      rcases h with rfl | rfl
      · exact TK_eq (by omega) a3
      · exact TK_eq (by omega) b3⟩)
    rw [i2] at hI
    have ok := uo_2 (K := 300 + j) (B := 999 * j) (n := n.toInt64) (d := (o.1 2 u).toInt64) (f1 := F (pa o u)) (h1 := H (pa o u)) (f2 := F (pb o u)) (h2 := H (pb o u)) hK hK2 hB (S.1 _ a1).1 (S.1 _ b1).1 (by omega)
    rw [← hk] at ok
    have ok : uoOK (300 + j) (xo o F H u n) _ _ := ok
    have fin := SI_fin hU hu S ok (Or.inr (i2 (fun s => (F s).toInt)).symm) (fun _ => by unfold xo; rw [hk]; exact ⟨rfl, rfl⟩)
    refine ⟨fin.1, ?_, fun h => by rw [hk] at h; exact absurd h (by decide)⟩
    rw [fin.2, i2, if_neg (by rw [hk]; decide), if_neg (by rw [hk]; decide)]; omega
  · have hn : 0 ≤ n.toInt ∧ n.toInt ≤ 9999 := by
      rcases hn with h | h
      · rw [hk] at h; exact absurd h (by decide)
      · rw [hk] at h; exact h
    obtain ⟨a1, a2, a3⟩ := ga (by rw [hk]; decide)
    obtain ⟨b1, b2, b3, b4⟩ := gb (Or.inr hk)
    have i2 : ∀ G : Nat → Int, II (TK o) u G = G (pa o u) + G (pb o u) := fun G' => II_2 a1 b1 b4 (fun s hs => ⟨fun h => by
      rcases GS_who G hu hs h with q | q
      · rw [a2, ix_eq (by omega) (by omega)] at q; exact Or.inl q.symm
      · rw [b2, ix_eq (by omega) (by omega)] at q; exact Or.inr q.symm, fun h => by
      rcases h with rfl | rfl
      · exact TK_eq (by omega) a3
      · exact TK_eq (by omega) b3⟩)
    rw [i2] at hI
    have ok := uo_3 (K := 300 + j) (B := 999 * j) (n := n.toInt64) (d := (o.1 2 u).toInt64) (f1 := F (pa o u)) (h1 := H (pa o u)) (f2 := F (pb o u)) (h2 := H (pb o u)) hK hK2 hB (by rw [to64]; exact hn.1) (by rw [to64]; exact hn.2) (S.1 _ a1).1 (S.1 _ b1).1 (by omega)
    rw [← hk] at ok
    have ok : uoOK (300 + j) (xo o F H u n) _ _ := ok
    have fin := SI_fin hU hu S ok (Or.inr (i2 (fun s => (F s).toInt)).symm) (fun q => absurd hk q.2)
    refine ⟨fin.1, ?_, fun _ => (uo_3d hB (by rw [to64]; exact hn.1) (by rw [to64]; exact hn.2) (S.1 _ a1).1.1 (S.1 _ b1).1.1 (by omega)).2.2.2.2.2⟩
    rw [fin.2, i2, if_neg (by rw [hk]; decide), if_neg (by rw [hk]; decide)]; omega
  · have hn : 0 ≤ n.toInt := by
      rcases hn with h | h
      · rw [hk] at h; exact absurd h (by decide)
      · exact h.1
    obtain ⟨a1, a2, a3⟩ := ga (by rw [hk]; decide)
    have i1 : ∀ G : Nat → Int, II (TK o) u G = G (pa o u) := fun G' => II_1 a1 (fun s hs => ⟨fun h => by
      rcases GS_who G hu hs h with q | q
      · rw [a2, ix_eq (by omega) (by omega)] at q; exact q.symm
      · rw [g1 (by rw [hk]; decide) (by rw [hk]; decide)] at q; exact absurd q (ne_m1 hs), fun h => by subst h; exact TK_eq (by omega) a3⟩)
    rw [i1] at hI
    have ok := uo_4 (K := 300 + j) (B := 999 * j) (n := n.toInt64) (d := (o.1 2 u).toInt64) (f1 := F (pa o u)) (h1 := H (pa o u)) (f2 := F (pb o u)) (h2 := H (pb o u)) hK hK2 hB (by rw [to64]; exact hn) (S.1 _ a1).1 (S.1 _ a1).2
    rw [← hk] at ok
    have ok1 : uoOK (300 + j) (xo o F H u n) _ _ := ok.1
    have fin := SI_fin hU hu S ok1 (Or.inr (i1 (fun s => (F s).toInt)).symm) (fun _ => by unfold xo; rw [hk]; exact ⟨rfl, rfl⟩)
    refine ⟨fin.1, ?_, fun h => by rw [hk] at h; exact absurd h (by decide)⟩
    have e9 : (xo o F H u n).2.2.2.2 = mn (H (pa o u)) n.toInt64 := by unfold xo; rw [hk]; rfl
    rw [fin.2, i1, if_neg (by rw [hk]; decide), if_pos hk, e9]; omega
