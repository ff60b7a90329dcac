theorem cp_lp (o1 : ObS) : ∀ (d s f : Nat) (o : ObS), s + d = 24 → d < f → ∃ o' : ObS, f_X3_copyFrom_b2 o1 f (Int32.ofNat s) o = some o' ∧ (∀ i, s ≤ i → i < 24 → o'.2 0 i = o1.2 0 i ∧ o'.2 1 i = o1.2 1 i) ∧ (∀ i, i < s → o'.2 0 i = o.2 0 i ∧ o'.2 1 i = o.2 1 i)
  | d, s, 0, o, h, hf => by omega
  | 0, s, f + 1, o, h, hf => by
    obtain rfl : s = 24 := by omega
    exact ⟨o, rfl, fun i h1 h2 => by omega, fun i _ => ⟨rfl, rfl⟩⟩
  | d + 1, s, f + 1, o, h, hf => by
    have a1 : ¬ 24 ≤ s := by omega
    have a3 : s < 24 := by omega
    obtain ⟨o', e, e1, e2⟩ := cp_lp o1 d (s + 1) f (oj (oj o 0 s (o1.2 0 s)) 1 s (o1.2 1 s)) (by omega) (by omega)
    refine ⟨o', ?_, fun i h1 h2 => ?_, fun i h1 => ?_⟩
    · conv => lhs; unfold f_X3_copyFrom_b2
      rw [← e]
      simp (disch := omega) [ix_lt1, ix_le1, ix_lt2, ix_le2, ix_eq1, ix_eq2, ix_lt, ix_le, ix_eq, ix_inb, ix_nat, ix_suc, ix_dbl, -Int32.ofNat_add, -Int32.ofNat_mul, a1, a3]
    · by_cases h9 : i = s
      · subst h9
        obtain ⟨p, q⟩ := e2 i (by omega)
        rw [p, q]; simp [oj_j, vp_updL]
      · exact e1 i (by omega) h2
    · obtain ⟨p, q⟩ := e2 i (by omega)
      have : ¬ i = s := by omega
      rw [p, q]; simp [oj_j, vp_updL, this]
theorem hu_hu (h : Nat → ObS) (i : Nat) (a b : ObS) : hu (hu h i a) i b = hu h i b := by
  funext k; unfold hu
  by_cases z : k = i
  · subst z; simp
  · rw [beq_no z]; simp [beq_no z]
def nm (o : ObS) (u : Nat) (n : Int32) : Nat → Int32 := fun v => if v = u then n else o.1 3 v
/-- the trial's pass -/
theorem cw24 {o3 : ObS} {U u : Nat} {n : Int32} (G : GS o3 U) (hu9 : u < U) (hn : ∀ v, v < U → nOK (o3.1 1 v) (nm o3 u n v)) (k : Int32 → (Nat → ObS) → Option (Int64 × (Nat → ObS))) (i : Nat) : ∀ (d v j f : Nat) (h : Nat → ObS), h 3 = o3 → v + d = U → j + d ≤ 3745 → d < f → SI o3 U v j ((h 2).2 0) ((h 2).2 1) →
    ∃ o2 : ObS, f_X6_warmthLater_b24 k (Int32.ofNat u) n (Int32.ofNat i) f (Int32.ofNat v) h = k (Int32.ofNat (i + 1)) (hu h 2 o2) ∧ o2.2 0 = (pz o3 (nm o3 u n) d v ((h 2).2 0, (h 2).2 1, fun _ => 0)).1 ∧ o2.2 1 = (pz o3 (nm o3 u n) d v ((h 2).2 0, (h 2).2 1, fun _ => 0)).2.1
  | d, v, j, 0, h, h3, hv, hj, hf, S => by omega
  | 0, v, j, f + 1, h, h3, hv, hj, hf, S => by
    obtain rfl : v = U := by omega
    have hU := G.1
    refine ⟨h 2, ?_, rfl, rfl⟩
    unfold f_X6_warmthLater_b24 f_X5_count
    rw [h3, G.2.1, if_pos ((ix_le (by omega) (by omega)).mpr (Nat.le_refl _)), ix_suc]
    have : hu h 2 (h 2) = h := by
      funext i; unfold hu; by_cases z : i = 2
      · subst z; rfl
      · rw [beq_no z]; rfl
    rw [this]
  | d + 1, v, j, f + 1, h, h3, hv, hj, hf, S => by
    have hU := G.1
    have b1 : ¬ Int32.ofNat U ≤ Int32.ofNat v := fun z => by have := (ix_le (by omega) (by omega)).mp z; omega
    obtain ⟨o1', e1, e2, e3⟩ := c_stp (o1 := h 2) G (show v < U by omega) (hn v (by omega)) S (by omega)
    have st := st_step G (show v < U by omega) (hn v (by omega)) S (by omega)
    rw [← e2, ← e3] at st
    obtain ⟨o2, r1, r2, r3⟩ := cw24 G hu9 hn k i d (v + 1) (j + 1) f (hu h 2 o1') h3 (by omega) (by omega) (by omega) st.1
    rw [hu_hu] at r1
    have pm := pz_M (o := o3) (num := nm o3 u n) d (v + 1) (st2 ((h 2).2 0) v (xo o3 ((h 2).2 0) ((h 2).2 1) v (nm o3 u n v)).1 (xo o3 ((h 2).2 0) ((h 2).2 1) v (nm o3 u n v)).2.2.1, st2 ((h 2).2 1) v (xo o3 ((h 2).2 0) ((h 2).2 1) v (nm o3 u n v)).2.1 (xo o3 ((h 2).2 0) ((h 2).2 1) v (nm o3 u n v)).2.2.2.1, vp_updL (fun _ => 0) v (xo o3 ((h 2).2 0) ((h 2).2 1) v (nm o3 u n v)).2.2.2.2) (o1'.2 0, o1'.2 1, fun _ => 0) e2.symm e3.symm
    refine ⟨o2, ?_, r2.trans pm.1.symm, r3.trans pm.2.symm⟩
    conv => lhs; unfold f_X6_warmthLater_b24 f_X5_count
    rw [h3, G.2.1, if_neg b1]
    by_cases q : v = u
    · subst q
      have en : nm o3 v n v = n := if_pos rfl
      rw [en] at e1
      rw [if_pos rfl, e1, Option.bind_some, ix_suc]; exact r1
    · have en : nm o3 u n v = o3.1 3 v := if_neg q
      have h12 : v < 12 := by omega
      rw [en] at e1
      rw [if_neg (fun z => q ((ix_eq (by omega) (by omega)).mp z))]
      have hnm : f_X5_numberOf o3 (Int32.ofNat v) = some (o3.1 3 v) := by
        unfold f_X5_numberOf
        simp (disch := omega) [u_made G.2.1 hU (show v < U by omega), ix_lt1, ix_le1, ix_lt2, ix_le2, ix_eq1, ix_eq2, ix_lt, ix_le, ix_eq, ix_inb, ix_nat, ix_suc, ix_dbl, -Int32.ofNat_add, -Int32.ofNat_mul, h12]
      rw [hnm, Option.bind_some, e1, Option.bind_some, ix_suc]; exact r1
theorem it_ok2 {o : ObS} {U : Nat} {num : Nat → Int32} (G : GS o U) (hn : ∀ v, v < U → nOK (o.1 1 v) (num v)) {j : Nat} {F H : Nat → Int64} (S : SI o U U j F H) (hj : j + U ≤ 3745) : SI o U U (j + U) (pz o num U 0 (F, H, fun _ => 0)).1 (pz o num U 0 (F, H, fun _ => 0)).2.1 :=
  (pz_ok (base := 0) G hn U 0 j (F, H, fun _ => 0) (by omega) hj (SI_0 G S)).1
theorem cw14 {o3 : ObS} {U u s : Nat} {n : Int32} (G : GS o3 U) (hu9 : u < U) (hs : s < 24) (hn : ∀ v, v < U → nOK (o3.1 1 v) (nm o3 u n v)) : ∀ (d i j f : Nat) (h : Nat → ObS), h 3 = o3 → i + d = 12 → j + 12 * d ≤ 3745 → d < f → SI o3 U U j ((h 2).2 0) ((h 2).2 1) →
    ∃ o2 : ObS, f_X6_warmthLater_b14 (Int32.ofNat s) (Int32.ofNat u) n f (Int32.ofNat i) h = some (wm ((it o3 (nm o3 u n) U d ((h 2).2 0, (h 2).2 1)).1 s) ((it o3 (nm o3 u n) U d ((h 2).2 0, (h 2).2 1)).2 s), hu h 2 o2)
  | d, i, j, 0, h, h3, hi, hj, hf, S => by omega
  | 0, i, j, f + 1, h, h3, hi, hj, hf, S => by
    obtain rfl : i = 12 := by omega
    refine ⟨h 2, ?_⟩
    unfold f_X6_warmthLater_b14
    rw [if_pos (show (12 : Int32) ≤ Int32.ofNat 12 by decide), s_warm hs, Option.bind_some]
    have : hu h 2 (h 2) = h := by
      funext i; unfold hu; by_cases z : i = 2
      · subst z; rfl
      · rw [beq_no z]; rfl
    rw [this]; rfl
  | d + 1, i, j, f + 1, h, h3, hi, hj, hf, S => by
    have hU := G.1
    have b1 : ¬ (12 : Int32) ≤ Int32.ofNat i := fun z => by have := (ix_le (i := 12) (by omega) (by omega)).mp z; omega
    obtain ⟨o2, e1, e2, e3⟩ := cw24 G hu9 hn (f_X6_warmthLater_b14 (Int32.ofNat s) (Int32.ofNat u) n f) i U 0 j 64 h h3 (by omega) (by omega) (by omega) (SI_0 G S)
    have S2 := it_ok2 G hn S (by omega)
    rw [← e2, ← e3] at S2
    obtain ⟨o2', r1⟩ := cw14 G hu9 hs hn d (i + 1) (j + U) f (hu h 2 o2) h3 (by omega) (by omega) (by omega) S2
    rw [hu_hu] at r1
    refine ⟨o2', ?_⟩
    conv => lhs; unfold f_X6_warmthLater_b14
    rw [if_neg b1, show f_X6_warmthLater_b24 (f_X6_warmthLater_b14 (Int32.ofNat s) (Int32.ofNat u) n f) (Int32.ofNat u) n (Int32.ofNat i) 64 0 h = _ from e1, r1]
    have eit : it o3 (nm o3 u n) U (d + 1) ((h 2).2 0, (h 2).2 1) = it o3 (nm o3 u n) U d (o2.2 0, o2.2 1) := by rw [e2, e3]; rfl
    rw [eit]; rfl
theorem cwl {h : Nat → ObS} {U u s j : Nat} {n : Int32} (G : GS (h 3) U) (hu9 : u < U) (hs : s < 24) (hn : ∀ v, v < U → nOK ((h 3).1 1 v) (nm (h 3) u n v)) (hj : j ≤ 3600) (S : SI (h 3) U U j ((h 1).2 0) ((h 1).2 1)) :
    ∃ o2 : ObS, f_X6_warmthLater h (Int32.ofNat s) (Int32.ofNat u) n = some (wm ((it (h 3) (nm (h 3) u n) U 12 ((h 1).2 0, (h 1).2 1)).1 s) ((it (h 3) (nm (h 3) u n) U 12 ((h 1).2 0, (h 1).2 1)).2 s), hu h 2 o2) := by
  obtain ⟨o', e1, e2, -⟩ := cp_lp (h 1) 24 0 64 (h 2) (by omega) (by omega)
  have ag : AGR (o'.2 0) (o'.2 1) ((h 1).2 0) ((h 1).2 1) := fun i hi => e2 i (by omega) hi
  have S' : SI (h 3) U U j (o'.2 0) (o'.2 1) := by
    have hU := G.1
    refine ⟨fun i hi => by rw [(ag i hi).1, (ag i hi).2]; exact S.1 i hi, ?_, fun v hv z => by rw [(ag _ (by omega)).1, (ag _ (by omega)).2]; exact S.2.2.1 v hv z, fun v z hv => by rw [(ag _ (by omega)).1, (ag _ (by omega)).2]; exact S.2.2.2 v z hv⟩
    have : AA (TK (h 3)) U (fun s => (o'.2 0 s).toInt) = AA (TK (h 3)) U (fun s => ((h 1).2 0 s).toInt) := sm_ext (fun i hi => by dsimp only; rw [(ag i hi).1])
    rw [this]; exact S.2.1
  obtain ⟨o2, r⟩ := cw14 (o3 := h 3) (s := s) G hu9 hs hn 12 0 j 64 (hu h 2 o') rfl (by omega) (by omega) (by omega) S'
  have ia := it_ag (num := nm (h 3) u n) G 12 (o'.2 0, o'.2 1) ((h 1).2 0, (h 1).2 1) ag s hs
  refine ⟨o2, ?_⟩
  unfold f_X6_warmthLater f_X3_copyFrom
  rw [show f_X3_copyFrom_b2 (h 1) 64 0 (h 2) = _ from e1, Option.bind_some, show f_X6_warmthLater_b14 (Int32.ofNat s) (Int32.ofNat u) n 64 0 (hu h 2 o') = _ from r, hu_hu]
  show some (wm ((it (h 3) (nm (h 3) u n) U 12 (o'.2 0, o'.2 1)).1 s) ((it (h 3) (nm (h 3) u n) U 12 (o'.2 0, o'.2 1)).2 s), hu h 2 o2) = _
  rw [ia.1, ia.2]
