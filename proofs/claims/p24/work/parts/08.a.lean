/-! what a train keeps beyond what its picture in numbers says: heat in all, what units moved, sums, whose alarms, the latest trend -/
theorem ic {α : Type} {c : Prop} [Decidable c] {a b x : α} (h : (if c then a else b) = x) : (c ∧ a = x) ∨ (¬ c ∧ b = x) := by
  by_cases q : c
  · rw [if_pos q] at h; exact Or.inl ⟨q, h⟩
  · rw [if_neg q] at h; exact Or.inr ⟨q, h⟩
def HT (o : ObS) (k j : Nat) (H : Nat → Int64) : Prop := (∀ s, s < 24 → (H s).toInt ≤ 299700 * j) ∧ AA (TK o) k (fun s => (H s).toInt) ≤ 299700 * j
def MVP (k : Int32) (m : Int64) : Prop := (k = 0 ∨ k = 1 ∨ k = 2 → m = 0) ∧ (k = 4 → 0 ≤ m.toInt ∧ m.toInt ≤ 99999)
theorem MVP_0 (k : Int32) : MVP k 0 := ⟨fun _ => rfl, fun _ => ⟨by decide, by decide⟩⟩
theorem HT_z {o : ObS} {k j : Nat} {H : Nat → Int64} (z : ∀ s, H s = 0) : HT o k j H := by
  have e : ∀ s, (H s).toInt = 0 := fun s => by rw [z s]; rfl
  refine ⟨fun s _ => by rw [e s]; omega, ?_⟩
  have h : AA (TK o) k (fun s => (H s).toInt) = 0 := by
    unfold AA
    rw [sm_ext (g := fun s => if s = 24 then 0 else 0) (fun s hs => by dsimp only; rw [e s]; split <;> split <;> rfl), sm_pt]; rfl
  omega
theorem HT_0 {o : ObS} {U j j2 : Nat} {F H : Nat → Int64} (G : GS o U) (S : SI o U U j F H) (T : HT o U j2 H) : HT o 0 j2 H := by
  refine ⟨T.1, ?_⟩
  have h1 := AA_Ug (F := H) G (fun s hs h => by
    have e : s = 2 * (s / 2) ∨ s = 2 * (s / 2) + 1 := by omega
    rcases e with e | e
    · have := (S.2.2.2 (s / 2) h (by omega)).2; rw [e, this]; rfl
    · have := (S.2.2.1 (s / 2) (by omega) (Or.inl h)).2; rw [e, this]; rfl)
  have h2 := AA_0 (H := H) G
  have h3 : 0 ≤ sm 24 (gUn o H) := sm_nn (fun s hs => by
    unfold gUn; split
    · exact (S.1 s hs).1.2.1
    · omega)
  have := T.2
  omega
theorem TK_of6 {o o' : ObS} (h : o'.1 6 = o.1 6) : TK o' = TK o := by unfold TK; rw [h]
theorem HT.of6 {o o' : ObS} {k j : Nat} {H : Nat → Int64} (T : HT o k j H) (h : o'.1 6 = o.1 6) : HT o' k j H := by
  unfold HT at *; rw [TK_of6 h]; exact T
theorem mv_step {o : ObS} {U u j : Nat} {F H : Nat → Int64} {n : Int32} (G : GS o U) (hu : u < U) (hn : nOK (o.1 1 u) n) (S : SI o U u j F H) : MVP (o.1 1 u) (xo o F H u n).2.2.2.2 := by
  have hU := G.1
  obtain ⟨gk, ga, -⟩ := G.2.2.1 u hu
  rcases gk with hk | hk | hk | hk | hk
  · refine ⟨fun _ => ?_, fun z => absurd (hk.symm.trans z) (by decide)⟩
    unfold xo; rw [hk]; rfl
  · refine ⟨fun _ => ?_, fun z => absurd (hk.symm.trans z) (by decide)⟩
    unfold xo; rw [hk]; rfl
  · refine ⟨fun _ => ?_, fun z => absurd (hk.symm.trans z) (by decide)⟩
    unfold xo; rw [hk]; rfl
  · exact ⟨fun z => by rcases z with z | z | z <;> exact absurd (hk.symm.trans z) (by decide), fun z => absurd (hk.symm.trans z) (by decide)⟩
  · refine ⟨fun z => by rcases z with z | z | z <;> exact absurd (hk.symm.trans z) (by decide), fun _ => ?_⟩
    have e9 : (xo o F H u n).2.2.2.2 = mn (H (pa o u)) n.toInt64 := by unfold xo; rw [hk]; rfl
    have a1 := (ga (by rw [hk]; decide)).1
    have hh := (S.1 _ a1).1.2.1
    have hn : 0 ≤ n.toInt ∧ n.toInt ≤ 99999 := by
      rcases hn with h | h
      · rw [hk] at h; exact absurd h (by decide)
      · rw [hk] at h; exact h
    rw [e9, mn_i, to64]
    split <;> omega
theorem ht_step {o : ObS} {U u j j2 : Nat} {F H : Nat → Int64} {n : Int32} (G : GS o U) (hu : u < U) (hn : nOK (o.1 1 u) n) (S : SI o U u j F H) (hj : j ≤ 3744) (T : HT o u j2 H) : HT o (u + 1) (j2 + 1) (st2 H u (xo o F H u n).2.1 (xo o F H u n).2.2.2.1) := by
  have hU := G.1
  have st := st_step G hu hn S hj
  obtain ⟨S', eA, -⟩ := st
  have eH := AA_step (T := TK o) (k := u) (G := fun s => (H s).toInt) (G' := fun s => (st2 H u (xo o F H u n).2.1 (xo o F H u n).2.2.2.1 s).toInt) (by omega) (fun s hs h => by show (st2 H u (xo o F H u n).2.1 (xo o F H u n).2.2.2.1 s).toInt = _; rw [st2_n h])
  simp only [st2_a, st2_c] at eH
  have hI := II_le (T := TK o) (k := u) (G := fun s => (H s).toInt) (fun s hs => (S.1 s hs).1.2.1)
  have p1 := (S'.1 (2 * u) (by omega)).1.2.1
  have p2 := (S'.1 (2 * u + 1) (by omega)).1.2.1
  rw [st2_a] at p1
  rw [st2_c] at p2
  have mk : (if o.1 1 u = 0 then (xo o F H u n).2.1.toInt else 0) ≤ 299700 := by
    split
    · rename_i hk
      have hn : 0 ≤ n.toInt ∧ n.toInt ≤ 999 := by
        rcases hn with h | h
        · rw [hk] at h; exact absurd h (by decide)
        · rw [hk] at h; exact h
      have gd := (G.2.2.1 u hu).2.2.2.2.2
      have hm := i_mb hn.1 hn.2 gd.1 gd.2
      have e9 : (xo o F H u n).2.1 = n.toInt64 * (o.1 2 u).toInt64 := by unfold xo; rw [hk]; rfl
      have e8 : (n.toInt64 * (o.1 2 u).toInt64).toInt = n.toInt * (o.1 2 u).toInt := by
        have := b_mul (a := n.toInt64) (b := (o.1 2 u).toInt64) (by rw [to64, to64]; omega) (by rw [to64, to64]; omega)
        rw [to64, to64] at this; exact this
      rw [e9, e8]; omega
    · omega
  have cl : 0 ≤ (if o.1 1 u = 4 then (xo o F H u n).2.2.2.2.toInt else 0) := by
    split
    · rename_i hk
      exact ((mv_step G hu hn S).2 hk).1
    · omega
  have t1 := T.2
  refine ⟨fun s hs => ?_, by omega⟩
  by_cases h : s / 2 = u
  · have h2 : s = 2 * u ∨ s = 2 * u + 1 := by omega
    rcases h2 with rfl | rfl
    · rw [st2_a]; omega
    · rw [st2_c]; omega
  · rw [st2_n h]
    have := T.1 s hs
    omega
theorem pz_ex {o : ObS} {U : Nat} {num : Nat → Int32} (G : GS o U) (hn : ∀ u, u < U → nOK (o.1 1 u) (num u)) : ∀ (d u j j2 : Nat) (t : (Nat → Int64) × (Nat → Int64) × (Nat → Int64)), u + d = U → j + d ≤ 3745 → SI o U u j t.1 t.2.1 → HT o u j2 t.2.1 → (∀ v, v < 12 → MVP (o.1 1 v) (t.2.2 v)) →
    HT o U (j2 + d) (pz o num d u t).2.1 ∧ ∀ v, v < 12 → MVP (o.1 1 v) ((pz o num d u t).2.2 v)
  | 0, u, j, j2, t, h, hj, S, T, V => by
    obtain rfl : u = U := by omega
    exact ⟨T, V⟩
  | d + 1, u, j, j2, t, h, hj, S, T, V => by
    have st := st_step G (by omega) (hn u (by omega)) S (by omega)
    have ht := ht_step G (show u < U by omega) (hn u (by omega)) S (by omega) T
    have mv := mv_step G (show u < U by omega) (hn u (by omega)) S
    have := pz_ex G hn d (u + 1) (j + 1) (j2 + 1) (st2 t.1 u (xo o t.1 t.2.1 u (num u)).1 (xo o t.1 t.2.1 u (num u)).2.2.1, st2 t.2.1 u (xo o t.1 t.2.1 u (num u)).2.1 (xo o t.1 t.2.1 u (num u)).2.2.2.1, vp_updL t.2.2 u (xo o t.1 t.2.1 u (num u)).2.2.2.2) (by omega) (by omega) st.1 ht (fun v hv => by
      dsimp only; unfold vp_updL
      by_cases q : v = u
      · rw [if_pos q, q]; exact mv
      · rw [if_neg q]; exact V v hv)
    rw [show j2 + 1 + d = j2 + (d + 1) by omega] at this
    exact this
/-! sums, and whose alarms -/
def NE (a : ObS) : Prop := ∀ i, a.1 1 i ≠ -2100000000
def SB (c : ObS) : Prop := ∀ k, -10000000 ≤ (c.2 11 k).toInt ∧ (c.2 11 k).toInt ≤ 10000000
theorem hs_b (v : Int64) : -10000000 ≤ (f_X1_heldSum v).toInt ∧ (f_X1_heldSum v).toInt ≤ 10000000 := by
  unfold f_X1_heldSum; rw [held6, hd_i]
  rw [show ((-10000000 : Int64).toInt) = -10000000 from rfl, show ((10000000 : Int64).toInt) = 10000000 from rfl]
  repeat' split
  all_goals omega
theorem SB_up {c : ObS} {k : Nat} {v : Int64} (h : SB c) : SB (oj c 11 k (f_X1_heldSum v)) := fun j => by
  rw [oj_j, if_pos rfl]; unfold vp_updL; split
  · exact hs_b v
  · exact h j
theorem SB_oj {c : ObS} {m k : Nat} {v : Int64} (hm : ¬ 11 = m) (h : SB c) : SB (oj c m k v) := fun j => by
  rw [oj_j, if_neg hm]; exact h j
theorem SB_oi {c : ObS} {m k : Nat} {v : Int32} (h : SB c) : SB (oi c m k v) := h
theorem put_NE {a a' : ObS} {x : Int32} {e : Int64} (hx : x ≠ -2100000000) (h : NE a) (hf : f_X0_put a x e = some a') : NE a' := by
  unfold f_X0_put at hf
  by_cases c1 : (900 : Int32) ≤ a.1 0 0
  · rw [if_pos c1] at hf; cases hf; exact h
  · rw [if_neg c1] at hf
    obtain ⟨-, hf⟩ := gd hf
    obtain ⟨s, e1, hf⟩ := bd hf
    cases e1
    obtain ⟨-, hf⟩ := gd hf
    obtain ⟨s, e1, hf⟩ := bd hf
    cases e1
    obtain ⟨s, e1, hf⟩ := bd hf
    cases e1
    cases hf
    intro i
    rw [oi_i, if_neg (show ¬ 1 = 0 by decide), oj_i, oi_i, if_pos rfl]
    unfold upd; split
    · exact hx
    · exact h i
theorem me_SB {c o1 c' : ObS} {x : Int32} (h : SB c) (hf : f_X1_measure c o1 x = some c') : SB c' := by
  unfold f_X1_measure at hf
  obtain ⟨-, hf⟩ := gd hf
  obtain ⟨-, hf⟩ := gd hf
  obtain ⟨r, -, hf⟩ := bd hf
  obtain ⟨-, hf⟩ := gd hf
  obtain ⟨s, e1, hf⟩ := bd hf
  cases e1
  obtain ⟨-, hf⟩ := gd hf
  obtain ⟨-, hf⟩ := gd hf
  obtain ⟨-, hf⟩ := gd hf
  obtain ⟨-, hf⟩ := gd hf
  obtain ⟨s, e1, hf⟩ := bd hf
  cases e1
  obtain ⟨-, hf⟩ := gd hf
  obtain ⟨-, hf⟩ := gd hf
  obtain ⟨r2, -, hf⟩ := bd hf
  obtain ⟨-, hf⟩ := gd hf
  obtain ⟨s, e1, hf⟩ := bd hf
  cases e1
  obtain ⟨-, hf⟩ := gd hf
  obtain ⟨-, hf⟩ := gd hf
  obtain ⟨-, hf⟩ := gd hf
  obtain ⟨-, hf⟩ := gd hf
  obtain ⟨s, e1, hf⟩ := bd hf
  cases e1
  cases hf
  exact SB_oj (by decide) (SB_oj (by decide) (SB_up (SB_oj (by decide) h)))
theorem inb_ne {x : Int32} {n : Nat} (h : inb x n = true) : x ≠ -2100000000 := by
  rintro rfl
  simp only [inb, Bool.and_eq_true] at h
  exact absurd h.1 (by decide)
theorem w42_k {c a : ObS} {x k : Int32} {R : ObS × ObS} (h : SB c) (hn : NE a) (hf : f_X1_watch_b42 c a x k = some R) : SB R.1 ∧ NE R.2 := by
  unfold f_X1_watch_b42 at hf
  obtain ⟨g, hf⟩ := gd hf
  obtain ⟨s, e1, hf⟩ := bd hf
  cases e1
  obtain ⟨-, hf⟩ := gd hf
  rcases ic hf with ⟨-, hf⟩ | ⟨-, hf⟩
  · cases hf; exact ⟨SB_oi h, hn⟩
  · rcases ic hf with ⟨-, hf⟩ | ⟨-, hf⟩
    · obtain ⟨r, e1, hf⟩ := bd hf
      cases hf
      exact ⟨SB_oi h, put_NE (inb_ne g) hn e1⟩
    · cases hf; exact ⟨SB_oi h, hn⟩
theorem wt_k {c a : ObS} {x : Int32} {R : ObS × ObS} (h : SB c) (hn : NE a) (hf : f_X1_watch c a x = some R) : SB R.1 ∧ NE R.2 := by
  unfold f_X1_watch at hf
  obtain ⟨-, hf⟩ := gd hf
  obtain ⟨-, hf⟩ := gd hf
  obtain ⟨-, hf⟩ := gd hf
  rcases ic hf with ⟨-, hf⟩ | ⟨-, hf⟩
  · exact w42_k h hn hf
  · exact w42_k h hn hf
theorem po_SB {c c' : ObS} {x : Int32} (h : SB c) (hf : f_X1_passOn c x = some c') : SB c' := by
  unfold f_X1_passOn at hf
  obtain ⟨-, hf⟩ := gd hf
  obtain ⟨r, -, hf⟩ := bd hf
  rcases ic hf with ⟨-, hf⟩ | ⟨-, hf⟩
  · cases hf; exact h
  · obtain ⟨-, hf⟩ := gd hf
    obtain ⟨-, hf⟩ := gd hf
    obtain ⟨s, e1, hf⟩ := bd hf
    cases e1
    cases hf
    exact SB_oj (by decide) h
theorem work_k {o1 : ObS} : ∀ (n : Nat) (v : Int32) (c a : ObS) (R : ObS × ObS), f_X1_work_b2 o1 n v c a = some R → SB c → NE a → SB R.1 ∧ NE R.2 := by
  intro n
  induction n with
  | zero => intro v c a R hf; rw [f_X1_work_b2] at hf; exact nomatch hf
  | succ n ih =>
    intro v c a R hf hs hn
    rw [f_X1_work_b2] at hf
    by_cases c1 : c.1 0 0 ≤ v
    · rw [if_pos c1] at hf; cases hf; exact ⟨hs, hn⟩
    · rw [if_neg c1] at hf
      by_cases c2 : (6 : Int32) ≤ v
      · rw [if_pos c2] at hf; cases hf; exact ⟨hs, hn⟩
      · rw [if_neg c2] at hf
        obtain ⟨-, hf⟩ := gd hf
        by_cases c3 : c.1 1 v.toNatClampNeg = 0
        · rw [if_pos c3] at hf
          obtain ⟨-, hf⟩ := gd hf
          obtain ⟨r, -, hf⟩ := bd hf
          obtain ⟨-, hf⟩ := gd hf
          obtain ⟨-, hf⟩ := gd hf
          obtain ⟨s, e1, hf⟩ := bd hf
          cases e1
          exact ih _ _ _ _ hf (SB_oj (by decide) hs) hn
        · rw [if_neg c3] at hf
          obtain ⟨r, e1, hf⟩ := bd hf
          obtain ⟨r2, e2, hf⟩ := bd hf
          obtain ⟨r3, e3, hf⟩ := bd hf
          have a2 := wt_k (me_SB hs e1) hn e2
          exact ih _ _ _ _ hf (po_SB a2.1 e3) a2.2
theorem lf_SB {x1 : Int32} {x2 : Int64} : ∀ (n : Nat) (v : Int32) (c R : ObS), f_X1_letFollow_b3 x1 x2 n v c = some R → SB c → SB R := by
  intro n
  induction n with
  | zero => intro v c R hf; rw [f_X1_letFollow_b3] at hf; exact nomatch hf
  | succ n ih =>
    intro v c R hf hs
    rw [f_X1_letFollow_b3] at hf
    rcases ic hf with ⟨-, hf⟩ | ⟨-, hf⟩
    · cases hf; exact hs
    · rcases ic hf with ⟨-, hf⟩ | ⟨-, hf⟩
      · cases hf; exact hs
      · obtain ⟨-, hf⟩ := gd hf
        rcases ic hf with ⟨-, hf⟩ | ⟨-, hf⟩
        · obtain ⟨-, hf⟩ := gd hf
          rcases ic hf with ⟨-, hf⟩ | ⟨-, hf⟩
          · exact ih _ _ _ hf hs
          · obtain ⟨-, hf⟩ := gd hf
            rcases ic hf with ⟨-, hf⟩ | ⟨-, hf⟩
            · exact ih _ _ _ hf hs
            · obtain ⟨-, hf⟩ := gd hf
              obtain ⟨-, hf⟩ := gd hf
              obtain ⟨-, hf⟩ := gd hf
              obtain ⟨s, e1, hf⟩ := bd hf
              cases e1
              exact ih _ _ _ hf (SB_up hs)
        · exact ih _ _ _ hf hs
theorem sd_SB : ∀ (n : Nat) (v : Int32) (h R : Nat → ObS), f_X6_setDrivenUnits_b2 n v h = some R → SB (h 4) → SB (R 4) := by
  intro n
  induction n with
  | zero => intro v h R hf; rw [f_X6_setDrivenUnits_b2] at hf; exact nomatch hf
  | succ n ih =>
    intro v h R hf hs
    rw [f_X6_setDrivenUnits_b2] at hf
    rcases ic hf with ⟨-, hf⟩ | ⟨-, hf⟩
    · cases hf; exact hs
    · obtain ⟨r1, -, hf⟩ := bd hf
      obtain ⟨r2, -, hf⟩ := bd hf
      rcases ic hf with ⟨-, hf⟩ | ⟨-, hf⟩
      · exact ih _ _ _ hf hs
      · obtain ⟨r3, -, hf⟩ := bd hf
        obtain ⟨r4, e4, hf⟩ := bd hf
        obtain ⟨r5, -, hf⟩ := bd hf
        obtain ⟨r6, -, hf⟩ := bd hf
        exact ih _ _ _ hf (show SB r4 from lf_SB _ _ _ _ e4 hs)
/-- what is kept -/
def EX (h : Nat → ObS) (U t : Nat) : Prop :=
  (0 < t → ∀ s, s < 2 * U → (h 7).1 0 (24 * (t - 1) + s) = (wm ((h 1).2 0 s) ((h 1).2 1 s)).toInt32) ∧
  NE (h 5) ∧ SB (h 4) ∧ (∀ u, u < 12 → MVP ((h 3).1 1 u) ((h 3).2 7 u)) ∧ ∃ j, j ≤ 12 * t ∧ HT (h 3) U j ((h 1).2 1)
theorem EX_co {h h' : Nat → ObS} {U t : Nat} (X : EX h U t) (e7 : h' 7 = h 7) (e1 : h' 1 = h 1) (e5 : NE (h' 5)) (e4 : SB (h' 4)) (k1 : (h' 3).1 1 = (h 3).1 1) (k7 : (h' 3).2 7 = (h 3).2 7) (k6 : (h' 3).1 6 = (h 3).1 6) : EX h' U t := by
  obtain ⟨x1, x2, x3, x4, j, hj, x5⟩ := X
  refine ⟨by rw [e7, e1]; exact x1, e5, e4, by rw [k1, k7]; exact x4, j, hj, ?_⟩
  rw [e1]; exact x5.of6 k6
