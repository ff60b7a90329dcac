/-! a tick keeps it -/
theorem tick_ex {h : Nat → ObS} {mo : ObS} {U C t : Nat} (I : INV h mo U C t) (X : EX h U t) (ht : t < 300) :
    ∃ (h' : Nat → ObS) (mo' : ObS), f_X6_letOneTickGoBy h = some h' ∧ f_X7_ticks mo = some mo' ∧ INV h' mo' U C (t + 1) ∧ mo'.1 0 = mo.1 0 ∧ EX h' U (t + 1) ∧ (h' 3).1 1 = (h 3).1 1 := by
  obtain ⟨⟨G, R, n1, n2, n3, n4, n5⟩, ⟨f0, f1, ⟨j, hj, S⟩, t1, z0'⟩, ⟨t2, t3⟩, ⟨base0, b1, b2⟩, ⟨N, P⟩, ⟨A, IAl, hA⟩, IC0, IR0⟩ := I
  have hU := G.1
  -- the heat held over
  have eh := he_lp (h 3) (h 1) 24 0 64 (by omega) (by omega)
  -- the script
  have P0 := P
  obtain ⟨pN, p1, p2, p3⟩ := P
  obtain ⟨p', o', m1, l', q1, q2, q3, q4, q5, q6, q7, q8, q9⟩ := play_lp (kd := (h 3).1 1) (U := U) (N := N) (t := t + 1) hU pN N 0 0 64 64 (h 6) (h 3) (oi mo 1 0 (Int32.ofNat (t + 1))) (by omega) (by omega) (by omega) (by omega) p1 (by rw [oi_n (show 18 ≠ 1 by decide)]; exact p2) G.2.1 (by rw [oi_i, if_pos rfl]; exact if_pos rfl) (by rw [oi_n (show 4 ≠ 1 by decide)]; exact n1) n3
    (fun i hi => by
      have := p3 i (by omega)
      unfold IP1 at this ⊢
      rw [oi_n (show 19 ≠ 1 by decide), oi_n (show 20 ≠ 1 by decide), oi_n (show 21 ≠ 1 by decide)]
      exact this)
  have m1a : ∀ k, k ≠ 1 → k ≠ 4 → (k < 18 ∨ 21 < k) → m1.1 k = mo.1 k := fun k h1 h2 h3 => (q8 k h2 (by omega) (by omega) (by omega) (by omega)).trans (oi_n h1)
  have m1t : m1.1 1 0 = Int32.ofNat (t + 1) := by rw [q8 1 (by decide) (by decide) (by decide) (by decide) (by decide), oi_i, if_pos rfl]; exact if_pos rfl
  -- the controllers
  have ICa : IC (h 4) m1 ((h 3).1 1) U C := IC_co IC0 (fun k h1 h2 => m1a k (by omega) (by omega) (by omega)) (fun k _ => by rw [q9]; rfl)
  have IAa : IA (h 5) m1 A := IA_co IAl (fun k hk => m1a k (by omega) (by omega) (by omega))
  obtain ⟨c', a', m2, A2, w1, w2, w3, w4, w5, w6, w7⟩ := work_lp (o1 := h 1) (U := U) (C := C) (t := t) hU (by omega) C 0 64 64 (h 4) (h 5) m1 A (by omega) (by have := ICa.1; omega) (by have := ICa.1; omega) ICa (by rw [q9]; exact f0) (by rw [q9]; exact f1) (SI_wm (by omega) S) IAa (by rw [m1a 35 (by decide) (by decide) (by decide)]; exact hA)
  have m2a : ∀ k, k ≤ 23 → m2.1 k = m1.1 k := fun k hk => w6 k (by omega) (by omega) (by omega) (by omega) (by omega) (by omega) (by omega)
  have m2b : ∀ k, k ≤ 31 → m2.2 k = mo.2 k := fun k hk => by rw [w7 k (by omega) (by omega) (by omega), q9]; rfl
  -- the driven units
  have Ga : GS o' U := GS.of3 G q6
  have Ra : UR o' m2 := by
    refine UR.co (mo := m1) ?_ (fun k hk => m2a k (by omega))
    obtain ⟨a, b, c, d, e⟩ := R
    exact ⟨by rw [q6 0 (by decide), m1a 2 (by decide) (by decide) (by decide)]; exact a, by rw [q6 1 (by decide), m1a 3 (by decide) (by decide) (by decide)]; exact b, by rw [q6 2 (by decide), m1a 5 (by decide) (by decide) (by decide)]; exact c, by rw [q6 4 (by decide), m1a 6 (by decide) (by decide) (by decide)]; exact d, by rw [q6 5 (by decide), m1a 7 (by decide) (by decide) (by decide)]; exact e⟩
  generalize hH : hu (hu (hu (hu (hu h 0 (oj (oi (h 0) 7 0 (Int32.ofNat (t + 1))) 8 0 (Int64.ofInt (sm 24 (gHe (h 3) ((h 1).2 1)))))) 3 o') 4 c') 5 a') 6 p' = H1
  have H13 : H1 3 = o' := by rw [← hH]; rfl
  have H14 : H1 4 = c' := by rw [← hH]; rfl
  have H10 : H1 0 = oj (oi (h 0) 7 0 (Int32.ofNat (t + 1))) 8 0 (Int64.ofInt (sm 24 (gHe (h 3) ((h 1).2 1)))) := by rw [← hH]; rfl
  have H11 : H1 1 = h 1 := by rw [← hH]; rfl
  have H15 : H1 5 = a' := by rw [← hH]; rfl
  have H16 : H1 6 = p' := by rw [← hH]; rfl
  have H17 : H1 7 = h 7 := by rw [← hH]; rfl
  obtain ⟨h2, m3, s1, s2, s3, s4, s5, s6, s7, s8, s9, s10⟩ := sd_lp (U := U) (C := C) (kd := (h 3).1 1) U 0 64 64 H1 m2 (by omega) (by omega) (by omega) (by rw [H13]; exact Ga) (by rw [H13]; exact Ra) (by rw [H13, m2a 4 (by decide)]; exact q4) (by rw [H13, q6 8 (by decide), m2a 9 (by decide), m1a 9 (by decide) (by decide) (by decide)]; exact n2) (by rw [H13]; exact q6 1 (by decide)) (by rw [H13]; exact q5) (by rw [H14]; exact w3)
  rw [H13] at s4 s5
  have k3 : ∀ k, k ≠ 3 → (h2 3).1 k = (h 3).1 k := fun k hk => (s4 k hk).trans (q6 k hk)
  have h21 : h2 1 = h 1 := (s3 1 (by decide) (by decide)).trans H11
  have h20 := (s3 0 (by decide) (by decide)).trans H10
  have h25 := (s3 5 (by decide) (by decide)).trans H15
  have h26 := (s3 6 (by decide) (by decide)).trans H16
  have h27 := (s3 7 (by decide) (by decide)).trans H17
  have Gb : GS (h2 3) U := GS.of3 G k3
  have Sb : SI (h2 3) U 0 j ((h 1).2 0) ((h 1).2 1) := SI.of3 (SI_0 G S) k3
  have kd3 : (h2 3).1 1 = (h 3).1 1 := k3 1 (by decide)
  -- the reference ages
  obtain ⟨m4, g1, g2, g3, g4⟩ := ages_ok m3
  have m4f : m4.2 10 = (h 1).2 0 := by rw [g3 10 (by decide) (by decide), s10 10 (by decide), m2b 10 (by decide)]; exact f0.symm
  have m4h : m4.2 11 = (h 1).2 1 := by rw [g3 11 (by decide) (by decide), s10 11 (by decide), m2b 11 (by decide)]; exact f1.symm
  have m3a : ∀ k, k ≤ 23 → k ≠ 4 → m3.1 k = m1.1 k := fun k hk h9 => (s9 k h9).trans (m2a k hk)
  have Rb : UR (h2 3) m4 := by
    have R2 : UR (h2 3) m3 := UR.of4 Ra s4 s9
    exact UR.co R2 (fun k _ => by rw [g2])
  have hM : ∀ v, ((h2 3).2 7 v).toInt32 = m4.1 8 v := fun v => by rw [s5, q7, g2, m3a 8 (by decide) (by decide), m1a 8 (by decide) (by decide) (by decide)]; exact n5 v
  have nb : ∀ v, v < U → nOK ((h2 3).1 1 v) ((h2 3).1 3 v) := by rw [kd3]; exact s7
  have e4 : m4.1 4 = (h2 3).1 3 := by rw [g2]; exact s6.symm
  obtain ⟨o5, s5', c1, c2, c3⟩ := c_all (num := (h2 3).1 3) U 0 j 64 (h2 3) (h2 1) Gb nb (by omega) (by omega) (by omega) (by rw [h21]; exact Sb)
  rw [h21] at c1 c3
  obtain ⟨m5, d1, d2, d3, d4, d5, d6⟩ := m_all (o := h2 3) (U := U) U 0 j 64 m4 ((h2 3).2 7) Rb Gb (by rw [e4]; exact nb) (by omega) (by omega) (by omega) (by rw [m4f, m4h]; exact Sb) (fun s hs _ => by rw [(g4 s hs).1, (g4 s hs).2, g3 10 (by decide) (by decide), g3 11 (by decide) (by decide)]; exact ⟨rfl, rfl⟩) hM
  rw [m4f, m4h, e4] at d2 d3 d4
  have c3a : s5'.2 0 = m5.2 10 := by rw [d2]; exact congrArg (fun x => x.1) c3
  have c3b : s5'.2 1 = m5.2 11 := by rw [d3]; exact congrArg (fun x => x.2.1) c3
  have c3c : o5.2 7 = (pz (h2 3) ((h2 3).1 3) U 0 ((h 1).2 0, (h 1).2 1, (h2 3).2 7)).2.2 := congrArg (fun x => x.2.2) c3
  have pk := pz_ok (o := h2 3) (U := U) (num := (h2 3).1 3) (base := sm 24 (gHe (h 3) ((h 1).2 1))) Gb nb U 0 j ((h 1).2 0, (h 1).2 1, (h2 3).2 7) (by omega) (by omega) Sb
  have hb0 : HB (h2 3) 0 (sm 24 (gHe (h 3) ((h 1).2 1))) ((h 1).2 1) ((h2 3).2 7) := by
    unfold HB
    rw [AA_0 Gb]
    have e : gHe (h2 3) ((h 1).2 1) = gHe (h 3) ((h 1).2 1) := by funext s; unfold gHe TK; rw [k3 6 (by decide)]
    rw [e]; show _ = _ + (0 : Int) - 0; omega
  have pk2 := pk.2 hb0
  have pk1 := pk.1
  rw [← d2, ← d3] at pk1
  rw [← d3, ← c3c] at pk2
  -- the reference's trends
  have m5a : ∀ k, k ≤ 23 → k ≠ 4 → k ≠ 8 → m5.1 k = m1.1 k := fun k h1 h3 h4 => by rw [d5 k h4, g2]; exact m3a k h1 h3
  have u5 : m5.1 2 0 = Int32.ofNat U := by rw [m5a 2 (by decide) (by decide) (by decide), m1a 2 (by decide) (by decide) (by decide), ← R.1]; exact G.2.1
  obtain ⟨m6, x1, x2, x3, x4, x5⟩ := b90_lp (U := U) (t := t) hU ht (2 * U) 0 64 m5 (by omega) (by omega) u5 (by rw [m5a 1 (by decide) (by decide) (by decide)]; exact m1t)
  have IRa : IR (h2 7) m5 U t := by rw [h27]; exact IR_co IR0 (by rw [m5a 17 (by decide) (by decide) (by decide), m1a 17 (by decide) (by decide) (by decide)])
  obtain ⟨o7, y1, y2⟩ := kp_all (o := h2 7) (o1 := s5') (mo := m5) (mo' := m6) hU ht IRa c3a c3b (fun i hi => x4 i (by omega) hi) (fun i hi => x5 i (Or.inl (by omega)))
  have wk := work_k 64 0 (h 4) (h 5) (c', a') w1 X.2.2.1 X.2.1
  have sd := sd_SB 64 0 H1 h2 s1 (by rw [H14]; exact wk.1)
  obtain ⟨j2, hj2, T⟩ := X.2.2.2.2
  have m27 : (h2 3).2 7 = (h 3).2 7 := by rw [s5, q7]
  have px := pz_ex (o := h2 3) (U := U) (num := (h2 3).1 3) Gb nb U 0 j j2 ((h 1).2 0, (h 1).2 1, (h2 3).2 7) (by omega) (by omega) Sb ((HT_0 G S T).of6 (k3 6 (by decide))) (fun v hv => by rw [kd3]; dsimp only; rw [m27]; exact X.2.2.2.1 v hv)
  rw [← d3, ← c3c] at px
  refine ⟨hu (hu (hu h2 1 s5') 3 o5) 7 o7, m6, ?_, ?_, ?_, ?_, ?_, ?_⟩
  · unfold f_X6_letOneTickGoBy f_X5_heatHeldOver f_X2_playInto f_X1_work f_X6_setDrivenUnits f_X5_giveAll
    rw [Option.bind_some, show f_X5_heatHeldOver_b5 (h 3) (h 1) 64 0 0 = _ from eh, Option.bind_some, Option.bind_some, t2, ix_suc, oj_i, show (oi (h 0) 7 0 (Int32.ofNat (t + 1))).1 7 0 = Int32.ofNat (t + 1) by rw [oi_i, if_pos rfl]; exact if_pos rfl, show f_X2_playInto_b5 (Int32.ofNat (t + 1)) 64 0 0 (h 6) (h 3) = _ from q1, Option.bind_some, show f_X1_work_b2 (h 1) 64 0 (h 4) (h 5) = _ from w1, Option.bind_some]
    dsimp only
    rw [hH, show f_X6_setDrivenUnits_b2 64 0 H1 = _ from s1, Option.bind_some, h21, show f_X5_giveAll_b2 64 0 (h2 3) (h 1) = _ from c1, Option.bind_some]
    dsimp only
    rw [h20, oj_i, show (oi (h 0) 7 0 (Int32.ofNat (t + 1))).1 7 0 = Int32.ofNat (t + 1) by rw [oi_i, if_pos rfl]; exact if_pos rfl, y1, Option.bind_some]
  · unfold f_X7_ticks f_X7_disturbs
    rw [Option.bind_some, t3, ix_suc, show f_X7_disturbs_b4 64 0 0 (oi mo 1 0 (Int32.ofNat (t + 1))) = _ from q2, Option.bind_some, show f_X7_ticks_b16 64 0 m1 = _ from w2, show f_X7_ticks_b37 64 0 m2 = _ from s2, g1, Option.bind_some, show f_X7_ticks_b62 64 0 m4 = _ from d1]
    exact x1
  · have ok3 : ∀ k, o5.1 k = (h2 3).1 k := fun k => by rw [c2]
    have ok3' : ∀ k, k ≠ 3 → o5.1 k = (h2 3).1 k := fun k _ => ok3 k
    have m6a : ∀ k, k ≤ 23 → k ≠ 4 → k ≠ 8 → k ≠ 17 → m6.1 k = m1.1 k := fun k h1 h3 h4 h5 => (x3 k h5).trans (m5a k h1 h3 h4)
    have e6 : m6.1 4 = (h2 3).1 3 := by rw [x3 4 (by decide), d5 4 (by decide), e4]
    have GF : GS o5 U := GS.of3 Gb ok3'
    refine ⟨⟨GF, ?_, ?_, ?_, ?_, ?_, ?_⟩, ⟨?_, ?_, ⟨j + U, by omega, ?_⟩, by omega, fun z => by omega⟩, ⟨?_, ?_⟩, ⟨sm 24 (gHe (h 3) ((h 1).2 1)), ?_, ?_⟩, ⟨l', ?_⟩, ⟨A2, ?_, ?_⟩, ?_, ?_⟩
    · show UR o5 m6
      have : UR (h2 3) m6 := UR.co Rb (fun k hk => by rw [x3 k (by omega), d5 k (by omega)])
      unfold UR at this ⊢; rw [c2]; exact this
    · show o5.1 3 = m6.1 4; rw [e6, ok3]
    · show o5.1 8 = m6.1 9
      rw [ok3, k3 8 (by decide), m6a 9 (by decide) (by decide) (by decide) (by decide), m1a 9 (by decide) (by decide) (by decide)]; exact n2
    · show ∀ u, u < U → nOK (o5.1 1 u) (o5.1 3 u)
      rw [ok3, ok3]; exact nb
    · rw [m6a 9 (by decide) (by decide) (by decide) (by decide), m1a 9 (by decide) (by decide) (by decide)]; exact n4
    · intro v
      show (o5.2 7 v).toInt32 = m6.1 8 v
      rw [x3 8 (by decide), c3c]; exact d4 v
    · show s5'.2 0 = m6.2 10; rw [x2]; exact c3a
    · show s5'.2 1 = m6.2 11; rw [x2]; exact c3b
    · show SI o5 U U (j + U) (s5'.2 0) (s5'.2 1)
      rw [c3a, c3b]; exact SI.of3 pk1 ok3'
    · show (h2 0).1 7 0 = _; rw [h20, oj_i, oi_i, if_pos rfl]; exact if_pos rfl
    · rw [m6a 1 (by decide) (by decide) (by decide) (by decide)]; exact m1t
    · show (h2 0).2 8 0 = _; rw [h20, oj_j, if_pos rfl]; exact if_pos rfl
    · show HB o5 U _ (s5'.2 1) (o5.2 7)
      rw [c3b]
      unfold HB TK at pk2 ⊢; rw [c2]; exact pk2
    · show IP (h2 6) m6 (o5.1 1) U l'
      rw [h26, ok3, kd3]
      exact IP_co q3 (fun k h1 h3 => m6a k (by omega) (by omega) (by omega) (by omega))
    · show IA (h2 5) m6 A2
      rw [h25]
      exact IA_co w4 (fun k hk => by rw [x3 k (by omega), d5 k (by omega), g2, s9 k (by omega)])
    · rw [x3 35 (by decide), d5 35 (by decide), g2, s9 35 (by decide)]; exact w5
    · show IC (h2 4) m6 (o5.1 1) U C
      rw [ok3, kd3]
      exact IC_co s8 (fun k h1 h3 => by rw [x3 k (by omega), d5 k (by omega), g2]) (fun k hk => by rw [x2, d6 k (by omega) (by omega), g3 k (by omega) (by omega)])
    · show IR o7 m6 U (t + 1); exact y2
  · rw [x3 0 (by decide), m5a 0 (by decide) (by decide) (by decide), m1a 0 (by decide) (by decide) (by decide)]
  · refine ⟨fun _ s hs => ?_, ?_, ?_, fun u hu9 => ?_, j2 + U, by omega, ?_⟩
    · show o7.1 0 (24 * (t + 1 - 1) + s) = (wm (s5'.2 0 s) (s5'.2 1 s)).toInt32
      rw [Nat.add_sub_cancel, y2.2 t s (by omega) hs, x4 s (by omega) hs, c3a, c3b]
    · show NE (h2 5); rw [h25]; exact wk.2
    · show SB (h2 4); exact sd
    · show MVP (o5.1 1 u) (o5.2 7 u)
      rw [c2]; exact px.2 u hu9
    · show HT o5 U (j2 + U) (s5'.2 1)
      rw [c3b]; exact px.1.of6 (by rw [c2])
  · show o5.1 1 = (h 3).1 1
    rw [c2]; exact kd3
