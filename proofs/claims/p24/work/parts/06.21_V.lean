theorem hu_n {h : Nat → ObS} {i k : Nat} {o : ObS} (hk : k ≠ i) : hu h i o k = h k := by unfold hu; rw [beq_no hk]; rfl
theorem IC_dr {c mo c' mo' : ObS} {kd : Nat → Int32} {U C : Nat} (I : IC c mo kd U C) (a1 : c'.1 = c.1) (a2 : ∀ j, j ≠ 4 → mo'.1 j = mo.1 j) (a3 : c'.2 11 = mo'.2 32) (a4 : ∀ j, j ≠ 11 → c'.2 j = c.2 j) (a5 : ∀ j, j ≠ 32 → mo'.2 j = mo.2 j) : IC c' mo' kd U C := by
  obtain ⟨i1, i2, i3, ⟨i4, i5, i6, i7, i8⟩, ⟨i9, i10, i11, i12, i13⟩, i14, i15, i16⟩ := I
  have b22 := a2 22 (by decide)
  have b23 := a2 23 (by decide)
  have b24 := a2 24 (by decide)
  have b25 := a2 25 (by decide)
  have b26 := a2 26 (by decide)
  have b27 := a2 27 (by decide)
  have b28 := a2 28 (by decide)
  have b29 := a2 29 (by decide)
  have b30 := a2 30 (by decide)
  have b31 := a2 31 (by decide)
  have b34 := a2 34 (by decide)
  have b35 := a2 35 (by decide)
  refine ⟨i1, by rw [a1]; exact i2, by rw [b22]; exact i3, ⟨by rw [a1, b23]; exact i4, by rw [a1, b26]; exact i5, by rw [a1, b27]; exact i6, by rw [a1, b30]; exact i7, by rw [a1, b35]; exact i8⟩, ⟨fun j => by rw [a4 10 (by decide), b24]; exact i9 j, a3, by rw [a4 12 (by decide), a5 36 (by decide)]; exact i11, by rw [a4 13 (by decide), a5 33 (by decide)]; exact i12, fun j => by rw [a4 14 (by decide), b34]; exact i13 j⟩, fun j hj => ?_, fun j => by rw [b35]; exact i15 j, fun j hj => by rw [a1, b24, b35]; exact i16 j hj⟩
  have := i14 j hj
  unfold CK at this ⊢
  rw [b23, b24, b25, b27, b28, b29, b30, b31, a1]
  exact this
theorem mo_67 {k : Int32} (h : k = 0 ∨ k = 1 ∨ k = 2 ∨ k = 3 ∨ k = 4) (h2 : k ≠ 2) : f_X6_mostOf k = f_X7_mostOf k ∧ (f_X7_mostOf k).toInt = mst k ∧ 0 ≤ mst k ∧ mst k ≤ 99999 := by
  rcases h with rfl | rfl | rfl | rfl | rfl
  · exact ⟨rfl, rfl, by decide, by decide⟩
  · exact ⟨rfl, rfl, by decide, by decide⟩
  · exact absurd rfl h2
  · exact ⟨rfl, rfl, by decide, by decide⟩
  · exact ⟨rfl, rfl, by decide, by decide⟩
theorem n_ok {k : Int32} {v : Int64} (h : k = 0 ∨ k = 1 ∨ k = 2 ∨ k = 3 ∨ k = 4) (h2 : k ≠ 2) : nOK k ((hd v 0 ((f_X7_mostOf k).toInt64)).toInt32) := by
  obtain ⟨_, e, g0, g1⟩ := mo_67 h h2
  have hi := hd_i v 0 ((f_X7_mostOf k).toInt64)
  rw [show ((0 : Int64).toInt) = 0 from rfl, to64, e] at hi
  have h1 : 0 ≤ (hd v 0 ((f_X7_mostOf k).toInt64)).toInt ∧ (hd v 0 ((f_X7_mostOf k).toInt64)).toInt ≤ mst k := by
    rw [hi]; repeat' split
    all_goals omega
  have e2 : (hd v 0 ((f_X7_mostOf k).toInt64)).toInt32.toInt = (hd v 0 ((f_X7_mostOf k).toInt64)).toInt := by
    rw [Int64.toInt_toInt32]; exact Int.bmod_eq_of_le (by omega) (by omega)
  exact Or.inr ⟨by omega, by omega⟩
theorem UR.of4 {o o' mo mo' : ObS} (h : UR o mo) (hk : ∀ k, k ≠ 3 → o'.1 k = o.1 k) (hm : ∀ k, k ≠ 4 → mo'.1 k = mo.1 k) : UR o' mo' := by
  obtain ⟨a, b, c, d, e⟩ := h
  exact ⟨by rw [hm 2 (by decide), hk 0 (by decide)]; exact a, by rw [hm 3 (by decide), hk 1 (by decide)]; exact b, by rw [hm 5 (by decide), hk 2 (by decide)]; exact c, by rw [hm 6 (by decide), hk 4 (by decide)]; exact d, by rw [hm 7 (by decide), hk 5 (by decide)]; exact e⟩
theorem GS.of3 {o o' : ObS} {U : Nat} (h : GS o U) (hk : ∀ k, k ≠ 3 → o'.1 k = o.1 k) : GS o' U := by
  have d0 := hk 0 (by decide)
  have d1 := hk 1 (by decide)
  have d2 := hk 2 (by decide)
  have d4 := hk 4 (by decide)
  have d5 := hk 5 (by decide)
  have d6 := hk 6 (by decide)
  unfold GS GU pa pb at *
  rw [d0, d1, d2, d4, d5, d6]
  exact h
theorem SI.of3 {o o' : ObS} {U k j : Nat} {F H : Nat → Int64} (h : SI o U k j F H) (hk : ∀ k, k ≠ 3 → o'.1 k = o.1 k) : SI o' U k j F H := by
  have d1 := hk 1 (by decide)
  have d6 := hk 6 (by decide)
  unfold SI TK at *
  rw [d1, d6]
  exact h
theorem sd_lp {U C : Nat} {kd : Nat → Int32} : ∀ (d u f g : Nat) (h : Nat → ObS) (mo : ObS), u + d = U → d < f → d < g → GS (h 3) U → UR (h 3) mo → (h 3).1 3 = mo.1 4 → (h 3).1 8 = mo.1 9 → (h 3).1 1 = kd → (∀ v, v < U → nOK (kd v) ((h 3).1 3 v)) → IC (h 4) mo kd U C →
    ∃ (h' : Nat → ObS) (mo' : ObS), f_X6_setDrivenUnits_b2 f (Int32.ofNat u) h = some h' ∧ f_X7_ticks_b37 g (Int32.ofNat u) mo = (f_X7_ages mo').bind (fun r => f_X7_ticks_b62 64 0 r) ∧ (∀ i, i ≠ 3 → i ≠ 4 → h' i = h i) ∧ (∀ k, k ≠ 3 → (h' 3).1 k = (h 3).1 k) ∧ (h' 3).2 = (h 3).2 ∧ (h' 3).1 3 = mo'.1 4 ∧ (∀ v, v < U → nOK (kd v) ((h' 3).1 3 v)) ∧ IC (h' 4) mo' kd U C ∧ (∀ j, j ≠ 4 → mo'.1 j = mo.1 j) ∧ (∀ j, j ≠ 32 → mo'.2 j = mo.2 j)
  | d, u, 0, g, h, mo, hd, hf, hg, G, R, e1, e2, e3, e4, I => by omega
  | d, u, f + 1, 0, h, mo, hd, hf, hg, G, R, e1, e2, e3, e4, I => by omega
  | 0, u, f + 1, g + 1, h, mo, hd, hf, hg, G, R, e1, e2, e3, e4, I => by
    obtain rfl : u = U := by omega
    have hU := G.1
    refine ⟨h, mo, ?_, ?_, fun _ _ _ => rfl, fun _ _ => rfl, rfl, e1, e4, I, fun _ _ => rfl, fun _ _ => rfl⟩
    · unfold f_X6_setDrivenUnits_b2 f_X5_count
      rw [G.2.1, if_pos ((ix_le (by omega) (by omega)).mpr (Nat.le_refl _))]
    · unfold f_X7_ticks_b37
      rw [← R.1, G.2.1, if_pos ((ix_le (by omega) (by omega)).mpr (Nat.le_refl _))]
  | d + 1, u, f + 1, g + 1, h, mo, hd1, hf, hg, G, R, e1, e2, e3, e4, I => by
    have hU := G.1
    have huU : u < U := by omega
    have b1 : ¬ Int32.ofNat U ≤ Int32.ofNat u := fun z => by have := (ix_le (by omega) (by omega)).mp z; omega
    obtain ⟨i1, i2, i3, ⟨i4, i5, i6, i7, i8⟩, ⟨i9, i10, i11, i12, i13⟩, i14, i15, i16⟩ := id I
    obtain ⟨y, q1, q2, q3⟩ := ch_lp (c := h 4) (mo := mo) (u := u) (C := C) (by omega) i1 i2 i3 i6 i12 C 0 64 64 (-1) (by omega) (by omega) (by omega) (Or.inl rfl)
    have hcls : f_X6_setDrivenUnits_b2 (f + 1) (Int32.ofNat u) h = if y = -1 then f_X6_setDrivenUnits_b2 f (Int32.ofNat (u + 1)) h else (f_X1_outputOf (h 4) y).bind fun r40 => (f_X1_letFollow (h 4) (Int32.ofNat u) r40).bind fun r50 => (f_X5_kindOf (h 3) (Int32.ofNat u)).bind fun r65 => (f_X5_putNumber (h 3) (Int32.ofNat u) ((f_X6_held r40 0 (((f_X6_mostOf r65)).toInt64)).toInt32)).bind fun r76 => f_X6_setDrivenUnits_b2 f (Int32.ofNat (u + 1)) (hu (hu h 3 r76) 4 r50) := by
      conv => lhs; unfold f_X6_setDrivenUnits_b2 f_X5_count
      rw [G.2.1, if_neg b1, tk_gr G.2.1 hU huU, Option.bind_some, e2]
      unfold f_X1_chosenFor
      rw [show f_X1_chosenFor_b5 (h 4) (Int32.ofNat u) (if mo.1 9 u = 0 then 0 else 1) 64 0 (-1) = _ from q1, Option.bind_some, ix_suc]
    have hmod : f_X7_ticks_b37 (g + 1) (Int32.ofNat u) mo = (if y = -1 then some mo else f_X7_driven_b103 (Int32.ofNat u) y 64 0 mo).bind fun r47 => f_X7_ticks_b37 g (Int32.ofNat (u + 1)) r47 := by
      conv => lhs; unfold f_X7_ticks_b37
      rw [← R.1, G.2.1, if_neg b1]
      unfold f_X7_driven
      rw [show f_X7_driven_b4 mo (Int32.ofNat u) 64 0 (-1) = _ from q2, ix_suc]
    rw [hcls, hmod]
    rcases q3 with rfl | ⟨e, he, rfl, hde⟩
    · rw [if_pos rfl, if_pos rfl, Option.bind_some]
      exact sd_lp d (u + 1) f g h mo (by omega) (by omega) (by omega) G R e1 e2 e3 e4 I
    · have n1 := ofn_m1 (e := e) (by omega)
      rw [if_neg n1, if_neg n1]
      have hk2 : kd u ≠ 2 := by
        rcases (i14 e he).2.2.2.2 with ⟨v, hv, h1, h2⟩ | ⟨v, hv, h1⟩
        · rw [hde, ix_eq (by omega) (by omega)] at h1; subst h1; exact h2
        · rw [hde, ix_eq (by omega) (by omega)] at h1; omega
      have gk := (G.2.2.1 u huU).1
      rw [e3] at gk
      have ho : f_X1_outputOf (h 4) (Int32.ofNat e) = some ((h 4).2 13 e) := by
        have a3 : e < 6 := by omega
        unfold f_X1_outputOf
        simp (disch := omega) [c_made i2 i1 he, ix_lt1, ix_le1, ix_lt2, ix_le2, ix_eq1, ix_eq2, ix_lt, ix_le, ix_eq, ix_inb, ix_nat, ix_suc, ix_dbl, -Int32.ofNat_add, -Int32.ofNat_mul, a3]
      obtain ⟨c', mo', r1, r2, r3, r4, r5, r6, r7⟩ := lf_lp (u := u) (e := e) (v := (h 4).2 13 e) (by omega) he i1 C 0 64 64 (h 4) mo (by omega) (by omega) (by omega) i2 i3 i6 i5 i12 i11 i10 (fun j hj => by
        rcases (i14 j hj).2.1 with q | q
        · rw [q.2.1, q.1]; exact ⟨fun z => absurd z (by decide), fun z => absurd rfl z⟩
        · rw [q.2.1]; exact ⟨fun _ => q.1, fun _ => rfl⟩) (by rw [i12])
      have hkm : mo.1 3 u = kd u := by rw [← R.2.1, e3]
      rw [hkm] at r2
      have hnum : ((f_X6_held ((h 4).2 13 e) 0 (((f_X6_mostOf (kd u))).toInt64)).toInt32) = (hd ((h 4).2 13 e) 0 ((f_X7_mostOf (kd u)).toInt64)).toInt32 := by rw [held6, (mo_67 gk hk2).1]
      generalize hnn : (hd ((h 4).2 13 e) 0 ((f_X7_mostOf (kd u)).toInt64)).toInt32 = nn at *
      have hok : nOK (kd u) nn := by rw [← hnn]; exact n_ok gk hk2
      rw [ho, Option.bind_some]
      unfold f_X1_letFollow
      rw [show f_X1_letFollow_b3 (Int32.ofNat u) ((h 4).2 13 e) 64 0 (h 4) = _ from r1, Option.bind_some, kd_of G.2.1 hU huU, e3, Option.bind_some, hnum, put_n G.2.1 hU huU, Option.bind_some, show f_X7_driven_b103 (Int32.ofNat u) (Int32.ofNat e) 64 0 mo = _ from r2, Option.bind_some]
      have k3 : ∀ k, k ≠ 3 → (oi (h 3) 3 u nn).1 k = (h 3).1 k := fun k hk => oi_n hk
      have k4 : ∀ k, k ≠ 4 → (oi mo' 4 u nn).1 k = mo.1 k := fun k hk => by rw [oi_n hk, r4]
      have e5 : (oi (h 3) 3 u nn).1 3 = (oi mo' 4 u nn).1 4 := by rw [oi_i, oi_i, if_pos rfl, if_pos rfl, r4, e1]
      obtain ⟨h', mo2, s1, s2, s3, s4, s5, s6, s7, s8, s9, s10⟩ := sd_lp (C := C) d (u + 1) f g (hu (hu h 3 (oi (h 3) 3 u nn)) 4 c') (oi mo' 4 u nn) (by omega) (by omega) (by omega) (GS.of3 G k3) (UR.of4 R k3 k4) e5 (by show (oi (h 3) 3 u nn).1 8 = _; rw [k3 8 (by decide), k4 9 (by decide)]; exact e2) (by show (oi (h 3) 3 u nn).1 1 = _; rw [k3 1 (by decide)]; exact e3)
        (fun v hv => by
          show nOK (kd v) ((oi (h 3) 3 u nn).1 3 v)
          rw [oi_i, if_pos rfl]; unfold upd
          by_cases h9 : v = u
          · subst h9; rw [if_pos rfl]; exact hok
          · rw [if_neg h9]; exact e4 v hv)
        (IC_dr I r3 k4 r5 r6 r7)
      refine ⟨h', mo2, s1, s2, fun i hi hj => (s3 i hi hj).trans ((hu_n hj).trans (hu_n hi)), fun k hk => (s4 k hk).trans (k3 k hk), s5, s6, s7, s8, fun j hj => (s9 j hj).trans (k4 j hj), fun j hj => (s10 j hj).trans (r7 j hj)⟩
