theorem pa_of {o : ObS} {u s : Nat} (h : o.1 4 u = Int32.ofNat s) (hs : s < 2147483648) : pa o u = s := by unfold pa; rw [h, ix_nat hs]
theorem pa_eq {o o' : ObS} {u : Nat} (h : o'.1 4 u = o.1 4 u) : pa o' u = pa o u := by unfold pa; rw [h]
theorem ag_back {h : Nat → ObS} {mo : ObS} {U C t : Nat} (I : INV h mo U C t) (x y : Int32) (w : ObS) : AG (f_L_back h x y w) (f_X7_back mo x y) := by
  obtain ⟨⟨G, R, n1, n2, n3, n4, n5⟩, ⟨-, -, -, t1, -⟩, ⟨t2, t3⟩, -⟩ := id I
  have hU := G.1
  have r0 := R.1
  rw [G.2.1] at r0
  have m1 := mR r0.symm hU t3 t1
  have no : ∀ k : Int32, k ≠ 0 → f_X7_back_b60 mo x y k = some (0, oi mo 0 0 k) := fun k hk => by
    unfold f_X7_back_b60; rw [holds_0 hk]; rfl
  unfold f_L_back f_X6_back f_X7_back f_X7_back_b20 f_X7_back_b21 f_X7_back_b55
  rw [nU G.2.1 hU, tb_b, nS G.2.1 hU, tb_b, iU r0.symm hU, iS r0.symm hU]
  by_cases q1 : 0 ≤ x.toInt ∧ x.toInt < U
  · rw [if_pos q1, sB_t q1, Option.bind_some, if_neg n10]
    by_cases q2 : 0 ≤ y.toInt ∧ y.toInt < 2 * U
    · rw [if_pos q2, sB_t q2, Option.bind_some, if_neg n10, if_neg n10]
      obtain ⟨u, huU, rfl⟩ := ex_n (x := x) (n := U) q1 (by omega)
      obtain ⟨s, hs, rfl⟩ := ex_n (x := y) (n := 2 * U) (by omega) (by omega)
      have h12 : u < 12 := by omega
      have hs24 : s < 24 := by omega
      have fr := free_ok (s := s) G R (by omega)
      have mt := it_ok (mo := mo) (Int32.ofNat s) r0.symm hU
      have nt := nNT (h := h) t2 t1
      rw [kd_of G.2.1 hU huU, Option.bind_some, ix_inb (by omega), if_pos (show decide (u < 12) = true by simpa using h12), ix_nat (by omega), ← R.2.1]
      by_cases q3 : (h 3).1 1 u = 0
      · rw [if_pos q3, if_pos q3]
        exact AG_no I (w := w) (k := 2) (by decide) rfl (no 2 (by decide))
      · rw [if_neg q3, if_neg q3]
        by_cases q4 : Tk mo U (Int32.ofNat s)
        · rw [fr.1 q4, tb_l, mt.1 q4, Option.bind_some, Option.bind_some, if_neg n10]
          exact AG_no I (w := w) (k := 2) (by decide) rfl (no 2 (by decide))
        · rw [fr.2 q4, tb_r, mt.2 q4, Option.bind_some, if_pos (rfl : (0 : Int32) = 0)]
          by_cases q5 : t = 0
          · subst q5
            rw [nt.1 rfl, tb_r, if_pos (m1.2.mpr rfl)]
            obtain ⟨g1, g2, g3, g4⟩ := G
            have gu := g3 u huU
            obtain ⟨a1, a2, a3⟩ := gu.2.1 q3
            have fs : (h 3).1 6 s = -1 := by
              rcases g4 s hs24 with q | ⟨v, hv, _, q⟩
              · exact q
              · exact absurd ⟨v, hv, by rw [← R.2.2.2.1, ← R.2.2.2.2]; exact q⟩ q4
            have hsa : s ≠ pa (h 3) u := fun z => by
              rw [← z] at a3; rw [a3] at fs; exact absurd fs (ofn_m1 (by omega))
            have hG : GS (oi (oi (oi (h 3) 6 (pa (h 3) u) (-1)) 6 s (Int32.ofNat u)) 4 u (Int32.ofNat s)) U := by
              refine ⟨g1, by simp [oi_i]; exact g2, fun v hv => ?_, fun s' hs' => ?_⟩
              · have gv := g3 v hv
                have tk : ∀ s', s' < 24 → s' ≠ pa (h 3) u → (h 3).1 6 s' ≠ -1 → (oi (oi (oi (h 3) 6 (pa (h 3) u) (-1)) 6 s (Int32.ofNat u)) 4 u (Int32.ofNat s)).1 6 s' = (h 3).1 6 s' := fun s' _ h1 h2 => by
                  have h3 : s' ≠ s := fun z => by rw [z] at h2; exact h2 fs
                  simp [oi_i, upd, h1, h3]
                have e1 : (oi (oi (oi (h 3) 6 (pa (h 3) u) (-1)) 6 s (Int32.ofNat u)) 4 u (Int32.ofNat s)).1 1 = (h 3).1 1 := by simp [oi_i]
                have e2 : (oi (oi (oi (h 3) 6 (pa (h 3) u) (-1)) 6 s (Int32.ofNat u)) 4 u (Int32.ofNat s)).1 2 = (h 3).1 2 := by simp [oi_i]
                have e5 : (oi (oi (oi (h 3) 6 (pa (h 3) u) (-1)) 6 s (Int32.ofNat u)) 4 u (Int32.ofNat s)).1 5 = (h 3).1 5 := by simp [oi_i]
                have eb : pb (oi (oi (oi (h 3) 6 (pa (h 3) u) (-1)) 6 s (Int32.ofNat u)) 4 u (Int32.ofNat s)) v = pb (h 3) v := by unfold pb; rw [e5]
                have e4 : (oi (oi (oi (h 3) 6 (pa (h 3) u) (-1)) 6 s (Int32.ofNat u)) 4 u (Int32.ofNat s)).1 4 = upd ((h 3).1 4) u (Int32.ofNat s) := by simp [oi_i]
                obtain ⟨p1, p2, p3, p4, p5⟩ := gv
                by_cases hvu : v = u
                · subst hvu
                  have ea : pa (oi (oi (oi (h 3) 6 (pa (h 3) v) (-1)) 6 s (Int32.ofNat v)) 4 v (Int32.ofNat s)) v = s := pa_of (by rw [e4, upd_s]) (by omega)
                  unfold GU
                  rw [ea, eb, e1, e2, e4, e5, upd_s]
                  refine ⟨p1, fun _ => ⟨hs24, rfl, by simp [oi_i, upd]⟩, fun z => ?_, fun z => absurd z q3, p5⟩
                  obtain ⟨b1, b2, b3, b4⟩ := p3 z
                  have h9 : (h 3).1 6 (pb (h 3) v) ≠ -1 := by rw [b3]; exact ofn_m1 (by omega)
                  exact ⟨b1, b2, by rw [tk _ b1 (fun y => b4 y.symm) h9]; exact b3, fun y => by rw [y] at fs; exact h9 fs⟩
                · have ea : pa (oi (oi (oi (h 3) 6 (pa (h 3) u) (-1)) 6 s (Int32.ofNat u)) 4 u (Int32.ofNat s)) v = pa (h 3) v := pa_eq (by rw [e4, upd_n hvu])
                  have tk2 : ∀ s', s' < 24 → (h 3).1 6 s' = Int32.ofNat v → (oi (oi (oi (h 3) 6 (pa (h 3) u) (-1)) 6 s (Int32.ofNat u)) 4 u (Int32.ofNat s)).1 6 s' = Int32.ofNat v := fun s' hs' h1 => by
                    rw [tk s' hs' (fun y => by rw [y, a3, ix_eq (by omega) (by omega)] at h1; exact hvu h1.symm) (by rw [h1]; exact ofn_m1 (by omega))]; exact h1
                  unfold GU
                  rw [ea, eb, e1, e2, e4, e5, upd_n hvu]
                  exact ⟨p1, fun z => ⟨(p2 z).1, (p2 z).2.1, tk2 _ (p2 z).1 (p2 z).2.2⟩, fun z => ⟨(p3 z).1, (p3 z).2.1, tk2 _ (p3 z).1 (p3 z).2.2.1, (p3 z).2.2.2⟩, p4, p5⟩
              · by_cases h1 : s' = s
                · subst h1; right; exact ⟨u, huU, by simp [oi_i, upd], Or.inl (by simp [oi_i, upd])⟩
                · by_cases h2 : s' = pa (h 3) u
                  · left; subst h2; simp [oi_i, upd, h1]
                  · rcases g4 s' hs' with q | ⟨v, hv, q, q9⟩
                    · left; simp [oi_i, upd, h1, h2]; exact q
                    · right
                      refine ⟨v, hv, by simp [oi_i, upd, h1, h2]; exact q, ?_⟩
                      by_cases hvu : v = u
                      · subst hvu
                        rcases q9 with q9 | q9
                        · rw [a2, ix_eq (by omega) (by omega)] at q9; exact absurd q9.symm h2
                        · right; simp [oi_i]; exact q9
                      · simp [oi_i, upd, hvu]; exact q9
            obtain ⟨-, r1, r2, r3, r4⟩ := R
            refine AG_ok (r := mo.1 6 u) (w := w) (h' := hu h 3 (oi (oi (oi (h 3) 6 (pa (h 3) u) (-1)) 6 s (Int32.ofNat u)) 4 u (Int32.ofNat s))) (mo' := oi (oi mo 0 0 0) 6 u (Int32.ofNat s)) (INV_g I (Nat.le_refl _) hG ⟨?_, ?_, ?_, ?_, ?_⟩ ?_ ?_ ?_ rfl (fun v hv => by simp [oi_i]) (fun j hj => by rw [oi_n (by omega), oi_n (by omega)]) rfl) ?_ ?_ rfl
            · rw [oi_n (show 0 ≠ 4 by decide), oi_n (show 0 ≠ 6 by decide), oi_n (show 0 ≠ 6 by decide), oi_n (show 2 ≠ 6 by decide), oi_n (show 2 ≠ 0 by decide), g2]; exact r0
            · simp [oi_i]; exact r1
            · simp [oi_i]; exact r2
            · simp [oi_i]; rw [r3]
            · simp [oi_i]; exact r4
            · simp [oi_i]; exact n1
            · simp [oi_i]
            · simp [oi_i]; exact n3
            · unfold f_X5_takeInstead
              have hm := u_made g2 g1 huU
              simp (disch := omega) [hm, ix_lt1, ix_le1, ix_lt2, ix_le2, ix_eq1, ix_eq2, ix_lt, ix_le, ix_eq, ix_inb, ix_nat, ix_suc, ix_dbl, -Int32.ofNat_add, -Int32.ofNat_mul, h12, a2, ptk_ok _ a1, ptk_ok _ hs24, sumE, r3 ▸ a2]
            · unfold f_X7_back_b60
              simp (disch := omega) [holds_1, ix_lt1, ix_le1, ix_lt2, ix_le2, ix_eq1, ix_eq2, ix_lt, ix_le, ix_eq, ix_inb, ix_nat, ix_suc, ix_dbl, -Int32.ofNat_add, -Int32.ofNat_mul, h12, oi_i]
          · rw [nt.2 q5, tb_l, if_neg (fun z => q5 (m1.2.mp z))]
            exact AG_no I (w := w) (k := 2) (by decide) rfl (no 2 (by decide))
    · rw [if_neg q2, sB_f q2, Option.bind_some, Option.bind_some, if_pos (rfl : (0 : Int32) = 0), if_pos (rfl : (0 : Int32) = 0)]
      exact AG_no I (w := w) (k := 1) (by decide) rfl (no 1 (by decide))
  · rw [if_neg q1, sB_f q1, Option.bind_some, Option.bind_some, if_pos (rfl : (0 : Int32) = 0), if_pos (rfl : (0 : Int32) = 0)]
    exact AG_no I (w := w) (k := 1) (by decide) rfl (no 1 (by decide))
