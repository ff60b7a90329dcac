theorem ix_half {s : Nat} (h : s < 2147483648) : (Int32.ofNat s) / 2 = Int32.ofNat (s / 2) := by
  rw [← Int32.toInt_inj, Int32.toInt_div, ix_toInt h, ix_toInt (by omega), show ((2 : Int32).toInt) = 2 from rfl, ← Int.ofNat_two, ← Int.ofNat_tdiv]
  exact Int.bmod_eq_of_le (by omega) (by omega)
theorem m_wf (f h : Int64) : f_X7_warmthFor f h = some (wm f h) := by
  by_cases h3 : f = 0 <;> simp [f_X7_warmthFor, lg_cmp_eq, h3, wm]
theorem m_tF {o : ObS} {u s : Nat} (hs : s < 24) (hu : u < 12) : f_X7_takenFlow o (Int32.ofNat u) (Int32.ofNat s) = some (if u ≤ s / 2 then o.2 12 s else o.2 10 s) := by
  by_cases h : u ≤ s / 2 <;>
  simp (disch := omega) [f_X7_takenFlow, ix_half, ix_lt1, ix_le1, ix_lt2, ix_le2, ix_eq1, ix_eq2, ix_lt, ix_le, ix_eq, ix_inb, ix_nat, ix_suc, ix_dbl, -Int32.ofNat_add, -Int32.ofNat_mul, h, hs]
theorem m_tH {o : ObS} {u s : Nat} (hs : s < 24) (hu : u < 12) : f_X7_takenHeat o (Int32.ofNat u) (Int32.ofNat s) = some (if u ≤ s / 2 then o.2 13 s else o.2 11 s) := by
  by_cases h : u ≤ s / 2 <;>
  simp (disch := omega) [f_X7_takenHeat, ix_half, ix_lt1, ix_le1, ix_lt2, ix_le2, ix_eq1, ix_eq2, ix_lt, ix_le, ix_eq, ix_inb, ix_nat, ix_suc, ix_dbl, -Int32.ofNat_add, -Int32.ofNat_mul, h, hs]
theorem m_gv {o : ObS} {u : Nat} (hu : u < 12) (a b c d : Int64) : f_X7_gives o (Int32.ofNat u) a b c d = some (oj (oj (oj (oj o 10 (2 * u) a) 11 (2 * u) b) 10 (2 * u + 1) c) 11 (2 * u + 1) d) := by
  have i0 : 2 * u < 24 := by omega
  have i1 : 2 * u + 1 < 24 := by omega
  simp (disch := omega) [f_X7_gives, ix_lt1, ix_le1, ix_lt2, ix_le2, ix_eq1, ix_eq2, ix_lt, ix_le, ix_eq, ix_inb, ix_nat, ix_suc, ix_dbl, -Int32.ofNat_add, -Int32.ofNat_mul, i0, i1]
theorem m_mn (a b : Int64) : mn a b = if (0 : Int32) ≤ lg_cmp a b then b else a := by
  unfold mn; simp only [lg_cmp_ge, Int64.le_iff_toInt_le, Int64.lt_iff_toInt_lt]
  repeat' split
  · rfl
  · omega
  · apply Int64.toInt_inj.mp; omega
  · rfl
def RUNS (mo mo' : ObS) (u : Nat) (x : Int64 × Int64 × Int64 × Int64 × Int64) : Prop :=
  mo'.1 8 = upd (mo.1 8) u x.2.2.2.2.toInt32 ∧ mo'.2 10 = st2 (mo.2 10) u x.1 x.2.2.1 ∧ mo'.2 11 = st2 (mo.2 11) u x.2.1 x.2.2.2.1 ∧ (∀ k, k ≠ 8 → mo'.1 k = mo.1 k) ∧ (∀ k, k ≠ 10 → k ≠ 11 → mo'.2 k = mo.2 k)
theorem upd_upd (f : Nat → Int32) (j : Nat) (a b : Int32) : upd (upd f j a) j b = upd f j b := by
  funext s; unfold upd; by_cases h : s = j <;> simp [h]
theorem m_runs {mo : ObS} {u a b : Nat} {n : Int64} (hu : u < 12)
    (hk : mo.1 3 u = 0 ∨ mo.1 3 u = 1 ∨ mo.1 3 u = 2 ∨ mo.1 3 u = 3 ∨ mo.1 3 u = 4)
    (h1 : mo.1 3 u ≠ 0 → mo.1 6 u = Int32.ofNat a ∧ a < 24) (h2 : mo.1 3 u = 2 ∨ mo.1 3 u = 3 → mo.1 7 u = Int32.ofNat b ∧ b < 24)
    {fa ha fb hb : Int64} (efa : (if u ≤ a / 2 then mo.2 12 a else mo.2 10 a) = fa) (eha : (if u ≤ a / 2 then mo.2 13 a else mo.2 11 a) = ha) (efb : (if u ≤ b / 2 then mo.2 12 b else mo.2 10 b) = fb) (ehb : (if u ≤ b / 2 then mo.2 13 b else mo.2 11 b) = hb)
    (hd0 : mo.1 3 u = 3 → n + mn fa fb ≠ 0 → ¬ 10 * (n + mn fa fb) = 0) :
    ∃ mo' : ObS, f_X7_runs mo (Int32.ofNat u) n = some mo' ∧ RUNS mo mo' u (uo (mo.1 3 u) n (mo.1 5 u).toInt64 fa ha fb hb) := by
  have i2 : u < 12 := hu
  rcases hk with hk | hk | hk | hk | hk
  · refine ⟨oj (oj (oj (oj (oi mo 8 u 0) 10 (2 * u) n) 11 (2 * u) (n * (mo.1 5 u).toInt64)) 10 (2 * u + 1) 0) 11 (2 * u + 1) 0, ?_, ?_⟩
    · simp (disch := omega) [f_X7_runs, hk, ix_lt1, ix_le1, ix_lt2, ix_le2, ix_eq1, ix_eq2, ix_lt, ix_le, ix_eq, ix_inb, ix_nat, ix_suc, ix_dbl, -Int32.ofNat_add, -Int32.ofNat_mul, m_gv hu, i2, uo, oi_i]
    · refine ⟨?_, ?_, ?_, ?_, ?_⟩
      · simp [uo, hk, oj_i, oi_i]
      · simp [uo, hk, oj_j, oi_j, st2]
      · simp [uo, hk, oj_j, oi_j, st2]
      · intro k h; simp [oj_i, oi_i, h]
      · intro k h h9; simp [oj_j, oi_j, h, h9]
  · obtain ⟨p, l⟩ := h1 (by rw [hk]; decide)
    refine ⟨oj (oj (oj (oj (oi mo 8 u 0) 10 (2 * u) (fa * n / 100)) 11 (2 * u) (if fa = 0 then 0 else ha * (fa * n / 100) / fa)) 10 (2 * u + 1) (fa - fa * n / 100)) 11 (2 * u + 1) (ha - (if fa = 0 then 0 else ha * (fa * n / 100) / fa)), ?_, ?_⟩
    · by_cases hz : fa = 0 <;>
      simp (disch := omega) [f_X7_runs, f_X7_runs_b87, f_X7_runs_b112, f_X7_runs_b149, f_X7_takesTwo, hk, ix_lt1, ix_le1, ix_lt2, ix_le2, ix_eq1, ix_eq2, ix_lt, ix_le, ix_eq, ix_inb, ix_nat, ix_suc, ix_dbl, -Int32.ofNat_add, -Int32.ofNat_mul, m_gv hu, i2, oi_i, oi_j, p, m_tF l hu, m_tH l hu, efa, eha, lg_cmp_eq, hz]
    · refine ⟨?_, ?_, ?_, ?_, ?_⟩
      · simp [uo, hk, oj_i, oi_i]
      · simp [uo, hk, oj_j, oi_j, st2]
      · simp [uo, hk, oj_j, oi_j, st2]
      · intro k h; simp [oj_i, oi_i, h]
      · intro k h h9; simp [oj_j, oi_j, h, h9]
  · obtain ⟨p, l⟩ := h1 (by rw [hk]; decide)
    obtain ⟨p2, l2⟩ := h2 (Or.inl hk)
    refine ⟨oj (oj (oj (oj (oi mo 8 u 0) 10 (2 * u) (fa + fb)) 11 (2 * u) (ha + hb)) 10 (2 * u + 1) 0) 11 (2 * u + 1) 0, ?_, ?_⟩
    · simp (disch := omega) [f_X7_runs, f_X7_runs_b87, f_X7_runs_b112, f_X7_takesTwo, hk, ix_lt1, ix_le1, ix_lt2, ix_le2, ix_eq1, ix_eq2, ix_lt, ix_le, ix_eq, ix_inb, ix_nat, ix_suc, ix_dbl, -Int32.ofNat_add, -Int32.ofNat_mul, m_gv hu, i2, oi_i, oi_j, p, p2, m_tF l hu, m_tH l hu, m_tF l2 hu, m_tH l2 hu, efa, eha, efb, ehb]
    · refine ⟨?_, ?_, ?_, ?_, ?_⟩
      · simp [uo, hk, oj_i, oi_i]
      · simp [uo, hk, oj_j, oi_j, st2]
      · simp [uo, hk, oj_j, oi_j, st2]
      · intro k h; simp [oj_i, oi_i, h]
      · intro k h h9; simp [oj_j, oi_j, h, h9]
  · obtain ⟨p, l⟩ := h1 (by rw [hk]; decide)
    obtain ⟨p2, l2⟩ := h2 (Or.inr hk)
    have hdd := hd0 hk
    refine ⟨oj (oj (oj (oj (oi (oi mo 8 u 0) 8 u (hd (tr n (mn fa fb) (wm fa ha - wm fb hb)) (-hb) ha).toInt32) 10 (2 * u) fa) 11 (2 * u) (ha - hd (tr n (mn fa fb) (wm fa ha - wm fb hb)) (-hb) ha)) 10 (2 * u + 1) fb) 11 (2 * u + 1) (hb + hd (tr n (mn fa fb) (wm fa ha - wm fb hb)) (-hb) ha), ?_, ?_⟩
    · have ht : ∀ s14 : ObS, f_X7_runs_b220 (Int32.ofNat u) n s14 fa ha fb hb (mn fa fb) = f_X7_runs_b264 (Int32.ofNat u) s14 fa ha fb hb (tr n (mn fa fb) (wm fa ha - wm fb hb)) := by
        intro s14
        unfold f_X7_runs_b220 tr
        by_cases hz : n + mn fa fb = 0
        · simp [lg_cmp_eq, hz]
        · simp only [lg_cmp_eq, hz, if_false, hdd hz, not_false_eq_true, decide_true, if_true, m_wf, Option.bind_some]
      have hc : ∀ s14 : ObS, (if (0 : Int32) ≤ lg_cmp fa fb then f_X7_runs_b220 (Int32.ofNat u) n s14 fa ha fb hb fb else f_X7_runs_b220 (Int32.ofNat u) n s14 fa ha fb hb fa) = f_X7_runs_b264 (Int32.ofNat u) s14 fa ha fb hb (tr n (mn fa fb) (wm fa ha - wm fb hb)) := by
        intro s14; rw [← ht, m_mn]; split <;> rfl
      simp (disch := omega) [f_X7_runs, f_X7_runs_b87, f_X7_runs_b112, f_X7_takesTwo, hk, ix_lt1, ix_le1, ix_lt2, ix_le2, ix_eq1, ix_eq2, ix_lt, ix_le, ix_eq, ix_inb, ix_nat, ix_suc, ix_dbl, -Int32.ofNat_add, -Int32.ofNat_mul, m_gv hu, i2, oi_i, oi_j, p, p2, m_tF l hu, m_tH l hu, m_tF l2 hu, m_tH l2 hu, efa, eha, efb, ehb, hc]
      simp (disch := omega) [f_X7_runs_b264, ix_lt1, ix_le1, ix_lt2, ix_le2, ix_eq1, ix_eq2, ix_lt, ix_le, ix_eq, ix_inb, ix_nat, ix_suc, ix_dbl, -Int32.ofNat_add, -Int32.ofNat_mul, m_gv hu, i2, held7]
    · refine ⟨?_, ?_, ?_, ?_, ?_⟩
      · simp [uo, hk, oj_i, oi_i, upd_upd]
      · simp [uo, hk, oj_j, oi_j, st2]
      · simp [uo, hk, oj_j, oi_j, st2]
      · intro k h; simp [oj_i, oi_i, h]
      · intro k h h9; simp [oj_j, oi_j, h, h9]
  · obtain ⟨p, l⟩ := h1 (by rw [hk]; decide)
    refine ⟨oj (oj (oj (oj (oi (oi mo 8 u 0) 8 u (mn ha n).toInt32) 10 (2 * u) fa) 11 (2 * u) (ha - mn ha n)) 10 (2 * u + 1) 0) 11 (2 * u + 1) 0, ?_, ?_⟩
    · have hc : ∀ s14 : ObS, (if (0 : Int32) ≤ lg_cmp ha n then f_X7_runs_b322 (Int32.ofNat u) s14 fa ha n else f_X7_runs_b322 (Int32.ofNat u) s14 fa ha ha) = f_X7_runs_b322 (Int32.ofNat u) s14 fa ha (mn ha n) := by
        intro s14; rw [m_mn]; split <;> rfl
      simp (disch := omega) [f_X7_runs, f_X7_runs_b87, f_X7_runs_b112, f_X7_takesTwo, hk, ix_lt1, ix_le1, ix_lt2, ix_le2, ix_eq1, ix_eq2, ix_lt, ix_le, ix_eq, ix_inb, ix_nat, ix_suc, ix_dbl, -Int32.ofNat_add, -Int32.ofNat_mul, m_gv hu, i2, oi_i, oi_j, p, m_tF l hu, m_tH l hu, efa, eha, hc]
      simp (disch := omega) [f_X7_runs_b322, ix_lt1, ix_le1, ix_lt2, ix_le2, ix_eq1, ix_eq2, ix_lt, ix_le, ix_eq, ix_inb, ix_nat, ix_suc, ix_dbl, -Int32.ofNat_add, -Int32.ofNat_mul, m_gv hu, i2]
    · refine ⟨?_, ?_, ?_, ?_, ?_⟩
      · simp [uo, hk, oj_i, oi_i, upd_upd]
      · simp [uo, hk, oj_j, oi_j, st2]
      · simp [uo, hk, oj_j, oi_j, st2]
      · intro k h; simp [oj_i, oi_i, h]
      · intro k h h9; simp [oj_j, oi_j, h, h9]
