/-! a new train -/
theorem ini_lp : ∀ (d s f : Nat) (o : ObS), s + d = 24 → d < f → ∃ o' : ObS, f_X5_init_b75 f (Int32.ofNat s) o = some o' ∧ (∀ i, s ≤ i → i < 24 → o'.1 6 i = -1) ∧ (∀ i, i < s → o'.1 6 i = o.1 6 i) ∧ (∀ k, k ≠ 6 → o'.1 k = o.1 k) ∧ o'.2 = o.2
  | d, s, 0, o, h, hf => by omega
  | 0, s, f + 1, o, h, hf => by
    obtain rfl : s = 24 := by omega
    exact ⟨o, rfl, fun i h1 h2 => by omega, fun i _ => rfl, fun _ _ => rfl, rfl⟩
  | d + 1, s, f + 1, o, h, hf => by
    have a1 : ¬ 24 ≤ s := by omega
    have a3 : s < 24 := by omega
    obtain ⟨o', e, e1, e2, e3, e4⟩ := ini_lp d (s + 1) f (oi o 6 s (-1)) (by omega) (by omega)
    refine ⟨o', ?_, fun i h1 h2 => ?_, fun i h1 => ?_, fun k hk => (e3 k hk).trans (oi_n hk), e4⟩
    · conv => lhs; unfold f_X5_init_b75
      rw [← e]
      simp (disch := omega) [ix_lt1, ix_le1, ix_lt2, ix_le2, ix_eq1, ix_eq2, ix_lt, ix_le, ix_eq, ix_inb, ix_nat, ix_suc, ix_dbl, -Int32.ofNat_add, -Int32.ofNat_mul, a1, a3]
    · by_cases h9 : i = s
      · subst h9; rw [e2 i (by omega), oi_s]; exact upd_s
      · exact e1 i (by omega) h2
    · rw [e2 i (by omega), oi_s]; exact upd_n (by omega)
theorem INV_start {R5 : ObS} (e1 : ∀ i, i < 24 → R5.1 6 i = -1) (e3 : ∀ k, k ≠ 6 → R5.1 k = z0.1 k) (e4 : R5.2 = z0.2) : INV (hu (fun _ => z0) 3 R5) z0 0 0 0 := by
  have zs : ∀ s, (z0.2 0 s : Int64) = 0 ∧ (z0.2 1 s : Int64) = 0 := fun s => ⟨rfl, rfl⟩
  refine ⟨⟨⟨by omega, ?_, fun u hu9 => by omega, fun s hs => Or.inl (e1 s hs)⟩, ⟨?_, ?_, ?_, ?_, ?_⟩, ?_, ?_, fun u hu9 => by omega, fun u _ => Or.inl rfl, fun v => ?_⟩, ⟨rfl, rfl, ⟨0, by omega, SI_z zs⟩, by omega, fun _ => ⟨zs, fun u => ?_, rfl⟩⟩, ⟨rfl, rfl⟩, ⟨0, rfl, HB_z (fun s => rfl) (fun u => ?_)⟩, ⟨0, by omega, rfl, rfl, fun i hi => by omega⟩, ⟨0, ⟨rfl, rfl, by omega, fun i hi => by omega⟩, ?_⟩, ⟨by omega, rfl, rfl, ⟨rfl, rfl, rfl, rfl, rfl⟩, ⟨fun _ => rfl, rfl, rfl, rfl, fun _ => rfl⟩, fun k hk => by omega, fun k => Or.inl rfl, fun k _ => ⟨rfl, rfl, rfl, rfl, rfl⟩⟩, ⟨Or.inl ⟨rfl, rfl⟩, fun r s hr => by omega⟩⟩
  · show R5.1 0 0 = _; rw [e3 0 (by decide)]; rfl
  · show R5.1 0 0 = _; rw [e3 0 (by decide)]; rfl
  · show R5.1 1 = _; rw [e3 1 (by decide)]; rfl
  · show R5.1 2 = _; rw [e3 2 (by decide)]; rfl
  · show R5.1 4 = _; rw [e3 4 (by decide)]; rfl
  · show R5.1 5 = _; rw [e3 5 (by decide)]; rfl
  · show R5.1 3 = _; rw [e3 3 (by decide)]; rfl
  · show R5.1 8 = _; rw [e3 8 (by decide)]; rfl
  · show (R5.2 7 v).toInt32 = _; rw [e4]; rfl
  · show R5.2 7 u = 0; rw [e4]; rfl
  · show R5.2 7 u = 0; rw [e4]; rfl
  · exact sm_nn (f := fun i => ((if i < 0 then ((0 : Nat) : Int) + 1 else (0 : Nat)) + (z0.1 35 i).toInt) / 2) (fun i _ => by rw [if_neg (by omega), show (z0.1 35 i).toInt = 0 from rfl]; decide)
