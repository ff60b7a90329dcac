/-! sums over streams; what is still to be taken -/
def sm : Nat → (Nat → Int) → Int
  | 0, _ => 0
  | n + 1, g => sm n g + g n
theorem sm_ext {n : Nat} {f g : Nat → Int} (h : ∀ i, i < n → f i = g i) : sm n f = sm n g := by
  induction n with
  | zero => rfl
  | succ n ih => show sm n f + f n = sm n g + g n; rw [ih (fun i hi => h i (by omega)), h n (by omega)]
theorem sm_add (n : Nat) (f g : Nat → Int) : sm n (fun i => f i + g i) = sm n f + sm n g := by
  induction n with
  | zero => rfl
  | succ n ih => show sm n _ + (f n + g n) = (sm n f + f n) + (sm n g + g n); rw [ih]; omega
theorem sm_sub (n : Nat) (f g : Nat → Int) : sm n (fun i => f i - g i) = sm n f - sm n g := by
  induction n with
  | zero => rfl
  | succ n ih => show sm n _ + (f n - g n) = (sm n f + f n) - (sm n g + g n); rw [ih]; omega
theorem sm_pt (n t : Nat) (x : Int) : sm n (fun i => if i = t then x else 0) = if t < n then x else 0 := by
  induction n with
  | zero => rfl
  | succ n ih =>
    show sm n _ + (if n = t then x else 0) = _
    rw [ih]
    by_cases h1 : t < n
    · rw [if_pos h1, if_neg (by omega), if_pos (by omega)]; omega
    · by_cases h2 : n = t
      · rw [if_neg h1, if_pos h2, if_pos (by omega)]; omega
      · rw [if_neg h1, if_neg h2, if_neg (by omega)]; rfl
theorem sm_nn {n : Nat} {f : Nat → Int} (h : ∀ i, i < n → 0 ≤ f i) : 0 ≤ sm n f := by
  induction n with
  | zero => exact Int.le_refl 0
  | succ n ih => have := ih (fun i hi => h i (by omega)); have := h n (by omega); show 0 ≤ sm n f + f n; omega
theorem sm_mono {n : Nat} {f g : Nat → Int} (h : ∀ i, i < n → f i ≤ g i) : sm n f ≤ sm n g := by
  induction n with
  | zero => exact Int.le_refl 0
  | succ n ih => have := ih (fun i hi => h i (by omega)); have := h n (by omega); show sm n f + f n ≤ sm n g + g n; omega
theorem sm_one {n t : Nat} {f : Nat → Int} (h : ∀ i, i < n → 0 ≤ f i) (ht : t < n) : f t ≤ sm n f := by
  have h1 : sm n (fun i => if i = t then f t else 0) ≤ sm n f := sm_mono (fun i hi => by
    by_cases e : i = t
    · subst e; simp
    · simp [e, h i hi])
  rw [sm_pt, if_pos ht] at h1; exact h1
abbrev lvB (t : Int) (k s : Nat) : Prop := (s / 2 < k ∧ ¬ ((s / 2 : Nat) < t ∧ t < k)) ∨ (k ≤ s / 2 ∧ (k : Int) ≤ t ∧ t ≤ (s / 2 : Nat))
/-- what is still to be taken, when `k` units have given -/
def AA (T : Nat → Int) (k : Nat) (G : Nat → Int) : Int := sm 24 (fun s => if lvB (T s) k s then G s else 0)
/-- what unit `k` takes -/
def II (T : Nat → Int) (k : Nat) (G : Nat → Int) : Int := sm 24 (fun s => if T s = (k : Int) then G s else 0)
theorem AA_step {T : Nat → Int} {k : Nat} {G G' : Nat → Int} (hk : k < 12) (h : ∀ s, s < 24 → s / 2 ≠ k → G' s = G s) : AA T (k + 1) G' = AA T k G + (G' (2 * k) + G' (2 * k + 1)) - II T k G := by
  have e1 : sm 24 (fun s => if s = 2 * k then G' (2 * k) else 0) = G' (2 * k) := by rw [sm_pt, if_pos (by omega)]
  have e2 : sm 24 (fun s => if s = 2 * k + 1 then G' (2 * k + 1) else 0) = G' (2 * k + 1) := by rw [sm_pt, if_pos (by omega)]
  have e3 : sm 24 (fun s => if s = 2 * k then G' (2 * k) else 0) + sm 24 (fun s => if s = 2 * k + 1 then G' (2 * k + 1) else 0) = G' (2 * k) + G' (2 * k + 1) := by rw [e1, e2]
  rw [← e3]
  unfold AA II
  rw [← sm_add, ← sm_add, ← sm_sub]
  refine sm_ext (fun s hs => ?_)
  by_cases h1 : s = 2 * k
  · subst h1
    have a1 : lvB (T (2 * k)) (k + 1) (2 * k) := Or.inl ⟨by omega, by omega⟩
    have a2 : ¬ 2 * k = 2 * k + 1 := by omega
    rw [if_pos a1, if_pos rfl, if_neg a2]
    by_cases h2 : T (2 * k) = k
    · have a3 : lvB (T (2 * k)) k (2 * k) := Or.inr ⟨by omega, by omega, by omega⟩
      rw [if_pos a3, if_pos h2]; omega
    · have a3 : ¬ lvB (T (2 * k)) k (2 * k) := fun q => by rcases q with q | q <;> omega
      rw [if_neg a3, if_neg h2]; omega
  · by_cases h2 : s = 2 * k + 1
    · subst h2
      have a1 : lvB (T (2 * k + 1)) (k + 1) (2 * k + 1) := Or.inl ⟨by omega, by omega⟩
      rw [if_pos a1, if_neg h1, if_pos rfl]
      by_cases h2 : T (2 * k + 1) = k
      · have a3 : lvB (T (2 * k + 1)) k (2 * k + 1) := Or.inr ⟨by omega, by omega, by omega⟩
        rw [if_pos a3, if_pos h2]; omega
      · have a3 : ¬ lvB (T (2 * k + 1)) k (2 * k + 1) := fun q => by rcases q with q | q <;> omega
        rw [if_neg a3, if_neg h2]; omega
    · have a0 := h s hs (by omega)
      rw [if_neg h1, if_neg h2, a0]
      by_cases h3 : T s = k
      · have a1 : ¬ lvB (T s) (k + 1) s := fun q => by rcases q with q | q <;> omega
        have a2 : lvB (T s) k s := by
          by_cases q : s / 2 < k
          · exact Or.inl ⟨q, by omega⟩
          · exact Or.inr ⟨by omega, by omega, by omega⟩
        rw [if_neg a1, if_pos a2, if_pos h3]; omega
      · have a1 : lvB (T s) (k + 1) s ↔ lvB (T s) k s := by
          unfold lvB
          constructor
          · rintro (q | q)
            · exact Or.inl ⟨by omega, by omega⟩
            · exact Or.inr ⟨by omega, by omega, by omega⟩
          · rintro (q | q)
            · exact Or.inl ⟨by omega, by omega⟩
            · exact Or.inr ⟨by omega, by omega, by omega⟩
        by_cases q : lvB (T s) k s
        · rw [if_pos (a1.mpr q), if_pos q, if_neg h3]; omega
        · have q' : ¬ lvB (T s) (k + 1) s := fun z => q (a1.mp z)
          rw [if_neg q', if_neg q, if_neg h3]; omega
theorem II_0 {T : Nat → Int} {k : Nat} {G : Nat → Int} (h : ∀ s, s < 24 → T s ≠ (k : Int)) : II T k G = 0 := by
  unfold II
  rw [sm_ext (g := fun s => if s = 24 then 0 else 0) (fun s hs => by simp [h s hs]), sm_pt]; rfl
theorem II_1 {T : Nat → Int} {k a : Nat} {G : Nat → Int} (ha : a < 24) (h : ∀ s, s < 24 → (T s = (k : Int) ↔ s = a)) : II T k G = G a := by
  unfold II
  rw [sm_ext (g := fun s => if s = a then G a else 0) (fun s hs => by
    by_cases e : s = a
    · subst e; rw [if_pos ((h s hs).mpr rfl), if_pos rfl]
    · rw [if_neg (fun q => e ((h s hs).mp q)), if_neg e]), sm_pt, if_pos ha]
theorem II_2 {T : Nat → Int} {k a b : Nat} {G : Nat → Int} (ha : a < 24) (hb : b < 24) (hab : a ≠ b) (h : ∀ s, s < 24 → (T s = (k : Int) ↔ s = a ∨ s = b)) : II T k G = G a + G b := by
  unfold II
  rw [sm_ext (g := fun s => (if s = a then G a else 0) + (if s = b then G b else 0)) (fun s hs => by
    by_cases e : s = a
    · subst e; rw [if_pos ((h s hs).mpr (Or.inl rfl)), if_pos rfl, if_neg hab]; omega
    · by_cases e2 : s = b
      · subst e2; rw [if_pos ((h s hs).mpr (Or.inr rfl)), if_neg e, if_pos rfl]; omega
      · rw [if_neg (fun q => ((h s hs).mp q).elim e e2), if_neg e, if_neg e2]; rfl), sm_add, sm_pt, sm_pt, if_pos ha, if_pos hb]
theorem II_le {T : Nat → Int} {k : Nat} {G : Nat → Int} (h : ∀ s, s < 24 → 0 ≤ G s) : II T k G ≤ AA T k G := sm_mono (fun s hs => by
  by_cases h3 : T s = k
  · have a2 : lvB (T s) k s := by
      by_cases q : s / 2 < k
      · exact Or.inl ⟨q, by omega⟩
      · exact Or.inr ⟨by omega, by omega, by omega⟩
    rw [if_pos a2, if_pos h3]; omega
  · have := h s hs
    rw [if_neg h3]; split <;> omega)
