/-! gains tried leave all as it is -/
theorem hu_self (h : Nat → ObS) : hu h 2 (h 2) = h := by
  funext k; unfold hu
  by_cases q : k = 2
  · subst q; rfl
  · rw [beq_no q]; rfl
theorem d16_hu {h : Nat → ObS} {a b c d : Int32} {R : Int32 × (Nat → ObS)} (e : f_L_does_16 h a b c d = some R) : ∃ o2, R.2 = hu h 2 o2 := by
  unfold f_L_does_16 at e
  cases hF : f_X6_gain h a b with
  | none => rw [hF] at e; exact nomatch e
  | some s9 =>
    rw [hF] at e
    cases s9 with
    | inl k0 =>
      have e : (if k0 = 3 then some ((-2100000000 : Int32), h) else if k0 = 1 then some ((-2100000000), h) else if k0 = 2 then some ((-2100000000), h) else none) = some R := e
      refine ⟨h 2, ?_⟩
      rw [hu_self]
      repeat' split at e
      all_goals first
        | (cases e; rfl)
        | exact nomatch e
    | inr q =>
      have e : some (q.1, q.2) = some R := e
      cases e
      unfold f_X6_gain at hF
      rcases tbd hF with ⟨k, -, hF⟩ | ⟨u0, q0, hF⟩
      · exact nomatch hF
      rcases tbd hF with ⟨k, -, hF⟩ | ⟨u1, q1, hF⟩
      · exact nomatch hF
      obtain ⟨R1, e4, hF⟩ := bd hF
      cases hF
      exact go_fr e4
theorem uN {h : Nat → ObS} {mo : ObS} {U C t : Nat} {x : Int32} {u : Unit} (I : INV h mo U C t) (e : f_X6_needUnit h x = some (.inr u)) : ∃ n, n < U ∧ x = Int32.ofNat n := by
  rw [nU I.1.1.2.1 I.1.1.1] at e
  unfold bN at e
  have hU := I.1.1.1
  rcases ic e with ⟨q, e⟩ | ⟨-, e⟩
  · exact ex_n q (by omega)
  · exact nomatch e
theorem sN {h : Nat → ObS} {mo : ObS} {U C t : Nat} {x : Int32} {u : Unit} (I : INV h mo U C t) (e : f_X6_needStream h x = some (.inr u)) : ∃ n, n < 2 * U ∧ x = Int32.ofNat n := by
  rw [nS I.1.1.2.1 I.1.1.1] at e
  unfold bN at e
  have hU := I.1.1.1
  rcases ic e with ⟨q, e⟩ | ⟨-, e⟩
  · exact ex_n (n := 2 * U) (by omega) (by omega)
  · exact nomatch e
theorem rel_same {h : Nat → ObS} {mo : ObS} {U C t : Nat} {a b c : Int32} {R : Int32 × (Nat → ObS)} (I : INV h mo U C t) (e : f_L_does_17 h a a b c = some R) : (∃ o2, R.2 = hu h 2 o2) ∧ (R.1 = -2100000000 ∨ R.1 = -100000) := by
  unfold f_L_does_17 at e
  cases hF : f_X6_relative h a a b c with
  | none => rw [hF] at e; exact nomatch e
  | some s9 =>
    rw [hF] at e
    cases s9 with
    | inl k0 =>
      have e : (if k0 = 3 then some ((-2100000000 : Int32), h) else if k0 = 1 then some ((-2100000000), h) else if k0 = 2 then some ((-2100000000), h) else none) = some R := e
      refine ⟨⟨h 2, ?_⟩, Or.inl ?_⟩
      · rw [hu_self]
        repeat' split at e
        all_goals first
          | (cases e; rfl)
          | exact nomatch e
      · repeat' split at e
        all_goals first
          | (cases e; rfl)
          | exact nomatch e
    | inr q =>
      have e : some (q.1, q.2) = some R := e
      cases e
      have hU := I.1.1.1
      unfold f_X6_relative at hF
      rcases tbd hF with ⟨k, -, hF⟩ | ⟨u0, q0, hF⟩
      · exact nomatch hF
      rcases tbd hF with ⟨k, -, hF⟩ | ⟨u1, -, hF⟩
      · exact nomatch hF
      rcases tbd hF with ⟨k, -, hF⟩ | ⟨u2, q2, hF⟩
      · exact nomatch hF
      rcases tbd hF with ⟨k, -, hF⟩ | ⟨u3, q3, hF⟩
      · exact nomatch hF
      obtain ⟨u, huU, rfl⟩ := uN I q0
      obtain ⟨s, hs, rfl⟩ := sN I q2
      obtain ⟨s', hs', rfl⟩ := sN I q3
      obtain ⟨R1, e1, hF⟩ := bd hF
      obtain ⟨R2, e2, hF⟩ := bd hF
      obtain ⟨R3, e3, hF⟩ := bd hF
      obtain ⟨R4, e4, hF⟩ := bd hF
      have I2 : ∀ o2, INV (hu h 2 o2) mo U C t := fun o2 => INV_g2 I (fun _ _ => rfl) (fun _ _ _ _ _ => rfl)
      obtain ⟨g1, o1, m1, a1, b1, -⟩ := gof I huU (show s < 24 by omega)
      rw [a1] at e1; cases e1
      dsimp only at e2
      obtain ⟨g2, o2, m2, a2, b2, -⟩ := gof (I2 o1) huU (show s' < 24 by omega)
      rw [a2] at e2; cases e2
      dsimp only at e3
      rw [hu_hu] at e3
      obtain ⟨g3, o3, m3, a3, b3, -⟩ := gof (I2 o2) huU (show s' < 24 by omega)
      rw [a3] at e3; cases e3
      dsimp only at e4
      rw [hu_hu] at e4
      obtain ⟨g4, o4, m4, a4, b4, -⟩ := gof (I2 o3) huU (show s < 24 by omega)
      rw [a4] at e4; cases e4
      rw [b2] at b3; cases b3
      rw [b1] at b4; cases b4
      dsimp only at hF
      rw [Int64.mul_comm g2.toInt64 g1.toInt64, Int64.sub_self, if_pos ((lg_cmp_eq _ _).mpr rfl)] at hF
      cases hF
      exact ⟨⟨o4, by dsimp only; rw [hu_hu]⟩, Or.inr rfl⟩
theorem J_hu {h : Nat → ObS} {mo : ObS} {U : Nat} (Jh : J h mo U) (o2 : ObS) : J (hu h 2 o2) mo U := by
  obtain ⟨C, t, I, X⟩ := Jh
  exact ⟨C, t, INV_g2 I (fun _ _ => rfl) (fun _ _ _ _ _ => rfl), EX_co X rfl rfl X.2.1 X.2.2.1 rfl rfl rfl⟩
theorem two_some {U : Nat} {h g : Nat → ObS} {mo : ObS} {L1 L2 : Option (Int32 × (Nat → ObS))} (t : TWO U h g mo L1 L2) : ∃ (q : Int32) (h' g' : Nat → ObS), L1 = some (q, h') ∧ L2 = some (q, g') := by
  rcases t with ⟨a, b⟩ | ⟨r, h', g', mo', a, b, -⟩
  · exact ⟨_, _, _, a, b⟩
  · exact ⟨_, _, _, a, b⟩
theorem kept_true {h : Nat → ObS} {mo : ObS} {U : Nat} (Jh : J h mo U) (v : Int32) : ∃ h' : Nat → ObS, f_L_isKept h v = some (1, h') ∧ J h' mo U ∧ (h' 3).1 1 = (h 3).1 1 := by
  have tw : ∀ {h g : Nat → ObS}, J h mo U → J g mo U → ∀ a b c d, TWO U h g mo (f_L_does_16 h a b c d) (f_L_does_16 g a b c d) := fun {h g} j1 j2 a b c d => by
    obtain ⟨C, t, I, X⟩ := id j1
    obtain ⟨C', t', I', X'⟩ := id j2
    exact two_of j1 (o_gain I X a b c d) (o_gain I' X' a b c d)
  obtain ⟨q, h1, h1', e1, e1'⟩ := two_some (tw Jh Jh (lw v 8) (lw (v >>> ((3 : Int32) &&& 31)) 16) 0 0)
  obtain ⟨o1, p1⟩ := d16_hu e1
  have p1 : h1 = hu h 2 o1 := p1
  subst p1
  have J1 := J_hu Jh o1
  obtain ⟨C, t, I1, X1⟩ := id J1
  obtain ⟨q2, h2, h2', e2, e2'⟩ : ∃ (q2 : Int32) (h2 g' : Nat → ObS), f_L_does_17 (hu h 2 o1) (lw v 8) (lw v 8) (lw (v >>> ((3 : Int32) &&& 31)) 16) (lw (v >>> ((7 : Int32) &&& 31)) 16) = some (q2, h2) ∧ f_L_does_17 (hu h 2 o1) (lw v 8) (lw v 8) (lw (v >>> ((3 : Int32) &&& 31)) 16) (lw (v >>> ((7 : Int32) &&& 31)) 16) = some (q2, g') :=
    two_some (two_of J1 (o_relative I1 X1 _ _ _ _) (o_relative I1 X1 _ _ _ _))
  obtain ⟨⟨o2, p2⟩, r2⟩ := rel_same I1 e2
  have p2 : h2 = hu (hu h 2 o1) 2 o2 := p2
  rw [hu_hu] at p2
  subst p2
  have J2 := J_hu Jh o2
  obtain ⟨q3, h9, h3, e3, e4⟩ := two_some (tw Jh J2 (lw v 8) (lw (v >>> ((3 : Int32) &&& 31)) 16) 0 0)
  rw [e1] at e3
  obtain ⟨o3, p3⟩ := d16_hu e4
  have p3 : h3 = hu (hu h 2 o2) 2 o3 := p3
  rw [hu_hu] at p3
  subst p3
  have hq : q = q3 := by cases e3; rfl
  subst hq
  refine ⟨hu h 2 o3, ?_, J_hu Jh o3, rfl⟩
  have f2 : f_L_does_17 (q, hu h 2 o1).2 (lw v 8) (lw v 8) (lw (v >>> ((3 : Int32) &&& 31)) 16) (lw (v >>> ((7 : Int32) &&& 31)) 16) = some (q2, hu h 2 o2) := e2
  have f4 : f_L_does_16 (q2, hu h 2 o2).2 (lw v 8) (lw (v >>> ((3 : Int32) &&& 31)) 16) 0 0 = some (q, hu h 2 o3) := e4
  unfold f_L_isKept
  rw [e1, Option.bind_some, f2, Option.bind_some, f4, Option.bind_some, if_pos (show (q, hu h 2 o3).1 = (q, hu h 2 o1).1 from rfl)]
  rcases r2 with r2 | r2
  · exact if_pos r2
  · have r3 : ¬ q2 = -2100000000 := by rw [show q2 = -100000 from r2]; decide
    exact (if_neg r3).trans (if_pos r2)
/-! the law -/
def KD (h : Nat → ObS) (kn : Nat → Int32) (U : Nat) : Prop := ∀ u, u < U → (h 3).1 1 u = kn u
theorem KD.of {h h' : Nat → ObS} {kn : Nat → Int32} {U : Nat} (k : KD h kn U) (e : (h' 3).1 1 = (h 3).1 1) : KD h' kn U := fun u hu => by rw [e]; exact k u hu
theorem cell_ok {xs : Nat → Int32} {L k : Nat} (hL : L ≤ 260) (hk : k < 1000) : ∃ r, f_L_cell xs L (Int32.ofNat k) = some r := by
  unfold f_L_cell
  by_cases q : L ≤ k
  · rw [if_pos ((ix_le (by omega) (by omega)).mpr q)]; exact ⟨_, rfl⟩
  · rw [if_neg (fun z => q ((ix_le (by omega) (by omega)).mp z)), if_pos (show inb (Int32.ofNat k) L = true by rw [ix_inb (by omega)]; exact decide_eq_true (by omega))]; exact ⟨_, rfl⟩
section LW
variable {U : Nat} {g : Nat → ObS} {mo : ObS} {kn : Nat → Int32} {k : Int32 → Int32 → (Nat → ObS) → (Nat → ObS) → Option Int32} {r406 v : Int32} {q : Int32 × (Nat → ObS)}
theorem b497_ok (Jh : J q.2 mo U) (K : KD q.2 kn U) (ih : ∀ h', J h' mo U → KD h' kn U → k (v + 1) 1 h' g = some 1) : f_L_law_b497 k r406 q g v = some 1 := by
  unfold f_L_law_b497
  split
  · obtain ⟨h', e, J', K'⟩ := kept_true Jh ((r406 + ((1913 : Int32) * (v / (61 : Int32)))) >>> ((4 : Int32) &&& 31))
    rw [e, Option.bind_some, if_neg (show ¬ ((1 : Int32), h').1 = 0 from n10)]
    exact ih h' J' (K.of K')
  · exact ih _ Jh K
theorem b481_ok (Jh : J q.2 mo U) (K : KD q.2 kn U) (ih : ∀ h', J h' mo U → KD h' kn U → k (v + 1) 1 h' g = some 1) : f_L_law_b481 k kn r406 q g v = some 1 := by
  unfold f_L_law_b481
  split
  · obtain ⟨C, t, I, X⟩ := id Jh
    rw [order_true I X K, Option.bind_some, if_neg n10]
    exact b497_ok Jh K ih
  · exact b497_ok Jh K ih
theorem b454_ok (Jh : J q.2 mo U) (Jg : J g mo U) (K : KD q.2 kn U) (ih : ∀ h', J h' mo U → KD h' kn U → k (v + 1) 1 h' g = some 1) : f_L_law_b454 k kn r406 q v 1 g = some 1 := by
  unfold f_L_law_b454
  rw [if_neg n10]
  split
  · obtain ⟨C, t, I, X⟩ := id Jh
    obtain ⟨C', t', I', X'⟩ := id Jg
    rw [alike_true I I', Option.bind_some, if_neg n10]
    exact b481_ok Jh K ih
  · exact b481_ok Jh K ih
end LW
theorem wl_3 {xs : Nat → Int32} {L U : Nat} (hL : L ≤ 260) {kn : Nat → Int32} : ∀ (d i n : Nat) (h g : Nat → ObS) (mo : ObS), i + d = 130 → d < n → J h mo U → J g mo U → KD h kn U → KD g kn U → f_L_law_b387 xs L kn n (Int32.ofNat i) 1 h g = some 1
  | d, i, 0, h, g, mo, hi, hn, Jh, Jg, Kh, Kg => by omega
  | 0, i, n + 1, h, g, mo, hi, hn, Jh, Jg, Kh, Kg => by
    obtain rfl : i = 130 := by omega
    obtain ⟨C, t, I, X⟩ := id Jh
    obtain ⟨C', t', I', X'⟩ := id Jg
    unfold f_L_law_b387
    rw [if_pos (show (130 : Int32) ≤ Int32.ofNat 130 by decide), if_neg n10, alike_true I I', Option.bind_some, if_neg n10, order_true I' X' Kg, Option.bind_some, if_neg n10]
  | d + 1, i, n + 1, h, g, mo, hi, hn, Jh, Jg, Kh, Kg => by
    have ih : ∀ (h g : Nat → ObS) (mo : ObS), J h mo U → J g mo U → KD h kn U → KD g kn U → f_L_law_b387 xs L kn n (Int32.ofNat i + 1) 1 h g = some 1 := fun h g mo a b c e => by
      rw [ix_suc]; exact wl_3 hL d (i + 1) n h g mo (by omega) (by omega) a b c e
    have em : Int32.ofNat i - Int32.ofNat i / (61 : Int32) * (61 : Int32) = Int32.ofNat (i % 61) := mdn (c := 61) (by omega) (by omega) (by omega)
    unfold f_L_law_b387
    rw [if_neg (fun z => by have := (ix_le (i := 130) (by omega) (by omega)).mp z; omega), if_neg n10, em]
    obtain ⟨r, e⟩ := cell_ok (xs := xs) (k := i % 61) hL (by omega)
    rw [e, Option.bind_some]
    rcases act_two Jh Jg (r + ((1913 : Int32) * (Int32.ofNat i / (61 : Int32)))) with ⟨a, b⟩ | ⟨r', h', g', mo', a, b, J1, J2, k1, k2, J3⟩
    · rw [a, Option.bind_some, if_pos (show ((-2100000000 : Int32), h).1 = -2100000000 from rfl)]
      exact b454_ok (q := (-2100000000, h)) (v := Int32.ofNat i) Jh Jg Kh (fun h' J' K' => ih h' g mo J' Jg K' Kg)
    · rw [a, Option.bind_some]
      by_cases q : r' = -2100000000
      · rw [if_pos (show (r', h').1 = -2100000000 from q)]
        exact b454_ok (q := (r', h')) (v := Int32.ofNat i) (J3 q) Jg (Kh.of k1) (fun h' J' K' => ih h' g mo J' Jg K' Kg)
      · rw [if_neg (show ¬ (r', h').1 = -2100000000 from q), b, Option.bind_some, if_pos (show (r', g').1 = (r', h').1 from rfl)]
        exact b454_ok (q := (r', h')) (v := Int32.ofNat i) J1 J2 (Kh.of k1) (fun h' J' K' => ih h' g' mo' J' J2 K' (Kg.of k2))
theorem wl_2 {xs : Nat → Int32} {L U : Nat} (hL : L ≤ 260) {kn : Nat → Int32} : ∀ (d i n : Nat) (h g : Nat → ObS) (mo : ObS), i + d = 3 → d < n → J h mo U → J g mo U → KD h kn U → KD g kn U → f_L_law_b287 xs L kn n (Int32.ofNat i) 1 h g = some 1
  | d, i, 0, h, g, mo, hi, hn, Jh, Jg, Kh, Kg => by omega
  | 0, i, n + 1, h, g, mo, hi, hn, Jh, Jg, Kh, Kg => by
    obtain rfl : i = 3 := by omega
    unfold f_L_law_b287
    rw [if_pos (show (3 : Int32) ≤ Int32.ofNat 3 by decide)]
    exact wl_3 hL 130 0 131 h g mo (by omega) (by omega) Jh Jg Kh Kg
  | d + 1, i, n + 1, h, g, mo, hi, hn, Jh, Jg, Kh, Kg => by
    have ih : ∀ (h g : Nat → ObS) (mo : ObS), J h mo U → J g mo U → KD h kn U → KD g kn U → f_L_law_b287 xs L kn n (Int32.ofNat i + 1) 1 h g = some 1 := fun h g mo a b c e => by
      rw [ix_suc]; exact wl_2 hL d (i + 1) n h g mo (by omega) (by omega) a b c e
    obtain ⟨C, t, I, X⟩ := id Jh
    obtain ⟨C', t', I', X'⟩ := id Jg
    unfold f_L_law_b287
    rw [if_neg (fun z => by have := (ix_le (i := 3) (by omega) (by omega)).mp z; omega), if_neg n10, show (20 : Int32) + Int32.ofNat i = Int32.ofNat (20 + i) from ix_add 20 i]
    obtain ⟨r, e⟩ := cell_ok (xs := xs) (k := 20 + i) hL (by omega)
    rw [e, Option.bind_some]
    rcases two_of Jh (o_back I X (lw (r >>> ((3 : Int32) &&& 31)) 8) (lw ((r >>> ((3 : Int32) &&& 31)) >>> ((4 : Int32) &&& 31)) 16) 0 0) (o_back I' X' _ _ 0 0) with ⟨a, b⟩ | ⟨r', h', g', mo', a, b, J1, J2, k1, k2, J3⟩
    · rw [a, Option.bind_some, if_pos (show ((-2100000000 : Int32), h).1 = -2100000000 from rfl)]
      exact ih h g mo Jh Jg Kh Kg
    · rw [a, Option.bind_some]
      by_cases q : r' = -2100000000
      · rw [if_pos (show (r', h').1 = -2100000000 from q)]
        exact ih h' g mo (J3 q) Jg (Kh.of k1) Kg
      · rw [if_neg (show ¬ (r', h').1 = -2100000000 from q), b, Option.bind_some, if_pos (show (r', g').1 = (r', h').1 from rfl)]
        exact ih h' g' mo' J1 J2 (Kh.of k1) (Kg.of k2)
section LV
variable {U : Nat} {h g : Nat → ObS} {mo : ObS} {kn : Nat → Int32} {k : Int32 → Int32 → Int32 → (Nat → ObS) → (Nat → ObS) → (Nat → Int32) → Option Int32} {r52 un v kd nm9 : Int32}
theorem two_new {kd : Int32} {L1 L2 : Option (Int32 × (Nat → ObS))} {M : Option (Int32 × ObS)} (o1 : OUN h U kd L1 M) (o2 : OUN g U kd L2 M) : (L1 = some (-2100000000, h) ∧ L2 = some (-2100000000, g)) ∨ (U < 12 ∧ ∃ (h' g' : Nat → ObS) (mo' : ObS), L1 = some (Int32.ofNat U, h') ∧ L2 = some (Int32.ofNat U, g') ∧ J h' mo' (U + 1) ∧ J g' mo' (U + 1) ∧ (h' 3).1 1 = upd ((h 3).1 1) U kd ∧ (g' 3).1 1 = upd ((g 3).1 1) U kd) := by
  obtain ⟨r, mo', e1, a1⟩ := o1
  obtain ⟨r', mo'', e2, a2⟩ := o2
  rw [e1] at e2
  cases e2
  rcases a1 with ⟨z, a1⟩ | ⟨z, hU, rfl, h', a1, a2', a3⟩
  · rcases a2 with ⟨z', b1⟩ | ⟨z', -⟩
    · exact Or.inl ⟨a1, b1⟩
    · exact absurd z' z
  · rcases a2 with ⟨z', -⟩ | ⟨z', -, -, g', b1, b2, b3⟩
    · exact absurd z z'
    · exact Or.inr ⟨hU, h', g', mo', a1, b1, a2', b2, a3, b3⟩
theorem KD.up {h h' : Nat → ObS} (K : KD h kn U) (e : (h' 3).1 1 = upd ((h 3).1 1) U kd) : KD h' (upd kn U kd) (U + 1) := fun u hu => by
  rw [e]; unfold upd
  by_cases q : u = U
  · rw [if_pos q, if_pos q]
  · rw [if_neg q, if_neg q]; exact K u (by omega)
theorem b252_th : f_L_law_b252 k un v kn kd (-2100000000) h (-2100000000) g = k 1 un (v + 1) h g kn := by
  unfold f_L_law_b252
  rw [if_pos rfl, if_pos (show (-2100000000 : Int32) < 0 by decide)]
theorem b252_ok (hU : U < 12) : f_L_law_b252 k un v kn kd (Int32.ofNat U) h (Int32.ofNat U) g = k 1 (un + 1) (v + 1) h g (upd kn U kd) := by
  unfold f_L_law_b252
  rw [if_pos rfl, if_neg (show ¬ Int32.ofNat U < 0 by rw [Int32.lt_iff_toInt_lt, ix_toInt (by omega), z32]; omega), if_pos (show inb (Int32.ofNat U) 12 = true by rw [ix_inb (by omega)]; exact decide_eq_true hU), ix_nat (by omega)]
theorem b142_ok (Jh : J h mo U) (Jg : J g mo U) (Kh : KD h kn U) (Kg : KD g kn U) (ih : ∀ (un : Int32) (h g : Nat → ObS) (mo : ObS) (U : Nat) (kn : Nat → Int32), J h mo U → J g mo U → KD h kn U → KD g kn U → k 1 un (v + 1) h g kn = some 1) : f_L_law_b142 k r52 un v h g kn kd nm9 = some 1 := by
  obtain ⟨C, t, I, X⟩ := id Jh
  obtain ⟨C', t', I', X'⟩ := id Jg
  unfold f_L_law_b142 f_L_law_b198
  by_cases q : kd = 0
  · rw [if_pos q]
    rcases two_new (o_source I X nm9 (lw ((r52 >>> ((2 : Int32) &&& 31)) >>> ((4 : Int32) &&& 31)) 310) 0 0) (o_source I' X' _ _ 0 0) with ⟨a, b⟩ | ⟨hU, h', g', mo', a, b, J1, J2, k1, k2⟩
    · rw [a, Option.bind_some, if_pos q, b, Option.bind_some]
      exact b252_th.trans (ih _ h g mo U kn Jh Jg Kh Kg)
    · rw [a, Option.bind_some, if_pos q, b, Option.bind_some]
      rw [← q] at k1 k2
      exact (b252_ok hU).trans (ih _ h' g' mo' (U + 1) _ J1 J2 (Kh.up k1) (Kg.up k2))
  · rw [if_neg q]
    rcases two_new (o_unit I X kd (lw ((r52 >>> ((2 : Int32) &&& 31)) >>> ((3 : Int32) &&& 31)) 18) (lw ((r52 >>> ((2 : Int32) &&& 31)) >>> ((5 : Int32) &&& 31)) 18) nm9) (o_unit I' X' _ _ _ _) with ⟨a, b⟩ | ⟨hU, h', g', mo', a, b, J1, J2, k1, k2⟩
    · rw [a, Option.bind_some, if_neg q, b, Option.bind_some]
      exact b252_th.trans (ih _ h g mo U kn Jh Jg Kh Kg)
    · rw [a, Option.bind_some, if_neg q, b, Option.bind_some]
      exact (b252_ok hU).trans (ih _ h' g' mo' (U + 1) _ J1 J2 (Kh.up k1) (Kg.up k2))
theorem b96_ok (Jh : J h mo U) (Jg : J g mo U) (Kh : KD h kn U) (Kg : KD g kn U) (ih : ∀ (un : Int32) (h g : Nat → ObS) (mo : ObS) (U : Nat) (kn : Nat → Int32), J h mo U → J g mo U → KD h kn U → KD g kn U → k 1 un (v + 1) h g kn = some 1) : f_L_law_b96 k r52 un v h g kn kd = some 1 := by
  unfold f_L_law_b96
  repeat' split
  all_goals exact b142_ok Jh Jg Kh Kg ih
end LV
theorem wl_1 {xs : Nat → Int32} {L : Nat} (hL : L ≤ 260) : ∀ (d i n : Nat) (un : Int32) (h g : Nat → ObS) (mo : ObS) (U : Nat) (kn : Nat → Int32), i + d = 20 → d < n → J h mo U → J g mo U → KD h kn U → KD g kn U → f_L_law_b30 xs L n 1 un (Int32.ofNat i) h g kn = some 1
  | d, i, 0, un, h, g, mo, U, kn, hi, hn, Jh, Jg, Kh, Kg => by omega
  | 0, i, n + 1, un, h, g, mo, U, kn, hi, hn, Jh, Jg, Kh, Kg => by
    obtain rfl : i = 20 := by omega
    unfold f_L_law_b30
    rw [if_pos (show (20 : Int32) ≤ Int32.ofNat 20 by decide)]
    exact wl_2 hL 3 0 4 h g mo (by omega) (by omega) Jh Jg Kh Kg
  | d + 1, i, n + 1, un, h, g, mo, U, kn, hi, hn, Jh, Jg, Kh, Kg => by
    have ih : ∀ (un : Int32) (h g : Nat → ObS) (mo : ObS) (U : Nat) (kn : Nat → Int32), J h mo U → J g mo U → KD h kn U → KD g kn U → f_L_law_b30 xs L n 1 un (Int32.ofNat i + 1) h g kn = some 1 := fun un h g mo U kn a b c e => by
      rw [ix_suc]; exact wl_1 hL d (i + 1) n un h g mo U kn (by omega) (by omega) a b c e
    unfold f_L_law_b30
    rw [if_neg (fun z => by have := (ix_le (i := 20) (by omega) (by omega)).mp z; omega), if_neg n10]
    split
    · exact wl_2 hL 3 0 4 h g mo (by omega) (by omega) Jh Jg Kh Kg
    · obtain ⟨r, e⟩ := cell_ok (xs := xs) (k := i) hL (by omega)
      rw [e, Option.bind_some]
      split
      · split
        · exact b96_ok Jh Jg Kh Kg ih
        · exact b96_ok Jh Jg Kh Kg ih
      · exact b96_ok Jh Jg Kh Kg ih
theorem z0_NE : NE z0 := fun i => by show (0 : Int32) ≠ _; decide
theorem z0_SB : SB z0 := fun k => by show _ ≤ (0 : Int64).toInt ∧ (0 : Int64).toInt ≤ _; decide
/-- the law holds -/
theorem law_true (xs : Nat → Int32) (L : Nat) (hL : L ≤ 260) : ∃ R5, f_X5_init = some R5 ∧ f_L_law xs L (hu (fun _ => z0) 3 R5) (hu (fun _ => z0) 3 R5) (fun _ => 0) = some 1 := by
  obtain ⟨R5, e, e1, e2, e3, e4⟩ := ini_lp 24 0 64 z0 (by omega) (by omega)
  have I := INV_start (fun i hi => e1 i (by omega) hi) e3 e4
  have Jz : J (hu (fun _ => z0) 3 R5) z0 0 := ⟨0, 0, I, EX_t0 I z0_NE z0_SB⟩
  exact ⟨R5, e, wl_1 hL 20 0 21 0 _ _ z0 0 _ (by omega) (by omega) Jz Jz (fun u hu => by omega) (fun u hu => by omega)⟩
