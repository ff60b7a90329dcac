/-! streams and what a unit gives -/
def wm (f h : Int64) : Int64 := if f = 0 then 0 else 10 * h / f
def hd (v lo hi : Int64) : Int64 := if v < lo then lo else if hi < v then hi else v
def mn (a b : Int64) : Int64 := if b < a then b else a
def tr (n l w : Int64) : Int64 := if n + l = 0 then 0 else n * l * w / (10 * (n + l))
def st2 (F : Nat → Int64) (u : Nat) (a c : Int64) : Nat → Int64 := vp_updL (vp_updL F (2 * u) a) (2 * u + 1) c
/-- what a unit gives: flow and heat of its first stream and of its second, and what it moved -/
def uo (k : Int32) (n d f1 h1 f2 h2 : Int64) : Int64 × Int64 × Int64 × Int64 × Int64 :=
  if k = 0 then (n, n * d, 0, 0, 0)
  else if k = 1 then (f1 * n / 100, (if f1 = 0 then 0 else h1 * (f1 * n / 100) / f1), f1 - f1 * n / 100, h1 - (if f1 = 0 then 0 else h1 * (f1 * n / 100) / f1), 0)
  else if k = 2 then (f1 + f2, h1 + h2, 0, 0, 0)
  else if k = 3 then (f1, h1 - hd (tr n (mn f1 f2) (wm f1 h1 - wm f2 h2)) (-h2) h1, f2, h2 + hd (tr n (mn f1 f2) (wm f1 h1 - wm f2 h2)) (-h2) h1, hd (tr n (mn f1 f2) (wm f1 h1 - wm f2 h2)) (-h2) h1)
  else (f1, h1 - mn h1 n, 0, 0, mn h1 n)
theorem held6 (v a b : Int64) : f_X6_held v a b = hd v a b := by
  unfold f_X6_held hd
  simp only [lg_cmp_ge, lg_cmp_le, Int64.le_iff_toInt_le, Int64.lt_iff_toInt_lt]
  repeat' split
  all_goals first | rfl | omega
theorem held7 (v a b : Int64) : f_X7_held v a b = hd v a b := held6 v a b
theorem s_flow {o : ObS} {s : Nat} (h : s < 24) : f_X3_flowOf o (Int32.ofNat s) = some (o.2 0 s) := by
  have h2 : ¬ 24 ≤ s := by omega
  simp (disch := omega) [f_X3_flowOf, f_X3_isThere, ix_lt1, ix_le1, ix_lt2, ix_le2, ix_eq1, ix_eq2, ix_lt, ix_le, ix_eq, ix_inb, ix_nat, ix_suc, ix_dbl, -Int32.ofNat_add, -Int32.ofNat_mul, h, h2]
theorem s_heat {o : ObS} {s : Nat} (h : s < 24) : f_X3_heatOf o (Int32.ofNat s) = some (o.2 1 s) := by
  have h2 : ¬ 24 ≤ s := by omega
  simp (disch := omega) [f_X3_heatOf, f_X3_isThere, ix_lt1, ix_le1, ix_lt2, ix_le2, ix_eq1, ix_eq2, ix_lt, ix_le, ix_eq, ix_inb, ix_nat, ix_suc, ix_dbl, -Int32.ofNat_add, -Int32.ofNat_mul, h, h2]
theorem s_warm {o : ObS} {s : Nat} (h : s < 24) : f_X3_warmthOf o (Int32.ofNat s) = some (wm (o.2 0 s) (o.2 1 s)) := by
  have h2 : ¬ 24 ≤ s := by omega
  by_cases h3 : o.2 0 s = 0 <;>
  simp (disch := omega) [f_X3_warmthOf, f_X3_isThere, ix_lt1, ix_le1, ix_lt2, ix_le2, ix_eq1, ix_eq2, ix_lt, ix_le, ix_eq, ix_inb, ix_nat, ix_suc, ix_dbl, -Int32.ofNat_add, -Int32.ofNat_mul, h, h2, lg_cmp_eq, h3, wm]
theorem s_fill {o : ObS} {s : Nat} (h : s < 24) (f g : Int64) : f_X3_fill o (Int32.ofNat s) f g = some (oj (oj o 0 s f) 1 s g) := by
  have h2 : ¬ 24 ≤ s := by omega
  simp (disch := omega) [f_X3_fill, f_X3_isThere, ix_lt1, ix_le1, ix_lt2, ix_le2, ix_eq1, ix_eq2, ix_lt, ix_le, ix_eq, ix_inb, ix_nat, ix_suc, ix_dbl, -Int32.ofNat_add, -Int32.ofNat_mul, h, h2]
theorem s_none {o : ObS} : f_X3_warmthOf o (-1) = some 0 := rfl
theorem u_made {o : ObS} {u U : Nat} (h : o.1 0 0 = Int32.ofNat U) (hU : U ≤ 12) (hu : u < U) : f_X5_isMade o (Int32.ofNat u) = 1 := by
  have h2 : ¬ U ≤ u := by omega
  have h3 : ¬ 12 ≤ u := by omega
  simp (disch := omega) [f_X5_isMade, ix_lt1, ix_le1, ix_lt2, ix_le2, ix_eq1, ix_eq2, ix_lt, ix_le, ix_eq, ix_inb, ix_nat, ix_suc, ix_dbl, -Int32.ofNat_add, -Int32.ofNat_mul, h, h2, h3]
theorem beq_no {a b : Nat} (h : ¬ a = b) : Nat.beq a b = false := by
  cases hb : Nat.beq a b
  · rfl
  · exact absurd (Nat.eq_of_beq_eq_true hb) h
theorem oj_i (o : ObS) (k j : Nat) (v : Int64) : (oj o k j v).1 = o.1 := rfl
theorem oi_j (o : ObS) (k j : Nat) (v : Int32) : (oi o k j v).2 = o.2 := rfl
theorem oj_j (o : ObS) (k j : Nat) (v : Int64) (k' : Nat) : (oj o k j v).2 k' = if k' = k then vp_updL (o.2 k) j v else o.2 k' := by
  unfold oj; by_cases h : k' = k
  · subst h; simp
  · have hb : Nat.beq k' k = false := beq_no h
    simp [h, hb]
theorem oi_i (o : ObS) (k j : Nat) (v : Int32) (k' : Nat) : (oi o k j v).1 k' = if k' = k then upd (o.1 k) j v else o.1 k' := by
  unfold oi; by_cases h : k' = k
  · subst h; simp
  · have hb : Nat.beq k' k = false := beq_no h
    simp [h, hb]
theorem st2_0 {F : Nat → Int64} {u : Nat} {a : Int64} (h : F (2 * u + 1) = 0) : st2 F u a 0 = vp_updL F (2 * u) a := by
  funext s; unfold st2 vp_updL
  by_cases h1 : s = 2 * u + 1
  · subst h1; simp [h]
  · simp [h1]
