/-! the trends' row: made once; arrays that are made -/
def tn_new (o : ObS) : ObS := (fun k => cond (Nat.beq k 0) (fun _ => 0) (cond (Nat.beq k 1) (fun _ => 7200) (o.1 k)), o.2)
def tnz (o : ObS) : Prop := Int32.ofNat ((o.1 1 0).toNatClampNeg) = 0
def ad1 (a : Nat → Nat) (q : Nat → Nat) : Nat → Nat := fun k => cond (Nat.beq k 1) (q 0) (a k)
section NWS
variable {p : Program} {l : Launch} {e : Env} {R : Room} {s : State} {m : MethodId} {args : Array Value} {below : List Frame} {meth : Method} {c : Code} {H : Heap} {locs : List Loc} {cells slots : Nat} {Q : State → Prop}
variable {cc : ByteArray} {pc : Nat} {ls : Array Slot} {Z : EnvT} {ws : va_W} {A : Nat → Prop} {rest : List Value}
theorem nw_same {cA : ClassId} {ty : FieldType} {t : List (ClassId × FieldType)} {G : va_G} {i : Nat} {cB : ClassId} (h1 : va_K G vwCl (t ++ [(cA, ty)]) s) (h2 : t[i]? = some (cB, ty)) (hty : ∀ C, ty ≠ .object C) : cA = cB := by
  have a := (h1.2 t.length (cA, ty) (by simp)).2
  have b := (h1.2 i (cB, ty) (by rw [List.getElem?_append_left (List.getElem?_eq_some_iff.mp h2).1]; exact h2)).2
  cases ty <;> first | exact absurd rfl (hty _) | exact Option.some.inj (Eq.trans (Eq.symm a) b)
theorem nwI (hx : p.tables.exec = Jvm.exec) (hb : c.code = cc) (harr : (Cond.arrayClass .int).before args s = true) (hK : va_K Z.1 vwCl (tyV Z) s) (hP : va_P Z.1 vwCl ws H) (hD : va_D A ws) (hS : va_S A s.heap H locs) (hA : ∀ q : Nat, s.heap.size ≤ q → A q) {n : Int32} {N : Nat} (hn : ¬ n < 0) (hN : n.toNatClampNeg = N) (hby : N * 4 ≤ 536870912) (hc : cells + 1 ≤ R.cells) (hs : slots + N ≤ R.slots) (hdg : decode cc pc = .ok (.newarray .int, 2))
    (kk : ∀ (q : Nat) (H1 : Heap), va_P Z.1 vwCl (ws ++ [(q, .inl (Z.2.1 0, N, .inl (fun _ => 0)))]) H1 → va_D A (ws ++ [(q, .inl (Z.2.1 0, N, .inl (fun _ => 0)))]) → va_S A s.heap H1 locs → W p l e R s m args below meth c H1 locs (cells + 1) (slots + N) Q (F0 m (pc + 2) ls (.ref q :: rest))) : W p l e R s m args below meth c H locs cells slots Q (F0 m pc ls (.int n :: rest)) := by
  refine va_newa (atype := .int) (ty := .int) (a0 := (N, .inl (fun _ => 0))) hx hb harr rfl hK hP hD hS hA (fun cA => rfl) hn hN hby hc hs hdg (fun q cA H1 hK1 hP1 hD1 hS1 => ?_)
  have e := nw_same (i := 0) hK1 rfl (fun _ h => nomatch h)
  subst e
  exact kk q H1 hP1 hD1 hS1
theorem nwJ (hx : p.tables.exec = Jvm.exec) (hb : c.code = cc) (harr : (Cond.arrayClass .long).before args s = true) (hK : va_K Z.1 vwCl (tyV Z) s) (hP : va_P Z.1 vwCl ws H) (hD : va_D A ws) (hS : va_S A s.heap H locs) (hA : ∀ q : Nat, s.heap.size ≤ q → A q) {n : Int32} {N : Nat} (hn : ¬ n < 0) (hN : n.toNatClampNeg = N) (hby : N * 8 ≤ 536870912) (hc : cells + 1 ≤ R.cells) (hs : slots + N ≤ R.slots) (hdg : decode cc pc = .ok (.newarray .long, 2))
    (kk : ∀ (q : Nat) (H1 : Heap), va_P Z.1 vwCl (ws ++ [(q, .inl (Z.2.1 1, N, .inr (.inl (fun _ => 0))))]) H1 → va_D A (ws ++ [(q, .inl (Z.2.1 1, N, .inr (.inl (fun _ => 0))))]) → va_S A s.heap H1 locs → W p l e R s m args below meth c H1 locs (cells + 1) (slots + N) Q (F0 m (pc + 2) ls (.ref q :: rest))) : W p l e R s m args below meth c H locs cells slots Q (F0 m pc ls (.int n :: rest)) := by
  refine va_newa (atype := .long) (ty := .long) (a0 := (N, .inr (.inl (fun _ => 0)))) hx hb harr rfl hK hP hD hS hA (fun cA => rfl) hn hN hby hc hs hdg (fun q cA H1 hK1 hP1 hD1 hS1 => ?_)
  have e := nw_same (i := 1) hK1 rfl (fun _ h => nomatch h)
  subst e
  exact kk q H1 hP1 hD1 hS1
theorem nwZ (hx : p.tables.exec = Jvm.exec) (hb : c.code = cc) (harr : (Cond.arrayClass .boolean).before args s = true) (hK : va_K Z.1 vwCl (tyV Z) s) (hP : va_P Z.1 vwCl ws H) (hD : va_D A ws) (hS : va_S A s.heap H locs) (hA : ∀ q : Nat, s.heap.size ≤ q → A q) {n : Int32} {N : Nat} (hn : ¬ n < 0) (hN : n.toNatClampNeg = N) (hby : N * 1 ≤ 536870912) (hc : cells + 1 ≤ R.cells) (hs : slots + N ≤ R.slots) (hdg : decode cc pc = .ok (.newarray .boolean, 2))
    (kk : ∀ (q : Nat) (H1 : Heap), va_P Z.1 vwCl (ws ++ [(q, .inl (Z.2.1 2, N, .inl (fun _ => 0)))]) H1 → va_D A (ws ++ [(q, .inl (Z.2.1 2, N, .inl (fun _ => 0)))]) → va_S A s.heap H1 locs → W p l e R s m args below meth c H1 locs (cells + 1) (slots + N) Q (F0 m (pc + 2) ls (.ref q :: rest))) : W p l e R s m args below meth c H locs cells slots Q (F0 m pc ls (.int n :: rest)) := by
  refine va_newa (atype := .boolean) (ty := .boolean) (a0 := (N, .inl (fun _ => 0))) hx hb harr rfl hK hP hD hS hA (fun cA => rfl) hn hN hby hc hs hdg (fun q cA H1 hK1 hP1 hD1 hS1 => ?_)
  have e := nw_same (i := 2) hK1 rfl (fun _ h => nomatch h)
  subst e
  exact kk q H1 hP1 hD1 hS1
end NWS
