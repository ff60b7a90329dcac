/-! worlds in three parts -/
theorem bl {l m r : va_W} {a n : Nat} (ha : l.length = a) (hn : m.length = n) : (List.range' a n).map (fun i => (l ++ (m ++ r))[i]?) = m.map some := by
  subst ha; subst hn
  refine List.ext_getElem (by simp) (fun i h1 h2 => ?_)
  have hi : i < m.length := by simpa using h2
  simp only [List.getElem_map, List.getElem_range', Nat.one_mul]
  rw [List.getElem?_append_right (by omega), show l.length + i - l.length = i by omega, List.getElem?_append_left hi, List.getElem?_eq_getElem hi]
theorem bl3 {l1 l2 l3 : va_W} {a n : Nat} (ha : l1.length + l2.length = a) (hn : l3.length = n) : (List.range' a n).map (fun i => (l1 ++ (l2 ++ l3))[i]?) = l3.map some := by
  have h := bl (l := l1 ++ l2) (m := l3) (r := []) (a := a) (n := n) (by simpa using ha) hn
  simpa using h
theorem bl1 {l1 l2 : va_W} {n : Nat} (hn : l1.length = n) : (List.range' 0 n).map (fun i => (l1 ++ l2)[i]?) = l1.map some := bl (l := []) (m := l1) (r := l2) rfl hn
theorem fmm {f : Nat → Option (Nat × va_E)} {R : List Nat} {m : List (Nat × va_E)} (h : R.map f = m.map some) : R.filterMap f = m := by
  have h := congrArg (List.filterMap id) h
  simpa [List.filterMap_map, Function.comp_def] using h
section BLS
variable {l1 l2 l3 m1 m2 m3 : va_W} {n1 n2 n3 : Nat}
theorem bC13 (h1 : l1.length = n1) (h2 : l2.length = n2) (h3 : l3.length = n3) : (List.range' 0 n1 ++ List.range' (n1 + n2) n3).map (fun i => (l1 ++ (l2 ++ l3))[i]?) = (l1 ++ l3).map some := by
  rw [List.map_append, List.map_append, bl1 h1, bl3 (by omega) h3]
theorem bR2 (h1 : l1.length = n1) (h2 : l2.length = n2) : (List.range' n1 n2).map (fun i => (l1 ++ (l2 ++ l3))[i]?) = ((List.range' n1 n2).filterMap (fun i => (l1 ++ (l2 ++ l3))[i]?)).map some := by
  rw [fmm (bl h1 h2), bl h1 h2]
theorem bN13 (h1 : l1.length = n1) (h2 : l2.length = n2) (g1 : m1.length = n1) (g3 : m3.length = n3) : (List.range' n2 n1 ++ (List.range' 0 n2 ++ List.range' (n2 + n1) n3)).map (fun i => ((List.range' n1 n2).filterMap (fun i => (l1 ++ (l2 ++ l3))[i]?) ++ (m1 ++ m3))[i]?) = (m1 ++ (l2 ++ m3)).map some := by
  rw [fmm (bl h1 h2), List.map_append, List.map_append, List.map_append, List.map_append, bl h2 g1, bl1 h2, bl3 (by omega) g3]
theorem bC1 (h1 : l1.length = n1) : (List.range' 0 n1).map (fun i => (l1 ++ (l2 ++ l3))[i]?) = l1.map some := bl1 h1
theorem bF1 (h1 : l1.length = n1) : (List.range' 0 n1).filterMap (fun i => (l1 ++ (l2 ++ l3))[i]?) = l1 := fmm (bl1 h1)
theorem bF2 (h1 : l1.length = n1) (h2 : l2.length = n2) : (List.range' n1 n2).filterMap (fun i => (l1 ++ (l2 ++ l3))[i]?) = l2 := fmm (bl h1 h2)
theorem bX (h1 : l1.length = n1) (h2 : l2.length = n2) (h3 : l3.length = n3) : (List.range' n1 (n2 + n3)).map (fun i => (l1 ++ (l2 ++ l3))[i]?) = (l2 ++ l3).map some := by
  have h := bl (l := l1) (m := l2 ++ l3) (r := []) (n := n2 + n3) h1 (by rw [List.length_append]; omega)
  simpa using h
theorem bR1 (h1 : l1.length = n1) (h2 : l2.length = n2) (h3 : l3.length = n3) : (List.range' n1 (n2 + n3)).map (fun i => (l1 ++ (l2 ++ l3))[i]?) = ((List.range' n1 (n2 + n3)).filterMap (fun i => (l1 ++ (l2 ++ l3))[i]?)).map some := by
  rw [fmm (bX h1 h2 h3), bX h1 h2 h3]
theorem bN1 (h1 : l1.length = n1) (h2 : l2.length = n2) (h3 : l3.length = n3) (g1 : m1.length = n1) : (List.range' (n2 + n3) n1 ++ List.range' 0 (n2 + n3)).map (fun i => ((List.range' n1 (n2 + n3)).filterMap (fun i => (l1 ++ (l2 ++ l3))[i]?) ++ m1)[i]?) = (m1 ++ (l2 ++ l3)).map some := by
  have h := bl (l := l2 ++ l3) (m := m1) (r := []) (a := n2 + n3) (n := n1) (by rw [List.length_append]; omega) g1
  rw [List.append_nil] at h
  rw [fmm (bX h1 h2 h3), List.map_append, List.map_append, h, bl1 (by rw [List.length_append]; omega)]
theorem bR13 (h1 : l1.length = n1) (h2 : l2.length = n2) (h3 : l3.length = n3) : (List.range' 0 n1 ++ List.range' (n1 + n2) n3).map (fun i => (l1 ++ (l2 ++ l3))[i]?) = ((List.range' 0 n1 ++ List.range' (n1 + n2) n3).filterMap (fun i => (l1 ++ (l2 ++ l3))[i]?)).map some := by
  rw [fmm (bC13 h1 h2 h3), bC13 h1 h2 h3]
theorem bC2 (h1 : l1.length = n1) (h2 : l2.length = n2) : (List.range' n1 n2).map (fun i => (l1 ++ (l2 ++ l3))[i]?) = l2.map some := bl h1 h2
theorem bN2 (h1 : l1.length = n1) (h2 : l2.length = n2) (h3 : l3.length = n3) (g2 : m2.length = n2) : (List.range' 0 n1 ++ (List.range' (n1 + n3) n2 ++ List.range' n1 n3)).map (fun i => ((List.range' 0 n1 ++ List.range' (n1 + n2) n3).filterMap (fun i => (l1 ++ (l2 ++ l3))[i]?) ++ m2)[i]?) = (l1 ++ (m2 ++ l3)).map some := by
  rw [fmm (bC13 h1 h2 h3), List.append_assoc, List.map_append, List.map_append, List.map_append, List.map_append, bl1 h1, bl h1 h3, bl3 (by omega) g2]
end BLS
section HTL
variable {p : Program} {l : Launch} {e : Env} {R : Room} {s : State} {m : MethodId} {args : Array Value} {below : List Frame} {meth : Method} {c : Code} {H : Heap} {locs : List Loc} {cells slots : Nat} {Q : State → Prop}
variable {cc : ByteArray} {pc : Nat} {ls : Array Slot} {Z : EnvT} {ws wc : va_W} {A : Nat → Prop}
variable {y : MethodName} {bytes : ByteArray} {maxL nL n index : Nat} {ret : Option FieldType} {wl Ts : List Cond} {rm : Room} {own : String} {As rest st0 st1 : List Value} {mc ms : Nat} {hh : List (Nat × Nat × Nat × Nat)} {rv : Option Value}
/-- a call of one of the law's small methods -/
theorem wr_S {wc' wn : (Nat → Nat) → va_W} (S : CallFix p m c cc nL s args Ts own) (hM : WR Z l y wl rm As wc rv wc' mc ms) (cw : vx_CSW R s args own index y bytes maxL ret hh wl rm mc ms n) (hK : va_K Z.1 vwCl (tyV Z) s) (hE : EV Z s) (hP : va_P Z.1 vwCl ws H) (hD : va_D A ws) (hS : va_S A s.heap H locs) (hA : ∀ q : Nat, s.heap.size ≤ q → A q) (hZ : ZQ A s s.heap)
    (isC isR pm : List Nat) (hnd : (va_nd isC && va_nd isR && va_nd pm && isR.all (fun i => !isC.contains i)) = true) (hC : isC.map (fun i => ws[i]?) = wc.map some) (hR : isR.map (fun i => ws[i]?) = (isR.filterMap (fun i => ws[i]?)).map some) (hN : ∀ q, pm.map (fun i => (isR.filterMap (fun i => ws[i]?) ++ wc' q)[i]?) = (wn q).map some)
    (hn : As.length = n) (hsize : ls.size = nL) (hst : st0 = As.reverse ++ rest) (hW : 2 * (F0 m pc ls st0).monitorRoom + (rest.map fun v => v.category).sum ≤ 8) (hdg : decode cc pc = .ok (.invokestatic index, 3)) (hf : cells + mc ≤ R.cells ∧ slots + ms ≤ R.slots) (h1 : rv.toList ++ rest = st1)
    (kk : ∀ (q : Nat → Nat) (H1 : Heap) (locs1 : List Loc), va_P Z.1 vwCl (wn q) H1 → va_D A (wn q) → va_S A s.heap H1 locs1 → W p l e R s m args below meth c H1 locs1 (cells + mc) (slots + ms) Q (F0 m (pc + 3) ls st1)) : W p l e R s m args below meth c H locs cells slots Q (F0 m pc ls st0) := by
  simp only [Bool.and_eq_true] at hnd
  obtain ⟨⟨⟨n1, n2⟩, n3⟩, n4⟩ := hnd
  have hPc : va_P Z.1 vwCl wc H := hP.sub isC (by
    have h := congrArg (List.filterMap id) hC
    simpa [List.filterMap_map, Function.comp_def] using h)
  have hDc : va_D A wc := hD.sub isC n1 hC
  have hF := va_free (wc := wc) hD hS hA isC hC
  have hr := vx_runSX (e := e) (below := below) (meth := meth) (locs := locs) (g := F0 m pc ls st0) (As := As) (rest := rest) S (hM H.size) cw ⟨th_blind, fun U hU hW9 => ⟨rfl, ⟨by rw [hU], by rw [hU]; exact hPc, va_K.moved hW9.alike hK, hDc.weaken (fun _ _ _ _ => trivial), hE.warm hW9⟩, hZ.at hS hF hU hW9⟩⟩ rfl hn hsize hst hW hdg hf
  intro T hT X
  rcases hr T hT X with ⟨v, st₀, t, T', L, h0, X', hL, e1, e2, ⟨⟨hv, q, hp, hd⟩, hF9⟩, st⟩ | ⟨q, st₀, t, T', L, E, ce, h0, X', hL, e1, e2, hx9, -⟩
  · cases hv
    subst h1
    obtain ⟨k1, k2, k3⟩ := vx_keep h0 e1 hS (fun q _ h => hF q h) hF hL hF9
    obtain ⟨hP2, hD2⟩ := va_join (wr := isR.filterMap (fun i => ws[i]?)) (w1 := wc' q) (H1 := T'.heap) hP hD isC isR hC hR n2 (fun i hi => by
      have h := List.all_eq_true.mp n4 i hi
      simpa using h) k2 hF (by rw [e1]; exact hp) hd
    obtain ⟨t2, a1, b1⟩ := kk q T'.heap (locs ++ L) (hP2.sub pm (by
      have h := congrArg (List.filterMap id) (hN q)
      simpa [List.filterMap_map, Function.comp_def] using h)) (hD2.sub pm n3 (hN q)) k3 T' rfl X'
    exact ⟨t2, st t2 a1, b1⟩
  · exact hx9.elim
end HTL
