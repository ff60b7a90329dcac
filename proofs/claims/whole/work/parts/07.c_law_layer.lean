section HTL
variable {p : Program} {l : Launch} {e : Env} {R : Room} {s : State} {m : MethodId} {args : Array Value} {below : List Frame} {meth : Method} {c : Code} {H : Heap} {locs : List Loc} {cells slots : Nat} {Q : State → Prop}
variable {cc : ByteArray} {pc : Nat} {ls : Array Slot} {Z : EnvT} {ws wc : va_W} {A : Nat → Prop}
variable {y : MethodName} {bytes : ByteArray} {maxL nL n index : Nat} {ret : Option FieldType} {wl Ts : List Cond} {rm : Room} {own : String} {As rest st0 st1 : List Value} {mc ms : Nat} {hh : List (Nat × Nat × Nat × Nat)} {rv : Option Value}
/-- a call of one of the law's small methods -/
theorem wr_S {wc' wn : (Nat → Nat) → va_W} (S : CallFix p m c cc nL s args Ts own) (hM : WR Z l y wl rm As wc rv wc' mc ms) (cw : vx_CSW R s args own index y bytes maxL ret hh wl rm mc ms n) (hK : va_K Z.1 vwCl (tyV Z) s) (hE : EV Z s) (hP : va_P Z.1 vwCl ws H) (hD : va_D A ws) (hS : va_S A s.heap H locs) (hA : ∀ q : Nat, s.heap.size ≤ q → A q) (hZ : ZQ A s s.heap)
    (isC isR pm : List Nat) (hnd : (va_nd isC && va_nd isR && va_nd pm && isR.all (fun i => !isC.contains i)) = true) (hC : isC.map (fun i => ws[i]?) = wc.map some) (hR : isR.map (fun i => ws[i]?) = (isR.filterMap (fun i => ws[i]?)).map some) (hN : ∀ q, pm.map (fun i => (isR.filterMap (fun i => ws[i]?) ++ wc' q)[i]?) = (wn q).map some)
    (hn : As.length = n) (hsize : ls.size = nL) (hst : st0 = As.reverse ++ rest) (hW : 2 * (F0 m pc ls st0).monitorRoom + (rest.map fun v => v.category).sum ≤ 8) (hdg : decode cc pc = .ok (.invokestatic index, 3)) (hf : cells + mc ≤ R.cells ∧ slots + ms ≤ R.slots) (h1 : rv.toList ++ rest = st1)
    (kk : ∀ (q : Nat → Nat) (H1 : Heap) (locs1 : List Loc), va_P Z.1 vwCl (wn q) H1 → va_D A (wn q) → va_S A s.heap H1 locs1 → W p l e R s m args below meth c H1 locs1 (cells + mc) (slots + ms) Q (F0 m (pc + 3) ls st1)) : W p l e R s m args below meth c H locs cells slots Q (F0 m pc ls st0) := by
  simp only [Bool.and_eq_true] at hnd
  obtain ⟨⟨⟨n1, n2⟩, n3⟩, n4⟩ := hnd
  have hPc : va_P Z.1 vwCl wc H := hP.sub isC (by
    have h := congrArg (List.filterMap id) hC
    simpa [List.filterMap_map, Function.comp_def] using h)
  have hDc : va_D A wc := hD.sub isC n1 hC
  have hF := va_free (wc := wc) hD hS hA isC hC
  have hr := vx_runSX (e := e) (below := below) (meth := meth) (locs := locs) (g := F0 m pc ls st0) (As := As) (rest := rest) S (hM H.size) cw ⟨th_blind, fun U hU hW9 => ⟨rfl, ⟨by rw [hU], by rw [hU]; exact hPc, va_K.moved hW9.alike hK, hDc.weaken (fun _ _ _ _ => trivial), hE.warm hW9⟩, hZ.at hS hF hU hW9⟩⟩ rfl hn hsize hst hW hdg hf
  intro T hT X
  rcases hr T hT X with ⟨v, st₀, t, T', L, h0, X', hL, e1, e2, ⟨⟨hv, q, hp, hd⟩, hF9⟩, st⟩ | ⟨q, st₀, t, T', L, E, ce, h0, X', hL, e1, e2, hx9, -⟩
  · cases hv
    subst h1
    obtain ⟨k1, k2, k3⟩ := vx_keep h0 e1 hS (fun q _ h => hF q h) hF hL hF9
    obtain ⟨hP2, hD2⟩ := va_join (wr := isR.filterMap (fun i => ws[i]?)) (w1 := wc' q) (H1 := T'.heap) hP hD isC isR hC hR n2 (fun i hi => by
      have h := List.all_eq_true.mp n4 i hi
      simpa using h) k2 hF (by rw [e1]; exact hp) hd
    obtain ⟨t2, a1, b1⟩ := kk q T'.heap (locs ++ L) (hP2.sub pm (by
      have h := congrArg (List.filterMap id) (hN q)
      simpa [List.filterMap_map, Function.comp_def] using h)) (hD2.sub pm n3 (hN q)) k3 T' rfl X'
    exact ⟨t2, st t2 a1, b1⟩
  · exact hx9.elim
end HTL
