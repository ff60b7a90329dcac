/-! constructors: first numbers, addresses, the row of the call -/
def z0 : ObS := (fun _ _ => 0, fun _ _ => 0)
def ad (b : Nat) (q : Nat → Nat) : Nat → Nat := fun k => cond (Nat.beq k 0) b (q k)
def bb (b : Nat) (q : Nat → Nat) : Nat → Nat → Nat := fun i k => cond (Nat.beq (i * 64 + k) 0) b (q (i * 64 + k))
section HTC
variable {p : Program} {l : Launch} {e : Env} {R : Room} {s : State} {m : MethodId} {args : Array Value} {below : List Frame} {meth : Method} {c : Code} {H : Heap} {locs : List Loc} {cells slots : Nat} {Q : State → Prop}
variable {cc : ByteArray} {pc : Nat} {ls : Array Slot} {Z : EnvT} {ws wc : va_W}
variable {y : MethodName} {bytes : ByteArray} {maxL nL n index : Nat} {wl Ts : List Cond} {rm : Room} {own : String} {b : Nat} {As rest st0 : List Value}
/-- a call of a constructor -/
theorem rw_I {A : Nat → Prop} {mc ms : Nat} {wc' wn : (Nat → Nat) → va_W} (S : CallFix p m c cc nL s args Ts own) (hM : RW Z l y wl rm (.ref b :: As) wc none wc' mc ms) (cw : CallB R s args own index y bytes maxL none wl rm mc ms n ∧ y.name = "<init>" ∧ (Cond.instanceMethod y).before args s = true) (hK : va_K Z.1 vwCl (tyV Z) s) (hE : EV Z s) (hP : va_P Z.1 vwCl ws H) (hD : va_D A ws) (hS : va_S A s.heap H locs) (hA : ∀ q : Nat, s.heap.size ≤ q → A q)
    (isC isR pm : List Nat) (hnd : (va_nd isC && va_nd isR && va_nd pm && isR.all (fun i => !isC.contains i)) = true) (hC : isC.map (fun i => ws[i]?) = wc.map some) (hR : isR.map (fun i => ws[i]?) = (isR.filterMap (fun i => ws[i]?)).map some) (hN : ∀ q, pm.map (fun i => (isR.filterMap (fun i => ws[i]?) ++ wc' q)[i]?) = (wn q).map some)
    (hn : As.length = n) (hsize : ls.size = nL) (hst : st0 = As.reverse ++ .ref b :: rest) (hW : 2 * (F0 m pc ls st0).monitorRoom + (rest.map fun v => v.category).sum ≤ 8) (hdg : decode cc pc = .ok (.invokespecial index, 3)) (hf : cells + mc ≤ R.cells ∧ slots + ms ≤ R.slots)
    (kk : ∀ (q : Nat → Nat) (H1 : Heap) (locs1 : List Loc), va_P Z.1 vwCl (wn q) H1 → va_D A (wn q) → va_S A s.heap H1 locs1 → W p l e R s m args below meth c H1 locs1 (cells + mc) (slots + ms) Q (F0 m (pc + 3) ls rest)) : W p l e R s m args below meth c H locs cells slots Q (F0 m pc ls st0) := by
  simp only [Bool.and_eq_true] at hnd
  obtain ⟨⟨⟨n1, n2⟩, n3⟩, n4⟩ := hnd
  have hPc : va_P Z.1 vwCl wc H := hP.sub isC (by
    have h := congrArg (List.filterMap id) hC
    simpa [List.filterMap_map, Function.comp_def] using h)
  have hDc : va_D A wc := hD.sub isC n1 hC
  have hF := va_free (wc := wc) hD hS hA isC hC
  have hM9 := hM H.size
  refine rw_run (rest := rest) (st1 := rest) (va_runI (As := As) (rest := rest) S hM9 cw ⟨rw_blind, fun U hU hW9 => ⟨rfl, by rw [hU], by rw [hU]; exact hPc, va_K.moved hW9.alike hK, hDc.weaken (fun _ _ _ _ => trivial), hE.warm hW9⟩⟩ rfl hn hsize hst hW hdg hf) rfl hS hF ?_
  intro q H1 locs1 hP1 hD1 hk hS1
  obtain ⟨hP2, hD2⟩ := va_join (wr := isR.filterMap (fun i => ws[i]?)) (w1 := wc' q) hP hD isC isR hC hR n2 (fun i hi => by
    have h := List.all_eq_true.mp n4 i hi
    simpa using h) hk hF hP1 hD1
  refine kk q H1 locs1 (hP2.sub pm ?_) (hD2.sub pm n3 (hN q)) hS1
  have h := congrArg (List.filterMap id) (hN q)
  simpa [List.filterMap_map, Function.comp_def] using h
end HTC
