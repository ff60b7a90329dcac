/-! the law's own small methods: each calls one method of the class and catches what it throws -/
abbrev wO (Z : EnvT) (a : Nat → Nat) (o : ObS) : va_W := [(a 0, .inl (Z.2.1 1, 1, .inr (.inl (o.2 0))))]
def sumE {α β γ : Type} (x : α ⊕ β) (f : α → γ) (g : β → γ) : γ := match x with
  | .inl a => f a
  | .inr b => g b
theorem sumE_l {α β γ : Type} {a : α} {f : α → γ} {g : β → γ} : sumE (.inl a : α ⊕ β) f g = f a := rfl
theorem sumE_r {α β γ : Type} {b : β} {f : α → γ} {g : β → γ} : sumE (.inr b : α ⊕ β) f g = g b := rfl
def WR (Z : EnvT) (l : Launch) (y : MethodName) (wl : List Cond) (rm : Room) (av : List Value) (ws : va_W) (rv : Option Value) (ws' : (Nat → Nat) → va_W) (mc ms : Nat) : Prop :=
  ∀ sz : Nat, vx_Met l y wl rm (va_Pc av (thB Z sz ws)) (rwQ Z rv ws' (va_A ws sz)) (fun _ _ _ => False) mc ms (va_A ws sz)
theorem wr_of {Z : EnvT} {l : Launch} {y : MethodName} {wl wl' : List Cond} {rm : Room} {av : List Value} {ws : va_W} {rv : Option Value} {ws' : (Nat → Nat) → va_W} {mc ms : Nat} {cc : ByteArray} {maxL : Nat} {ret : Option FieldType} {hh : List (Nat × Nat × Nat × Nat)} (hy : plainName y.cls = true) (hw : wl = Cond.codeWith y cc maxL ret hh :: wl') (hlen : (lg_sl av).length ≤ maxL)
    (body : ∀ (p : Program) (e : Env) (s : State) (m : MethodId) (below : List Frame) (meth : Method) (c : Code) (A : Nat → Prop) (ls : Array Slot), p.tables.exec = Jvm.exec → c.code = cc → meth.sig.returnType = ret → c.maxLocals = maxL → (∀ w ∈ wl, w.before av.toArray s = true) → s.vm.findClass y.cls = some m.cls → meth.locks = false → c.exceptionTable.toList = tableOf hh →
      va_P Z.1 vwCl ws s.heap → va_K Z.1 vwCl (tyV Z) s → EV Z s → va_D A ws → (∀ q : Nat, s.heap.size ≤ q → A q) → va_S A s.heap s.heap [] → ZQ A s s.heap → lv_has ls maxL (lv_args 0 av) → W p l e rm s m av.toArray below meth c s.heap [] 0 0 (vx_MQ below (rwQ Z rv ws' A) (fun _ _ _ => False) av.toArray s mc ms A) (F0 m 0 ls [])) : WR Z l y wl rm av ws rv ws' mc ms := by
  intro sz
  refine vx_ofWH (cc := cc) (maxL := maxL) (ret := ret) (hh := hh) hy hw ?_
  intro p e s m args below meth c s₁ B hml hv
  obtain ⟨rfl, ⟨hsz, hP, hK, hD0, hE⟩, hZ⟩ := hv
  subst hsz
  rw [lg_entry_eq]
  have hts := atoms_spec (ws := wl) B.pre
  exact body p e s m below meth c (va_A ws s.heap.size) _ B.exec B.bytes B.returns hml hts (findClass_of_methodNamed B.named) B.notSynchronized (vx_table (x := y) B (hts (Cond.codeWith y cc maxL ret hh) (by rw [hw]; exact List.mem_cons_self))) hP hK hE hD0.self (fun q h => Or.inr h) va_S.rf hZ (lv_entry av hlen)
section HTW
variable {p : Program} {l : Launch} {e : Env} {R : Room} {s : State} {m : MethodId} {args : Array Value} {below : List Frame} {meth : Method} {c : Code} {H : Heap} {locs : List Loc} {cells slots : Nat} {Q : State → Prop}
variable {cc : ByteArray} {pc : Nat} {ls : Array Slot} {Z : EnvT} {ws wc : va_W} {A : Nat → Prop}
variable {y : MethodName} {bytes : ByteArray} {maxL nL n index : Nat} {ret : Option FieldType} {wl Ts : List Cond} {rm : Room} {own C : String} {b : Nat} {As rest st0 st1 : List Value} {β : Type} {mc ms : Nat}
theorem th_Lx {k : Nat} {rv : β → Option Value} {ws' : β → (Nat → Nat) → va_W} (S : CallFix p m c cc nL s args Ts own) (hM : TH Z l y wl rm (.ref b :: As) wc (.inl k : Nat ⊕ β) rv ws' mc ms) (cw : CallW R s args own C index y bytes maxL ret wl rm mc ms n) (hK : va_K Z.1 vwCl (tyV Z) s) (hE : EV Z s) (hP : va_P Z.1 vwCl ws H) (hD : va_D A ws) (hS : va_S A s.heap H locs) (hA : ∀ q : Nat, s.heap.size ≤ q → A q) (hZ : ZQ A s s.heap)
    (isC isR pm : List Nat) (hnd : (va_nd isC && va_nd isR && va_nd pm && isR.all (fun i => !isC.contains i)) = true) (hC : isC.map (fun i => ws[i]?) = wc.map some) (hR : isR.map (fun i => ws[i]?) = (isR.filterMap (fun i => ws[i]?)).map some) (hN : pm.map (fun i => (isR.filterMap (fun i => ws[i]?) ++ wc)[i]?) = ws.map some)
    (ci : Nat) {fs : List Value} {T : u_T} {N : Nat} (hc : vwCl[ci]? = some (C, T, N)) (he : wc[0]? = some (b, .inr (ci, fs)))
    (hn : As.length = n) (hsize : ls.size = nL) (hst : st0 = As.reverse ++ .ref b :: rest) (hW : 2 * (F0 m pc ls st0).monitorRoom + (rest.map fun v => v.category).sum ≤ 8) (hdg : decode cc pc = .ok (.invokevirtual index, 3)) (hf : cells + mc ≤ R.cells ∧ slots + ms ≤ R.slots)
    (kx : ∀ (q9 : Nat) (ce : Cell) (H1 : Heap) (locs1 : List Loc), va_P Z.1 vwCl ws H1 → va_D A ws → va_S A s.heap H1 locs1 → H1[q9]? = some ce → ce.vm = .none → s.vm.findClass (exN k) = some ce.cls → vx_W p l e R s m args below meth c H1 locs1 (cells + mc) (slots + ms) Q (F0 m pc ls rest) q9) : W p l e R s m args below meth c H locs cells slots Q (F0 m pc ls st0) := by
  simp only [Bool.and_eq_true] at hnd
  obtain ⟨⟨⟨n1, n2⟩, n3⟩, n4⟩ := hnd
  have hPc : va_P Z.1 vwCl wc H := hP.sub isC (by
    have h := congrArg (List.filterMap id) hC
    simpa [List.filterMap_map, Function.comp_def] using h)
  have hDc : va_D A wc := hD.sub isC n1 hC
  have hF := va_free (wc := wc) hD hS hA isC hC
  have hr := vx_runV (e := e) (below := below) (meth := meth) (locs := locs) (g := F0 m pc ls st0) (As := As) (rest := rest) S (hM H.size) cw ⟨th_blind, va_recv hK hPc (q := (C, T, N)) hc he, fun U hU hW9 => ⟨rfl, ⟨by rw [hU], by rw [hU]; exact hPc, va_K.moved hW9.alike hK, hDc.weaken (fun _ _ _ _ => trivial), hE.warm hW9⟩, hZ.at hS hF hU hW9⟩⟩ rfl hn hsize hst hW hdg hf
  intro T hT X
  rcases hr T hT X with ⟨v, st₀, t, T', L, h0, X', hL, e1, e2, ⟨r, hr1, -⟩, st⟩ | ⟨q, st₀, t, T', L, E, ce, h0, X', hL, e1, e2, ⟨k9, hk9, hE9, hP9, hD9, hF9⟩, hce, hcv, hcl, st⟩
  · exact nomatch hr1
  · cases hk9
    subst hE9
    obtain ⟨k1, k2, k3⟩ := vx_keep h0 e1 hS (fun q _ h => hF q h) hF hL hF9
    obtain ⟨hP2, hD2⟩ := va_join (wr := isR.filterMap (fun i => ws[i]?)) (w1 := wc) (H1 := T'.heap) hP hD isC isR hC hR n2 (fun i hi => by
      have h := List.all_eq_true.mp n4 i hi
      simpa using h) k2 hF (by rw [e1]; exact hP9) hD9
    obtain ⟨t2, a1, b1⟩ := kx q ce T'.heap (locs ++ L) (hP2.sub pm (by
      have h := congrArg (List.filterMap id) hN
      simpa [List.filterMap_map, Function.comp_def] using h)) (hD2.sub pm n3 hN) k3 (by rw [e1]; exact hce) hcv hcl T' rfl X'
    exact ⟨t2, st.trans a1, b1⟩
theorem th_Ln {r : β} {rv : β → Option Value} {ws' : β → (Nat → Nat) → va_W} {wn : (Nat → Nat) → va_W} (S : CallFix p m c cc nL s args Ts own) (hM : TH Z l y wl rm (.ref b :: As) wc (.inr r : Nat ⊕ β) rv ws' mc ms) (cw : CallW R s args own C index y bytes maxL ret wl rm mc ms n) (hK : va_K Z.1 vwCl (tyV Z) s) (hE : EV Z s) (hP : va_P Z.1 vwCl ws H) (hD : va_D A ws) (hS : va_S A s.heap H locs) (hA : ∀ q : Nat, s.heap.size ≤ q → A q) (hZ : ZQ A s s.heap)
    (isC isR pm : List Nat) (hnd : (va_nd isC && va_nd isR && va_nd pm && isR.all (fun i => !isC.contains i)) = true) (hC : isC.map (fun i => ws[i]?) = wc.map some) (hR : isR.map (fun i => ws[i]?) = (isR.filterMap (fun i => ws[i]?)).map some) (hN : ∀ q, pm.map (fun i => (isR.filterMap (fun i => ws[i]?) ++ ws' r q)[i]?) = (wn q).map some)
    (ci : Nat) {fs : List Value} {T : u_T} {N : Nat} (hc : vwCl[ci]? = some (C, T, N)) (he : wc[0]? = some (b, .inr (ci, fs)))
    (hn : As.length = n) (hsize : ls.size = nL) (hst : st0 = As.reverse ++ .ref b :: rest) (hW : 2 * (F0 m pc ls st0).monitorRoom + (rest.map fun v => v.category).sum ≤ 8) (hdg : decode cc pc = .ok (.invokevirtual index, 3)) (hf : cells + mc ≤ R.cells ∧ slots + ms ≤ R.slots) (h1 : (rv r).toList ++ rest = st1)
    (kk : ∀ (q : Nat → Nat) (H1 : Heap) (locs1 : List Loc), va_P Z.1 vwCl (wn q) H1 → va_D A (wn q) → va_S A s.heap H1 locs1 → W p l e R s m args below meth c H1 locs1 (cells + mc) (slots + ms) Q (F0 m (pc + 3) ls st1)) : W p l e R s m args below meth c H locs cells slots Q (F0 m pc ls st0) := by
  simp only [Bool.and_eq_true] at hnd
  obtain ⟨⟨⟨n1, n2⟩, n3⟩, n4⟩ := hnd
  have hPc : va_P Z.1 vwCl wc H := hP.sub isC (by
    have h := congrArg (List.filterMap id) hC
    simpa [List.filterMap_map, Function.comp_def] using h)
  have hDc : va_D A wc := hD.sub isC n1 hC
  have hF := va_free (wc := wc) hD hS hA isC hC
  have hr := vx_runV (e := e) (below := below) (meth := meth) (locs := locs) (g := F0 m pc ls st0) (As := As) (rest := rest) S (hM H.size) cw ⟨th_blind, va_recv hK hPc (q := (C, T, N)) hc he, fun U hU hW9 => ⟨rfl, ⟨by rw [hU], by rw [hU]; exact hPc, va_K.moved hW9.alike hK, hDc.weaken (fun _ _ _ _ => trivial), hE.warm hW9⟩, hZ.at hS hF hU hW9⟩⟩ rfl hn hsize hst hW hdg hf
  intro T hT X
  rcases hr T hT X with ⟨v, st₀, t, T', L, h0, X', hL, e1, e2, ⟨r9, hr9, ⟨hv, q, hp, hd⟩, hF9⟩, st⟩ | ⟨q, st₀, t, T', L, E, ce, h0, X', hL, e1, e2, ⟨k9, hk9, -⟩, hce, hcv, hcl, st⟩
  · cases hr9
    cases hv
    subst h1
    obtain ⟨k1, k2, k3⟩ := vx_keep h0 e1 hS (fun q _ h => hF q h) hF hL hF9
    obtain ⟨hP2, hD2⟩ := va_join (wr := isR.filterMap (fun i => ws[i]?)) (w1 := ws' r q) (H1 := T'.heap) hP hD isC isR hC hR n2 (fun i hi => by
      have h := List.all_eq_true.mp n4 i hi
      simpa using h) k2 hF (by rw [e1]; exact hp) hd
    obtain ⟨t2, a1, b1⟩ := kk q T'.heap (locs ++ L) (hP2.sub pm (by
      have h := congrArg (List.filterMap id) (hN q)
      simpa [List.filterMap_map, Function.comp_def] using h)) (hD2.sub pm n3 (hN q)) k3 T' rfl X'
    exact ⟨t2, st t2 a1, b1⟩
  · exact nomatch hk9
end HTW
