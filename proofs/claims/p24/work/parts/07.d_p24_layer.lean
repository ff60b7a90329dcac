/-! the law's methods: worlds of one train, of two, of a train and the row of kinds; what they need of calls -/
abbrev wK (Z : EnvT) (a : Nat) (f : Nat → Int32) : va_W := [(a, .inl (Z.2.1 0, 12, .inl f))]
theorem obd {α β : Type} {x : Option (Nat ⊕ α)} {f : α → Option β} {R : β} (h : (ob x).bind f = some R) : ∃ r, x = some (.inr r) ∧ f r = some R := by
  match x, h with
  | some (.inr a), h => exact ⟨a, rfl, h⟩
  | some (.inl a), h => exact nomatch h
  | none, h => exact nomatch h
theorem wr_ofP {Z : EnvT} {l : Launch} {y : MethodName} {wl wl' : List Cond} {rm : Room} {av : List Value} {ws : va_W} {rv : Option Value} {ws' : (Nat → Nat) → va_W} {mc ms : Nat} {cc : ByteArray} {maxL : Nat} {ret : Option FieldType} (hy : plainName y.cls = true) (hw : wl = Cond.code y cc maxL ret :: wl') (hlen : (lg_sl av).length ≤ maxL)
    (body : ∀ (p : Program) (e : Env) (s : State) (m : MethodId) (below : List Frame) (meth : Method) (c : Code) (A : Nat → Prop) (ls : Array Slot), p.tables.exec = Jvm.exec → c.code = cc → meth.sig.returnType = ret → c.maxLocals = maxL → (∀ w ∈ wl, w.before av.toArray s = true) → s.vm.findClass y.cls = some m.cls → meth.locks = false →
      va_P Z.1 vwCl ws s.heap → va_K Z.1 vwCl (tyV Z) s → EV Z s → va_D A ws → (∀ q : Nat, s.heap.size ≤ q → A q) → va_S A s.heap s.heap [] → ZQ A s s.heap → lv_has ls maxL (lv_args 0 av) → W p l e rm s m av.toArray below meth c s.heap [] 0 0 (vx_MQ below (rwQ Z rv ws' A) (fun _ _ _ => False) av.toArray s mc ms A) (F0 m 0 ls [])) : WR Z l y wl rm av ws rv ws' mc ms := by
  intro sz
  refine vx_ofW (cc := cc) (maxL := maxL) (ret := ret) hy hw ?_
  intro p e s m args below meth c s₁ B hml hno hv
  obtain ⟨rfl, ⟨hsz, hP, hK, hD0, hE⟩, hZ⟩ := hv
  subst hsz
  rw [lg_entry_eq]
  exact body p e s m below meth c (va_A ws s.heap.size) _ B.exec B.bytes B.returns hml (atoms_spec (ws := wl) B.pre) (findClass_of_methodNamed B.named) B.notSynchronized hP hK hE hD0.self (fun q h => Or.inr h) va_S.rf hZ (lv_entry av hlen)
section HTS
variable {p : Program} {l : Launch} {e : Env} {R : Room} {s : State} {m : MethodId} {args : Array Value} {below : List Frame} {meth : Method} {c : Code} {H : Heap} {locs : List Loc} {cells slots : Nat} {Q : State → Prop}
variable {cc : ByteArray} {pc : Nat} {ls : Array Slot} {Z : EnvT} {ws wc : va_W} {A : Nat → Prop}
variable {y : MethodName} {bytes : ByteArray} {maxL nL n index : Nat} {ret : Option FieldType} {wl Ts : List Cond} {rm : Room} {own : String} {As rest st0 st1 : List Value} {β : Type} {mc ms : Nat} {rv : Option Value}
/-- a call of a static method that throws, over the same world -/
theorem th_Sx {k : Nat} {rv : β → Option Value} {ws' : β → (Nat → Nat) → va_W} (S : CallFix p m c cc nL s args Ts own) (hM : TH Z l y wl rm As ws (.inl k : Nat ⊕ β) rv ws' mc ms) (cw : CallB R s args own index y bytes maxL ret wl rm mc ms n ∧ (Cond.static y).before args s = true) (hK : va_K Z.1 vwCl (tyV Z) s) (hE : EV Z s) (hP : va_P Z.1 vwCl ws H) (hD : va_D A ws) (hS : va_S A s.heap H locs) (hA : ∀ q : Nat, s.heap.size ≤ q → A q) (hZ : ZQ A s s.heap)
    (hn : As.length = n) (hsize : ls.size = nL) (hst : st0 = As.reverse ++ rest) (hW : 2 * (F0 m pc ls st0).monitorRoom + (rest.map fun v => v.category).sum ≤ 8) (hdg : decode cc pc = .ok (.invokestatic index, 3)) (hf : cells + mc ≤ R.cells ∧ slots + ms ≤ R.slots)
    (kx : ∀ (q9 : Nat) (ce : Cell) (H1 : Heap) (locs1 : List Loc), va_P Z.1 vwCl ws H1 → va_D A ws → va_S A s.heap H1 locs1 → H1[q9]? = some ce → ce.vm = .none → s.vm.findClass (exN k) = some ce.cls → vx_W p l e R s m args below meth c H1 locs1 (cells + mc) (slots + ms) Q (F0 m pc ls rest) q9) : W p l e R s m args below meth c H locs cells slots Q (F0 m pc ls st0) := by
  have hF := th_self hS hA hD
  have hr := vx_runS (e := e) (below := below) (meth := meth) (locs := locs) (g := F0 m pc ls st0) (As := As) (rest := rest) S (hM H.size) cw ⟨th_blind, fun U hU hW9 => ⟨rfl, ⟨by rw [hU], by rw [hU]; exact hP, va_K.moved hW9.alike hK, hD.weaken (fun _ _ _ _ => trivial), hE.warm hW9⟩, hZ.at hS hF hU hW9⟩⟩ rfl hn hsize hst hW hdg hf
  intro T hT X
  rcases hr T hT X with ⟨v, st₀, t, T', L, h0, X', hL, e1, e2, ⟨r, hr1, -⟩, st⟩ | ⟨q, st₀, t, T', L, E, ce, h0, X', hL, e1, e2, ⟨k9, hk9, hE9, hP9, hD9, hF9⟩, hce, hcv, hcl, st⟩
  · exact nomatch hr1
  · cases hk9
    subst hE9
    obtain ⟨k1, k2, k3⟩ := vx_keep h0 e1 hS (fun q _ h => hF q h) hF hL hF9
    obtain ⟨t2, a1, b1⟩ := kx q ce T'.heap (locs ++ L) (by rw [e1]; exact hP9) hD k3 (by rw [e1]; exact hce) hcv hcl T' rfl X'
    exact ⟨t2, st.trans a1, b1⟩
theorem th_Sn {r : β} {rv : β → Option Value} {ws' : β → (Nat → Nat) → va_W} (S : CallFix p m c cc nL s args Ts own) (hM : TH Z l y wl rm As ws (.inr r : Nat ⊕ β) rv ws' mc ms) (cw : CallB R s args own index y bytes maxL ret wl rm mc ms n ∧ (Cond.static y).before args s = true) (hK : va_K Z.1 vwCl (tyV Z) s) (hE : EV Z s) (hP : va_P Z.1 vwCl ws H) (hD : va_D A ws) (hS : va_S A s.heap H locs) (hA : ∀ q : Nat, s.heap.size ≤ q → A q) (hZ : ZQ A s s.heap)
    (hn : As.length = n) (hsize : ls.size = nL) (hst : st0 = As.reverse ++ rest) (hW : 2 * (F0 m pc ls st0).monitorRoom + (rest.map fun v => v.category).sum ≤ 8) (hdg : decode cc pc = .ok (.invokestatic index, 3)) (hf : cells + mc ≤ R.cells ∧ slots + ms ≤ R.slots) (h1 : (rv r).toList ++ rest = st1)
    (kk : ∀ (q : Nat → Nat) (H1 : Heap) (locs1 : List Loc), va_P Z.1 vwCl (ws' r q) H1 → va_D A (ws' r q) → va_S A s.heap H1 locs1 → W p l e R s m args below meth c H1 locs1 (cells + mc) (slots + ms) Q (F0 m (pc + 3) ls st1)) : W p l e R s m args below meth c H locs cells slots Q (F0 m pc ls st0) := by
  have hF := th_self hS hA hD
  have hr := vx_runS (e := e) (below := below) (meth := meth) (locs := locs) (g := F0 m pc ls st0) (As := As) (rest := rest) S (hM H.size) cw ⟨th_blind, fun U hU hW9 => ⟨rfl, ⟨by rw [hU], by rw [hU]; exact hP, va_K.moved hW9.alike hK, hD.weaken (fun _ _ _ _ => trivial), hE.warm hW9⟩, hZ.at hS hF hU hW9⟩⟩ rfl hn hsize hst hW hdg hf
  intro T hT X
  rcases hr T hT X with ⟨v, st₀, t, T', L, h0, X', hL, e1, e2, ⟨r9, hr9, ⟨hv, q, hp, hd⟩, hF9⟩, st⟩ | ⟨q, st₀, t, T', L, E, ce, h0, X', hL, e1, e2, ⟨k9, hk9, -⟩, hce, hcv, hcl, st⟩
  · cases hr9
    cases hv
    subst h1
    obtain ⟨k1, k2, k3⟩ := vx_keep h0 e1 hS (fun q _ h => hF q h) hF hL hF9
    obtain ⟨t2, a1, b1⟩ := kk q T'.heap (locs ++ L) (by rw [e1]; exact hp) (hd.weaken (fun _ q9 _ h => hF q9.1 h)) k3 T' rfl X'
    exact ⟨t2, st t2 a1, b1⟩
  · exact nomatch hk9
/-- a call of one of the law's methods without a catch of its own -/
theorem wr_P {wc' wn : (Nat → Nat) → va_W} (S : CallFix p m c cc nL s args Ts own) (hM : WR Z l y wl rm As wc rv wc' mc ms) (cw : CallB R s args own index y bytes maxL ret wl rm mc ms n ∧ (Cond.static y).before args s = true) (hK : va_K Z.1 vwCl (tyV Z) s) (hE : EV Z s) (hP : va_P Z.1 vwCl ws H) (hD : va_D A ws) (hS : va_S A s.heap H locs) (hA : ∀ q : Nat, s.heap.size ≤ q → A q) (hZ : ZQ A s s.heap)
    (isC isR pm : List Nat) (hnd : (va_nd isC && va_nd isR && va_nd pm && isR.all (fun i => !isC.contains i)) = true) (hC : isC.map (fun i => ws[i]?) = wc.map some) (hR : isR.map (fun i => ws[i]?) = (isR.filterMap (fun i => ws[i]?)).map some) (hN : ∀ q, pm.map (fun i => (isR.filterMap (fun i => ws[i]?) ++ wc' q)[i]?) = (wn q).map some)
    (hn : As.length = n) (hsize : ls.size = nL) (hst : st0 = As.reverse ++ rest) (hW : 2 * (F0 m pc ls st0).monitorRoom + (rest.map fun v => v.category).sum ≤ 8) (hdg : decode cc pc = .ok (.invokestatic index, 3)) (hf : cells + mc ≤ R.cells ∧ slots + ms ≤ R.slots) (h1 : rv.toList ++ rest = st1)
    (kk : ∀ (q : Nat → Nat) (H1 : Heap) (locs1 : List Loc), va_P Z.1 vwCl (wn q) H1 → va_D A (wn q) → va_S A s.heap H1 locs1 → W p l e R s m args below meth c H1 locs1 (cells + mc) (slots + ms) Q (F0 m (pc + 3) ls st1)) : W p l e R s m args below meth c H locs cells slots Q (F0 m pc ls st0) := by
  simp only [Bool.and_eq_true] at hnd
  obtain ⟨⟨⟨n1, n2⟩, n3⟩, n4⟩ := hnd
  have hPc : va_P Z.1 vwCl wc H := hP.sub isC (by
    have h := congrArg (List.filterMap id) hC
    simpa [List.filterMap_map, Function.comp_def] using h)
  have hDc : va_D A wc := hD.sub isC n1 hC
  have hF := va_free (wc := wc) hD hS hA isC hC
  have hr := vx_runS (e := e) (below := below) (meth := meth) (locs := locs) (g := F0 m pc ls st0) (As := As) (rest := rest) S (hM H.size) cw ⟨th_blind, fun U hU hW9 => ⟨rfl, ⟨by rw [hU], by rw [hU]; exact hPc, va_K.moved hW9.alike hK, hDc.weaken (fun _ _ _ _ => trivial), hE.warm hW9⟩, hZ.at hS hF hU hW9⟩⟩ rfl hn hsize hst hW hdg hf
  intro T hT X
  rcases hr T hT X with ⟨v, st₀, t, T', L, h0, X', hL, e1, e2, ⟨⟨hv, q, hp, hd⟩, hF9⟩, st⟩ | ⟨q, st₀, t, T', L, E, ce, h0, X', hL, e1, e2, hx9, -⟩
  · cases hv
    subst h1
    obtain ⟨k1, k2, k3⟩ := vx_keep h0 e1 hS (fun q _ h => hF q h) hF hL hF9
    obtain ⟨hP2, hD2⟩ := va_join (wr := isR.filterMap (fun i => ws[i]?)) (w1 := wc' q) (H1 := T'.heap) hP hD isC isR hC hR n2 (fun i hi => by
      have h := List.all_eq_true.mp n4 i hi
      simpa using h) k2 hF (by rw [e1]; exact hp) hd
    obtain ⟨t2, a1, b1⟩ := kk q T'.heap (locs ++ L) (hP2.sub pm (by
      have h := congrArg (List.filterMap id) (hN q)
      simpa [List.filterMap_map, Function.comp_def] using h)) (hD2.sub pm n3 (hN q)) k3 T' rfl X'
    exact ⟨t2, st t2 a1, b1⟩
  · exact hx9.elim
/-- a cell of the script is asked for: nothing changes -/
def CE (l : Launch) (b L : Nat) (xs : Nat → Int32) (k r : Int32) : Prop := Met l yL_cell wsL_cell { frames := 0, cells := 0, slots := 0, locals := 0 } (va_Pc [.ref b, .int k] (fun U => va_X b L xs U U.heap)) (roQ (some (.int r))) 0 0 (fun _ => False)
theorem ce_blind {b L : Nat} {xs : Nat → Int32} {av : List Value} : FrameBlind (va_Pc av (fun U => va_X b L xs U U.heap)) := fun a U g mk q => ⟨q.1, va_X.moved (u := U) (U := U.calling g mk a) (Vm.Alike.refl U.vm) q.2⟩
theorem ce_S {b L : Nat} {xs : Nat → Int32} {k r : Int32} (S : CallFix p m c cc nL s args Ts own) (hM : CE l b L xs k r) (cw : CallB R s args own index yL_cell bytes maxL ret wsL_cell { frames := 0, cells := 0, slots := 0, locals := 0 } 0 0 n ∧ (Cond.static yL_cell).before args s = true) (hX : va_X b L xs s s.heap) (hbl : b < s.heap.size) (hbA : ¬ A b) (hS : va_S A s.heap H locs)
    (hn : 2 = n) (hsize : ls.size = nL) (hst : st0 = .int k :: .ref b :: rest) (hW : 2 * (F0 m pc ls st0).monitorRoom + (rest.map fun v => v.category).sum ≤ 8) (hdg : decode cc pc = .ok (.invokestatic index, 3)) (hf : cells ≤ R.cells ∧ slots ≤ R.slots) (h1 : .int r :: rest = st1)
    (kk : W p l e R s m args below meth c H locs cells slots Q (F0 m (pc + 3) ls st1)) : W p l e R s m args below meth c H locs cells slots Q (F0 m pc ls st0) :=
  ro_run (va_runS (As := [.ref b, .int k]) (rest := rest) S hM cw ⟨ce_blind, fun U hU hW9 => ⟨rfl, by show va_X b L xs U U.heap; rw [hU]; exact va_X.moved hW9.alike (va_X.kept hX (hS.2.1 b hbl hbA))⟩⟩ rfl hn hsize hst hW hdg hf) h1 kk
end HTS
theorem c_L_cell (l : Launch) (b L : Nat) (xs : Nat → Int32) (k r : Int32) (hf : f_L_cell xs L k = some r) : CE l b L xs k r := by
  refine Met.ofW (cc := cL_cell) (maxL := 2) (ret := some .int) (by decide) rfl ?_
  intro p e s m args below meth c s₁ B hml hv
  obtain ⟨rfl, hX⟩ := hv
  have hx := B.exec
  have hb := B.bytes
  have hr := B.returns
  have hlk := B.notSynchronized
  rw [lg_entry_eq]
  have hl := lv_entry [.ref b, .int k] (n := 2) (Nat.le_of_ble_eq_true rfl)
  generalize (lg_sl [.ref b, .int k] ++ List.replicate (2 - (lg_sl [.ref b, .int k]).length) Slot.unset).toArray = ls at hl ⊢
  have hl : lv_has ls 2 [(0, .ref b), (1, .int k)] := hl
  have hbl : b < s.heap.size := by
    obtain ⟨scr, h1, -⟩ := hX
    exact (Array.getElem?_eq_some_iff.mp h1).1
  have hS : va_S (fun _ => False) s.heap s.heap [] := va_S.rf
  rw [f_L_cell] at hf
  refine lv_iload_n (pc := 0) hx hb dL_cell_0 rfl (lv_at hl 1 rfl) ?_
  refine lv_aload_n (pc := 1) hx hb dL_cell_1 rfl (lv_at hl 0 rfl) ?_
  refine va_slen (pc := 2) hx hb hX hbl (fun h => h) hS dL_cell_2 ?_
  refine lv_icmp_ge (pc := 3) (tgt := 12) hx hb dL_cell_3 (by decide) (fun c0 => ?_) (fun c0 => ?_)
  · have hf := (if_pos c0).symm.trans hf
    refine lv_sipush (pc := 12) (v := 7919) hx hb dL_cell_12 (by decide) ?_
    refine lv_iload_n (pc := 15) hx hb dL_cell_15 rfl (lv_at hl 1 rfl) ?_
    refine lv_sipush (pc := 16) (v := 1627) hx hb dL_cell_16 (by decide) ?_
    refine lv_iadd (pc := 19) hx hb dL_cell_19 ?_
    refine lv_imul (pc := 20) hx hb dL_cell_20 ?_
    refine lv_iload_n (pc := 21) hx hb dL_cell_21 rfl (lv_at hl 1 rfl) ?_
    refine lv_sipush (pc := 22) (v := 4153) hx hb dL_cell_22 (by decide) ?_
    refine lv_iadd (pc := 25) hx hb dL_cell_25 ?_
    refine lv_imul (pc := 26) hx hb dL_cell_26 ?_
    exact ro_i hx hb hr hlk (Option.some.inj hf) dL_cell_27
  · have hf := (if_neg c0).symm.trans hf
    obtain ⟨g8, hf⟩ := gd hf
    refine lv_aload_n (pc := 6) hx hb dL_cell_6 rfl (lv_at hl 0 rfl) ?_
    refine lv_iload_n (pc := 7) hx hb dL_cell_7 rfl (lv_at hl 1 rfl) ?_
    refine va_sld (pc := 8) hx hb hX hbl (fun h => h) hS (inb_in g8) dL_cell_8 ?_
    refine lv_goto (pc := 9) (tgt := 27) hx hb dL_cell_9 (by decide) ?_
    exact ro_i hx hb hr hlk (Option.some.inj hf) dL_cell_27
theorem c_L_low (Z : EnvT) (l : Launch) (v n : Int32) (hn : ¬ n = 0) : RO Z l yL_low wsL_low { frames := 0, cells := 0, slots := 0, locals := 0 } [.int v, .int n] [] (some (.int (lw v n))) := by
  refine ro_of (cc := cL_low) (maxL := 2) (ret := (some .int)) (by decide) rfl (Nat.le_of_ble_eq_true rfl) ?_
  intro p e s m below meth c ls hx hb hr hml hts hown hlk hP hK hE hl
  have hown : s.vm.findClass RL = some m.cls := hown
  have hl : lv_has ls 2 [(0, .int v), (1, .int n)] := hl
  have w0 := hts (.constant RL 7 (2147483647)) (by decide +kernel)
  refine lv_iload_n (pc := 0) hx hb dL_low_0 rfl (lv_at hl 0 rfl) ?_
  refine lv_ldc (pc := 1) (v := 2147483647) hx hb hown w0 dL_low_1 ?_
  refine lv_iand (pc := 3) hx hb dL_low_3 ?_
  refine lv_iload_n (pc := 4) hx hb dL_low_4 rfl (lv_at hl 1 rfl) ?_
  refine lv_irem (pc := 5) hx hb dL_low_5 hn ?_
  exact ro_i hx hb hr hlk rfl dL_low_6
/-! worlds in two parts, and in three where a call takes two of them -/
section BLT
variable {l1 l2 l3 m1 m2 m3 : va_W} {n1 n2 n3 : Nat}
theorem bY (h1 : l1.length = n1) (h2 : l2.length = n2) : (List.range' n1 n2).map (fun i => (l1 ++ l2)[i]?) = l2.map some := by
  have h := bl (l := l1) (m := l2) (r := []) h1 h2
  simpa using h
theorem tR1 (h1 : l1.length = n1) (h2 : l2.length = n2) : (List.range' n1 n2).map (fun i => (l1 ++ l2)[i]?) = ((List.range' n1 n2).filterMap (fun i => (l1 ++ l2)[i]?)).map some := by
  rw [fmm (bY h1 h2), bY h1 h2]
theorem tN1 (h1 : l1.length = n1) (h2 : l2.length = n2) (g1 : m1.length = n1) : (List.range' n2 n1 ++ List.range' 0 n2).map (fun i => ((List.range' n1 n2).filterMap (fun i => (l1 ++ l2)[i]?) ++ m1)[i]?) = (m1 ++ l2).map some := by
  rw [fmm (bY h1 h2), List.map_append, List.map_append, bY h2 g1, bl1 h2]
theorem tR2 (h1 : l1.length = n1) : (List.range' 0 n1).map (fun i => (l1 ++ l2)[i]?) = ((List.range' 0 n1).filterMap (fun i => (l1 ++ l2)[i]?)).map some := by
  rw [fmm (bl1 h1), bl1 h1]
theorem tN2 (h1 : l1.length = n1) (g2 : m2.length = n2) : (List.range' 0 (n1 + n2)).map (fun i => ((List.range' 0 n1).filterMap (fun i => (l1 ++ l2)[i]?) ++ m2)[i]?) = (l1 ++ m2).map some := by
  rw [fmm (bl1 h1)]
  have h := bl1 (l1 := l1 ++ m2) (l2 := []) (n := n1 + n2) (by rw [List.length_append]; omega)
  simpa using h
theorem dC12 (h1 : l1.length = n1) (h2 : l2.length = n2) : (List.range' 0 (n1 + n2)).map (fun i => (l1 ++ (l2 ++ l3))[i]?) = (l1 ++ l2).map some := by
  have h := bl1 (l1 := l1 ++ l2) (l2 := l3) (n := n1 + n2) (by rw [List.length_append]; omega)
  rw [List.append_assoc] at h
  exact h
theorem dR3 (h1 : l1.length = n1) (h2 : l2.length = n2) (h3 : l3.length = n3) : (List.range' (n1 + n2) n3).map (fun i => (l1 ++ (l2 ++ l3))[i]?) = ((List.range' (n1 + n2) n3).filterMap (fun i => (l1 ++ (l2 ++ l3))[i]?)).map some := by
  rw [fmm (bl3 (by omega) h3), bl3 (by omega) h3]
theorem dN12 (h1 : l1.length = n1) (h2 : l2.length = n2) (h3 : l3.length = n3) (g1 : m1.length = n1) (g2 : m2.length = n2) : (List.range' n3 (n1 + n2) ++ List.range' 0 n3).map (fun i => ((List.range' (n1 + n2) n3).filterMap (fun i => (l1 ++ (l2 ++ l3))[i]?) ++ (m1 ++ m2))[i]?) = (m1 ++ (m2 ++ l3)).map some := by
  have h := bl (l := l3) (m := m1 ++ m2) (r := []) (a := n3) (n := n1 + n2) h3 (by rw [List.length_append]; omega)
  rw [List.append_nil] at h
  rw [fmm (bl3 (by omega) h3), List.map_append, h, bl1 h3, ← List.map_append, List.append_assoc]
theorem dR1 (h1 : l1.length = n1) : (List.range' 0 n1).map (fun i => (l1 ++ (l2 ++ l3))[i]?) = ((List.range' 0 n1).filterMap (fun i => (l1 ++ (l2 ++ l3))[i]?)).map some := by
  rw [fmm (bl1 h1), bl1 h1]
theorem dN23 (h1 : l1.length = n1) (g2 : m2.length = n2) (g3 : m3.length = n3) : (List.range' 0 (n1 + (n2 + n3))).map (fun i => ((List.range' 0 n1).filterMap (fun i => (l1 ++ (l2 ++ l3))[i]?) ++ (m2 ++ m3))[i]?) = (l1 ++ (m2 ++ m3)).map some := by
  rw [fmm (bl1 h1)]
  have h := bl1 (l1 := l1 ++ (m2 ++ m3)) (l2 := []) (n := n1 + (n2 + n3)) (by rw [List.length_append, List.length_append]; omega)
  simpa using h
end BLT
