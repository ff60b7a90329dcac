/-! methods that answer or throw one of three exceptions: 1 IllegalArgumentException, 2 IllegalStateException, 3 IndexOutOfBoundsException -/
def tb {α β : Type} (x : Option (Nat ⊕ α)) (f : α → Option (Nat ⊕ β)) : Option (Nat ⊕ β) := match x with
  | none => none
  | some (.inl k) => some (.inl k)
  | some (.inr a) => f a
theorem tbd {α β : Type} {x : Option (Nat ⊕ α)} {f : α → Option (Nat ⊕ β)} {R : Nat ⊕ β} (h : tb x f = some R) : (∃ k, x = some (.inl k) ∧ R = .inl k) ∨ ∃ r, x = some (.inr r) ∧ f r = some R := by
  match x, h with
  | some (.inl k), h => exact Or.inl ⟨k, rfl, (Option.some.inj h).symm⟩
  | some (.inr a), h => exact Or.inr ⟨a, rfl, h⟩
abbrev exS : List String := ["java/lang/RuntimeException", "java/lang/Exception"]
def ZQ (A : Nat → Prop) (U : State) (H : Heap) : Prop := vx_Zq Bundle.tN "UNASSIGNED_STACK" Bundle.steD A U H ∧ vx_Zq Bundle.tN "SUPPRESSED_SENTINEL" Bundle.listD A U H
def thB (Z : EnvT) (sz : Nat) (ws : va_W) (U : State) : Prop := rwB Z sz ws U ∧ ZQ (va_A ws sz) U U.heap
def thX (Z : EnvT) (k : Nat) (ws : va_W) (A : Nat → Prop) : String → State → State → Prop := fun E st t => E = exN k ∧ va_P Z.1 vwCl ws t.heap ∧ va_D A ws ∧ va_F A st t
def thQ {α : Type} (Z : EnvT) (R : Nat ⊕ α) (rv : α → Option Value) (ws' : α → (Nat → Nat) → va_W) (A : Nat → Prop) : Array Value → State → Outcome → State → Prop := fun a st o t => ∃ r, R = .inr r ∧ rwQ Z (rv r) (ws' r) A a st o t
def thC {α : Type} (Z : EnvT) (R : Nat ⊕ α) (ws : va_W) (A : Nat → Prop) : String → State → State → Prop := fun E st t => ∃ k, R = .inl k ∧ thX Z k ws A E st t
def TH {α : Type} (Z : EnvT) (l : Launch) (y : MethodName) (wl : List Cond) (rm : Room) (av : List Value) (ws : va_W) (R : Nat ⊕ α) (rv : α → Option Value) (ws' : α → (Nat → Nat) → va_W) (mc ms : Nat) : Prop :=
  ∀ sz : Nat, vx_Met l y wl rm (va_Pc av (thB Z sz ws)) (thQ Z R rv ws' (va_A ws sz)) (thC Z R ws (va_A ws sz)) mc ms (va_A ws sz)
theorem th_blind {Z : EnvT} {sz : Nat} {av : List Value} {ws : va_W} : FrameBlind (va_Pc av (thB Z sz ws)) := fun a U g mk q =>
  ⟨q.1, (rw_blind (Z := Z) (sz := sz) (av := av) (ws := ws) a U g mk ⟨q.1, q.2.1⟩).2, vx_Zq.moved (u := U) (U := U.calling g mk a) (Vm.Alike.refl U.vm) q.2.2.1, vx_Zq.moved (u := U) (U := U.calling g mk a) (Vm.Alike.refl U.vm) q.2.2.2⟩
theorem th_of {α : Type} {Z : EnvT} {l : Launch} {y : MethodName} {wl wl' : List Cond} {rm : Room} {av : List Value} {ws : va_W} {R : Nat ⊕ α} {rv : α → Option Value} {ws' : α → (Nat → Nat) → va_W} {mc ms : Nat} {cc : ByteArray} {maxL : Nat} {ret : Option FieldType} (hy : plainName y.cls = true) (hw : wl = Cond.code y cc maxL ret :: wl') (hlen : (lg_sl av).length ≤ maxL)
    (body : ∀ (p : Program) (e : Env) (s : State) (m : MethodId) (below : List Frame) (meth : Method) (c : Code) (A : Nat → Prop) (ls : Array Slot), p.tables.exec = Jvm.exec → c.code = cc → meth.sig.returnType = ret → c.maxLocals = maxL → (∀ w ∈ wl, w.before av.toArray s = true) → s.vm.findClass y.cls = some m.cls → meth.locks = false → (∀ x ∈ c.exceptionTable.toList, False) →
      va_P Z.1 vwCl ws s.heap → va_K Z.1 vwCl (tyV Z) s → EV Z s → va_D A ws → (∀ q : Nat, s.heap.size ≤ q → A q) → va_S A s.heap s.heap [] → ZQ A s s.heap → lv_has ls maxL (lv_args 0 av) → W p l e rm s m av.toArray below meth c s.heap [] 0 0 (vx_MQ below (thQ Z R rv ws' A) (thC Z R ws A) av.toArray s mc ms A) (F0 m 0 ls [])) : TH Z l y wl rm av ws R rv ws' mc ms := by
  intro sz
  refine vx_ofW (cc := cc) (maxL := maxL) (ret := ret) hy hw ?_
  intro p e s m args below meth c s₁ B hml hno hv
  obtain ⟨rfl, ⟨hsz, hP, hK, hD0, hE⟩, hZ⟩ := hv
  subst hsz
  rw [lg_entry_eq]
  exact body p e s m below meth c (va_A ws s.heap.size) _ B.exec B.bytes B.returns hml (atoms_spec (ws := wl) B.pre) (findClass_of_methodNamed B.named) B.notSynchronized hno hP hK hE hD0.self (fun q h => Or.inr h) va_S.rf hZ (lv_entry av hlen)
/-- the words of a throw of HeatTrain's own, and which of them the list itself doesn't keep -/
def thW (k ic : Nat) : Prop := Bundle.fit (exN k) = true ∧ (∀ w ∈ Cond.initialized (exN k) :: vx_atS RX6 ic (exN k) exS, vx_ot w = true) ∧ ∀ w ∈ (vx_atS RX6 ic (exN k) exS).filter (fun w => !goodWord w), w ∈ [Cond.castable (exN k) (exN k), Cond.declares (Bundle.initS "java/lang/RuntimeException"), Cond.declares (Bundle.initS "java/lang/Exception"), Cond.declares (Bundle.initS Bundle.tN)]
theorem thW_1 : thW 1 70 := ⟨by decide +kernel, by decide +kernel, by decide +kernel⟩
theorem thW_2 : thW 2 94 := ⟨by decide +kernel, by decide +kernel, by decide +kernel⟩
theorem thW_3 : thW 3 225 := ⟨by decide +kernel, by decide +kernel, by decide +kernel⟩
theorem exS_fit : ∀ n ∈ exS, Bundle.fit n = true := by decide +kernel
section HTX
variable {p : Program} {l : Launch} {e : Env} {R : Room} {s : State} {m : MethodId} {args : Array Value} {below : List Frame} {meth : Method} {c : Code} {H : Heap} {locs : List Loc} {cells slots : Nat} {Q : State → Prop}
variable {cc : ByteArray} {pc : Nat} {ls : Array Slot} {Z : EnvT} {α : Type} {Rc : Nat ⊕ α} {Qc : Array Value → State → Outcome → State → Prop} {ws : va_W} {A : Nat → Prop}
theorem th_ret {rv : α → Option Value} {ws' : α → (Nat → Nat) → va_W} {mc ms : Nat} {XC : String → State → State → Prop} {g : JFrame} {r : α} (hR : Rc = .inr r) (k : W p l e R s m args below meth c H locs cells slots (MQ below (rwQ Z (rv r) (ws' r) A) args s mc ms A) g) : W p l e R s m args below meth c H locs cells slots (vx_MQ below (thQ Z Rc rv ws' A) XC args s mc ms A) g := by
  intro T hT X
  obtain ⟨t, a1, o, b1, b2, b3, b4⟩ := k T hT X
  exact ⟨t, a1, o, b1, b2, Or.inl ⟨⟨r, hR, b3⟩, b4⟩⟩
theorem ZQ.at {U : State} (hZ : ZQ A s s.heap) (hS : va_S A s.heap H locs) {B : Nat → Prop} (hB : ∀ q, B q → A q) (hU : U.heap = H) (hW : s.WarmedH U.vm) : ZQ B U U.heap := by
  rw [hU]
  exact ⟨vx_Zq.moved hW.alike ((hZ.1.kept hS.2.1).narrow hB), vx_Zq.moved hW.alike ((hZ.2.kept hS.2.1).narrow hB)⟩
theorem th_hx {k : Nat} (hRc : Rc = .inl k) (hS : va_S A s.heap H locs) (hP : va_P Z.1 vwCl ws H) (hD : va_D A ws) : ∀ t : State, s.vm.Alike t.vm → H.size ≤ t.heap.size → (∀ q : Nat, q < H.size → t.heap[q]? = H[q]?) → thC Z Rc ws A (exN k) s t := by
  intro t _ hz hq
  refine ⟨k, hRc, rfl, hP.kept (fun j q hj => hq q.1 (hP j q hj).lt), hD, Nat.le_trans hS.1 hz, fun q h1 h2 => ?_⟩
  rw [hq q (Nat.lt_of_lt_of_le h1 hS.1)]
  exact hS.2.1 q h1 h2
theorem th_hat {k ic : Nat} (hE : EV Z s) (hT : thW k ic) (hw : ∀ w ∈ (vx_atS RX6 ic (exN k) exS).filter goodWord, w.before args s = true) : ∀ w ∈ vx_atS RX6 ic (exN k) exS, w.before args s = true :=
  vx_hat hw hT.2.2 (vx_c (va_Nw.use rfl (hE.2.2.2.1 k)) (vx_c (va_Nw.use rfl (hE.2.2.2.2.2 _ (by decide))) (vx_c (va_Nw.use rfl (hE.2.2.2.2.2 _ (by decide))) (vx_c (va_Nw.use rfl (hE.2.2.2.2.2 _ (by decide))) vx_n))))
/-- throw new E("text") -/
theorem th_throw {rest : List Value} {k ic ik is i mc ms : Nat} {text : String} (hx : p.tables.exec = Jvm.exec) (hb : c.code = cc) (hst : l.stackTraces = false) (hown : s.vm.findClass RX6 = some m.cls) (hno : ∀ x ∈ c.exceptionTable.toList, False) (hlk : meth.locks = false) (hT : thW k ic) (hk : (Cond.classLink RX6 ik (exN k)).before args s = true) (hini : (Cond.initialized (exN k)).before args s = true) (hE : EV Z s) (hi : i < ev_n) (htx : ev_tx i = (is, text))
    (hw : ∀ w ∈ (vx_atS RX6 ic (exN k) exS).filter goodWord, w.before args s = true) (hZ : ZQ A s s.heap) (hS : va_S A s.heap H locs) (hP : va_P Z.1 vwCl ws H) (hD : va_D A ws) (hsize : ls.size = c.maxLocals)
    (d0 : decode cc pc = .ok (.new ik, 3)) (d3 : decode cc (pc + 3) = .ok (.dup, 1)) (d4 : decode cc (pc + 4) = .ok (.ldc is, 2)) (d6 : decode cc (pc + 6) = .ok (.invokespecial ic, 3)) (d9 : decode cc (pc + 9) = .ok (.athrow, 1))
    (hRf : 5 < R.frames) (hRl : (rest.map fun v => v.category).sum + 82 ≤ R.locals) (hRc : cells + 1 ≤ R.cells) (hRs : slots + 6 ≤ R.slots) (hc : cells + 1 ≤ mc) (hs : slots + 6 ≤ ms) (hR : Rc = .inl k) :
    W p l e R s m args below meth c H locs cells slots (vx_MQ below Qc (thC Z Rc ws A) args s mc ms A) (F0 m pc ls rest) :=
  vx_throwS (names := exS) (text := text) (sa := Z.2.2 i) hx hb hst hown hT.1 exS_fit hk hini (by have h := hE.2.2.1 i hi; rw [htx] at h; exact h) (th_hat hE hT hw)
    (fun w h => (List.mem_cons.mp h).elim (fun e => by rw [e]; rfl) (hT.2.1 w)) hZ.1 hZ.2 hS hsize d0 d3 d4 d6 d9 (fun x hx => (hno x hx).elim) hRf hRl hRc hRs hlk (th_hx hR hS hP hD) hS.2.2 hc hs
theorem th_throwW {rest : List Value} {k ic ik is i mc ms : Nat} {text : String} (hx : p.tables.exec = Jvm.exec) (hb : c.code = cc) (hst : l.stackTraces = false) (hown : s.vm.findClass RX6 = some m.cls) (hno : ∀ x ∈ c.exceptionTable.toList, False) (hlk : meth.locks = false) (hT : thW k ic) (hk : (Cond.classLink RX6 ik (exN k)).before args s = true) (hini : (Cond.initialized (exN k)).before args s = true) (hE : EV Z s) (hi : i < ev_n) (htx : ev_tx i = (is, text))
    (hw : ∀ w ∈ (vx_atS RX6 ic (exN k) exS).filter goodWord, w.before args s = true) (hZ : ZQ A s s.heap) (hS : va_S A s.heap H locs) (hP : va_P Z.1 vwCl ws H) (hD : va_D A ws) (hsize : ls.size = c.maxLocals)
    (d0 : decode cc pc = .ok (.new ik, 3)) (d3 : decode cc (pc + 3) = .ok (.dup, 1)) (d4 : decode cc (pc + 4) = .ok (.ldc_w is, 3)) (d7 : decode cc (pc + 7) = .ok (.invokespecial ic, 3)) (d10 : decode cc (pc + 10) = .ok (.athrow, 1))
    (hRf : 5 < R.frames) (hRl : (rest.map fun v => v.category).sum + 82 ≤ R.locals) (hRc : cells + 1 ≤ R.cells) (hRs : slots + 6 ≤ R.slots) (hc : cells + 1 ≤ mc) (hs : slots + 6 ≤ ms) (hR : Rc = .inl k) :
    W p l e R s m args below meth c H locs cells slots (vx_MQ below Qc (thC Z Rc ws A) args s mc ms A) (F0 m pc ls rest) :=
  vx_throwSW (names := exS) (text := text) (sa := Z.2.2 i) hx hb hst hown hT.1 exS_fit hk hini (by have h := hE.2.2.1 i hi; rw [htx] at h; exact h) (th_hat hE hT hw)
    (fun w h => (List.mem_cons.mp h).elim (fun e => by rw [e]; rfl) (hT.2.1 w)) hZ.1 hZ.2 hS hsize d0 d3 d4 d7 d10 (fun x hx => (hno x hx).elim) hRf hRl hRc hRs hlk (th_hx hR hS hP hD) hS.2.2 hc hs
variable {y : MethodName} {bytes : ByteArray} {maxL nL n index : Nat} {ret : Option FieldType} {wl Ts : List Cond} {rm : Room} {own C : String} {b : Nat} {As rest st0 st1 : List Value} {β : Type} {mc ms : Nat}
theorem th_self (hS : va_S A s.heap H locs) (hA : ∀ q : Nat, s.heap.size ≤ q → A q) (hD : va_D A ws) : ∀ q, va_A ws H.size q → A q := fun q h => h.elim (fun ⟨k, e, h⟩ => hD.2 k (q, e) h) (fun h => hA q (Nat.le_trans hS.1 h))
/-- a call of a method of the same world that throws: here nothing catches it -/
theorem th_Vx {k : Nat} {mcC msC : Nat} {rv : β → Option Value} {ws' : β → (Nat → Nat) → va_W} (S : CallFix p m c cc nL s args Ts own) (hM : TH Z l y wl rm (.ref b :: As) ws (.inl k : Nat ⊕ β) rv ws' mc ms) (cw : CallW R s args own C index y bytes maxL ret wl rm mc ms n) (hK : va_K Z.1 vwCl (tyV Z) s) (hE : EV Z s) (hP : va_P Z.1 vwCl ws H) (hD : va_D A ws) (hS : va_S A s.heap H locs) (hA : ∀ q : Nat, s.heap.size ≤ q → A q) (hZ : ZQ A s s.heap)
    (ci : Nat) {fs : List Value} {T : u_T} {N : Nat} (hc : vwCl[ci]? = some (C, T, N)) (he : ws[0]? = some (b, .inr (ci, fs)))
    (hn : As.length = n) (hsize : ls.size = nL) (hst : st0 = As.reverse ++ .ref b :: rest) (hW : 2 * (F0 m pc ls st0).monitorRoom + (rest.map fun v => v.category).sum ≤ 8) (hdg : decode cc pc = .ok (.invokevirtual index, 3)) (hf : cells + mc ≤ R.cells ∧ slots + ms ≤ R.slots)
    (hno : ∀ x ∈ c.exceptionTable.toList, False) (hlk : meth.locks = false) (hcc : cells + mc ≤ mcC) (hss : slots + ms ≤ msC) (hRc : Rc = .inl k) : W p l e R s m args below meth c H locs cells slots (vx_MQ below Qc (thC Z Rc ws A) args s mcC msC A) (F0 m pc ls st0) := by
  have hF := th_self hS hA hD
  have hr := vx_runV (e := e) (below := below) (meth := meth) (locs := locs) (g := F0 m pc ls st0) (As := As) (rest := rest) S (hM H.size) cw ⟨th_blind, va_recv hK hP (q := (C, T, N)) hc he, fun U hU hW9 => ⟨rfl, ⟨by rw [hU], by rw [hU]; exact hP, va_K.moved hW9.alike hK, hD.weaken (fun _ _ _ _ => trivial), hE.warm hW9⟩, hZ.at hS hF hU hW9⟩⟩ rfl hn hsize hst hW hdg hf
  intro T hT X
  rcases hr T hT X with ⟨v, st₀, t, T', L, h0, X', hL, e1, e2, ⟨r, hr1, -⟩, st⟩ | ⟨q, st₀, t, T', L, E, ce, h0, X', hL, e1, e2, ⟨k9, hk9, hE9, hP9, hD9, hF9⟩, hce, hcv, hcl, st⟩
  · exact nomatch hr1
  · cases hk9
    obtain ⟨k1, k2, k3⟩ := vx_keep h0 e1 hS (fun q _ h => hF q h) hF hL hF9
    obtain ⟨t2, a1, b1⟩ := vx_out (pc := pc) (ls := ls) (rest := rest) (Qc := Qc) (XC := thC Z Rc ws A) (E := E) (ce := ce) (q := q) (mc := mcC) (ms := msC) (H := T'.heap) (fun x hx => (hno x hx).elim) hlk (by rw [e1]; exact hce) hcv hcl
      (fun t9 ht9 _ => ⟨k, hRc, hE9, by rw [ht9, e1]; exact hP9, hD, k3.F ht9⟩) k3.2.2 hcc hss T' rfl X'
    exact ⟨t2, st.trans a1, b1⟩
theorem th_Vn {r : β} {rv : β → Option Value} {ws' : β → (Nat → Nat) → va_W} (S : CallFix p m c cc nL s args Ts own) (hM : TH Z l y wl rm (.ref b :: As) ws (.inr r : Nat ⊕ β) rv ws' mc ms) (cw : CallW R s args own C index y bytes maxL ret wl rm mc ms n) (hK : va_K Z.1 vwCl (tyV Z) s) (hE : EV Z s) (hP : va_P Z.1 vwCl ws H) (hD : va_D A ws) (hS : va_S A s.heap H locs) (hA : ∀ q : Nat, s.heap.size ≤ q → A q) (hZ : ZQ A s s.heap)
    (ci : Nat) {fs : List Value} {T : u_T} {N : Nat} (hc : vwCl[ci]? = some (C, T, N)) (he : ws[0]? = some (b, .inr (ci, fs)))
    (hn : As.length = n) (hsize : ls.size = nL) (hst : st0 = As.reverse ++ .ref b :: rest) (hW : 2 * (F0 m pc ls st0).monitorRoom + (rest.map fun v => v.category).sum ≤ 8) (hdg : decode cc pc = .ok (.invokevirtual index, 3)) (hf : cells + mc ≤ R.cells ∧ slots + ms ≤ R.slots) (h1 : (rv r).toList ++ rest = st1)
    (kk : ∀ (q : Nat → Nat) (H1 : Heap) (locs1 : List Loc), va_P Z.1 vwCl (ws' r q) H1 → va_D A (ws' r q) → va_S A s.heap H1 locs1 → W p l e R s m args below meth c H1 locs1 (cells + mc) (slots + ms) Q (F0 m (pc + 3) ls st1)) : W p l e R s m args below meth c H locs cells slots Q (F0 m pc ls st0) := by
  have hF := th_self hS hA hD
  have hr := vx_runV (e := e) (below := below) (meth := meth) (locs := locs) (g := F0 m pc ls st0) (As := As) (rest := rest) S (hM H.size) cw ⟨th_blind, va_recv hK hP (q := (C, T, N)) hc he, fun U hU hW9 => ⟨rfl, ⟨by rw [hU], by rw [hU]; exact hP, va_K.moved hW9.alike hK, hD.weaken (fun _ _ _ _ => trivial), hE.warm hW9⟩, hZ.at hS hF hU hW9⟩⟩ rfl hn hsize hst hW hdg hf
  intro T hT X
  rcases hr T hT X with ⟨v, st₀, t, T', L, h0, X', hL, e1, e2, ⟨r9, hr9, ⟨hv, q, hp, hd⟩, hF9⟩, st⟩ | ⟨q, st₀, t, T', L, E, ce, h0, X', hL, e1, e2, ⟨k9, hk9, -⟩, hce, hcv, hcl, st⟩
  · cases hr9
    cases hv
    subst h1
    obtain ⟨k1, k2, k3⟩ := vx_keep h0 e1 hS (fun q _ h => hF q h) hF hL hF9
    obtain ⟨t2, a1, b1⟩ := kk q T'.heap (locs ++ L) (by rw [e1]; exact hp) (hd.weaken (fun _ q9 _ h => hF q9.1 h)) k3 T' rfl X'
    exact ⟨t2, st t2 a1, b1⟩
  · exact nomatch hk9
end HTX
