/-! My layer: pictures of objects as two families of rows of numbers; contracts that say one answer and one world; the rows of calls joined. -/
abbrev ObS : Type := (Nat → Nat → Int32) × (Nat → Nat → Int64)
def oi (o : ObS) (k j : Nat) (v : Int32) : ObS := (fun k' => cond (Nat.beq k' k) (upd (o.1 k) j v) (o.1 k'), o.2)
def oj (o : ObS) (k j : Nat) (v : Int64) : ObS := (o.1, fun k' => cond (Nat.beq k' k) (vp_updL (o.2 k) j v) (o.2 k'))
def inb (i : Int32) (n : Nat) : Bool := !(decide (i < 0)) && decide (i.toNatClampNeg < n)
theorem inb_in {i : Int32} {n : Nat} (h : inb i n = true) : vp_in i n := by
  simp only [inb, Bool.and_eq_true, Bool.not_eq_true', decide_eq_false_iff_not, decide_eq_true_eq] at h
  exact fun q => q.elim (fun q => h.1 q) (fun q => by omega)
theorem st_P {x y : ObS} (h : some x = some y) {D : va_G} {cl : List vw_C} {f : ObS → va_W} {H : Heap} (hP : va_P D cl (f x) H) : va_P D cl (f y) H := by cases h; exact hP
theorem st_D {x y : ObS} (h : some x = some y) {A : Nat → Prop} {f : ObS → va_W} (hD : va_D A (f x)) : va_D A (f y) := by cases h; exact hD
def isb (v : Int32) : Bool := decide (v = 0) || decide (v = 1)
theorem isb_n {v : Int32} (h : isb v = true) : narrow .boolean (.int v) = .int v := by
  simp only [isb, Bool.or_eq_true, decide_eq_true_eq] at h
  rcases h with rfl | rfl <;> rfl
theorem gd {α : Type} {b : Bool} {x : Option α} {R : α} (h : (if b = true then x else none) = some R) : b = true ∧ x = some R := by
  cases b
  · exact absurd h (by simp)
  · exact ⟨rfl, by simpa using h⟩
theorem bd {α β : Type} {x : Option α} {f : α → Option β} {R : β} (h : x.bind f = some R) : ∃ r, x = some r ∧ f r = some R := by
  cases x with
  | none => exact absurd h (by simp)
  | some r => exact ⟨r, rfl, h⟩
abbrev EnvT : Type := va_G × (Nat → ClassId) × (Nat → Nat)
abbrev tyV (Z : EnvT) : List (ClassId × FieldType) := [(Z.2.1 0, .int), (Z.2.1 1, .long), (Z.2.1 2, .boolean)]
def ev_n : Nat := 25
def ev_tx : Nat → Nat × String := fun i => match i with
  | 0 => (68, "flow or warmth is out of range")
  | 1 => (80, "kind is out of range")
  | 2 => (92, "number is not in the range of its kind")
  | 3 => (98, "the stream would be taken twice")
  | 4 => (114, "a source takes no stream")
  | 5 => (132, "tick is not a later one, to 300")
  | 6 => (138, "40 disturbances are to come")
  | 7 => (148, "goal, gain or base is out of range")
  | 8 => (160, "hundredths is out of range")
  | 9 => (175, "goal or limit is out of range")
  | 10 => (184, "ticks is out of range")
  | 11 => (186, "it would be above the tick 300")
  | 12 => (204, "what is out of range")
  | 13 => (223, "there is no such tick")
  | 14 => (254, "there is no such unit")
  | 15 => (256, "there is no such stream")
  | 16 => (258, "there is no such stream for the new unit")
  | 17 => (263, "the stream is taken already")
  | 18 => (265, "there are 12 units")
  | 19 => (267, "a tick has gone by")
  | 20 => (270, "there is no such controller")
  | 21 => (272, "the controller is above 5, or not higher")
  | 22 => (277, "it is a ratio station")
  | 23 => (279, "a MIX can't be driven")
  | _ => (281, "there are 6 controllers")
def exN : Nat → String := fun k => match k with
  | 1 => "java/lang/IllegalArgumentException"
  | 2 => "java/lang/IllegalStateException"
  | _ => "java/lang/IndexOutOfBoundsException"
abbrev exD : List String := ["java/lang/RuntimeException", "java/lang/Exception", Bundle.tN]
theorem nwD {n : String} {s U : State} (hW : s.WarmedH U.vm) (hZ : va_Nw (.declares (Bundle.initS n)) s) : va_Nw (.declares (Bundle.initS n)) U := va_tabs rfl (rfl : (s.setVm U.vm).vm = U.vm) (by rw [Cond.declares_setVm hW.alike]; exact hZ)
def EV (Z : EnvT) (U : State) : Prop := va_Nw (.methodLinkNest RX1 118 yX6_held RX6) U ∧ va_Nw (.methodLinkNest RX5 106 yX6_held RX6) U ∧ (∀ i : Nat, i < ev_n → vk_R RX6 (ev_tx i).1 (ev_tx i).2 (Z.2.2 i) U) ∧ (∀ k : Nat, va_Nw (.castable (exN k) (exN k)) U) ∧ (∀ i j : Nat, exN i ≠ exN j → va_Nc (exN i) (exN j) U) ∧ ∀ n : String, n ∈ exD → va_Nw (.declares (Bundle.initS n)) U
theorem EV.warm {Z : EnvT} {s U : State} (hW : s.WarmedH U.vm) (h : EV Z s) : EV Z U := ⟨va_Nw.warmM hW h.1, va_Nw.warmM hW h.2.1, fun i hi => vk_R.warm hW (h.2.2.1 i hi), fun k => va_Nw.warmC hW (h.2.2.2.1 k), fun i j hij => va_Nc.moved hW.alike (h.2.2.2.2.1 i j hij), fun n hn => nwD hW (h.2.2.2.2.2 n hn)⟩
theorem EV.same {Z : EnvT} {u U : State} (hv : U.vm = u.vm) (h : EV Z u) : EV Z U := ⟨va_Nw.same rfl hv.symm h.1, va_Nw.same rfl hv.symm h.2.1, fun i hi => vk_R.same hv (h.2.2.1 i hi), fun k => va_Nw.same rfl hv.symm (h.2.2.2.1 k), fun i j hij => va_Nc.moved (by rw [hv]; exact Vm.Alike.refl _) (h.2.2.2.2.1 i j hij), fun n hn => va_Nw.same rfl hv.symm (h.2.2.2.2.2 n hn)⟩
def roB (Z : EnvT) (ws : va_W) (U : State) : Prop := va_P Z.1 vwCl ws U.heap ∧ va_K Z.1 vwCl (tyV Z) U ∧ EV Z U
def rwB (Z : EnvT) (sz : Nat) (ws : va_W) (U : State) : Prop := U.heap.size = sz ∧ va_P Z.1 vwCl ws U.heap ∧ va_K Z.1 vwCl (tyV Z) U ∧ va_D (fun _ => True) ws ∧ EV Z U
def roQ (rv : Option Value) : Array Value → State → Outcome → State → Prop := fun _ st o t => o = .returned rv ∧ t.heap = st.heap
def rwQ (Z : EnvT) (rv : Option Value) (ws' : (Nat → Nat) → va_W) (A : Nat → Prop) : Array Value → State → Outcome → State → Prop := fun _ st o t => (o = .returned rv ∧ ∃ q : Nat → Nat, va_P Z.1 vwCl (ws' q) t.heap ∧ va_D A (ws' q)) ∧ va_F A st t
def RO (Z : EnvT) (l : Launch) (y : MethodName) (wl : List Cond) (rm : Room) (av : List Value) (ws : va_W) (rv : Option Value) : Prop :=
  Met l y wl rm (va_Pc av (roB Z ws)) (roQ rv) 0 0 (fun _ => False)
def RW (Z : EnvT) (l : Launch) (y : MethodName) (wl : List Cond) (rm : Room) (av : List Value) (ws : va_W) (rv : Option Value) (ws' : (Nat → Nat) → va_W) (mc ms : Nat) : Prop :=
  ∀ sz : Nat, Met l y wl rm (va_Pc av (rwB Z sz ws)) (rwQ Z rv ws' (va_A ws sz)) mc ms (va_A ws sz)
theorem ro_blind {Z : EnvT} {av : List Value} {ws : va_W} : FrameBlind (va_Pc av (roB Z ws)) := fun a U g mk q => ⟨q.1, q.2.1, va_K.moved (u := U) (U := U.calling g mk a) (Vm.Alike.refl U.vm) q.2.2.1, EV.same (u := U) (U := U.calling g mk a) rfl q.2.2.2⟩
theorem rw_blind {Z : EnvT} {sz : Nat} {av : List Value} {ws : va_W} : FrameBlind (va_Pc av (rwB Z sz ws)) := fun a U g mk q => ⟨q.1, q.2.1, q.2.2.1, va_K.moved (u := U) (U := U.calling g mk a) (Vm.Alike.refl U.vm) q.2.2.2.1, q.2.2.2.2.1, EV.same (u := U) (U := U.calling g mk a) rfl q.2.2.2.2.2⟩
theorem ro_of {Z : EnvT} {l : Launch} {y : MethodName} {wl wl' : List Cond} {rm : Room} {av : List Value} {ws : va_W} {rv : Option Value} {cc : ByteArray} {maxL : Nat} {ret : Option FieldType} (hy : plainName y.cls = true) (hw : wl = Cond.code y cc maxL ret :: wl') (hlen : (lg_sl av).length ≤ maxL)
    (body : ∀ (p : Program) (e : Env) (s : State) (m : MethodId) (below : List Frame) (meth : Method) (c : Code) (ls : Array Slot), p.tables.exec = Jvm.exec → c.code = cc → meth.sig.returnType = ret → c.maxLocals = maxL → (∀ w ∈ wl, w.before av.toArray s = true) → s.vm.findClass y.cls = some m.cls → meth.locks = false →
      va_P Z.1 vwCl ws s.heap → va_K Z.1 vwCl (tyV Z) s → EV Z s → lv_has ls maxL (lv_args 0 av) → W p l e rm s m av.toArray below meth c s.heap [] 0 0 (MQ below (roQ rv) av.toArray s 0 0 (fun _ => False)) (F0 m 0 ls [])) : RO Z l y wl rm av ws rv := by
  refine Met.ofW (cc := cc) (maxL := maxL) (ret := ret) hy hw ?_
  intro p e s m args below meth c s₁ B hml hv
  obtain ⟨rfl, hP, hK, hE⟩ := hv
  rw [lg_entry_eq]
  exact body p e s m below meth c _ B.exec B.bytes B.returns hml (atoms_spec (ws := wl) B.pre) (findClass_of_methodNamed B.named) B.notSynchronized hP hK hE (lv_entry av hlen)
theorem rw_of {Z : EnvT} {l : Launch} {y : MethodName} {wl wl' : List Cond} {rm : Room} {av : List Value} {ws : va_W} {rv : Option Value} {ws' : (Nat → Nat) → va_W} {mc ms : Nat} {cc : ByteArray} {maxL : Nat} {ret : Option FieldType} (hy : plainName y.cls = true) (hw : wl = Cond.code y cc maxL ret :: wl') (hlen : (lg_sl av).length ≤ maxL)
    (body : ∀ (p : Program) (e : Env) (s : State) (m : MethodId) (below : List Frame) (meth : Method) (c : Code) (A : Nat → Prop) (ls : Array Slot), p.tables.exec = Jvm.exec → c.code = cc → meth.sig.returnType = ret → c.maxLocals = maxL → (∀ w ∈ wl, w.before av.toArray s = true) → s.vm.findClass y.cls = some m.cls → meth.locks = false → (y.name = "<init>" → meth.name = "<init>") →
      va_P Z.1 vwCl ws s.heap → va_K Z.1 vwCl (tyV Z) s → EV Z s → va_D A ws → (∀ q : Nat, s.heap.size ≤ q → A q) → va_S A s.heap s.heap [] → lv_has ls maxL (lv_args 0 av) → W p l e rm s m av.toArray below meth c s.heap [] 0 0 (MQ below (rwQ Z rv ws' A) av.toArray s mc ms A) (F0 m 0 ls [])) : RW Z l y wl rm av ws rv ws' mc ms := by
  intro sz
  refine Met.ofW (cc := cc) (maxL := maxL) (ret := ret) hy hw ?_
  intro p e s m args below meth c s₁ B hml hv
  obtain ⟨rfl, hsz, hP, hK, hD0, hE⟩ := hv
  subst hsz
  rw [lg_entry_eq]
  have hin : y.name = "<init>" → meth.name = "<init>" := fun h => (name_of_methodNamed B.named B.method).1.trans h
  exact body p e s m below meth c (va_A ws s.heap.size) _ B.exec B.bytes B.returns hml (atoms_spec (ws := wl) B.pre) (findClass_of_methodNamed B.named) B.notSynchronized hin hP hK hE hD0.self (fun q h => Or.inr h) va_S.rf (lv_entry av hlen)
section HTR
variable {p : Program} {l : Launch} {e : Env} {R : Room} {s : State} {m : MethodId} {args : Array Value} {below : List Frame} {meth : Method} {c : Code} {H : Heap} {locs : List Loc} {cells slots : Nat} {Q : State → Prop}
variable {cc : ByteArray} {pc : Nat} {ls : Array Slot} {Z : EnvT}
theorem ro_i (hx : p.tables.exec = Jvm.exec) (hb : c.code = cc) (hr : meth.sig.returnType = some .int) (hlk : meth.locks = false) {v r : Int32} (hv : v = r) (hdg : decode cc pc = .ok (.ireturn, 1)) : W p l e R s m args below meth c s.heap [] 0 0 (MQ below (roQ (some (.int r))) args s 0 0 (fun _ => False)) (F0 m pc ls [.int v]) := by
  subst hv; exact W.iret hx hb hr (fun t ht _ => ⟨rfl, ht⟩) (fun _ h => nomatch h) hdg hlk
theorem ro_l (hx : p.tables.exec = Jvm.exec) (hb : c.code = cc) (hr : meth.sig.returnType = some .long) (hlk : meth.locks = false) {v r : Int64} (hv : v = r) (hdg : decode cc pc = .ok (.lreturn, 1)) : W p l e R s m args below meth c s.heap [] 0 0 (MQ below (roQ (some (.long r))) args s 0 0 (fun _ => False)) (F0 m pc ls [.long v]) := by
  subst hv; exact W.lret hx hb hr (fun t ht _ => ⟨rfl, ht⟩) (fun _ h => nomatch h) hdg hlk
theorem ro_z (hx : p.tables.exec = Jvm.exec) (hb : c.code = cc) (hr : meth.sig.returnType = some .boolean) (hlk : meth.locks = false) {v r : Int32} (hv : v = r) (hn : narrow .boolean (.int v) = .int v) (hdg : decode cc pc = .ok (.ireturn, 1)) : W p l e R s m args below meth c s.heap [] 0 0 (MQ below (roQ (some (.int r))) args s 0 0 (fun _ => False)) (F0 m pc ls [.int v]) := by
  subst hv; exact W.zret hx hb hr hn (fun t ht _ => ⟨rfl, ht⟩) (fun _ h => nomatch h) hdg hlk
theorem rw_i {A : Nat → Prop} {ws' : (Nat → Nat) → va_W} {mc ms : Nat} (q : Nat → Nat) (hx : p.tables.exec = Jvm.exec) (hb : c.code = cc) (hr : meth.sig.returnType = some .int) (hlk : meth.locks = false) {v r : Int32} (hv : v = r) (hP : va_P Z.1 vwCl (ws' q) H) (hD : va_D A (ws' q)) (hS : va_S A s.heap H locs) (hdg : decode cc pc = .ok (.ireturn, 1)) : W p l e R s m args below meth c H locs mc ms (MQ below (rwQ Z (some (.int r)) ws' A) args s mc ms A) (F0 m pc ls [.int v]) := by
  subst hv; exact W.iret hx hb hr (fun t ht _ => ⟨⟨rfl, q, by rw [ht]; exact hP, hD⟩, hS.F ht⟩) hS.2.2 hdg hlk
theorem rw_z {A : Nat → Prop} {ws' : (Nat → Nat) → va_W} {mc ms : Nat} (q : Nat → Nat) (hx : p.tables.exec = Jvm.exec) (hb : c.code = cc) (hr : meth.sig.returnType = some .boolean) (hlk : meth.locks = false) {v r : Int32} (hv : v = r) (hn : narrow .boolean (.int v) = .int v) (hP : va_P Z.1 vwCl (ws' q) H) (hD : va_D A (ws' q)) (hS : va_S A s.heap H locs) (hdg : decode cc pc = .ok (.ireturn, 1)) : W p l e R s m args below meth c H locs mc ms (MQ below (rwQ Z (some (.int r)) ws' A) args s mc ms A) (F0 m pc ls [.int v]) := by
  subst hv; exact W.zret hx hb hr hn (fun t ht _ => ⟨⟨rfl, q, by rw [ht]; exact hP, hD⟩, hS.F ht⟩) hS.2.2 hdg hlk
theorem rw_l {A : Nat → Prop} {ws' : (Nat → Nat) → va_W} {mc ms : Nat} (q : Nat → Nat) (hx : p.tables.exec = Jvm.exec) (hb : c.code = cc) (hr : meth.sig.returnType = some .long) (hlk : meth.locks = false) {v r : Int64} (hv : v = r) (hP : va_P Z.1 vwCl (ws' q) H) (hD : va_D A (ws' q)) (hS : va_S A s.heap H locs) (hdg : decode cc pc = .ok (.lreturn, 1)) : W p l e R s m args below meth c H locs mc ms (MQ below (rwQ Z (some (.long r)) ws' A) args s mc ms A) (F0 m pc ls [.long v]) := by
  subst hv; exact W.lret hx hb hr (fun t ht _ => ⟨⟨rfl, q, by rw [ht]; exact hP, hD⟩, hS.F ht⟩) hS.2.2 hdg hlk
theorem rw_v {A : Nat → Prop} {ws' : (Nat → Nat) → va_W} {mc ms : Nat} (q : Nat → Nat) (hx : p.tables.exec = Jvm.exec) (hb : c.code = cc) (hr : meth.sig.returnType = none) (hlk : meth.locks = false) (hP : va_P Z.1 vwCl (ws' q) H) (hD : va_D A (ws' q)) (hS : va_S A s.heap H locs) (hdg : decode cc pc = .ok (.return_, 1)) : W p l e R s m args below meth c H locs mc ms (MQ below (rwQ Z none ws' A) args s mc ms A) (F0 m pc ls []) :=
  W.vret hx hb hr (fun t ht _ => ⟨⟨rfl, q, by rw [ht]; exact hP, hD⟩, hS.F ht⟩) hS.2.2 hdg hlk
theorem ro_run {rv : Option Value} {a : Array Value} {st0 rest st1 : List Value} (hr : va_Run p l e R s m args below meth c H locs cells slots 0 0 (F0 m pc ls st0) rest (roQ rv a) (fun _ => False)) (h1 : rv.toList ++ rest = st1)
    (kk : W p l e R s m args below meth c H locs cells slots Q (F0 m (pc + 3) ls st1)) : W p l e R s m args below meth c H locs cells slots Q (F0 m pc ls st0) := by
  intro T hT X
  obtain ⟨v, st₀, t, T', L, h0, X', hL, e1, -, ⟨hv, hh⟩, st⟩ := hr T hT X
  cases hv
  subst h1
  obtain ⟨t2, a1, b1⟩ := kk T' (by rw [e1, hh, h0]) (Stand.forget X' (fun q h => (hL q h).elim))
  exact ⟨t2, st t2 a1, b1⟩
theorem rw_run {rv : Option Value} {a : Array Value} {st0 rest st1 : List Value} {mc ms : Nat} {A0 A1 : Nat → Prop} {H0 : Heap} {ws' : (Nat → Nat) → va_W} (hr : va_Run p l e R s m args below meth c H locs cells slots mc ms (F0 m pc ls st0) rest (rwQ Z rv ws' A1 a) A1) (h1 : rv.toList ++ rest = st1) (hS : va_S A0 H0 H locs) (hf : ∀ q, A1 q → A0 q)
    (kk : ∀ (q : Nat → Nat) (H1 : Heap) (locs1 : List Loc), va_P Z.1 vwCl (ws' q) H1 → va_D A1 (ws' q) → (∀ q : Nat, q < H.size → ¬ A1 q → H1[q]? = H[q]?) → va_S A0 H0 H1 locs1 → W p l e R s m args below meth c H1 locs1 (cells + mc) (slots + ms) Q (F0 m (pc + 3) ls st1)) : W p l e R s m args below meth c H locs cells slots Q (F0 m pc ls st0) := by
  intro T hT X
  obtain ⟨v, st₀, t, T', L, h0, X', hL, e1, e2, ⟨⟨hv, q, hp, hd⟩, hz, hk⟩, st⟩ := hr T hT X
  cases hv
  subst h1
  rw [h0] at hz hk
  obtain ⟨t2, a1, b1⟩ := kk q T'.heap (locs ++ L) (by rw [e1]; exact hp) hd (fun q h1 h2 => by rw [e1]; exact hk q h1 h2)
    ⟨Nat.le_trans hS.1 (by rw [e1]; exact hz), fun q h1 h2 => by rw [e1, hk q (Nat.lt_of_lt_of_le h1 hS.1) (fun z => h2 (hf q z))]; exact hS.2.1 q h1 h2, fun q hq => by
      rcases List.mem_append.mp hq with h | h
      · exact hS.2.2 q h
      · exact hf _ (hL q h)⟩ T' rfl X'
  exact ⟨t2, st t2 a1, b1⟩
variable {y : MethodName} {bytes : ByteArray} {maxL nL n index : Nat} {ret : Option FieldType} {wl Ts : List Cond} {rm : Room} {own C : String} {b : Nat} {As rest st0 st1 : List Value} {rv : Option Value} {ws wc : va_W}
/-- a call of an own method that reads -/
theorem ro_V (S : CallFix p m c cc nL s args Ts own) (hM : RO Z l y wl rm (.ref b :: As) wc rv) (cw : CallW R s args own C index y bytes maxL ret wl rm 0 0 n) (hK : va_K Z.1 vwCl (tyV Z) s) (hE : EV Z s) (hP : va_P Z.1 vwCl wc H) (ci : Nat) {fs : List Value} {T : u_T} {N : Nat} (hc : vwCl[ci]? = some (C, T, N)) (he : wc[0]? = some (b, .inr (ci, fs)))
    (hn : As.length = n) (hsize : ls.size = nL) (hst : st0 = As.reverse ++ .ref b :: rest) (hW : 2 * (F0 m pc ls st0).monitorRoom + (rest.map fun v => v.category).sum ≤ 8) (hdg : decode cc pc = .ok (.invokevirtual index, 3)) (hf : cells ≤ R.cells ∧ slots ≤ R.slots) (h1 : rv.toList ++ rest = st1)
    (kk : W p l e R s m args below meth c H locs cells slots Q (F0 m (pc + 3) ls st1)) : W p l e R s m args below meth c H locs cells slots Q (F0 m pc ls st0) :=
  ro_run (va_runV (As := As) (rest := rest) S hM cw ⟨ro_blind, va_recv hK hP (q := (C, T, N)) hc he, fun U hU hW9 => ⟨rfl, by rw [hU]; exact hP, va_K.moved hW9.alike hK, hE.warm hW9⟩⟩ rfl hn hsize hst hW hdg hf) h1 kk
theorem ro_S (S : CallFix p m c cc nL s args Ts own) (hM : RO Z l y wl rm As wc rv) (cw : CallB R s args own index y bytes maxL ret wl rm 0 0 n ∧ (Cond.static y).before args s = true) (hK : va_K Z.1 vwCl (tyV Z) s) (hE : EV Z s) (hP : va_P Z.1 vwCl wc H)
    (hn : As.length = n) (hsize : ls.size = nL) (hst : st0 = As.reverse ++ rest) (hW : 2 * (F0 m pc ls st0).monitorRoom + (rest.map fun v => v.category).sum ≤ 8) (hdg : decode cc pc = .ok (.invokestatic index, 3)) (hf : cells ≤ R.cells ∧ slots ≤ R.slots) (h1 : rv.toList ++ rest = st1)
    (kk : W p l e R s m args below meth c H locs cells slots Q (F0 m (pc + 3) ls st1)) : W p l e R s m args below meth c H locs cells slots Q (F0 m pc ls st0) :=
  ro_run (va_runS (As := As) (rest := rest) S hM cw ⟨ro_blind, fun U hU hW9 => ⟨rfl, by rw [hU]; exact hP, va_K.moved hW9.alike hK, hE.warm hW9⟩⟩ rfl hn hsize hst hW hdg hf) h1 kk
theorem ro_SN {host : String} (S : CallFix p m c cc nL s args Ts own) (hM : RO Z l y wl rm As wc rv) (cw : va_CN R s args own index y host bytes maxL ret wl rm 0 0 n) (hst2 : (Cond.static y).before args s = true) (hK : va_K Z.1 vwCl (tyV Z) s) (hE : EV Z s) (hP : va_P Z.1 vwCl wc H)
    (hn : As.length = n) (hsize : ls.size = nL) (hst : st0 = As.reverse ++ rest) (hW : 2 * (F0 m pc ls st0).monitorRoom + (rest.map fun v => v.category).sum ≤ 8) (hdg : decode cc pc = .ok (.invokestatic index, 3)) (hf : cells ≤ R.cells ∧ slots ≤ R.slots) (h1 : rv.toList ++ rest = st1)
    (kk : W p l e R s m args below meth c H locs cells slots Q (F0 m (pc + 3) ls st1)) : W p l e R s m args below meth c H locs cells slots Q (F0 m pc ls st0) :=
  ro_run (va_runSN (As := As) (rest := rest) S hM ⟨cw, hst2, trivial⟩ ⟨ro_blind, fun U hU hW9 => ⟨rfl, by rw [hU]; exact hP, va_K.moved hW9.alike hK, hE.warm hW9⟩⟩ rfl hn hsize hst hW hdg hf) h1 kk
theorem rw_pre {A : Nat → Prop} {H0 : Heap} (hS : va_S A H0 H locs) (hA : ∀ q : Nat, H0.size ≤ q → A q) (hD : va_D A ws) (isC : List Nat) (hC : isC.map (fun i => ws[i]?) = wc.map some) : ∀ q, va_A wc H.size q → A q := va_free hD hS hA isC hC
/-- a call of an own method that writes: isC its cells among the caller's, isR the others, pm the order that they are put back in -/
theorem rw_V {A : Nat → Prop} {mc ms : Nat} {wc' wn : (Nat → Nat) → va_W} (S : CallFix p m c cc nL s args Ts own) (hM : RW Z l y wl rm (.ref b :: As) wc rv wc' mc ms) (cw : CallW R s args own C index y bytes maxL ret wl rm mc ms n) (hK : va_K Z.1 vwCl (tyV Z) s) (hE : EV Z s) (hP : va_P Z.1 vwCl ws H) (hD : va_D A ws) (hS : va_S A s.heap H locs) (hA : ∀ q : Nat, s.heap.size ≤ q → A q)
    (isC isR pm : List Nat) (hnd : (va_nd isC && va_nd isR && va_nd pm && isR.all (fun i => !isC.contains i)) = true) (hC : isC.map (fun i => ws[i]?) = wc.map some) (hR : isR.map (fun i => ws[i]?) = (isR.filterMap (fun i => ws[i]?)).map some) (hN : ∀ q, pm.map (fun i => (isR.filterMap (fun i => ws[i]?) ++ wc' q)[i]?) = (wn q).map some)
    (ci : Nat) {fs : List Value} {T : u_T} {N : Nat} (hc : vwCl[ci]? = some (C, T, N)) (he : wc[0]? = some (b, .inr (ci, fs)))
    (hn : As.length = n) (hsize : ls.size = nL) (hst : st0 = As.reverse ++ .ref b :: rest) (hW : 2 * (F0 m pc ls st0).monitorRoom + (rest.map fun v => v.category).sum ≤ 8) (hdg : decode cc pc = .ok (.invokevirtual index, 3)) (hf : cells + mc ≤ R.cells ∧ slots + ms ≤ R.slots) (h1 : rv.toList ++ rest = st1)
    (kk : ∀ (q : Nat → Nat) (H1 : Heap) (locs1 : List Loc), va_P Z.1 vwCl (wn q) H1 → va_D A (wn q) → va_S A s.heap H1 locs1 → W p l e R s m args below meth c H1 locs1 (cells + mc) (slots + ms) Q (F0 m (pc + 3) ls st1)) : W p l e R s m args below meth c H locs cells slots Q (F0 m pc ls st0) := by
  simp only [Bool.and_eq_true] at hnd
  obtain ⟨⟨⟨n1, n2⟩, n3⟩, n4⟩ := hnd
  have hPc : va_P Z.1 vwCl wc H := hP.sub isC (by
    have h := congrArg (List.filterMap id) hC
    simpa [List.filterMap_map, Function.comp_def] using h)
  have hDc : va_D A wc := hD.sub isC n1 hC
  have hF := va_free (wc := wc) hD hS hA isC hC
  have hM9 := hM H.size
  refine rw_run (va_runV (As := As) (rest := rest) S hM9 cw ⟨rw_blind, va_recv hK hPc (q := (C, T, N)) hc he, fun U hU hW9 => ⟨rfl, by rw [hU], by rw [hU]; exact hPc, va_K.moved hW9.alike hK, hDc.weaken (fun _ _ _ _ => trivial), hE.warm hW9⟩⟩ rfl hn hsize hst hW hdg hf) h1 hS hF ?_
  intro q H1 locs1 hP1 hD1 hk hS1
  obtain ⟨hP2, hD2⟩ := va_join (wr := isR.filterMap (fun i => ws[i]?)) (w1 := wc' q) hP hD isC isR hC hR n2 (fun i hi => by
    have h := List.all_eq_true.mp n4 i hi
    simpa using h) hk hF hP1 hD1
  refine kk q H1 locs1 (hP2.sub pm ?_) (hD2.sub pm n3 (hN q)) hS1
  have h := congrArg (List.filterMap id) (hN q)
  simpa [List.filterMap_map, Function.comp_def] using h
end HTR
