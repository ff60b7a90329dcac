set_option maxHeartbeats 4000000 in
set_option maxRecDepth 100000 in
theorem c_X3_init (Z : EnvT) (l : Launch) (b : Nat) : RW Z l yX3_init wsX3_init { frames := 1, cells := 2, slots := 48, locals := 14 } [.ref b] [(b, .inr (3, [.null, .null]))] none (fun q => wX3 Z (ad b q) z0) 2 48 := by
  refine rw_of (cc := cX3_init) (maxL := 1) (ret := none) (by decide) rfl (Nat.le_of_ble_eq_true rfl) ?_
  intro p e s m below meth c A ls hx hb hr hml hts hown hlk hin hP hK hE hD hA hS hl
  have hown : s.vm.findClass RX3 = some m.cls := hown
  have hl : lv_has ls 1 [(0, .ref b)] := hl
  have w0 := hts (.methodLink RX3 3 objectInit) (by decide +kernel)
  have w1 := hts (.instanceMethod objectInit) (by decide +kernel)
  have w2 := hts (.code objectInit ⟨#[0xb1]⟩ 1 none) (by decide +kernel)
  have w3 := hts (.arrayClass .long) (by decide +kernel)
  have w4 := hts (.fieldLink RX3 9 "HeatTrain$Streams" "flow" "[J") (by decide +kernel)
  have w5 := hts (.fieldLink RX3 15 "HeatTrain$Streams" "heat" "[J") (by decide +kernel)
  have uu : ∀ w ∈ wsX30, w ∈ wsX3_init := by decide +kernel
  refine lv_aload_n (pc := 0) hx hb dX3_init_0 rfl (lv_at hl 0 rfl) ?_
  refine W.objInit hx hb hown w0 w1 w2 rfl (by rw [hml]; exact hl.1) rfl dX3_init_1 (Nat.le_of_ble_eq_true rfl) (Nat.le_of_ble_eq_true rfl) ?_
  refine W.eq (g2 := F0 m 4 ls []) rfl ?_
  refine lv_aload_n (pc := 4) hx hb dX3_init_4 rfl (lv_at hl 0 rfl) ?_
  refine lv_bipush (pc := 5) (v := 24) hx hb dX3_init_5 (by decide) ?_
  refine nwJ (pc := 7) (N := 24) hx hb w3 hK hP hD hS hA (by decide) (by decide) (Nat.le_of_ble_eq_true rfl) (Nat.le_of_ble_eq_true rfl) (Nat.le_of_ble_eq_true rfl) dX3_init_7 (fun q7 H hP hD hS => ?_)
  have hP : va_P Z.1 vwCl ([(b, .inr (3, [.null, .null])), (q7, .inl (Z.2.1 1, 24, .inr (.inl (fun _ => 0))))]) H := hP
  have hD : va_D A ([(b, .inr (3, [.null, .null])), (q7, .inl (Z.2.1 1, 24, .inr (.inl (fun _ => 0))))]) := hD
  refine va_putF (pc := 9) (D := Z.1) (ci := 3) (v := .ref q7) (ty := .array .long) (C := RX3) (T := TX3) (N := 2) hx hb hts uu tyX3 tyX3_ok nmX3 hown hK hP hD hS 0 rfl rfl 0 (by decide) w4 (fun _ h9 => h9) rfl (hin rfl) rfl (by decide +kernel) rfl rfl (Nat.le_of_ble_eq_true rfl) dX3_init_9 (fun H locs hP hD hS => ?_)
  have hP : va_P Z.1 vwCl ([(b, .inr (3, [.ref q7, .null])), (q7, .inl (Z.2.1 1, 24, .inr (.inl (fun _ => 0))))]) H := hP
  have hD : va_D A ([(b, .inr (3, [.ref q7, .null])), (q7, .inl (Z.2.1 1, 24, .inr (.inl (fun _ => 0))))]) := hD
  refine lv_aload_n (pc := 12) hx hb dX3_init_12 rfl (lv_at hl 0 rfl) ?_
  refine lv_bipush (pc := 13) (v := 24) hx hb dX3_init_13 (by decide) ?_
  refine nwJ (pc := 15) (N := 24) hx hb w3 hK hP hD hS hA (by decide) (by decide) (Nat.le_of_ble_eq_true rfl) (Nat.le_of_ble_eq_true rfl) (Nat.le_of_ble_eq_true rfl) dX3_init_15 (fun q15 H hP hD hS => ?_)
  have hP : va_P Z.1 vwCl ([(b, .inr (3, [.ref q7, .null])), (q7, .inl (Z.2.1 1, 24, .inr (.inl (fun _ => 0)))), (q15, .inl (Z.2.1 1, 24, .inr (.inl (fun _ => 0))))]) H := hP
  have hD : va_D A ([(b, .inr (3, [.ref q7, .null])), (q7, .inl (Z.2.1 1, 24, .inr (.inl (fun _ => 0)))), (q15, .inl (Z.2.1 1, 24, .inr (.inl (fun _ => 0))))]) := hD
  refine va_putF (pc := 17) (D := Z.1) (ci := 3) (v := .ref q15) (ty := .array .long) (C := RX3) (T := TX3) (N := 2) hx hb hts uu tyX3 tyX3_ok nmX3 hown hK hP hD hS 0 rfl rfl 1 (by decide) w5 (fun _ h9 => h9) rfl (hin rfl) rfl (by decide +kernel) rfl rfl (Nat.le_of_ble_eq_true rfl) dX3_init_17 (fun H locs hP hD hS => ?_)
  have hP : va_P Z.1 vwCl ([(b, .inr (3, [.ref q7, .ref q15])), (q7, .inl (Z.2.1 1, 24, .inr (.inl (fun _ => 0)))), (q15, .inl (Z.2.1 1, 24, .inr (.inl (fun _ => 0))))]) H := hP
  have hD : va_D A ([(b, .inr (3, [.ref q7, .ref q15])), (q7, .inl (Z.2.1 1, 24, .inr (.inl (fun _ => 0)))), (q15, .inl (Z.2.1 1, 24, .inr (.inl (fun _ => 0))))]) := hD
  have hP : va_P Z.1 vwCl (wX3 Z (ad b (fun i => ([b, q7, q15] : List Nat).getD i 0)) z0) H := hP.sub [0, 1, 2] rfl
  have hD : va_D A (wX3 Z (ad b (fun i => ([b, q7, q15] : List Nat).getD i 0)) z0) := hD.sub [0, 1, 2] (by decide) rfl
  exact rw_v (fun i => ([b, q7, q15] : List Nat).getD i 0) hx hb hr hlk hP hD hS dX3_init_20
def f_X5_init_b75 : Nat → Int32 → ObS → Option ObS
  | 0, _, _ => none
  | n + 1, v, o =>
  if 24 ≤ v then some o else
    if inb v 24 then
    (some (oi o 6 (v).toNatClampNeg (-1))).bind fun s87 => f_X5_init_b75 n (v + 1) s87
    else none
def f_X5_init : Option ObS := f_X5_init_b75 64 0 z0
set_option maxHeartbeats 4000000 in
set_option maxRecDepth 100000 in
theorem c_X5_init (Z : EnvT) (l : Launch) (b : Nat) (R : ObS) (hf : f_X5_init = some R) : RW Z l yX5_init wsX5_init { frames := 1, cells := 8, slots := 108, locals := 14 } [.ref b] [(b, .inr (5, [.int 0, .null, .null, .null, .null, .null, .null, .null, .null]))] none (fun q => wX5 Z (ad b q) R) 8 108 := by
  refine rw_of (cc := cX5_init) (maxL := 2) (ret := none) (by decide) rfl (Nat.le_of_ble_eq_true rfl) ?_
  intro p e s m below meth c A ls hx hb hr hml hts hown hlk hin hP hK hE hD hA hS hl
  have hown : s.vm.findClass RX5 = some m.cls := hown
  have hl : lv_has ls 2 [(0, .ref b)] := hl
  have w0 := hts (.methodLink RX5 3 objectInit) (by decide +kernel)
  have w1 := hts (.instanceMethod objectInit) (by decide +kernel)
  have w2 := hts (.code objectInit ⟨#[0xb1]⟩ 1 none) (by decide +kernel)
  have w3 := hts (.fieldLink RX5 9 "HeatTrain$Units" "made" "I") (by decide +kernel)
  have w4 := hts (.arrayClass .int) (by decide +kernel)
  have w5 := hts (.fieldLink RX5 15 "HeatTrain$Units" "kind" "[I") (by decide +kernel)
  have w6 := hts (.fieldLink RX5 19 "HeatTrain$Units" "degrees" "[I") (by decide +kernel)
  have w7 := hts (.fieldLink RX5 22 "HeatTrain$Units" "number" "[I") (by decide +kernel)
  have w8 := hts (.fieldLink RX5 25 "HeatTrain$Units" "first" "[I") (by decide +kernel)
  have w9 := hts (.fieldLink RX5 28 "HeatTrain$Units" "second" "[I") (by decide +kernel)
  have w10 := hts (.arrayClass .long) (by decide +kernel)
  have w11 := hts (.fieldLink RX5 31 "HeatTrain$Units" "moved" "[J") (by decide +kernel)
  have w12 := hts (.arrayClass .boolean) (by decide +kernel)
  have w13 := hts (.fieldLink RX5 35 "HeatTrain$Units" "greatest" "[Z") (by decide +kernel)
  have w14 := hts (.fieldLink RX5 39 "HeatTrain$Units" "taker" "[I") (by decide +kernel)
  have uu : ∀ w ∈ wsX50, w ∈ wsX5_init := by decide +kernel
  have B75 : ∀ (q : Nat → Nat) (n : Nat), ∀ (v : Int32) (o : ObS) (ls : Array Slot), lv_has ls 2 [(0, .ref b), (1, .int v)] → ∀ (H : Heap) (locs : List Loc), va_P Z.1 vwCl (wX5 Z (ad b q) o) H → va_D A (wX5 Z (ad b q) o) → va_S A s.heap H locs → f_X5_init_b75 n v o = some R → W p l e { frames := 1, cells := 8, slots := 108, locals := 14 } s m ([.ref b] : List Value).toArray below meth c H locs 8 108 (MQ below (rwQ Z none (fun q => wX5 Z (ad b q) R) A) ([.ref b] : List Value).toArray s 8 108 A) (F0 m 75 ls []) := by
    intro q n
    induction n with
    | zero => intro v o ls hl H locs hP hD hS hf; rw [f_X5_init_b75] at hf; exact nomatch hf
    | succ n ih =>
      intro v o ls hl H locs hP hD hS hf
      rw [f_X5_init_b75] at hf
      refine lv_iload_n (pc := 75) hx hb dX5_init_75 rfl (lv_at hl 1 rfl) ?_
      refine lv_bipush (pc := 76) (v := 24) hx hb dX5_init_76 (by decide) ?_
      refine lv_icmp_ge (pc := 78) (tgt := 94) hx hb dX5_init_78 (by decide) (fun c1 => ?_) (fun c1 => ?_)
      · have hf := (if_pos c1).symm.trans hf
        have hf := (Option.some.inj hf)
        subst hf
        exact rw_v q hx hb hr hlk hP hD hS dX5_init_94
      · have hf := (if_neg c1).symm.trans hf
        refine lv_aload_n (pc := 81) hx hb dX5_init_81 rfl (lv_at hl 0 rfl) ?_
        refine va_get (pc := 82) (D := Z.1) (ci := 5) (v := .ref (ad b q 7)) (C := RX5) (T := TX5) (N := 9) hx hb hts uu hown hK hP 0 rfl rfl 6 (by decide) w14 (fun _ h9 => h9) rfl dX5_init_82 ?_
        refine lv_iload_n (pc := 85) hx hb dX5_init_85 rfl (lv_at hl 1 rfl) ?_
        refine lv_iconst (pc := 86) (v := (-1)) hx hb dX5_init_86 (by decide) ?_
        obtain ⟨g87, hf⟩ := gd hf
        refine va_iast (pc := 87) (D := Z.1) (n := 24) (f := o.1 6) hx hb hK hP hD hS 6 0 rfl rfl (inb_in g87) dX5_init_87 (fun H locs hP hD hS => ?_)
        obtain ⟨s87, h_87, hf⟩ := bd hf
        have hP : va_P Z.1 vwCl (wX5 Z (ad b q) s87) H := st_P (f := fun z => wX5 Z (ad b q) z) h_87 hP
        have hD : va_D A (wX5 Z (ad b q) s87) := st_D (f := fun z => wX5 Z (ad b q) z) h_87 hD
        refine lv_iinc (pc := 88) (v := v + 1) (lv' := [(1, .int (v + 1)), (0, .ref b)]) hx hb dX5_init_88 hl (k := 1) rfl rfl (by decide) rfl (fun ls hl => ?_)
        refine lv_goto (pc := 91) (tgt := 75) hx hb dX5_init_91 (by decide) ?_
        exact ih (v + 1) s87 _ (lv_sub hl [1, 0] rfl) _ _ hP hD hS hf
  refine lv_aload_n (pc := 0) hx hb dX5_init_0 rfl (lv_at hl 0 rfl) ?_
  refine W.objInit hx hb hown w0 w1 w2 rfl (by rw [hml]; exact hl.1) rfl dX5_init_1 (Nat.le_of_ble_eq_true rfl) (Nat.le_of_ble_eq_true rfl) ?_
  refine W.eq (g2 := F0 m 4 ls []) rfl ?_
  refine lv_aload_n (pc := 4) hx hb dX5_init_4 rfl (lv_at hl 0 rfl) ?_
  refine lv_iconst (pc := 5) (v := 0) hx hb dX5_init_5 (by decide) ?_
  refine va_put (pc := 6) (D := Z.1) (ci := 5) (v := .int 0) (ty := .int) (C := RX5) (T := TX5) (N := 9) hx hb hts uu tyX5 tyX5_ok nmX5 hown hK hP hD hS 0 rfl rfl 0 (by decide) w3 (fun _ h9 => h9) rfl (by decide +kernel) rfl rfl (Nat.le_of_ble_eq_true rfl) dX5_init_6 (fun H locs hP hD hS => ?_)
  have hP : va_P Z.1 vwCl ([(b, .inr (5, [.int 0, .null, .null, .null, .null, .null, .null, .null, .null]))]) H := hP
  have hD : va_D A ([(b, .inr (5, [.int 0, .null, .null, .null, .null, .null, .null, .null, .null]))]) := hD
  refine lv_aload_n (pc := 9) hx hb dX5_init_9 rfl (lv_at hl 0 rfl) ?_
  refine lv_bipush (pc := 10) (v := 12) hx hb dX5_init_10 (by decide) ?_
  refine nwI (pc := 12) (N := 12) hx hb w4 hK hP hD hS hA (by decide) (by decide) (Nat.le_of_ble_eq_true rfl) (Nat.le_of_ble_eq_true rfl) (Nat.le_of_ble_eq_true rfl) dX5_init_12 (fun q12 H hP hD hS => ?_)
  have hP : va_P Z.1 vwCl ([(b, .inr (5, [.int 0, .null, .null, .null, .null, .null, .null, .null, .null])), (q12, .inl (Z.2.1 0, 12, .inl (fun _ => 0)))]) H := hP
  have hD : va_D A ([(b, .inr (5, [.int 0, .null, .null, .null, .null, .null, .null, .null, .null])), (q12, .inl (Z.2.1 0, 12, .inl (fun _ => 0)))]) := hD
  refine va_putF (pc := 14) (D := Z.1) (ci := 5) (v := .ref q12) (ty := .array .int) (C := RX5) (T := TX5) (N := 9) hx hb hts uu tyX5 tyX5_ok nmX5 hown hK hP hD hS 0 rfl rfl 1 (by decide) w5 (fun _ h9 => h9) rfl (hin rfl) rfl (by decide +kernel) rfl rfl (Nat.le_of_ble_eq_true rfl) dX5_init_14 (fun H locs hP hD hS => ?_)
  have hP : va_P Z.1 vwCl ([(b, .inr (5, [.int 0, .ref q12, .null, .null, .null, .null, .null, .null, .null])), (q12, .inl (Z.2.1 0, 12, .inl (fun _ => 0)))]) H := hP
  have hD : va_D A ([(b, .inr (5, [.int 0, .ref q12, .null, .null, .null, .null, .null, .null, .null])), (q12, .inl (Z.2.1 0, 12, .inl (fun _ => 0)))]) := hD
  refine lv_aload_n (pc := 17) hx hb dX5_init_17 rfl (lv_at hl 0 rfl) ?_
  refine lv_bipush (pc := 18) (v := 12) hx hb dX5_init_18 (by decide) ?_
  refine nwI (pc := 20) (N := 12) hx hb w4 hK hP hD hS hA (by decide) (by decide) (Nat.le_of_ble_eq_true rfl) (Nat.le_of_ble_eq_true rfl) (Nat.le_of_ble_eq_true rfl) dX5_init_20 (fun q20 H hP hD hS => ?_)
  have hP : va_P Z.1 vwCl ([(b, .inr (5, [.int 0, .ref q12, .null, .null, .null, .null, .null, .null, .null])), (q12, .inl (Z.2.1 0, 12, .inl (fun _ => 0))), (q20, .inl (Z.2.1 0, 12, .inl (fun _ => 0)))]) H := hP
  have hD : va_D A ([(b, .inr (5, [.int 0, .ref q12, .null, .null, .null, .null, .null, .null, .null])), (q12, .inl (Z.2.1 0, 12, .inl (fun _ => 0))), (q20, .inl (Z.2.1 0, 12, .inl (fun _ => 0)))]) := hD
  refine va_putF (pc := 22) (D := Z.1) (ci := 5) (v := .ref q20) (ty := .array .int) (C := RX5) (T := TX5) (N := 9) hx hb hts uu tyX5 tyX5_ok nmX5 hown hK hP hD hS 0 rfl rfl 2 (by decide) w6 (fun _ h9 => h9) rfl (hin rfl) rfl (by decide +kernel) rfl rfl (Nat.le_of_ble_eq_true rfl) dX5_init_22 (fun H locs hP hD hS => ?_)
  have hP : va_P Z.1 vwCl ([(b, .inr (5, [.int 0, .ref q12, .ref q20, .null, .null, .null, .null, .null, .null])), (q12, .inl (Z.2.1 0, 12, .inl (fun _ => 0))), (q20, .inl (Z.2.1 0, 12, .inl (fun _ => 0)))]) H := hP
  have hD : va_D A ([(b, .inr (5, [.int 0, .ref q12, .ref q20, .null, .null, .null, .null, .null, .null])), (q12, .inl (Z.2.1 0, 12, .inl (fun _ => 0))), (q20, .inl (Z.2.1 0, 12, .inl (fun _ => 0)))]) := hD
  refine lv_aload_n (pc := 25) hx hb dX5_init_25 rfl (lv_at hl 0 rfl) ?_
  refine lv_bipush (pc := 26) (v := 12) hx hb dX5_init_26 (by decide) ?_
  refine nwI (pc := 28) (N := 12) hx hb w4 hK hP hD hS hA (by decide) (by decide) (Nat.le_of_ble_eq_true rfl) (Nat.le_of_ble_eq_true rfl) (Nat.le_of_ble_eq_true rfl) dX5_init_28 (fun q28 H hP hD hS => ?_)
  have hP : va_P Z.1 vwCl ([(b, .inr (5, [.int 0, .ref q12, .ref q20, .null, .null, .null, .null, .null, .null])), (q12, .inl (Z.2.1 0, 12, .inl (fun _ => 0))), (q20, .inl (Z.2.1 0, 12, .inl (fun _ => 0))), (q28, .inl (Z.2.1 0, 12, .inl (fun _ => 0)))]) H := hP
  have hD : va_D A ([(b, .inr (5, [.int 0, .ref q12, .ref q20, .null, .null, .null, .null, .null, .null])), (q12, .inl (Z.2.1 0, 12, .inl (fun _ => 0))), (q20, .inl (Z.2.1 0, 12, .inl (fun _ => 0))), (q28, .inl (Z.2.1 0, 12, .inl (fun _ => 0)))]) := hD
  refine va_putF (pc := 30) (D := Z.1) (ci := 5) (v := .ref q28) (ty := .array .int) (C := RX5) (T := TX5) (N := 9) hx hb hts uu tyX5 tyX5_ok nmX5 hown hK hP hD hS 0 rfl rfl 3 (by decide) w7 (fun _ h9 => h9) rfl (hin rfl) rfl (by decide +kernel) rfl rfl (Nat.le_of_ble_eq_true rfl) dX5_init_30 (fun H locs hP hD hS => ?_)
  have hP : va_P Z.1 vwCl ([(b, .inr (5, [.int 0, .ref q12, .ref q20, .ref q28, .null, .null, .null, .null, .null])), (q12, .inl (Z.2.1 0, 12, .inl (fun _ => 0))), (q20, .inl (Z.2.1 0, 12, .inl (fun _ => 0))), (q28, .inl (Z.2.1 0, 12, .inl (fun _ => 0)))]) H := hP
  have hD : va_D A ([(b, .inr (5, [.int 0, .ref q12, .ref q20, .ref q28, .null, .null, .null, .null, .null])), (q12, .inl (Z.2.1 0, 12, .inl (fun _ => 0))), (q20, .inl (Z.2.1 0, 12, .inl (fun _ => 0))), (q28, .inl (Z.2.1 0, 12, .inl (fun _ => 0)))]) := hD
  refine lv_aload_n (pc := 33) hx hb dX5_init_33 rfl (lv_at hl 0 rfl) ?_
  refine lv_bipush (pc := 34) (v := 12) hx hb dX5_init_34 (by decide) ?_
  refine nwI (pc := 36) (N := 12) hx hb w4 hK hP hD hS hA (by decide) (by decide) (Nat.le_of_ble_eq_true rfl) (Nat.le_of_ble_eq_true rfl) (Nat.le_of_ble_eq_true rfl) dX5_init_36 (fun q36 H hP hD hS => ?_)
  have hP : va_P Z.1 vwCl ([(b, .inr (5, [.int 0, .ref q12, .ref q20, .ref q28, .null, .null, .null, .null, .null])), (q12, .inl (Z.2.1 0, 12, .inl (fun _ => 0))), (q20, .inl (Z.2.1 0, 12, .inl (fun _ => 0))), (q28, .inl (Z.2.1 0, 12, .inl (fun _ => 0))), (q36, .inl (Z.2.1 0, 12, .inl (fun _ => 0)))]) H := hP
  have hD : va_D A ([(b, .inr (5, [.int 0, .ref q12, .ref q20, .ref q28, .null, .null, .null, .null, .null])), (q12, .inl (Z.2.1 0, 12, .inl (fun _ => 0))), (q20, .inl (Z.2.1 0, 12, .inl (fun _ => 0))), (q28, .inl (Z.2.1 0, 12, .inl (fun _ => 0))), (q36, .inl (Z.2.1 0, 12, .inl (fun _ => 0)))]) := hD
  refine va_putF (pc := 38) (D := Z.1) (ci := 5) (v := .ref q36) (ty := .array .int) (C := RX5) (T := TX5) (N := 9) hx hb hts uu tyX5 tyX5_ok nmX5 hown hK hP hD hS 0 rfl rfl 4 (by decide) w8 (fun _ h9 => h9) rfl (hin rfl) rfl (by decide +kernel) rfl rfl (Nat.le_of_ble_eq_true rfl) dX5_init_38 (fun H locs hP hD hS => ?_)
  have hP : va_P Z.1 vwCl ([(b, .inr (5, [.int 0, .ref q12, .ref q20, .ref q28, .ref q36, .null, .null, .null, .null])), (q12, .inl (Z.2.1 0, 12, .inl (fun _ => 0))), (q20, .inl (Z.2.1 0, 12, .inl (fun _ => 0))), (q28, .inl (Z.2.1 0, 12, .inl (fun _ => 0))), (q36, .inl (Z.2.1 0, 12, .inl (fun _ => 0)))]) H := hP
  have hD : va_D A ([(b, .inr (5, [.int 0, .ref q12, .ref q20, .ref q28, .ref q36, .null, .null, .null, .null])), (q12, .inl (Z.2.1 0, 12, .inl (fun _ => 0))), (q20, .inl (Z.2.1 0, 12, .inl (fun _ => 0))), (q28, .inl (Z.2.1 0, 12, .inl (fun _ => 0))), (q36, .inl (Z.2.1 0, 12, .inl (fun _ => 0)))]) := hD
  refine lv_aload_n (pc := 41) hx hb dX5_init_41 rfl (lv_at hl 0 rfl) ?_
  refine lv_bipush (pc := 42) (v := 12) hx hb dX5_init_42 (by decide) ?_
  refine nwI (pc := 44) (N := 12) hx hb w4 hK hP hD hS hA (by decide) (by decide) (Nat.le_of_ble_eq_true rfl) (Nat.le_of_ble_eq_true rfl) (Nat.le_of_ble_eq_true rfl) dX5_init_44 (fun q44 H hP hD hS => ?_)
  have hP : va_P Z.1 vwCl ([(b, .inr (5, [.int 0, .ref q12, .ref q20, .ref q28, .ref q36, .null, .null, .null, .null])), (q12, .inl (Z.2.1 0, 12, .inl (fun _ => 0))), (q20, .inl (Z.2.1 0, 12, .inl (fun _ => 0))), (q28, .inl (Z.2.1 0, 12, .inl (fun _ => 0))), (q36, .inl (Z.2.1 0, 12, .inl (fun _ => 0))), (q44, .inl (Z.2.1 0, 12, .inl (fun _ => 0)))]) H := hP
  have hD : va_D A ([(b, .inr (5, [.int 0, .ref q12, .ref q20, .ref q28, .ref q36, .null, .null, .null, .null])), (q12, .inl (Z.2.1 0, 12, .inl (fun _ => 0))), (q20, .inl (Z.2.1 0, 12, .inl (fun _ => 0))), (q28, .inl (Z.2.1 0, 12, .inl (fun _ => 0))), (q36, .inl (Z.2.1 0, 12, .inl (fun _ => 0))), (q44, .inl (Z.2.1 0, 12, .inl (fun _ => 0)))]) := hD
  refine va_putF (pc := 46) (D := Z.1) (ci := 5) (v := .ref q44) (ty := .array .int) (C := RX5) (T := TX5) (N := 9) hx hb hts uu tyX5 tyX5_ok nmX5 hown hK hP hD hS 0 rfl rfl 5 (by decide) w9 (fun _ h9 => h9) rfl (hin rfl) rfl (by decide +kernel) rfl rfl (Nat.le_of_ble_eq_true rfl) dX5_init_46 (fun H locs hP hD hS => ?_)
  have hP : va_P Z.1 vwCl ([(b, .inr (5, [.int 0, .ref q12, .ref q20, .ref q28, .ref q36, .ref q44, .null, .null, .null])), (q12, .inl (Z.2.1 0, 12, .inl (fun _ => 0))), (q20, .inl (Z.2.1 0, 12, .inl (fun _ => 0))), (q28, .inl (Z.2.1 0, 12, .inl (fun _ => 0))), (q36, .inl (Z.2.1 0, 12, .inl (fun _ => 0))), (q44, .inl (Z.2.1 0, 12, .inl (fun _ => 0)))]) H := hP
  have hD : va_D A ([(b, .inr (5, [.int 0, .ref q12, .ref q20, .ref q28, .ref q36, .ref q44, .null, .null, .null])), (q12, .inl (Z.2.1 0, 12, .inl (fun _ => 0))), (q20, .inl (Z.2.1 0, 12, .inl (fun _ => 0))), (q28, .inl (Z.2.1 0, 12, .inl (fun _ => 0))), (q36, .inl (Z.2.1 0, 12, .inl (fun _ => 0))), (q44, .inl (Z.2.1 0, 12, .inl (fun _ => 0)))]) := hD
  refine lv_aload_n (pc := 49) hx hb dX5_init_49 rfl (lv_at hl 0 rfl) ?_
  refine lv_bipush (pc := 50) (v := 12) hx hb dX5_init_50 (by decide) ?_
  refine nwJ (pc := 52) (N := 12) hx hb w10 hK hP hD hS hA (by decide) (by decide) (Nat.le_of_ble_eq_true rfl) (Nat.le_of_ble_eq_true rfl) (Nat.le_of_ble_eq_true rfl) dX5_init_52 (fun q52 H hP hD hS => ?_)
  have hP : va_P Z.1 vwCl ([(b, .inr (5, [.int 0, .ref q12, .ref q20, .ref q28, .ref q36, .ref q44, .null, .null, .null])), (q12, .inl (Z.2.1 0, 12, .inl (fun _ => 0))), (q20, .inl (Z.2.1 0, 12, .inl (fun _ => 0))), (q28, .inl (Z.2.1 0, 12, .inl (fun _ => 0))), (q36, .inl (Z.2.1 0, 12, .inl (fun _ => 0))), (q44, .inl (Z.2.1 0, 12, .inl (fun _ => 0))), (q52, .inl (Z.2.1 1, 12, .inr (.inl (fun _ => 0))))]) H := hP
  have hD : va_D A ([(b, .inr (5, [.int 0, .ref q12, .ref q20, .ref q28, .ref q36, .ref q44, .null, .null, .null])), (q12, .inl (Z.2.1 0, 12, .inl (fun _ => 0))), (q20, .inl (Z.2.1 0, 12, .inl (fun _ => 0))), (q28, .inl (Z.2.1 0, 12, .inl (fun _ => 0))), (q36, .inl (Z.2.1 0, 12, .inl (fun _ => 0))), (q44, .inl (Z.2.1 0, 12, .inl (fun _ => 0))), (q52, .inl (Z.2.1 1, 12, .inr (.inl (fun _ => 0))))]) := hD
  refine va_putF (pc := 54) (D := Z.1) (ci := 5) (v := .ref q52) (ty := .array .long) (C := RX5) (T := TX5) (N := 9) hx hb hts uu tyX5 tyX5_ok nmX5 hown hK hP hD hS 0 rfl rfl 7 (by decide) w11 (fun _ h9 => h9) rfl (hin rfl) rfl (by decide +kernel) rfl rfl (Nat.le_of_ble_eq_true rfl) dX5_init_54 (fun H locs hP hD hS => ?_)
  have hP : va_P Z.1 vwCl ([(b, .inr (5, [.int 0, .ref q12, .ref q20, .ref q28, .ref q36, .ref q44, .null, .ref q52, .null])), (q12, .inl (Z.2.1 0, 12, .inl (fun _ => 0))), (q20, .inl (Z.2.1 0, 12, .inl (fun _ => 0))), (q28, .inl (Z.2.1 0, 12, .inl (fun _ => 0))), (q36, .inl (Z.2.1 0, 12, .inl (fun _ => 0))), (q44, .inl (Z.2.1 0, 12, .inl (fun _ => 0))), (q52, .inl (Z.2.1 1, 12, .inr (.inl (fun _ => 0))))]) H := hP
  have hD : va_D A ([(b, .inr (5, [.int 0, .ref q12, .ref q20, .ref q28, .ref q36, .ref q44, .null, .ref q52, .null])), (q12, .inl (Z.2.1 0, 12, .inl (fun _ => 0))), (q20, .inl (Z.2.1 0, 12, .inl (fun _ => 0))), (q28, .inl (Z.2.1 0, 12, .inl (fun _ => 0))), (q36, .inl (Z.2.1 0, 12, .inl (fun _ => 0))), (q44, .inl (Z.2.1 0, 12, .inl (fun _ => 0))), (q52, .inl (Z.2.1 1, 12, .inr (.inl (fun _ => 0))))]) := hD
  refine lv_aload_n (pc := 57) hx hb dX5_init_57 rfl (lv_at hl 0 rfl) ?_
  refine lv_bipush (pc := 58) (v := 12) hx hb dX5_init_58 (by decide) ?_
  refine nwZ (pc := 60) (N := 12) hx hb w12 hK hP hD hS hA (by decide) (by decide) (Nat.le_of_ble_eq_true rfl) (Nat.le_of_ble_eq_true rfl) (Nat.le_of_ble_eq_true rfl) dX5_init_60 (fun q60 H hP hD hS => ?_)
  have hP : va_P Z.1 vwCl ([(b, .inr (5, [.int 0, .ref q12, .ref q20, .ref q28, .ref q36, .ref q44, .null, .ref q52, .null])), (q12, .inl (Z.2.1 0, 12, .inl (fun _ => 0))), (q20, .inl (Z.2.1 0, 12, .inl (fun _ => 0))), (q28, .inl (Z.2.1 0, 12, .inl (fun _ => 0))), (q36, .inl (Z.2.1 0, 12, .inl (fun _ => 0))), (q44, .inl (Z.2.1 0, 12, .inl (fun _ => 0))), (q52, .inl (Z.2.1 1, 12, .inr (.inl (fun _ => 0)))), (q60, .inl (Z.2.1 2, 12, .inl (fun _ => 0)))]) H := hP
  have hD : va_D A ([(b, .inr (5, [.int 0, .ref q12, .ref q20, .ref q28, .ref q36, .ref q44, .null, .ref q52, .null])), (q12, .inl (Z.2.1 0, 12, .inl (fun _ => 0))), (q20, .inl (Z.2.1 0, 12, .inl (fun _ => 0))), (q28, .inl (Z.2.1 0, 12, .inl (fun _ => 0))), (q36, .inl (Z.2.1 0, 12, .inl (fun _ => 0))), (q44, .inl (Z.2.1 0, 12, .inl (fun _ => 0))), (q52, .inl (Z.2.1 1, 12, .inr (.inl (fun _ => 0)))), (q60, .inl (Z.2.1 2, 12, .inl (fun _ => 0)))]) := hD
  refine va_putF (pc := 62) (D := Z.1) (ci := 5) (v := .ref q60) (ty := .array .boolean) (C := RX5) (T := TX5) (N := 9) hx hb hts uu tyX5 tyX5_ok nmX5 hown hK hP hD hS 0 rfl rfl 8 (by decide) w13 (fun _ h9 => h9) rfl (hin rfl) rfl (by decide +kernel) rfl rfl (Nat.le_of_ble_eq_true rfl) dX5_init_62 (fun H locs hP hD hS => ?_)
  have hP : va_P Z.1 vwCl ([(b, .inr (5, [.int 0, .ref q12, .ref q20, .ref q28, .ref q36, .ref q44, .null, .ref q52, .ref q60])), (q12, .inl (Z.2.1 0, 12, .inl (fun _ => 0))), (q20, .inl (Z.2.1 0, 12, .inl (fun _ => 0))), (q28, .inl (Z.2.1 0, 12, .inl (fun _ => 0))), (q36, .inl (Z.2.1 0, 12, .inl (fun _ => 0))), (q44, .inl (Z.2.1 0, 12, .inl (fun _ => 0))), (q52, .inl (Z.2.1 1, 12, .inr (.inl (fun _ => 0)))), (q60, .inl (Z.2.1 2, 12, .inl (fun _ => 0)))]) H := hP
  have hD : va_D A ([(b, .inr (5, [.int 0, .ref q12, .ref q20, .ref q28, .ref q36, .ref q44, .null, .ref q52, .ref q60])), (q12, .inl (Z.2.1 0, 12, .inl (fun _ => 0))), (q20, .inl (Z.2.1 0, 12, .inl (fun _ => 0))), (q28, .inl (Z.2.1 0, 12, .inl (fun _ => 0))), (q36, .inl (Z.2.1 0, 12, .inl (fun _ => 0))), (q44, .inl (Z.2.1 0, 12, .inl (fun _ => 0))), (q52, .inl (Z.2.1 1, 12, .inr (.inl (fun _ => 0)))), (q60, .inl (Z.2.1 2, 12, .inl (fun _ => 0)))]) := hD
  refine lv_aload_n (pc := 65) hx hb dX5_init_65 rfl (lv_at hl 0 rfl) ?_
  refine lv_bipush (pc := 66) (v := 24) hx hb dX5_init_66 (by decide) ?_
  refine nwI (pc := 68) (N := 24) hx hb w4 hK hP hD hS hA (by decide) (by decide) (Nat.le_of_ble_eq_true rfl) (Nat.le_of_ble_eq_true rfl) (Nat.le_of_ble_eq_true rfl) dX5_init_68 (fun q68 H hP hD hS => ?_)
  have hP : va_P Z.1 vwCl ([(b, .inr (5, [.int 0, .ref q12, .ref q20, .ref q28, .ref q36, .ref q44, .null, .ref q52, .ref q60])), (q12, .inl (Z.2.1 0, 12, .inl (fun _ => 0))), (q20, .inl (Z.2.1 0, 12, .inl (fun _ => 0))), (q28, .inl (Z.2.1 0, 12, .inl (fun _ => 0))), (q36, .inl (Z.2.1 0, 12, .inl (fun _ => 0))), (q44, .inl (Z.2.1 0, 12, .inl (fun _ => 0))), (q52, .inl (Z.2.1 1, 12, .inr (.inl (fun _ => 0)))), (q60, .inl (Z.2.1 2, 12, .inl (fun _ => 0))), (q68, .inl (Z.2.1 0, 24, .inl (fun _ => 0)))]) H := hP
  have hD : va_D A ([(b, .inr (5, [.int 0, .ref q12, .ref q20, .ref q28, .ref q36, .ref q44, .null, .ref q52, .ref q60])), (q12, .inl (Z.2.1 0, 12, .inl (fun _ => 0))), (q20, .inl (Z.2.1 0, 12, .inl (fun _ => 0))), (q28, .inl (Z.2.1 0, 12, .inl (fun _ => 0))), (q36, .inl (Z.2.1 0, 12, .inl (fun _ => 0))), (q44, .inl (Z.2.1 0, 12, .inl (fun _ => 0))), (q52, .inl (Z.2.1 1, 12, .inr (.inl (fun _ => 0)))), (q60, .inl (Z.2.1 2, 12, .inl (fun _ => 0))), (q68, .inl (Z.2.1 0, 24, .inl (fun _ => 0)))]) := hD
  refine va_putF (pc := 70) (D := Z.1) (ci := 5) (v := .ref q68) (ty := .array .int) (C := RX5) (T := TX5) (N := 9) hx hb hts uu tyX5 tyX5_ok nmX5 hown hK hP hD hS 0 rfl rfl 6 (by decide) w14 (fun _ h9 => h9) rfl (hin rfl) rfl (by decide +kernel) rfl rfl (Nat.le_of_ble_eq_true rfl) dX5_init_70 (fun H locs hP hD hS => ?_)
  have hP : va_P Z.1 vwCl ([(b, .inr (5, [.int 0, .ref q12, .ref q20, .ref q28, .ref q36, .ref q44, .ref q68, .ref q52, .ref q60])), (q12, .inl (Z.2.1 0, 12, .inl (fun _ => 0))), (q20, .inl (Z.2.1 0, 12, .inl (fun _ => 0))), (q28, .inl (Z.2.1 0, 12, .inl (fun _ => 0))), (q36, .inl (Z.2.1 0, 12, .inl (fun _ => 0))), (q44, .inl (Z.2.1 0, 12, .inl (fun _ => 0))), (q52, .inl (Z.2.1 1, 12, .inr (.inl (fun _ => 0)))), (q60, .inl (Z.2.1 2, 12, .inl (fun _ => 0))), (q68, .inl (Z.2.1 0, 24, .inl (fun _ => 0)))]) H := hP
  have hD : va_D A ([(b, .inr (5, [.int 0, .ref q12, .ref q20, .ref q28, .ref q36, .ref q44, .ref q68, .ref q52, .ref q60])), (q12, .inl (Z.2.1 0, 12, .inl (fun _ => 0))), (q20, .inl (Z.2.1 0, 12, .inl (fun _ => 0))), (q28, .inl (Z.2.1 0, 12, .inl (fun _ => 0))), (q36, .inl (Z.2.1 0, 12, .inl (fun _ => 0))), (q44, .inl (Z.2.1 0, 12, .inl (fun _ => 0))), (q52, .inl (Z.2.1 1, 12, .inr (.inl (fun _ => 0)))), (q60, .inl (Z.2.1 2, 12, .inl (fun _ => 0))), (q68, .inl (Z.2.1 0, 24, .inl (fun _ => 0)))]) := hD
  have hP : va_P Z.1 vwCl (wX5 Z (ad b (fun i => ([b, 0, q12, q20, q28, q36, q44, q68, q52, q60] : List Nat).getD i 0)) z0) H := hP.sub [0, 1, 2, 3, 4, 5, 8, 6, 7] rfl
  have hD : va_D A (wX5 Z (ad b (fun i => ([b, 0, q12, q20, q28, q36, q44, q68, q52, q60] : List Nat).getD i 0)) z0) := hD.sub [0, 1, 2, 3, 4, 5, 8, 6, 7] (by decide) rfl
  refine lv_iconst (pc := 73) (v := 0) hx hb dX5_init_73 (by decide) ?_
  refine lv_istore_n (pc := 74) (lv' := [(1, .int 0), (0, .ref b)]) hx hb dX5_init_74 rfl hl (by decide) rfl (fun ls hl => ?_)
  exact B75 (fun i => ([b, 0, q12, q20, q28, q36, q44, q68, q52, q60] : List Nat).getD i 0) 64 0 z0 _ (lv_sub hl [1, 0] rfl) _ _ hP hD hS hf
set_option maxHeartbeats 4000000 in
set_option maxRecDepth 100000 in
theorem c_X1_init (Z : EnvT) (l : Launch) (b : Nat) : RW Z l yX1_init wsX1_init { frames := 1, cells := 14, slots := 84, locals := 14 } [.ref b] [(b, .inr (1, [.int 0, .null, .null, .null, .null, .null, .null, .null, .null, .null, .null, .null, .null, .null, .null]))] none (fun q => wX1 Z (ad b q) z0) 14 84 := by
  refine rw_of (cc := cX1_init) (maxL := 1) (ret := none) (by decide) rfl (Nat.le_of_ble_eq_true rfl) ?_
  intro p e s m below meth c A ls hx hb hr hml hts hown hlk hin hP hK hE hD hA hS hl
  have hown : s.vm.findClass RX1 = some m.cls := hown
  have hl : lv_has ls 1 [(0, .ref b)] := hl
  have w0 := hts (.methodLink RX1 3 objectInit) (by decide +kernel)
  have w1 := hts (.instanceMethod objectInit) (by decide +kernel)
  have w2 := hts (.code objectInit ⟨#[0xb1]⟩ 1 none) (by decide +kernel)
  have w3 := hts (.fieldLink RX1 9 "HeatTrain$Controllers" "made" "I") (by decide +kernel)
  have w4 := hts (.arrayClass .boolean) (by decide +kernel)
  have w5 := hts (.fieldLink RX1 15 "HeatTrain$Controllers" "measuring" "[Z") (by decide +kernel)
  have w6 := hts (.arrayClass .int) (by decide +kernel)
  have w7 := hts (.fieldLink RX1 19 "HeatTrain$Controllers" "stream" "[I") (by decide +kernel)
  have w8 := hts (.fieldLink RX1 23 "HeatTrain$Controllers" "factor" "[I") (by decide +kernel)
  have w9 := hts (.fieldLink RX1 26 "HeatTrain$Controllers" "base" "[I") (by decide +kernel)
  have w10 := hts (.fieldLink RX1 29 "HeatTrain$Controllers" "driven" "[I") (by decide +kernel)
  have w11 := hts (.fieldLink RX1 32 "HeatTrain$Controllers" "feedStream" "[I") (by decide +kernel)
  have w12 := hts (.fieldLink RX1 35 "HeatTrain$Controllers" "feedHundredths" "[I") (by decide +kernel)
  have w13 := hts (.fieldLink RX1 38 "HeatTrain$Controllers" "limit" "[I") (by decide +kernel)
  have w14 := hts (.fieldLink RX1 41 "HeatTrain$Controllers" "over" "[Z") (by decide +kernel)
  have w15 := hts (.arrayClass .long) (by decide +kernel)
  have w16 := hts (.fieldLink RX1 44 "HeatTrain$Controllers" "goal" "[J") (by decide +kernel)
  have w17 := hts (.fieldLink RX1 48 "HeatTrain$Controllers" "sum" "[J") (by decide +kernel)
  have w18 := hts (.fieldLink RX1 51 "HeatTrain$Controllers" "fed" "[J") (by decide +kernel)
  have w19 := hts (.fieldLink RX1 54 "HeatTrain$Controllers" "output" "[J") (by decide +kernel)
  have w20 := hts (.fieldLink RX1 57 "HeatTrain$Controllers" "error" "[J") (by decide +kernel)
  have uu : ∀ w ∈ wsX10, w ∈ wsX1_init := by decide +kernel
  refine lv_aload_n (pc := 0) hx hb dX1_init_0 rfl (lv_at hl 0 rfl) ?_
  refine W.objInit hx hb hown w0 w1 w2 rfl (by rw [hml]; exact hl.1) rfl dX1_init_1 (Nat.le_of_ble_eq_true rfl) (Nat.le_of_ble_eq_true rfl) ?_
  refine W.eq (g2 := F0 m 4 ls []) rfl ?_
  refine lv_aload_n (pc := 4) hx hb dX1_init_4 rfl (lv_at hl 0 rfl) ?_
  refine lv_iconst (pc := 5) (v := 0) hx hb dX1_init_5 (by decide) ?_
  refine va_put (pc := 6) (D := Z.1) (ci := 1) (v := .int 0) (ty := .int) (C := RX1) (T := TX1) (N := 15) hx hb hts uu tyX1 tyX1_ok nmX1 hown hK hP hD hS 0 rfl rfl 0 (by decide) w3 (fun _ h9 => h9) rfl (by decide +kernel) rfl rfl (Nat.le_of_ble_eq_true rfl) dX1_init_6 (fun H locs hP hD hS => ?_)
  have hP : va_P Z.1 vwCl ([(b, .inr (1, [.int 0, .null, .null, .null, .null, .null, .null, .null, .null, .null, .null, .null, .null, .null, .null]))]) H := hP
  have hD : va_D A ([(b, .inr (1, [.int 0, .null, .null, .null, .null, .null, .null, .null, .null, .null, .null, .null, .null, .null, .null]))]) := hD
  refine lv_aload_n (pc := 9) hx hb dX1_init_9 rfl (lv_at hl 0 rfl) ?_
  refine lv_bipush (pc := 10) (v := 6) hx hb dX1_init_10 (by decide) ?_
  refine nwZ (pc := 12) (N := 6) hx hb w4 hK hP hD hS hA (by decide) (by decide) (Nat.le_of_ble_eq_true rfl) (Nat.le_of_ble_eq_true rfl) (Nat.le_of_ble_eq_true rfl) dX1_init_12 (fun q12 H hP hD hS => ?_)
  have hP : va_P Z.1 vwCl ([(b, .inr (1, [.int 0, .null, .null, .null, .null, .null, .null, .null, .null, .null, .null, .null, .null, .null, .null])), (q12, .inl (Z.2.1 2, 6, .inl (fun _ => 0)))]) H := hP
  have hD : va_D A ([(b, .inr (1, [.int 0, .null, .null, .null, .null, .null, .null, .null, .null, .null, .null, .null, .null, .null, .null])), (q12, .inl (Z.2.1 2, 6, .inl (fun _ => 0)))]) := hD
  refine va_putF (pc := 14) (D := Z.1) (ci := 1) (v := .ref q12) (ty := .array .boolean) (C := RX1) (T := TX1) (N := 15) hx hb hts uu tyX1 tyX1_ok nmX1 hown hK hP hD hS 0 rfl rfl 1 (by decide) w5 (fun _ h9 => h9) rfl (hin rfl) rfl (by decide +kernel) rfl rfl (Nat.le_of_ble_eq_true rfl) dX1_init_14 (fun H locs hP hD hS => ?_)
  have hP : va_P Z.1 vwCl ([(b, .inr (1, [.int 0, .ref q12, .null, .null, .null, .null, .null, .null, .null, .null, .null, .null, .null, .null, .null])), (q12, .inl (Z.2.1 2, 6, .inl (fun _ => 0)))]) H := hP
  have hD : va_D A ([(b, .inr (1, [.int 0, .ref q12, .null, .null, .null, .null, .null, .null, .null, .null, .null, .null, .null, .null, .null])), (q12, .inl (Z.2.1 2, 6, .inl (fun _ => 0)))]) := hD
  refine lv_aload_n (pc := 17) hx hb dX1_init_17 rfl (lv_at hl 0 rfl) ?_
  refine lv_bipush (pc := 18) (v := 6) hx hb dX1_init_18 (by decide) ?_
  refine nwI (pc := 20) (N := 6) hx hb w6 hK hP hD hS hA (by decide) (by decide) (Nat.le_of_ble_eq_true rfl) (Nat.le_of_ble_eq_true rfl) (Nat.le_of_ble_eq_true rfl) dX1_init_20 (fun q20 H hP hD hS => ?_)
  have hP : va_P Z.1 vwCl ([(b, .inr (1, [.int 0, .ref q12, .null, .null, .null, .null, .null, .null, .null, .null, .null, .null, .null, .null, .null])), (q12, .inl (Z.2.1 2, 6, .inl (fun _ => 0))), (q20, .inl (Z.2.1 0, 6, .inl (fun _ => 0)))]) H := hP
  have hD : va_D A ([(b, .inr (1, [.int 0, .ref q12, .null, .null, .null, .null, .null, .null, .null, .null, .null, .null, .null, .null, .null])), (q12, .inl (Z.2.1 2, 6, .inl (fun _ => 0))), (q20, .inl (Z.2.1 0, 6, .inl (fun _ => 0)))]) := hD
  refine va_putF (pc := 22) (D := Z.1) (ci := 1) (v := .ref q20) (ty := .array .int) (C := RX1) (T := TX1) (N := 15) hx hb hts uu tyX1 tyX1_ok nmX1 hown hK hP hD hS 0 rfl rfl 2 (by decide) w7 (fun _ h9 => h9) rfl (hin rfl) rfl (by decide +kernel) rfl rfl (Nat.le_of_ble_eq_true rfl) dX1_init_22 (fun H locs hP hD hS => ?_)
  have hP : va_P Z.1 vwCl ([(b, .inr (1, [.int 0, .ref q12, .ref q20, .null, .null, .null, .null, .null, .null, .null, .null, .null, .null, .null, .null])), (q12, .inl (Z.2.1 2, 6, .inl (fun _ => 0))), (q20, .inl (Z.2.1 0, 6, .inl (fun _ => 0)))]) H := hP
  have hD : va_D A ([(b, .inr (1, [.int 0, .ref q12, .ref q20, .null, .null, .null, .null, .null, .null, .null, .null, .null, .null, .null, .null])), (q12, .inl (Z.2.1 2, 6, .inl (fun _ => 0))), (q20, .inl (Z.2.1 0, 6, .inl (fun _ => 0)))]) := hD
  refine lv_aload_n (pc := 25) hx hb dX1_init_25 rfl (lv_at hl 0 rfl) ?_
  refine lv_bipush (pc := 26) (v := 6) hx hb dX1_init_26 (by decide) ?_
  refine nwI (pc := 28) (N := 6) hx hb w6 hK hP hD hS hA (by decide) (by decide) (Nat.le_of_ble_eq_true rfl) (Nat.le_of_ble_eq_true rfl) (Nat.le_of_ble_eq_true rfl) dX1_init_28 (fun q28 H hP hD hS => ?_)
  have hP : va_P Z.1 vwCl ([(b, .inr (1, [.int 0, .ref q12, .ref q20, .null, .null, .null, .null, .null, .null, .null, .null, .null, .null, .null, .null])), (q12, .inl (Z.2.1 2, 6, .inl (fun _ => 0))), (q20, .inl (Z.2.1 0, 6, .inl (fun _ => 0))), (q28, .inl (Z.2.1 0, 6, .inl (fun _ => 0)))]) H := hP
  have hD : va_D A ([(b, .inr (1, [.int 0, .ref q12, .ref q20, .null, .null, .null, .null, .null, .null, .null, .null, .null, .null, .null, .null])), (q12, .inl (Z.2.1 2, 6, .inl (fun _ => 0))), (q20, .inl (Z.2.1 0, 6, .inl (fun _ => 0))), (q28, .inl (Z.2.1 0, 6, .inl (fun _ => 0)))]) := hD
  refine va_putF (pc := 30) (D := Z.1) (ci := 1) (v := .ref q28) (ty := .array .int) (C := RX1) (T := TX1) (N := 15) hx hb hts uu tyX1 tyX1_ok nmX1 hown hK hP hD hS 0 rfl rfl 3 (by decide) w8 (fun _ h9 => h9) rfl (hin rfl) rfl (by decide +kernel) rfl rfl (Nat.le_of_ble_eq_true rfl) dX1_init_30 (fun H locs hP hD hS => ?_)
  have hP : va_P Z.1 vwCl ([(b, .inr (1, [.int 0, .ref q12, .ref q20, .ref q28, .null, .null, .null, .null, .null, .null, .null, .null, .null, .null, .null])), (q12, .inl (Z.2.1 2, 6, .inl (fun _ => 0))), (q20, .inl (Z.2.1 0, 6, .inl (fun _ => 0))), (q28, .inl (Z.2.1 0, 6, .inl (fun _ => 0)))]) H := hP
  have hD : va_D A ([(b, .inr (1, [.int 0, .ref q12, .ref q20, .ref q28, .null, .null, .null, .null, .null, .null, .null, .null, .null, .null, .null])), (q12, .inl (Z.2.1 2, 6, .inl (fun _ => 0))), (q20, .inl (Z.2.1 0, 6, .inl (fun _ => 0))), (q28, .inl (Z.2.1 0, 6, .inl (fun _ => 0)))]) := hD
  refine lv_aload_n (pc := 33) hx hb dX1_init_33 rfl (lv_at hl 0 rfl) ?_
  refine lv_bipush (pc := 34) (v := 6) hx hb dX1_init_34 (by decide) ?_
  refine nwI (pc := 36) (N := 6) hx hb w6 hK hP hD hS hA (by decide) (by decide) (Nat.le_of_ble_eq_true rfl) (Nat.le_of_ble_eq_true rfl) (Nat.le_of_ble_eq_true rfl) dX1_init_36 (fun q36 H hP hD hS => ?_)
  have hP : va_P Z.1 vwCl ([(b, .inr (1, [.int 0, .ref q12, .ref q20, .ref q28, .null, .null, .null, .null, .null, .null, .null, .null, .null, .null, .null])), (q12, .inl (Z.2.1 2, 6, .inl (fun _ => 0))), (q20, .inl (Z.2.1 0, 6, .inl (fun _ => 0))), (q28, .inl (Z.2.1 0, 6, .inl (fun _ => 0))), (q36, .inl (Z.2.1 0, 6, .inl (fun _ => 0)))]) H := hP
  have hD : va_D A ([(b, .inr (1, [.int 0, .ref q12, .ref q20, .ref q28, .null, .null, .null, .null, .null, .null, .null, .null, .null, .null, .null])), (q12, .inl (Z.2.1 2, 6, .inl (fun _ => 0))), (q20, .inl (Z.2.1 0, 6, .inl (fun _ => 0))), (q28, .inl (Z.2.1 0, 6, .inl (fun _ => 0))), (q36, .inl (Z.2.1 0, 6, .inl (fun _ => 0)))]) := hD
  refine va_putF (pc := 38) (D := Z.1) (ci := 1) (v := .ref q36) (ty := .array .int) (C := RX1) (T := TX1) (N := 15) hx hb hts uu tyX1 tyX1_ok nmX1 hown hK hP hD hS 0 rfl rfl 4 (by decide) w9 (fun _ h9 => h9) rfl (hin rfl) rfl (by decide +kernel) rfl rfl (Nat.le_of_ble_eq_true rfl) dX1_init_38 (fun H locs hP hD hS => ?_)
  have hP : va_P Z.1 vwCl ([(b, .inr (1, [.int 0, .ref q12, .ref q20, .ref q28, .ref q36, .null, .null, .null, .null, .null, .null, .null, .null, .null, .null])), (q12, .inl (Z.2.1 2, 6, .inl (fun _ => 0))), (q20, .inl (Z.2.1 0, 6, .inl (fun _ => 0))), (q28, .inl (Z.2.1 0, 6, .inl (fun _ => 0))), (q36, .inl (Z.2.1 0, 6, .inl (fun _ => 0)))]) H := hP
  have hD : va_D A ([(b, .inr (1, [.int 0, .ref q12, .ref q20, .ref q28, .ref q36, .null, .null, .null, .null, .null, .null, .null, .null, .null, .null])), (q12, .inl (Z.2.1 2, 6, .inl (fun _ => 0))), (q20, .inl (Z.2.1 0, 6, .inl (fun _ => 0))), (q28, .inl (Z.2.1 0, 6, .inl (fun _ => 0))), (q36, .inl (Z.2.1 0, 6, .inl (fun _ => 0)))]) := hD
  refine lv_aload_n (pc := 41) hx hb dX1_init_41 rfl (lv_at hl 0 rfl) ?_
  refine lv_bipush (pc := 42) (v := 6) hx hb dX1_init_42 (by decide) ?_
  refine nwI (pc := 44) (N := 6) hx hb w6 hK hP hD hS hA (by decide) (by decide) (Nat.le_of_ble_eq_true rfl) (Nat.le_of_ble_eq_true rfl) (Nat.le_of_ble_eq_true rfl) dX1_init_44 (fun q44 H hP hD hS => ?_)
  have hP : va_P Z.1 vwCl ([(b, .inr (1, [.int 0, .ref q12, .ref q20, .ref q28, .ref q36, .null, .null, .null, .null, .null, .null, .null, .null, .null, .null])), (q12, .inl (Z.2.1 2, 6, .inl (fun _ => 0))), (q20, .inl (Z.2.1 0, 6, .inl (fun _ => 0))), (q28, .inl (Z.2.1 0, 6, .inl (fun _ => 0))), (q36, .inl (Z.2.1 0, 6, .inl (fun _ => 0))), (q44, .inl (Z.2.1 0, 6, .inl (fun _ => 0)))]) H := hP
  have hD : va_D A ([(b, .inr (1, [.int 0, .ref q12, .ref q20, .ref q28, .ref q36, .null, .null, .null, .null, .null, .null, .null, .null, .null, .null])), (q12, .inl (Z.2.1 2, 6, .inl (fun _ => 0))), (q20, .inl (Z.2.1 0, 6, .inl (fun _ => 0))), (q28, .inl (Z.2.1 0, 6, .inl (fun _ => 0))), (q36, .inl (Z.2.1 0, 6, .inl (fun _ => 0))), (q44, .inl (Z.2.1 0, 6, .inl (fun _ => 0)))]) := hD
  refine va_putF (pc := 46) (D := Z.1) (ci := 1) (v := .ref q44) (ty := .array .int) (C := RX1) (T := TX1) (N := 15) hx hb hts uu tyX1 tyX1_ok nmX1 hown hK hP hD hS 0 rfl rfl 5 (by decide) w10 (fun _ h9 => h9) rfl (hin rfl) rfl (by decide +kernel) rfl rfl (Nat.le_of_ble_eq_true rfl) dX1_init_46 (fun H locs hP hD hS => ?_)
  have hP : va_P Z.1 vwCl ([(b, .inr (1, [.int 0, .ref q12, .ref q20, .ref q28, .ref q36, .ref q44, .null, .null, .null, .null, .null, .null, .null, .null, .null])), (q12, .inl (Z.2.1 2, 6, .inl (fun _ => 0))), (q20, .inl (Z.2.1 0, 6, .inl (fun _ => 0))), (q28, .inl (Z.2.1 0, 6, .inl (fun _ => 0))), (q36, .inl (Z.2.1 0, 6, .inl (fun _ => 0))), (q44, .inl (Z.2.1 0, 6, .inl (fun _ => 0)))]) H := hP
  have hD : va_D A ([(b, .inr (1, [.int 0, .ref q12, .ref q20, .ref q28, .ref q36, .ref q44, .null, .null, .null, .null, .null, .null, .null, .null, .null])), (q12, .inl (Z.2.1 2, 6, .inl (fun _ => 0))), (q20, .inl (Z.2.1 0, 6, .inl (fun _ => 0))), (q28, .inl (Z.2.1 0, 6, .inl (fun _ => 0))), (q36, .inl (Z.2.1 0, 6, .inl (fun _ => 0))), (q44, .inl (Z.2.1 0, 6, .inl (fun _ => 0)))]) := hD
  refine lv_aload_n (pc := 49) hx hb dX1_init_49 rfl (lv_at hl 0 rfl) ?_
  refine lv_bipush (pc := 50) (v := 6) hx hb dX1_init_50 (by decide) ?_
  refine nwI (pc := 52) (N := 6) hx hb w6 hK hP hD hS hA (by decide) (by decide) (Nat.le_of_ble_eq_true rfl) (Nat.le_of_ble_eq_true rfl) (Nat.le_of_ble_eq_true rfl) dX1_init_52 (fun q52 H hP hD hS => ?_)
  have hP : va_P Z.1 vwCl ([(b, .inr (1, [.int 0, .ref q12, .ref q20, .ref q28, .ref q36, .ref q44, .null, .null, .null, .null, .null, .null, .null, .null, .null])), (q12, .inl (Z.2.1 2, 6, .inl (fun _ => 0))), (q20, .inl (Z.2.1 0, 6, .inl (fun _ => 0))), (q28, .inl (Z.2.1 0, 6, .inl (fun _ => 0))), (q36, .inl (Z.2.1 0, 6, .inl (fun _ => 0))), (q44, .inl (Z.2.1 0, 6, .inl (fun _ => 0))), (q52, .inl (Z.2.1 0, 6, .inl (fun _ => 0)))]) H := hP
  have hD : va_D A ([(b, .inr (1, [.int 0, .ref q12, .ref q20, .ref q28, .ref q36, .ref q44, .null, .null, .null, .null, .null, .null, .null, .null, .null])), (q12, .inl (Z.2.1 2, 6, .inl (fun _ => 0))), (q20, .inl (Z.2.1 0, 6, .inl (fun _ => 0))), (q28, .inl (Z.2.1 0, 6, .inl (fun _ => 0))), (q36, .inl (Z.2.1 0, 6, .inl (fun _ => 0))), (q44, .inl (Z.2.1 0, 6, .inl (fun _ => 0))), (q52, .inl (Z.2.1 0, 6, .inl (fun _ => 0)))]) := hD
  refine va_putF (pc := 54) (D := Z.1) (ci := 1) (v := .ref q52) (ty := .array .int) (C := RX1) (T := TX1) (N := 15) hx hb hts uu tyX1 tyX1_ok nmX1 hown hK hP hD hS 0 rfl rfl 6 (by decide) w11 (fun _ h9 => h9) rfl (hin rfl) rfl (by decide +kernel) rfl rfl (Nat.le_of_ble_eq_true rfl) dX1_init_54 (fun H locs hP hD hS => ?_)
  have hP : va_P Z.1 vwCl ([(b, .inr (1, [.int 0, .ref q12, .ref q20, .ref q28, .ref q36, .ref q44, .ref q52, .null, .null, .null, .null, .null, .null, .null, .null])), (q12, .inl (Z.2.1 2, 6, .inl (fun _ => 0))), (q20, .inl (Z.2.1 0, 6, .inl (fun _ => 0))), (q28, .inl (Z.2.1 0, 6, .inl (fun _ => 0))), (q36, .inl (Z.2.1 0, 6, .inl (fun _ => 0))), (q44, .inl (Z.2.1 0, 6, .inl (fun _ => 0))), (q52, .inl (Z.2.1 0, 6, .inl (fun _ => 0)))]) H := hP
  have hD : va_D A ([(b, .inr (1, [.int 0, .ref q12, .ref q20, .ref q28, .ref q36, .ref q44, .ref q52, .null, .null, .null, .null, .null, .null, .null, .null])), (q12, .inl (Z.2.1 2, 6, .inl (fun _ => 0))), (q20, .inl (Z.2.1 0, 6, .inl (fun _ => 0))), (q28, .inl (Z.2.1 0, 6, .inl (fun _ => 0))), (q36, .inl (Z.2.1 0, 6, .inl (fun _ => 0))), (q44, .inl (Z.2.1 0, 6, .inl (fun _ => 0))), (q52, .inl (Z.2.1 0, 6, .inl (fun _ => 0)))]) := hD
  refine lv_aload_n (pc := 57) hx hb dX1_init_57 rfl (lv_at hl 0 rfl) ?_
  refine lv_bipush (pc := 58) (v := 6) hx hb dX1_init_58 (by decide) ?_
  refine nwI (pc := 60) (N := 6) hx hb w6 hK hP hD hS hA (by decide) (by decide) (Nat.le_of_ble_eq_true rfl) (Nat.le_of_ble_eq_true rfl) (Nat.le_of_ble_eq_true rfl) dX1_init_60 (fun q60 H hP hD hS => ?_)
  have hP : va_P Z.1 vwCl ([(b, .inr (1, [.int 0, .ref q12, .ref q20, .ref q28, .ref q36, .ref q44, .ref q52, .null, .null, .null, .null, .null, .null, .null, .null])), (q12, .inl (Z.2.1 2, 6, .inl (fun _ => 0))), (q20, .inl (Z.2.1 0, 6, .inl (fun _ => 0))), (q28, .inl (Z.2.1 0, 6, .inl (fun _ => 0))), (q36, .inl (Z.2.1 0, 6, .inl (fun _ => 0))), (q44, .inl (Z.2.1 0, 6, .inl (fun _ => 0))), (q52, .inl (Z.2.1 0, 6, .inl (fun _ => 0))), (q60, .inl (Z.2.1 0, 6, .inl (fun _ => 0)))]) H := hP
  have hD : va_D A ([(b, .inr (1, [.int 0, .ref q12, .ref q20, .ref q28, .ref q36, .ref q44, .ref q52, .null, .null, .null, .null, .null, .null, .null, .null])), (q12, .inl (Z.2.1 2, 6, .inl (fun _ => 0))), (q20, .inl (Z.2.1 0, 6, .inl (fun _ => 0))), (q28, .inl (Z.2.1 0, 6, .inl (fun _ => 0))), (q36, .inl (Z.2.1 0, 6, .inl (fun _ => 0))), (q44, .inl (Z.2.1 0, 6, .inl (fun _ => 0))), (q52, .inl (Z.2.1 0, 6, .inl (fun _ => 0))), (q60, .inl (Z.2.1 0, 6, .inl (fun _ => 0)))]) := hD
  refine va_putF (pc := 62) (D := Z.1) (ci := 1) (v := .ref q60) (ty := .array .int) (C := RX1) (T := TX1) (N := 15) hx hb hts uu tyX1 tyX1_ok nmX1 hown hK hP hD hS 0 rfl rfl 7 (by decide) w12 (fun _ h9 => h9) rfl (hin rfl) rfl (by decide +kernel) rfl rfl (Nat.le_of_ble_eq_true rfl) dX1_init_62 (fun H locs hP hD hS => ?_)
  have hP : va_P Z.1 vwCl ([(b, .inr (1, [.int 0, .ref q12, .ref q20, .ref q28, .ref q36, .ref q44, .ref q52, .ref q60, .null, .null, .null, .null, .null, .null, .null])), (q12, .inl (Z.2.1 2, 6, .inl (fun _ => 0))), (q20, .inl (Z.2.1 0, 6, .inl (fun _ => 0))), (q28, .inl (Z.2.1 0, 6, .inl (fun _ => 0))), (q36, .inl (Z.2.1 0, 6, .inl (fun _ => 0))), (q44, .inl (Z.2.1 0, 6, .inl (fun _ => 0))), (q52, .inl (Z.2.1 0, 6, .inl (fun _ => 0))), (q60, .inl (Z.2.1 0, 6, .inl (fun _ => 0)))]) H := hP
  have hD : va_D A ([(b, .inr (1, [.int 0, .ref q12, .ref q20, .ref q28, .ref q36, .ref q44, .ref q52, .ref q60, .null, .null, .null, .null, .null, .null, .null])), (q12, .inl (Z.2.1 2, 6, .inl (fun _ => 0))), (q20, .inl (Z.2.1 0, 6, .inl (fun _ => 0))), (q28, .inl (Z.2.1 0, 6, .inl (fun _ => 0))), (q36, .inl (Z.2.1 0, 6, .inl (fun _ => 0))), (q44, .inl (Z.2.1 0, 6, .inl (fun _ => 0))), (q52, .inl (Z.2.1 0, 6, .inl (fun _ => 0))), (q60, .inl (Z.2.1 0, 6, .inl (fun _ => 0)))]) := hD
  refine lv_aload_n (pc := 65) hx hb dX1_init_65 rfl (lv_at hl 0 rfl) ?_
  refine lv_bipush (pc := 66) (v := 6) hx hb dX1_init_66 (by decide) ?_
  refine nwI (pc := 68) (N := 6) hx hb w6 hK hP hD hS hA (by decide) (by decide) (Nat.le_of_ble_eq_true rfl) (Nat.le_of_ble_eq_true rfl) (Nat.le_of_ble_eq_true rfl) dX1_init_68 (fun q68 H hP hD hS => ?_)
  have hP : va_P Z.1 vwCl ([(b, .inr (1, [.int 0, .ref q12, .ref q20, .ref q28, .ref q36, .ref q44, .ref q52, .ref q60, .null, .null, .null, .null, .null, .null, .null])), (q12, .inl (Z.2.1 2, 6, .inl (fun _ => 0))), (q20, .inl (Z.2.1 0, 6, .inl (fun _ => 0))), (q28, .inl (Z.2.1 0, 6, .inl (fun _ => 0))), (q36, .inl (Z.2.1 0, 6, .inl (fun _ => 0))), (q44, .inl (Z.2.1 0, 6, .inl (fun _ => 0))), (q52, .inl (Z.2.1 0, 6, .inl (fun _ => 0))), (q60, .inl (Z.2.1 0, 6, .inl (fun _ => 0))), (q68, .inl (Z.2.1 0, 6, .inl (fun _ => 0)))]) H := hP
  have hD : va_D A ([(b, .inr (1, [.int 0, .ref q12, .ref q20, .ref q28, .ref q36, .ref q44, .ref q52, .ref q60, .null, .null, .null, .null, .null, .null, .null])), (q12, .inl (Z.2.1 2, 6, .inl (fun _ => 0))), (q20, .inl (Z.2.1 0, 6, .inl (fun _ => 0))), (q28, .inl (Z.2.1 0, 6, .inl (fun _ => 0))), (q36, .inl (Z.2.1 0, 6, .inl (fun _ => 0))), (q44, .inl (Z.2.1 0, 6, .inl (fun _ => 0))), (q52, .inl (Z.2.1 0, 6, .inl (fun _ => 0))), (q60, .inl (Z.2.1 0, 6, .inl (fun _ => 0))), (q68, .inl (Z.2.1 0, 6, .inl (fun _ => 0)))]) := hD
  refine va_putF (pc := 70) (D := Z.1) (ci := 1) (v := .ref q68) (ty := .array .int) (C := RX1) (T := TX1) (N := 15) hx hb hts uu tyX1 tyX1_ok nmX1 hown hK hP hD hS 0 rfl rfl 8 (by decide) w13 (fun _ h9 => h9) rfl (hin rfl) rfl (by decide +kernel) rfl rfl (Nat.le_of_ble_eq_true rfl) dX1_init_70 (fun H locs hP hD hS => ?_)
  have hP : va_P Z.1 vwCl ([(b, .inr (1, [.int 0, .ref q12, .ref q20, .ref q28, .ref q36, .ref q44, .ref q52, .ref q60, .ref q68, .null, .null, .null, .null, .null, .null])), (q12, .inl (Z.2.1 2, 6, .inl (fun _ => 0))), (q20, .inl (Z.2.1 0, 6, .inl (fun _ => 0))), (q28, .inl (Z.2.1 0, 6, .inl (fun _ => 0))), (q36, .inl (Z.2.1 0, 6, .inl (fun _ => 0))), (q44, .inl (Z.2.1 0, 6, .inl (fun _ => 0))), (q52, .inl (Z.2.1 0, 6, .inl (fun _ => 0))), (q60, .inl (Z.2.1 0, 6, .inl (fun _ => 0))), (q68, .inl (Z.2.1 0, 6, .inl (fun _ => 0)))]) H := hP
  have hD : va_D A ([(b, .inr (1, [.int 0, .ref q12, .ref q20, .ref q28, .ref q36, .ref q44, .ref q52, .ref q60, .ref q68, .null, .null, .null, .null, .null, .null])), (q12, .inl (Z.2.1 2, 6, .inl (fun _ => 0))), (q20, .inl (Z.2.1 0, 6, .inl (fun _ => 0))), (q28, .inl (Z.2.1 0, 6, .inl (fun _ => 0))), (q36, .inl (Z.2.1 0, 6, .inl (fun _ => 0))), (q44, .inl (Z.2.1 0, 6, .inl (fun _ => 0))), (q52, .inl (Z.2.1 0, 6, .inl (fun _ => 0))), (q60, .inl (Z.2.1 0, 6, .inl (fun _ => 0))), (q68, .inl (Z.2.1 0, 6, .inl (fun _ => 0)))]) := hD
  refine lv_aload_n (pc := 73) hx hb dX1_init_73 rfl (lv_at hl 0 rfl) ?_
  refine lv_bipush (pc := 74) (v := 6) hx hb dX1_init_74 (by decide) ?_
  refine nwZ (pc := 76) (N := 6) hx hb w4 hK hP hD hS hA (by decide) (by decide) (Nat.le_of_ble_eq_true rfl) (Nat.le_of_ble_eq_true rfl) (Nat.le_of_ble_eq_true rfl) dX1_init_76 (fun q76 H hP hD hS => ?_)
  have hP : va_P Z.1 vwCl ([(b, .inr (1, [.int 0, .ref q12, .ref q20, .ref q28, .ref q36, .ref q44, .ref q52, .ref q60, .ref q68, .null, .null, .null, .null, .null, .null])), (q12, .inl (Z.2.1 2, 6, .inl (fun _ => 0))), (q20, .inl (Z.2.1 0, 6, .inl (fun _ => 0))), (q28, .inl (Z.2.1 0, 6, .inl (fun _ => 0))), (q36, .inl (Z.2.1 0, 6, .inl (fun _ => 0))), (q44, .inl (Z.2.1 0, 6, .inl (fun _ => 0))), (q52, .inl (Z.2.1 0, 6, .inl (fun _ => 0))), (q60, .inl (Z.2.1 0, 6, .inl (fun _ => 0))), (q68, .inl (Z.2.1 0, 6, .inl (fun _ => 0))), (q76, .inl (Z.2.1 2, 6, .inl (fun _ => 0)))]) H := hP
  have hD : va_D A ([(b, .inr (1, [.int 0, .ref q12, .ref q20, .ref q28, .ref q36, .ref q44, .ref q52, .ref q60, .ref q68, .null, .null, .null, .null, .null, .null])), (q12, .inl (Z.2.1 2, 6, .inl (fun _ => 0))), (q20, .inl (Z.2.1 0, 6, .inl (fun _ => 0))), (q28, .inl (Z.2.1 0, 6, .inl (fun _ => 0))), (q36, .inl (Z.2.1 0, 6, .inl (fun _ => 0))), (q44, .inl (Z.2.1 0, 6, .inl (fun _ => 0))), (q52, .inl (Z.2.1 0, 6, .inl (fun _ => 0))), (q60, .inl (Z.2.1 0, 6, .inl (fun _ => 0))), (q68, .inl (Z.2.1 0, 6, .inl (fun _ => 0))), (q76, .inl (Z.2.1 2, 6, .inl (fun _ => 0)))]) := hD
  refine va_putF (pc := 78) (D := Z.1) (ci := 1) (v := .ref q76) (ty := .array .boolean) (C := RX1) (T := TX1) (N := 15) hx hb hts uu tyX1 tyX1_ok nmX1 hown hK hP hD hS 0 rfl rfl 9 (by decide) w14 (fun _ h9 => h9) rfl (hin rfl) rfl (by decide +kernel) rfl rfl (Nat.le_of_ble_eq_true rfl) dX1_init_78 (fun H locs hP hD hS => ?_)
  have hP : va_P Z.1 vwCl ([(b, .inr (1, [.int 0, .ref q12, .ref q20, .ref q28, .ref q36, .ref q44, .ref q52, .ref q60, .ref q68, .ref q76, .null, .null, .null, .null, .null])), (q12, .inl (Z.2.1 2, 6, .inl (fun _ => 0))), (q20, .inl (Z.2.1 0, 6, .inl (fun _ => 0))), (q28, .inl (Z.2.1 0, 6, .inl (fun _ => 0))), (q36, .inl (Z.2.1 0, 6, .inl (fun _ => 0))), (q44, .inl (Z.2.1 0, 6, .inl (fun _ => 0))), (q52, .inl (Z.2.1 0, 6, .inl (fun _ => 0))), (q60, .inl (Z.2.1 0, 6, .inl (fun _ => 0))), (q68, .inl (Z.2.1 0, 6, .inl (fun _ => 0))), (q76, .inl (Z.2.1 2, 6, .inl (fun _ => 0)))]) H := hP
  have hD : va_D A ([(b, .inr (1, [.int 0, .ref q12, .ref q20, .ref q28, .ref q36, .ref q44, .ref q52, .ref q60, .ref q68, .ref q76, .null, .null, .null, .null, .null])), (q12, .inl (Z.2.1 2, 6, .inl (fun _ => 0))), (q20, .inl (Z.2.1 0, 6, .inl (fun _ => 0))), (q28, .inl (Z.2.1 0, 6, .inl (fun _ => 0))), (q36, .inl (Z.2.1 0, 6, .inl (fun _ => 0))), (q44, .inl (Z.2.1 0, 6, .inl (fun _ => 0))), (q52, .inl (Z.2.1 0, 6, .inl (fun _ => 0))), (q60, .inl (Z.2.1 0, 6, .inl (fun _ => 0))), (q68, .inl (Z.2.1 0, 6, .inl (fun _ => 0))), (q76, .inl (Z.2.1 2, 6, .inl (fun _ => 0)))]) := hD
  refine lv_aload_n (pc := 81) hx hb dX1_init_81 rfl (lv_at hl 0 rfl) ?_
  refine lv_bipush (pc := 82) (v := 6) hx hb dX1_init_82 (by decide) ?_
  refine nwJ (pc := 84) (N := 6) hx hb w15 hK hP hD hS hA (by decide) (by decide) (Nat.le_of_ble_eq_true rfl) (Nat.le_of_ble_eq_true rfl) (Nat.le_of_ble_eq_true rfl) dX1_init_84 (fun q84 H hP hD hS => ?_)
  have hP : va_P Z.1 vwCl ([(b, .inr (1, [.int 0, .ref q12, .ref q20, .ref q28, .ref q36, .ref q44, .ref q52, .ref q60, .ref q68, .ref q76, .null, .null, .null, .null, .null])), (q12, .inl (Z.2.1 2, 6, .inl (fun _ => 0))), (q20, .inl (Z.2.1 0, 6, .inl (fun _ => 0))), (q28, .inl (Z.2.1 0, 6, .inl (fun _ => 0))), (q36, .inl (Z.2.1 0, 6, .inl (fun _ => 0))), (q44, .inl (Z.2.1 0, 6, .inl (fun _ => 0))), (q52, .inl (Z.2.1 0, 6, .inl (fun _ => 0))), (q60, .inl (Z.2.1 0, 6, .inl (fun _ => 0))), (q68, .inl (Z.2.1 0, 6, .inl (fun _ => 0))), (q76, .inl (Z.2.1 2, 6, .inl (fun _ => 0))), (q84, .inl (Z.2.1 1, 6, .inr (.inl (fun _ => 0))))]) H := hP
  have hD : va_D A ([(b, .inr (1, [.int 0, .ref q12, .ref q20, .ref q28, .ref q36, .ref q44, .ref q52, .ref q60, .ref q68, .ref q76, .null, .null, .null, .null, .null])), (q12, .inl (Z.2.1 2, 6, .inl (fun _ => 0))), (q20, .inl (Z.2.1 0, 6, .inl (fun _ => 0))), (q28, .inl (Z.2.1 0, 6, .inl (fun _ => 0))), (q36, .inl (Z.2.1 0, 6, .inl (fun _ => 0))), (q44, .inl (Z.2.1 0, 6, .inl (fun _ => 0))), (q52, .inl (Z.2.1 0, 6, .inl (fun _ => 0))), (q60, .inl (Z.2.1 0, 6, .inl (fun _ => 0))), (q68, .inl (Z.2.1 0, 6, .inl (fun _ => 0))), (q76, .inl (Z.2.1 2, 6, .inl (fun _ => 0))), (q84, .inl (Z.2.1 1, 6, .inr (.inl (fun _ => 0))))]) := hD
  refine va_putF (pc := 86) (D := Z.1) (ci := 1) (v := .ref q84) (ty := .array .long) (C := RX1) (T := TX1) (N := 15) hx hb hts uu tyX1 tyX1_ok nmX1 hown hK hP hD hS 0 rfl rfl 10 (by decide) w16 (fun _ h9 => h9) rfl (hin rfl) rfl (by decide +kernel) rfl rfl (Nat.le_of_ble_eq_true rfl) dX1_init_86 (fun H locs hP hD hS => ?_)
  have hP : va_P Z.1 vwCl ([(b, .inr (1, [.int 0, .ref q12, .ref q20, .ref q28, .ref q36, .ref q44, .ref q52, .ref q60, .ref q68, .ref q76, .ref q84, .null, .null, .null, .null])), (q12, .inl (Z.2.1 2, 6, .inl (fun _ => 0))), (q20, .inl (Z.2.1 0, 6, .inl (fun _ => 0))), (q28, .inl (Z.2.1 0, 6, .inl (fun _ => 0))), (q36, .inl (Z.2.1 0, 6, .inl (fun _ => 0))), (q44, .inl (Z.2.1 0, 6, .inl (fun _ => 0))), (q52, .inl (Z.2.1 0, 6, .inl (fun _ => 0))), (q60, .inl (Z.2.1 0, 6, .inl (fun _ => 0))), (q68, .inl (Z.2.1 0, 6, .inl (fun _ => 0))), (q76, .inl (Z.2.1 2, 6, .inl (fun _ => 0))), (q84, .inl (Z.2.1 1, 6, .inr (.inl (fun _ => 0))))]) H := hP
  have hD : va_D A ([(b, .inr (1, [.int 0, .ref q12, .ref q20, .ref q28, .ref q36, .ref q44, .ref q52, .ref q60, .ref q68, .ref q76, .ref q84, .null, .null, .null, .null])), (q12, .inl (Z.2.1 2, 6, .inl (fun _ => 0))), (q20, .inl (Z.2.1 0, 6, .inl (fun _ => 0))), (q28, .inl (Z.2.1 0, 6, .inl (fun _ => 0))), (q36, .inl (Z.2.1 0, 6, .inl (fun _ => 0))), (q44, .inl (Z.2.1 0, 6, .inl (fun _ => 0))), (q52, .inl (Z.2.1 0, 6, .inl (fun _ => 0))), (q60, .inl (Z.2.1 0, 6, .inl (fun _ => 0))), (q68, .inl (Z.2.1 0, 6, .inl (fun _ => 0))), (q76, .inl (Z.2.1 2, 6, .inl (fun _ => 0))), (q84, .inl (Z.2.1 1, 6, .inr (.inl (fun _ => 0))))]) := hD
  refine lv_aload_n (pc := 89) hx hb dX1_init_89 rfl (lv_at hl 0 rfl) ?_
  refine lv_bipush (pc := 90) (v := 6) hx hb dX1_init_90 (by decide) ?_
  refine nwJ (pc := 92) (N := 6) hx hb w15 hK hP hD hS hA (by decide) (by decide) (Nat.le_of_ble_eq_true rfl) (Nat.le_of_ble_eq_true rfl) (Nat.le_of_ble_eq_true rfl) dX1_init_92 (fun q92 H hP hD hS => ?_)
  have hP : va_P Z.1 vwCl ([(b, .inr (1, [.int 0, .ref q12, .ref q20, .ref q28, .ref q36, .ref q44, .ref q52, .ref q60, .ref q68, .ref q76, .ref q84, .null, .null, .null, .null])), (q12, .inl (Z.2.1 2, 6, .inl (fun _ => 0))), (q20, .inl (Z.2.1 0, 6, .inl (fun _ => 0))), (q28, .inl (Z.2.1 0, 6, .inl (fun _ => 0))), (q36, .inl (Z.2.1 0, 6, .inl (fun _ => 0))), (q44, .inl (Z.2.1 0, 6, .inl (fun _ => 0))), (q52, .inl (Z.2.1 0, 6, .inl (fun _ => 0))), (q60, .inl (Z.2.1 0, 6, .inl (fun _ => 0))), (q68, .inl (Z.2.1 0, 6, .inl (fun _ => 0))), (q76, .inl (Z.2.1 2, 6, .inl (fun _ => 0))), (q84, .inl (Z.2.1 1, 6, .inr (.inl (fun _ => 0)))), (q92, .inl (Z.2.1 1, 6, .inr (.inl (fun _ => 0))))]) H := hP
  have hD : va_D A ([(b, .inr (1, [.int 0, .ref q12, .ref q20, .ref q28, .ref q36, .ref q44, .ref q52, .ref q60, .ref q68, .ref q76, .ref q84, .null, .null, .null, .null])), (q12, .inl (Z.2.1 2, 6, .inl (fun _ => 0))), (q20, .inl (Z.2.1 0, 6, .inl (fun _ => 0))), (q28, .inl (Z.2.1 0, 6, .inl (fun _ => 0))), (q36, .inl (Z.2.1 0, 6, .inl (fun _ => 0))), (q44, .inl (Z.2.1 0, 6, .inl (fun _ => 0))), (q52, .inl (Z.2.1 0, 6, .inl (fun _ => 0))), (q60, .inl (Z.2.1 0, 6, .inl (fun _ => 0))), (q68, .inl (Z.2.1 0, 6, .inl (fun _ => 0))), (q76, .inl (Z.2.1 2, 6, .inl (fun _ => 0))), (q84, .inl (Z.2.1 1, 6, .inr (.inl (fun _ => 0)))), (q92, .inl (Z.2.1 1, 6, .inr (.inl (fun _ => 0))))]) := hD
  refine va_putF (pc := 94) (D := Z.1) (ci := 1) (v := .ref q92) (ty := .array .long) (C := RX1) (T := TX1) (N := 15) hx hb hts uu tyX1 tyX1_ok nmX1 hown hK hP hD hS 0 rfl rfl 11 (by decide) w17 (fun _ h9 => h9) rfl (hin rfl) rfl (by decide +kernel) rfl rfl (Nat.le_of_ble_eq_true rfl) dX1_init_94 (fun H locs hP hD hS => ?_)
  have hP : va_P Z.1 vwCl ([(b, .inr (1, [.int 0, .ref q12, .ref q20, .ref q28, .ref q36, .ref q44, .ref q52, .ref q60, .ref q68, .ref q76, .ref q84, .ref q92, .null, .null, .null])), (q12, .inl (Z.2.1 2, 6, .inl (fun _ => 0))), (q20, .inl (Z.2.1 0, 6, .inl (fun _ => 0))), (q28, .inl (Z.2.1 0, 6, .inl (fun _ => 0))), (q36, .inl (Z.2.1 0, 6, .inl (fun _ => 0))), (q44, .inl (Z.2.1 0, 6, .inl (fun _ => 0))), (q52, .inl (Z.2.1 0, 6, .inl (fun _ => 0))), (q60, .inl (Z.2.1 0, 6, .inl (fun _ => 0))), (q68, .inl (Z.2.1 0, 6, .inl (fun _ => 0))), (q76, .inl (Z.2.1 2, 6, .inl (fun _ => 0))), (q84, .inl (Z.2.1 1, 6, .inr (.inl (fun _ => 0)))), (q92, .inl (Z.2.1 1, 6, .inr (.inl (fun _ => 0))))]) H := hP
  have hD : va_D A ([(b, .inr (1, [.int 0, .ref q12, .ref q20, .ref q28, .ref q36, .ref q44, .ref q52, .ref q60, .ref q68, .ref q76, .ref q84, .ref q92, .null, .null, .null])), (q12, .inl (Z.2.1 2, 6, .inl (fun _ => 0))), (q20, .inl (Z.2.1 0, 6, .inl (fun _ => 0))), (q28, .inl (Z.2.1 0, 6, .inl (fun _ => 0))), (q36, .inl (Z.2.1 0, 6, .inl (fun _ => 0))), (q44, .inl (Z.2.1 0, 6, .inl (fun _ => 0))), (q52, .inl (Z.2.1 0, 6, .inl (fun _ => 0))), (q60, .inl (Z.2.1 0, 6, .inl (fun _ => 0))), (q68, .inl (Z.2.1 0, 6, .inl (fun _ => 0))), (q76, .inl (Z.2.1 2, 6, .inl (fun _ => 0))), (q84, .inl (Z.2.1 1, 6, .inr (.inl (fun _ => 0)))), (q92, .inl (Z.2.1 1, 6, .inr (.inl (fun _ => 0))))]) := hD
  refine lv_aload_n (pc := 97) hx hb dX1_init_97 rfl (lv_at hl 0 rfl) ?_
  refine lv_bipush (pc := 98) (v := 6) hx hb dX1_init_98 (by decide) ?_
  refine nwJ (pc := 100) (N := 6) hx hb w15 hK hP hD hS hA (by decide) (by decide) (Nat.le_of_ble_eq_true rfl) (Nat.le_of_ble_eq_true rfl) (Nat.le_of_ble_eq_true rfl) dX1_init_100 (fun q100 H hP hD hS => ?_)
  have hP : va_P Z.1 vwCl ([(b, .inr (1, [.int 0, .ref q12, .ref q20, .ref q28, .ref q36, .ref q44, .ref q52, .ref q60, .ref q68, .ref q76, .ref q84, .ref q92, .null, .null, .null])), (q12, .inl (Z.2.1 2, 6, .inl (fun _ => 0))), (q20, .inl (Z.2.1 0, 6, .inl (fun _ => 0))), (q28, .inl (Z.2.1 0, 6, .inl (fun _ => 0))), (q36, .inl (Z.2.1 0, 6, .inl (fun _ => 0))), (q44, .inl (Z.2.1 0, 6, .inl (fun _ => 0))), (q52, .inl (Z.2.1 0, 6, .inl (fun _ => 0))), (q60, .inl (Z.2.1 0, 6, .inl (fun _ => 0))), (q68, .inl (Z.2.1 0, 6, .inl (fun _ => 0))), (q76, .inl (Z.2.1 2, 6, .inl (fun _ => 0))), (q84, .inl (Z.2.1 1, 6, .inr (.inl (fun _ => 0)))), (q92, .inl (Z.2.1 1, 6, .inr (.inl (fun _ => 0)))), (q100, .inl (Z.2.1 1, 6, .inr (.inl (fun _ => 0))))]) H := hP
  have hD : va_D A ([(b, .inr (1, [.int 0, .ref q12, .ref q20, .ref q28, .ref q36, .ref q44, .ref q52, .ref q60, .ref q68, .ref q76, .ref q84, .ref q92, .null, .null, .null])), (q12, .inl (Z.2.1 2, 6, .inl (fun _ => 0))), (q20, .inl (Z.2.1 0, 6, .inl (fun _ => 0))), (q28, .inl (Z.2.1 0, 6, .inl (fun _ => 0))), (q36, .inl (Z.2.1 0, 6, .inl (fun _ => 0))), (q44, .inl (Z.2.1 0, 6, .inl (fun _ => 0))), (q52, .inl (Z.2.1 0, 6, .inl (fun _ => 0))), (q60, .inl (Z.2.1 0, 6, .inl (fun _ => 0))), (q68, .inl (Z.2.1 0, 6, .inl (fun _ => 0))), (q76, .inl (Z.2.1 2, 6, .inl (fun _ => 0))), (q84, .inl (Z.2.1 1, 6, .inr (.inl (fun _ => 0)))), (q92, .inl (Z.2.1 1, 6, .inr (.inl (fun _ => 0)))), (q100, .inl (Z.2.1 1, 6, .inr (.inl (fun _ => 0))))]) := hD
  refine va_putF (pc := 102) (D := Z.1) (ci := 1) (v := .ref q100) (ty := .array .long) (C := RX1) (T := TX1) (N := 15) hx hb hts uu tyX1 tyX1_ok nmX1 hown hK hP hD hS 0 rfl rfl 12 (by decide) w18 (fun _ h9 => h9) rfl (hin rfl) rfl (by decide +kernel) rfl rfl (Nat.le_of_ble_eq_true rfl) dX1_init_102 (fun H locs hP hD hS => ?_)
  have hP : va_P Z.1 vwCl ([(b, .inr (1, [.int 0, .ref q12, .ref q20, .ref q28, .ref q36, .ref q44, .ref q52, .ref q60, .ref q68, .ref q76, .ref q84, .ref q92, .ref q100, .null, .null])), (q12, .inl (Z.2.1 2, 6, .inl (fun _ => 0))), (q20, .inl (Z.2.1 0, 6, .inl (fun _ => 0))), (q28, .inl (Z.2.1 0, 6, .inl (fun _ => 0))), (q36, .inl (Z.2.1 0, 6, .inl (fun _ => 0))), (q44, .inl (Z.2.1 0, 6, .inl (fun _ => 0))), (q52, .inl (Z.2.1 0, 6, .inl (fun _ => 0))), (q60, .inl (Z.2.1 0, 6, .inl (fun _ => 0))), (q68, .inl (Z.2.1 0, 6, .inl (fun _ => 0))), (q76, .inl (Z.2.1 2, 6, .inl (fun _ => 0))), (q84, .inl (Z.2.1 1, 6, .inr (.inl (fun _ => 0)))), (q92, .inl (Z.2.1 1, 6, .inr (.inl (fun _ => 0)))), (q100, .inl (Z.2.1 1, 6, .inr (.inl (fun _ => 0))))]) H := hP
  have hD : va_D A ([(b, .inr (1, [.int 0, .ref q12, .ref q20, .ref q28, .ref q36, .ref q44, .ref q52, .ref q60, .ref q68, .ref q76, .ref q84, .ref q92, .ref q100, .null, .null])), (q12, .inl (Z.2.1 2, 6, .inl (fun _ => 0))), (q20, .inl (Z.2.1 0, 6, .inl (fun _ => 0))), (q28, .inl (Z.2.1 0, 6, .inl (fun _ => 0))), (q36, .inl (Z.2.1 0, 6, .inl (fun _ => 0))), (q44, .inl (Z.2.1 0, 6, .inl (fun _ => 0))), (q52, .inl (Z.2.1 0, 6, .inl (fun _ => 0))), (q60, .inl (Z.2.1 0, 6, .inl (fun _ => 0))), (q68, .inl (Z.2.1 0, 6, .inl (fun _ => 0))), (q76, .inl (Z.2.1 2, 6, .inl (fun _ => 0))), (q84, .inl (Z.2.1 1, 6, .inr (.inl (fun _ => 0)))), (q92, .inl (Z.2.1 1, 6, .inr (.inl (fun _ => 0)))), (q100, .inl (Z.2.1 1, 6, .inr (.inl (fun _ => 0))))]) := hD
  refine lv_aload_n (pc := 105) hx hb dX1_init_105 rfl (lv_at hl 0 rfl) ?_
  refine lv_bipush (pc := 106) (v := 6) hx hb dX1_init_106 (by decide) ?_
  refine nwJ (pc := 108) (N := 6) hx hb w15 hK hP hD hS hA (by decide) (by decide) (Nat.le_of_ble_eq_true rfl) (Nat.le_of_ble_eq_true rfl) (Nat.le_of_ble_eq_true rfl) dX1_init_108 (fun q108 H hP hD hS => ?_)
  have hP : va_P Z.1 vwCl ([(b, .inr (1, [.int 0, .ref q12, .ref q20, .ref q28, .ref q36, .ref q44, .ref q52, .ref q60, .ref q68, .ref q76, .ref q84, .ref q92, .ref q100, .null, .null])), (q12, .inl (Z.2.1 2, 6, .inl (fun _ => 0))), (q20, .inl (Z.2.1 0, 6, .inl (fun _ => 0))), (q28, .inl (Z.2.1 0, 6, .inl (fun _ => 0))), (q36, .inl (Z.2.1 0, 6, .inl (fun _ => 0))), (q44, .inl (Z.2.1 0, 6, .inl (fun _ => 0))), (q52, .inl (Z.2.1 0, 6, .inl (fun _ => 0))), (q60, .inl (Z.2.1 0, 6, .inl (fun _ => 0))), (q68, .inl (Z.2.1 0, 6, .inl (fun _ => 0))), (q76, .inl (Z.2.1 2, 6, .inl (fun _ => 0))), (q84, .inl (Z.2.1 1, 6, .inr (.inl (fun _ => 0)))), (q92, .inl (Z.2.1 1, 6, .inr (.inl (fun _ => 0)))), (q100, .inl (Z.2.1 1, 6, .inr (.inl (fun _ => 0)))), (q108, .inl (Z.2.1 1, 6, .inr (.inl (fun _ => 0))))]) H := hP
  have hD : va_D A ([(b, .inr (1, [.int 0, .ref q12, .ref q20, .ref q28, .ref q36, .ref q44, .ref q52, .ref q60, .ref q68, .ref q76, .ref q84, .ref q92, .ref q100, .null, .null])), (q12, .inl (Z.2.1 2, 6, .inl (fun _ => 0))), (q20, .inl (Z.2.1 0, 6, .inl (fun _ => 0))), (q28, .inl (Z.2.1 0, 6, .inl (fun _ => 0))), (q36, .inl (Z.2.1 0, 6, .inl (fun _ => 0))), (q44, .inl (Z.2.1 0, 6, .inl (fun _ => 0))), (q52, .inl (Z.2.1 0, 6, .inl (fun _ => 0))), (q60, .inl (Z.2.1 0, 6, .inl (fun _ => 0))), (q68, .inl (Z.2.1 0, 6, .inl (fun _ => 0))), (q76, .inl (Z.2.1 2, 6, .inl (fun _ => 0))), (q84, .inl (Z.2.1 1, 6, .inr (.inl (fun _ => 0)))), (q92, .inl (Z.2.1 1, 6, .inr (.inl (fun _ => 0)))), (q100, .inl (Z.2.1 1, 6, .inr (.inl (fun _ => 0)))), (q108, .inl (Z.2.1 1, 6, .inr (.inl (fun _ => 0))))]) := hD
  refine va_putF (pc := 110) (D := Z.1) (ci := 1) (v := .ref q108) (ty := .array .long) (C := RX1) (T := TX1) (N := 15) hx hb hts uu tyX1 tyX1_ok nmX1 hown hK hP hD hS 0 rfl rfl 13 (by decide) w19 (fun _ h9 => h9) rfl (hin rfl) rfl (by decide +kernel) rfl rfl (Nat.le_of_ble_eq_true rfl) dX1_init_110 (fun H locs hP hD hS => ?_)
  have hP : va_P Z.1 vwCl ([(b, .inr (1, [.int 0, .ref q12, .ref q20, .ref q28, .ref q36, .ref q44, .ref q52, .ref q60, .ref q68, .ref q76, .ref q84, .ref q92, .ref q100, .ref q108, .null])), (q12, .inl (Z.2.1 2, 6, .inl (fun _ => 0))), (q20, .inl (Z.2.1 0, 6, .inl (fun _ => 0))), (q28, .inl (Z.2.1 0, 6, .inl (fun _ => 0))), (q36, .inl (Z.2.1 0, 6, .inl (fun _ => 0))), (q44, .inl (Z.2.1 0, 6, .inl (fun _ => 0))), (q52, .inl (Z.2.1 0, 6, .inl (fun _ => 0))), (q60, .inl (Z.2.1 0, 6, .inl (fun _ => 0))), (q68, .inl (Z.2.1 0, 6, .inl (fun _ => 0))), (q76, .inl (Z.2.1 2, 6, .inl (fun _ => 0))), (q84, .inl (Z.2.1 1, 6, .inr (.inl (fun _ => 0)))), (q92, .inl (Z.2.1 1, 6, .inr (.inl (fun _ => 0)))), (q100, .inl (Z.2.1 1, 6, .inr (.inl (fun _ => 0)))), (q108, .inl (Z.2.1 1, 6, .inr (.inl (fun _ => 0))))]) H := hP
  have hD : va_D A ([(b, .inr (1, [.int 0, .ref q12, .ref q20, .ref q28, .ref q36, .ref q44, .ref q52, .ref q60, .ref q68, .ref q76, .ref q84, .ref q92, .ref q100, .ref q108, .null])), (q12, .inl (Z.2.1 2, 6, .inl (fun _ => 0))), (q20, .inl (Z.2.1 0, 6, .inl (fun _ => 0))), (q28, .inl (Z.2.1 0, 6, .inl (fun _ => 0))), (q36, .inl (Z.2.1 0, 6, .inl (fun _ => 0))), (q44, .inl (Z.2.1 0, 6, .inl (fun _ => 0))), (q52, .inl (Z.2.1 0, 6, .inl (fun _ => 0))), (q60, .inl (Z.2.1 0, 6, .inl (fun _ => 0))), (q68, .inl (Z.2.1 0, 6, .inl (fun _ => 0))), (q76, .inl (Z.2.1 2, 6, .inl (fun _ => 0))), (q84, .inl (Z.2.1 1, 6, .inr (.inl (fun _ => 0)))), (q92, .inl (Z.2.1 1, 6, .inr (.inl (fun _ => 0)))), (q100, .inl (Z.2.1 1, 6, .inr (.inl (fun _ => 0)))), (q108, .inl (Z.2.1 1, 6, .inr (.inl (fun _ => 0))))]) := hD
  refine lv_aload_n (pc := 113) hx hb dX1_init_113 rfl (lv_at hl 0 rfl) ?_
  refine lv_bipush (pc := 114) (v := 6) hx hb dX1_init_114 (by decide) ?_
  refine nwJ (pc := 116) (N := 6) hx hb w15 hK hP hD hS hA (by decide) (by decide) (Nat.le_of_ble_eq_true rfl) (Nat.le_of_ble_eq_true rfl) (Nat.le_of_ble_eq_true rfl) dX1_init_116 (fun q116 H hP hD hS => ?_)
  have hP : va_P Z.1 vwCl ([(b, .inr (1, [.int 0, .ref q12, .ref q20, .ref q28, .ref q36, .ref q44, .ref q52, .ref q60, .ref q68, .ref q76, .ref q84, .ref q92, .ref q100, .ref q108, .null])), (q12, .inl (Z.2.1 2, 6, .inl (fun _ => 0))), (q20, .inl (Z.2.1 0, 6, .inl (fun _ => 0))), (q28, .inl (Z.2.1 0, 6, .inl (fun _ => 0))), (q36, .inl (Z.2.1 0, 6, .inl (fun _ => 0))), (q44, .inl (Z.2.1 0, 6, .inl (fun _ => 0))), (q52, .inl (Z.2.1 0, 6, .inl (fun _ => 0))), (q60, .inl (Z.2.1 0, 6, .inl (fun _ => 0))), (q68, .inl (Z.2.1 0, 6, .inl (fun _ => 0))), (q76, .inl (Z.2.1 2, 6, .inl (fun _ => 0))), (q84, .inl (Z.2.1 1, 6, .inr (.inl (fun _ => 0)))), (q92, .inl (Z.2.1 1, 6, .inr (.inl (fun _ => 0)))), (q100, .inl (Z.2.1 1, 6, .inr (.inl (fun _ => 0)))), (q108, .inl (Z.2.1 1, 6, .inr (.inl (fun _ => 0)))), (q116, .inl (Z.2.1 1, 6, .inr (.inl (fun _ => 0))))]) H := hP
  have hD : va_D A ([(b, .inr (1, [.int 0, .ref q12, .ref q20, .ref q28, .ref q36, .ref q44, .ref q52, .ref q60, .ref q68, .ref q76, .ref q84, .ref q92, .ref q100, .ref q108, .null])), (q12, .inl (Z.2.1 2, 6, .inl (fun _ => 0))), (q20, .inl (Z.2.1 0, 6, .inl (fun _ => 0))), (q28, .inl (Z.2.1 0, 6, .inl (fun _ => 0))), (q36, .inl (Z.2.1 0, 6, .inl (fun _ => 0))), (q44, .inl (Z.2.1 0, 6, .inl (fun _ => 0))), (q52, .inl (Z.2.1 0, 6, .inl (fun _ => 0))), (q60, .inl (Z.2.1 0, 6, .inl (fun _ => 0))), (q68, .inl (Z.2.1 0, 6, .inl (fun _ => 0))), (q76, .inl (Z.2.1 2, 6, .inl (fun _ => 0))), (q84, .inl (Z.2.1 1, 6, .inr (.inl (fun _ => 0)))), (q92, .inl (Z.2.1 1, 6, .inr (.inl (fun _ => 0)))), (q100, .inl (Z.2.1 1, 6, .inr (.inl (fun _ => 0)))), (q108, .inl (Z.2.1 1, 6, .inr (.inl (fun _ => 0)))), (q116, .inl (Z.2.1 1, 6, .inr (.inl (fun _ => 0))))]) := hD
  refine va_putF (pc := 118) (D := Z.1) (ci := 1) (v := .ref q116) (ty := .array .long) (C := RX1) (T := TX1) (N := 15) hx hb hts uu tyX1 tyX1_ok nmX1 hown hK hP hD hS 0 rfl rfl 14 (by decide) w20 (fun _ h9 => h9) rfl (hin rfl) rfl (by decide +kernel) rfl rfl (Nat.le_of_ble_eq_true rfl) dX1_init_118 (fun H locs hP hD hS => ?_)
  have hP : va_P Z.1 vwCl ([(b, .inr (1, [.int 0, .ref q12, .ref q20, .ref q28, .ref q36, .ref q44, .ref q52, .ref q60, .ref q68, .ref q76, .ref q84, .ref q92, .ref q100, .ref q108, .ref q116])), (q12, .inl (Z.2.1 2, 6, .inl (fun _ => 0))), (q20, .inl (Z.2.1 0, 6, .inl (fun _ => 0))), (q28, .inl (Z.2.1 0, 6, .inl (fun _ => 0))), (q36, .inl (Z.2.1 0, 6, .inl (fun _ => 0))), (q44, .inl (Z.2.1 0, 6, .inl (fun _ => 0))), (q52, .inl (Z.2.1 0, 6, .inl (fun _ => 0))), (q60, .inl (Z.2.1 0, 6, .inl (fun _ => 0))), (q68, .inl (Z.2.1 0, 6, .inl (fun _ => 0))), (q76, .inl (Z.2.1 2, 6, .inl (fun _ => 0))), (q84, .inl (Z.2.1 1, 6, .inr (.inl (fun _ => 0)))), (q92, .inl (Z.2.1 1, 6, .inr (.inl (fun _ => 0)))), (q100, .inl (Z.2.1 1, 6, .inr (.inl (fun _ => 0)))), (q108, .inl (Z.2.1 1, 6, .inr (.inl (fun _ => 0)))), (q116, .inl (Z.2.1 1, 6, .inr (.inl (fun _ => 0))))]) H := hP
  have hD : va_D A ([(b, .inr (1, [.int 0, .ref q12, .ref q20, .ref q28, .ref q36, .ref q44, .ref q52, .ref q60, .ref q68, .ref q76, .ref q84, .ref q92, .ref q100, .ref q108, .ref q116])), (q12, .inl (Z.2.1 2, 6, .inl (fun _ => 0))), (q20, .inl (Z.2.1 0, 6, .inl (fun _ => 0))), (q28, .inl (Z.2.1 0, 6, .inl (fun _ => 0))), (q36, .inl (Z.2.1 0, 6, .inl (fun _ => 0))), (q44, .inl (Z.2.1 0, 6, .inl (fun _ => 0))), (q52, .inl (Z.2.1 0, 6, .inl (fun _ => 0))), (q60, .inl (Z.2.1 0, 6, .inl (fun _ => 0))), (q68, .inl (Z.2.1 0, 6, .inl (fun _ => 0))), (q76, .inl (Z.2.1 2, 6, .inl (fun _ => 0))), (q84, .inl (Z.2.1 1, 6, .inr (.inl (fun _ => 0)))), (q92, .inl (Z.2.1 1, 6, .inr (.inl (fun _ => 0)))), (q100, .inl (Z.2.1 1, 6, .inr (.inl (fun _ => 0)))), (q108, .inl (Z.2.1 1, 6, .inr (.inl (fun _ => 0)))), (q116, .inl (Z.2.1 1, 6, .inr (.inl (fun _ => 0))))]) := hD
  have hP : va_P Z.1 vwCl (wX1 Z (ad b (fun i => ([b, 0, q12, q20, q28, q36, q44, q52, q60, q68, q76, q84, q92, q100, q108, q116] : List Nat).getD i 0)) z0) H := hP.sub [0, 1, 2, 3, 4, 5, 6, 7, 8, 9, 10, 11, 12, 13, 14] rfl
  have hD : va_D A (wX1 Z (ad b (fun i => ([b, 0, q12, q20, q28, q36, q44, q52, q60, q68, q76, q84, q92, q100, q108, q116] : List Nat).getD i 0)) z0) := hD.sub [0, 1, 2, 3, 4, 5, 6, 7, 8, 9, 10, 11, 12, 13, 14] (by decide) rfl
  exact rw_v (fun i => ([b, 0, q12, q20, q28, q36, q44, q52, q60, q68, q76, q84, q92, q100, q108, q116] : List Nat).getD i 0) hx hb hr hlk hP hD hS dX1_init_121
set_option maxHeartbeats 4000000 in
set_option maxRecDepth 100000 in
theorem c_X0_init (Z : EnvT) (l : Launch) (b : Nat) : RW Z l yX0_init wsX0_init { frames := 1, cells := 2, slots := 1800, locals := 14 } [.ref b] [(b, .inr (0, [.int 0, .null, .null]))] none (fun q => wX0 Z (ad b q) z0) 2 1800 := by
  refine rw_of (cc := cX0_init) (maxL := 1) (ret := none) (by decide) rfl (Nat.le_of_ble_eq_true rfl) ?_
  intro p e s m below meth c A ls hx hb hr hml hts hown hlk hin hP hK hE hD hA hS hl
  have hown : s.vm.findClass RX0 = some m.cls := hown
  have hl : lv_has ls 1 [(0, .ref b)] := hl
  have w0 := hts (.methodLink RX0 3 objectInit) (by decide +kernel)
  have w1 := hts (.instanceMethod objectInit) (by decide +kernel)
  have w2 := hts (.code objectInit ⟨#[0xb1]⟩ 1 none) (by decide +kernel)
  have w3 := hts (.fieldLink RX0 9 "HeatTrain$Alarms" "there" "I") (by decide +kernel)
  have w4 := hts (.arrayClass .int) (by decide +kernel)
  have w5 := hts (.fieldLink RX0 15 "HeatTrain$Alarms" "controller" "[I") (by decide +kernel)
  have w6 := hts (.arrayClass .long) (by decide +kernel)
  have w7 := hts (.fieldLink RX0 19 "HeatTrain$Alarms" "excess" "[J") (by decide +kernel)
  have uu : ∀ w ∈ wsX00, w ∈ wsX0_init := by decide +kernel
  refine lv_aload_n (pc := 0) hx hb dX0_init_0 rfl (lv_at hl 0 rfl) ?_
  refine W.objInit hx hb hown w0 w1 w2 rfl (by rw [hml]; exact hl.1) rfl dX0_init_1 (Nat.le_of_ble_eq_true rfl) (Nat.le_of_ble_eq_true rfl) ?_
  refine W.eq (g2 := F0 m 4 ls []) rfl ?_
  refine lv_aload_n (pc := 4) hx hb dX0_init_4 rfl (lv_at hl 0 rfl) ?_
  refine lv_iconst (pc := 5) (v := 0) hx hb dX0_init_5 (by decide) ?_
  refine va_put (pc := 6) (D := Z.1) (ci := 0) (v := .int 0) (ty := .int) (C := RX0) (T := TX0) (N := 3) hx hb hts uu tyX0 tyX0_ok nmX0 hown hK hP hD hS 0 rfl rfl 0 (by decide) w3 (fun _ h9 => h9) rfl (by decide +kernel) rfl rfl (Nat.le_of_ble_eq_true rfl) dX0_init_6 (fun H locs hP hD hS => ?_)
  have hP : va_P Z.1 vwCl ([(b, .inr (0, [.int 0, .null, .null]))]) H := hP
  have hD : va_D A ([(b, .inr (0, [.int 0, .null, .null]))]) := hD
  refine lv_aload_n (pc := 9) hx hb dX0_init_9 rfl (lv_at hl 0 rfl) ?_
  refine lv_sipush (pc := 10) (v := 900) hx hb dX0_init_10 (by decide) ?_
  refine nwI (pc := 13) (N := 900) hx hb w4 hK hP hD hS hA (by decide) (by decide) (Nat.le_of_ble_eq_true rfl) (Nat.le_of_ble_eq_true rfl) (Nat.le_of_ble_eq_true rfl) dX0_init_13 (fun q13 H hP hD hS => ?_)
  have hP : va_P Z.1 vwCl ([(b, .inr (0, [.int 0, .null, .null])), (q13, .inl (Z.2.1 0, 900, .inl (fun _ => 0)))]) H := hP
  have hD : va_D A ([(b, .inr (0, [.int 0, .null, .null])), (q13, .inl (Z.2.1 0, 900, .inl (fun _ => 0)))]) := hD
  refine va_putF (pc := 15) (D := Z.1) (ci := 0) (v := .ref q13) (ty := .array .int) (C := RX0) (T := TX0) (N := 3) hx hb hts uu tyX0 tyX0_ok nmX0 hown hK hP hD hS 0 rfl rfl 1 (by decide) w5 (fun _ h9 => h9) rfl (hin rfl) rfl (by decide +kernel) rfl rfl (Nat.le_of_ble_eq_true rfl) dX0_init_15 (fun H locs hP hD hS => ?_)
  have hP : va_P Z.1 vwCl ([(b, .inr (0, [.int 0, .ref q13, .null])), (q13, .inl (Z.2.1 0, 900, .inl (fun _ => 0)))]) H := hP
  have hD : va_D A ([(b, .inr (0, [.int 0, .ref q13, .null])), (q13, .inl (Z.2.1 0, 900, .inl (fun _ => 0)))]) := hD
  refine lv_aload_n (pc := 18) hx hb dX0_init_18 rfl (lv_at hl 0 rfl) ?_
  refine lv_sipush (pc := 19) (v := 900) hx hb dX0_init_19 (by decide) ?_
  refine nwJ (pc := 22) (N := 900) hx hb w6 hK hP hD hS hA (by decide) (by decide) (Nat.le_of_ble_eq_true rfl) (Nat.le_of_ble_eq_true rfl) (Nat.le_of_ble_eq_true rfl) dX0_init_22 (fun q22 H hP hD hS => ?_)
  have hP : va_P Z.1 vwCl ([(b, .inr (0, [.int 0, .ref q13, .null])), (q13, .inl (Z.2.1 0, 900, .inl (fun _ => 0))), (q22, .inl (Z.2.1 1, 900, .inr (.inl (fun _ => 0))))]) H := hP
  have hD : va_D A ([(b, .inr (0, [.int 0, .ref q13, .null])), (q13, .inl (Z.2.1 0, 900, .inl (fun _ => 0))), (q22, .inl (Z.2.1 1, 900, .inr (.inl (fun _ => 0))))]) := hD
  refine va_putF (pc := 24) (D := Z.1) (ci := 0) (v := .ref q22) (ty := .array .long) (C := RX0) (T := TX0) (N := 3) hx hb hts uu tyX0 tyX0_ok nmX0 hown hK hP hD hS 0 rfl rfl 2 (by decide) w7 (fun _ h9 => h9) rfl (hin rfl) rfl (by decide +kernel) rfl rfl (Nat.le_of_ble_eq_true rfl) dX0_init_24 (fun H locs hP hD hS => ?_)
  have hP : va_P Z.1 vwCl ([(b, .inr (0, [.int 0, .ref q13, .ref q22])), (q13, .inl (Z.2.1 0, 900, .inl (fun _ => 0))), (q22, .inl (Z.2.1 1, 900, .inr (.inl (fun _ => 0))))]) H := hP
  have hD : va_D A ([(b, .inr (0, [.int 0, .ref q13, .ref q22])), (q13, .inl (Z.2.1 0, 900, .inl (fun _ => 0))), (q22, .inl (Z.2.1 1, 900, .inr (.inl (fun _ => 0))))]) := hD
  have hP : va_P Z.1 vwCl (wX0 Z (ad b (fun i => ([b, 0, q13, q22] : List Nat).getD i 0)) z0) H := hP.sub [0, 1, 2] rfl
  have hD : va_D A (wX0 Z (ad b (fun i => ([b, 0, q13, q22] : List Nat).getD i 0)) z0) := hD.sub [0, 1, 2] (by decide) rfl
  exact rw_v (fun i => ([b, 0, q13, q22] : List Nat).getD i 0) hx hb hr hlk hP hD hS dX0_init_27
set_option maxHeartbeats 4000000 in
set_option maxRecDepth 100000 in
theorem c_X2_init (Z : EnvT) (l : Launch) (b : Nat) : RW Z l yX2_init wsX2_init { frames := 1, cells := 3, slots := 120, locals := 14 } [.ref b] [(b, .inr (2, [.int 0, .null, .null, .null]))] none (fun q => wX2 Z (ad b q) z0) 3 120 := by
  refine rw_of (cc := cX2_init) (maxL := 1) (ret := none) (by decide) rfl (Nat.le_of_ble_eq_true rfl) ?_
  intro p e s m below meth c A ls hx hb hr hml hts hown hlk hin hP hK hE hD hA hS hl
  have hown : s.vm.findClass RX2 = some m.cls := hown
  have hl : lv_has ls 1 [(0, .ref b)] := hl
  have w0 := hts (.methodLink RX2 3 objectInit) (by decide +kernel)
  have w1 := hts (.instanceMethod objectInit) (by decide +kernel)
  have w2 := hts (.code objectInit ⟨#[0xb1]⟩ 1 none) (by decide +kernel)
  have w3 := hts (.fieldLink RX2 9 "HeatTrain$Script" "there" "I") (by decide +kernel)
  have w4 := hts (.arrayClass .int) (by decide +kernel)
  have w5 := hts (.fieldLink RX2 15 "HeatTrain$Script" "tick" "[I") (by decide +kernel)
  have w6 := hts (.fieldLink RX2 19 "HeatTrain$Script" "unit" "[I") (by decide +kernel)
  have w7 := hts (.fieldLink RX2 22 "HeatTrain$Script" "number" "[I") (by decide +kernel)
  have uu : ∀ w ∈ wsX20, w ∈ wsX2_init := by decide +kernel
  refine lv_aload_n (pc := 0) hx hb dX2_init_0 rfl (lv_at hl 0 rfl) ?_
  refine W.objInit hx hb hown w0 w1 w2 rfl (by rw [hml]; exact hl.1) rfl dX2_init_1 (Nat.le_of_ble_eq_true rfl) (Nat.le_of_ble_eq_true rfl) ?_
  refine W.eq (g2 := F0 m 4 ls []) rfl ?_
  refine lv_aload_n (pc := 4) hx hb dX2_init_4 rfl (lv_at hl 0 rfl) ?_
  refine lv_iconst (pc := 5) (v := 0) hx hb dX2_init_5 (by decide) ?_
  refine va_put (pc := 6) (D := Z.1) (ci := 2) (v := .int 0) (ty := .int) (C := RX2) (T := TX2) (N := 4) hx hb hts uu tyX2 tyX2_ok nmX2 hown hK hP hD hS 0 rfl rfl 0 (by decide) w3 (fun _ h9 => h9) rfl (by decide +kernel) rfl rfl (Nat.le_of_ble_eq_true rfl) dX2_init_6 (fun H locs hP hD hS => ?_)
  have hP : va_P Z.1 vwCl ([(b, .inr (2, [.int 0, .null, .null, .null]))]) H := hP
  have hD : va_D A ([(b, .inr (2, [.int 0, .null, .null, .null]))]) := hD
  refine lv_aload_n (pc := 9) hx hb dX2_init_9 rfl (lv_at hl 0 rfl) ?_
  refine lv_bipush (pc := 10) (v := 40) hx hb dX2_init_10 (by decide) ?_
  refine nwI (pc := 12) (N := 40) hx hb w4 hK hP hD hS hA (by decide) (by decide) (Nat.le_of_ble_eq_true rfl) (Nat.le_of_ble_eq_true rfl) (Nat.le_of_ble_eq_true rfl) dX2_init_12 (fun q12 H hP hD hS => ?_)
  have hP : va_P Z.1 vwCl ([(b, .inr (2, [.int 0, .null, .null, .null])), (q12, .inl (Z.2.1 0, 40, .inl (fun _ => 0)))]) H := hP
  have hD : va_D A ([(b, .inr (2, [.int 0, .null, .null, .null])), (q12, .inl (Z.2.1 0, 40, .inl (fun _ => 0)))]) := hD
  refine va_putF (pc := 14) (D := Z.1) (ci := 2) (v := .ref q12) (ty := .array .int) (C := RX2) (T := TX2) (N := 4) hx hb hts uu tyX2 tyX2_ok nmX2 hown hK hP hD hS 0 rfl rfl 1 (by decide) w5 (fun _ h9 => h9) rfl (hin rfl) rfl (by decide +kernel) rfl rfl (Nat.le_of_ble_eq_true rfl) dX2_init_14 (fun H locs hP hD hS => ?_)
  have hP : va_P Z.1 vwCl ([(b, .inr (2, [.int 0, .ref q12, .null, .null])), (q12, .inl (Z.2.1 0, 40, .inl (fun _ => 0)))]) H := hP
  have hD : va_D A ([(b, .inr (2, [.int 0, .ref q12, .null, .null])), (q12, .inl (Z.2.1 0, 40, .inl (fun _ => 0)))]) := hD
  refine lv_aload_n (pc := 17) hx hb dX2_init_17 rfl (lv_at hl 0 rfl) ?_
  refine lv_bipush (pc := 18) (v := 40) hx hb dX2_init_18 (by decide) ?_
  refine nwI (pc := 20) (N := 40) hx hb w4 hK hP hD hS hA (by decide) (by decide) (Nat.le_of_ble_eq_true rfl) (Nat.le_of_ble_eq_true rfl) (Nat.le_of_ble_eq_true rfl) dX2_init_20 (fun q20 H hP hD hS => ?_)
  have hP : va_P Z.1 vwCl ([(b, .inr (2, [.int 0, .ref q12, .null, .null])), (q12, .inl (Z.2.1 0, 40, .inl (fun _ => 0))), (q20, .inl (Z.2.1 0, 40, .inl (fun _ => 0)))]) H := hP
  have hD : va_D A ([(b, .inr (2, [.int 0, .ref q12, .null, .null])), (q12, .inl (Z.2.1 0, 40, .inl (fun _ => 0))), (q20, .inl (Z.2.1 0, 40, .inl (fun _ => 0)))]) := hD
  refine va_putF (pc := 22) (D := Z.1) (ci := 2) (v := .ref q20) (ty := .array .int) (C := RX2) (T := TX2) (N := 4) hx hb hts uu tyX2 tyX2_ok nmX2 hown hK hP hD hS 0 rfl rfl 2 (by decide) w6 (fun _ h9 => h9) rfl (hin rfl) rfl (by decide +kernel) rfl rfl (Nat.le_of_ble_eq_true rfl) dX2_init_22 (fun H locs hP hD hS => ?_)
  have hP : va_P Z.1 vwCl ([(b, .inr (2, [.int 0, .ref q12, .ref q20, .null])), (q12, .inl (Z.2.1 0, 40, .inl (fun _ => 0))), (q20, .inl (Z.2.1 0, 40, .inl (fun _ => 0)))]) H := hP
  have hD : va_D A ([(b, .inr (2, [.int 0, .ref q12, .ref q20, .null])), (q12, .inl (Z.2.1 0, 40, .inl (fun _ => 0))), (q20, .inl (Z.2.1 0, 40, .inl (fun _ => 0)))]) := hD
  refine lv_aload_n (pc := 25) hx hb dX2_init_25 rfl (lv_at hl 0 rfl) ?_
  refine lv_bipush (pc := 26) (v := 40) hx hb dX2_init_26 (by decide) ?_
  refine nwI (pc := 28) (N := 40) hx hb w4 hK hP hD hS hA (by decide) (by decide) (Nat.le_of_ble_eq_true rfl) (Nat.le_of_ble_eq_true rfl) (Nat.le_of_ble_eq_true rfl) dX2_init_28 (fun q28 H hP hD hS => ?_)
  have hP : va_P Z.1 vwCl ([(b, .inr (2, [.int 0, .ref q12, .ref q20, .null])), (q12, .inl (Z.2.1 0, 40, .inl (fun _ => 0))), (q20, .inl (Z.2.1 0, 40, .inl (fun _ => 0))), (q28, .inl (Z.2.1 0, 40, .inl (fun _ => 0)))]) H := hP
  have hD : va_D A ([(b, .inr (2, [.int 0, .ref q12, .ref q20, .null])), (q12, .inl (Z.2.1 0, 40, .inl (fun _ => 0))), (q20, .inl (Z.2.1 0, 40, .inl (fun _ => 0))), (q28, .inl (Z.2.1 0, 40, .inl (fun _ => 0)))]) := hD
  refine va_putF (pc := 30) (D := Z.1) (ci := 2) (v := .ref q28) (ty := .array .int) (C := RX2) (T := TX2) (N := 4) hx hb hts uu tyX2 tyX2_ok nmX2 hown hK hP hD hS 0 rfl rfl 3 (by decide) w7 (fun _ h9 => h9) rfl (hin rfl) rfl (by decide +kernel) rfl rfl (Nat.le_of_ble_eq_true rfl) dX2_init_30 (fun H locs hP hD hS => ?_)
  have hP : va_P Z.1 vwCl ([(b, .inr (2, [.int 0, .ref q12, .ref q20, .ref q28])), (q12, .inl (Z.2.1 0, 40, .inl (fun _ => 0))), (q20, .inl (Z.2.1 0, 40, .inl (fun _ => 0))), (q28, .inl (Z.2.1 0, 40, .inl (fun _ => 0)))]) H := hP
  have hD : va_D A ([(b, .inr (2, [.int 0, .ref q12, .ref q20, .ref q28])), (q12, .inl (Z.2.1 0, 40, .inl (fun _ => 0))), (q20, .inl (Z.2.1 0, 40, .inl (fun _ => 0))), (q28, .inl (Z.2.1 0, 40, .inl (fun _ => 0)))]) := hD
  have hP : va_P Z.1 vwCl (wX2 Z (ad b (fun i => ([b, 0, q12, q20, q28] : List Nat).getD i 0)) z0) H := hP.sub [0, 1, 2, 3] rfl
  have hD : va_D A (wX2 Z (ad b (fun i => ([b, 0, q12, q20, q28] : List Nat).getD i 0)) z0) := hD.sub [0, 1, 2, 3] (by decide) rfl
  exact rw_v (fun i => ([b, 0, q12, q20, q28] : List Nat).getD i 0) hx hb hr hlk hP hD hS dX2_init_33
set_option maxHeartbeats 4000000 in
set_option maxRecDepth 100000 in
theorem c_X4_init (Z : EnvT) (l : Launch) (b : Nat) : RW Z l yX4_init wsX4_init { frames := 1, cells := 1, slots := 0, locals := 14 } [.ref b] [(b, .inr (4, [.null]))] none (fun q => wX4 Z (ad b q) z0) 1 0 := by
  refine rw_of (cc := cX4_init) (maxL := 1) (ret := none) (by decide) rfl (Nat.le_of_ble_eq_true rfl) ?_
  intro p e s m below meth c A ls hx hb hr hml hts hown hlk hin hP hK hE hD hA hS hl
  have hown : s.vm.findClass RX4 = some m.cls := hown
  have hl : lv_has ls 1 [(0, .ref b)] := hl
  have w0 := hts (.methodLink RX4 3 objectInit) (by decide +kernel)
  have w1 := hts (.instanceMethod objectInit) (by decide +kernel)
  have w2 := hts (.code objectInit ⟨#[0xb1]⟩ 1 none) (by decide +kernel)
  have w3 := hts (.arrayClass .int) (by decide +kernel)
  have w4 := hts (.fieldLink RX4 9 "HeatTrain$Trends" "warmth" "[I") (by decide +kernel)
  have uu : ∀ w ∈ wsX40, w ∈ wsX4_init := by decide +kernel
  refine lv_aload_n (pc := 0) hx hb dX4_init_0 rfl (lv_at hl 0 rfl) ?_
  refine W.objInit hx hb hown w0 w1 w2 rfl (by rw [hml]; exact hl.1) rfl dX4_init_1 (Nat.le_of_ble_eq_true rfl) (Nat.le_of_ble_eq_true rfl) ?_
  refine W.eq (g2 := F0 m 4 ls []) rfl ?_
  refine lv_aload_n (pc := 4) hx hb dX4_init_4 rfl (lv_at hl 0 rfl) ?_
  refine lv_iconst (pc := 5) (v := 0) hx hb dX4_init_5 (by decide) ?_
  refine nwI (pc := 6) (N := 0) hx hb w3 hK hP hD hS hA (by decide) (by decide) (Nat.le_of_ble_eq_true rfl) (Nat.le_of_ble_eq_true rfl) (Nat.le_of_ble_eq_true rfl) dX4_init_6 (fun q6 H hP hD hS => ?_)
  have hP : va_P Z.1 vwCl ([(b, .inr (4, [.null])), (q6, .inl (Z.2.1 0, 0, .inl (fun _ => 0)))]) H := hP
  have hD : va_D A ([(b, .inr (4, [.null])), (q6, .inl (Z.2.1 0, 0, .inl (fun _ => 0)))]) := hD
  refine va_put (pc := 8) (D := Z.1) (ci := 4) (v := .ref q6) (ty := .array .int) (C := RX4) (T := TX4) (N := 1) hx hb hts uu tyX4 tyX4_ok nmX4 hown hK hP hD hS 0 rfl rfl 0 (by decide) w4 (fun _ h9 => h9) rfl (by decide +kernel) rfl rfl (Nat.le_of_ble_eq_true rfl) dX4_init_8 (fun H locs hP hD hS => ?_)
  have hP : va_P Z.1 vwCl ([(b, .inr (4, [.ref q6])), (q6, .inl (Z.2.1 0, 0, .inl (fun _ => 0)))]) H := hP
  have hD : va_D A ([(b, .inr (4, [.ref q6])), (q6, .inl (Z.2.1 0, 0, .inl (fun _ => 0)))]) := hD
  have hP : va_P Z.1 vwCl (wX4 Z (ad b (fun i => ([b, q6] : List Nat).getD i 0)) z0) H := hP.sub [0, 1] rfl
  have hD : va_D A (wX4 Z (ad b (fun i => ([b, q6] : List Nat).getD i 0)) z0) := hD.sub [0, 1] (by decide) rfl
  exact rw_v (fun i => ([b, q6] : List Nat).getD i 0) hx hb hr hlk hP hD hS dX4_init_11
