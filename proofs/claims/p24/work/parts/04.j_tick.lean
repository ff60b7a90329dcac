def f_X6_tick_b44 (x1 : Int32) : Nat → Int32 → (Nat → ObS) → Option (Nat ⊕ (Int32 × (Nat → ObS)))
  | 0, _, _ => none
  | n + 1, v44_2, h44 =>
  if x1 ≤ v44_2 then
    some (.inr ((h44 0).1 7 0, h44))
  else
    (f_X6_letOneTickGoBy h44).bind fun r50 =>
    f_X6_tick_b44 x1 n (v44_2 + 1) r50
def f_X6_tick (h : Nat → ObS) (x1 : Int32) : Option (Nat ⊕ (Int32 × (Nat → ObS))) :=
  if (f_X6_isOutside x1 1 50) = (0 : Int32) then
    if (((h 0).1 7 0) + x1) ≤ 300 then
      f_X6_tick_b44 x1 64 0 h
    else
      some (.inl 2)
  else
    some (.inl 1)
set_option maxHeartbeats 4000000 in
set_option maxRecDepth 100000 in
theorem c_X6_tick (Z : EnvT) (l : Launch) (hst : l.stackTraces = false) (b : Nat → Nat → Nat) (h : Nat → ObS) (x1 : Int32) (R : Nat ⊕ (Int32 × (Nat → ObS))) (hf : f_X6_tick h x1 = some R) : TH Z l yX6_tick wsX6_tick { frames := 6, cells := 1, slots := 7200, locals := 149 } [.ref (b 0 0), .int x1] (wH Z b h) R (fun (r : Int32 × (Nat → ObS)) => (some (.int r.1))) (fun (r : Int32 × (Nat → ObS)) q => wH Z (bu b 7 (ad1 (b 7) q)) r.2) 1 7200 := by
  refine th_of (cc := cX6_tick) (maxL := 3) (ret := (some .int)) (by decide) rfl (Nat.le_of_ble_eq_true rfl) ?_
  intro p e s m below meth c A ls hx hb hr hml hts hown hlk hno hP hK hE hD hA hS hZ hl
  have hown : s.vm.findClass RX6 = some m.cls := hown
  have hl : lv_has ls 3 [(0, .ref (b 0 0)), (1, .int x1)] := hl
  have w0 := hts (.fieldLink RX6 54 "HeatTrain" "ticksGone" "I") (by decide +kernel)
  have w1 := hts (.classLink RX6 90 "java/lang/IllegalStateException") (by decide +kernel)
  have w2 := hts (.initialized "java/lang/IllegalStateException") (by decide +kernel)
  have w3 := hts (.classLink RX6 66 "java/lang/IllegalArgumentException") (by decide +kernel)
  have w4 := hts (.initialized "java/lang/IllegalArgumentException") (by decide +kernel)
  have u6 : ∀ w ∈ wsX60, w ∈ wsX6_tick := by decide +kernel
  have he1 : ∀ w ∈ (vx_atS RX6 70 (exN 1) exS).filter goodWord, w.before _ s = true := fun w h => hts w ((show ∀ w ∈ (vx_atS RX6 70 (exN 1) exS).filter goodWord, w ∈ wsX6_tick by decide +kernel) w h)
  have he2 : ∀ w ∈ (vx_atS RX6 94 (exN 2) exS).filter goodWord, w.before _ s = true := fun w h => hts w ((show ∀ w ∈ (vx_atS RX6 94 (exN 2) exS).filter goodWord, w ∈ wsX6_tick by decide +kernel) w h)
  have B44 : ∀ (n : Nat), ∀ (v44_2 : Int32) (h44 : Nat → ObS) (q44 : Nat → Nat) (cs : Nat) (hcs : cs = 0 ∨ (cs = 1 ∧ ¬ tnz (h44 7))) (ls : Array Slot), lv_has ls 3 [(0, .ref (b 0 0)), (1, .int x1), (2, .int v44_2)] → ∀ (H : Heap) (locs : List Loc), va_P Z.1 vwCl (wH Z (bu b 7 (ad1 (b 7) q44)) h44) H → va_D A (wH Z (bu b 7 (ad1 (b 7) q44)) h44) → va_S A s.heap H locs → f_X6_tick_b44 x1 n v44_2 h44 = some R → W p l e { frames := 6, cells := 1, slots := 7200, locals := 149 } s m ([.ref (b 0 0), .int x1] : List Value).toArray below meth c H locs cs (7200 * cs) (vx_MQ below (thQ Z R (fun (r : Int32 × (Nat → ObS)) => (some (.int r.1))) (fun (r : Int32 × (Nat → ObS)) q => wH Z (bu b 7 (ad1 (b 7) q)) r.2) A) (thC Z R (wH Z b h) A) ([.ref (b 0 0), .int x1] : List Value).toArray s 1 7200 A) (F0 m 44 ls []) := by
    intro n
    induction n with
    | zero => intro v44_2 h44 q44 cs hcs ls hl H locs hP hD hS hf; rw [f_X6_tick_b44] at hf; exact nomatch hf
    | succ n ih =>
      intro v44_2 h44 q44 cs hcs ls hl H locs hP hD hS hf
      rw [f_X6_tick_b44] at hf
      have hle : cs ≤ 1 := hcs.elim (fun h9 => by omega) (fun h9 => by have := h9.1; omega)
      refine lv_iload_n (pc := 44) hx hb dX6_tick_44 rfl (lv_at hl 2 rfl) ?_
      refine lv_iload_n (pc := 45) hx hb dX6_tick_45 rfl (lv_at hl 1 rfl) ?_
      refine lv_icmp_ge (pc := 46) (tgt := 59) hx hb dX6_tick_46 (by decide) (fun c1 => ?_) (fun c1 => ?_)
      · have hf := (if_pos c1).symm.trans hf
        refine lv_aload_n (pc := 59) hx hb dX6_tick_59 rfl (lv_at hl 0 rfl) ?_
        refine va_get (pc := 60) (D := Z.1) (ci := 6) (v := .int ((h44 0).1 7 0)) (C := RX6) (T := TX6) (N := 9) hx hb hts u6 hown hK hP 0 rfl rfl 7 (by decide) w0 (fun _ h9 => h9) rfl dX6_tick_60 ?_
        have hf := (Option.some.inj hf).symm
        refine W.widen (k := 1) (n := 7200) hle (by omega) ?_
        refine th_ret hf ?_
        exact rw_i q44 hx hb hr hlk rfl hP hD hS dX6_tick_63
      · have hf := (if_neg c1).symm.trans hf
        refine lv_aload_n (pc := 49) hx hb dX6_tick_49 rfl (lv_at hl 0 rfl) ?_
        obtain ⟨r50, h_50, hf⟩ := bd hf
        by_cases hz : tnz (h44 7)
        · rcases hcs with hcs | ⟨_, hn⟩
          · subst hcs
            refine rw_V (pc := 50) (C := RX6) (As := []) (rest := []) (st1 := []) (wn := fun q => wH Z (bu b 7 (ad1 (b 7) q)) r50) ⟨hx, hb, hml, hown, hts⟩ (c_X6_letOneTickGoBy_new Z l (bu b 7 (ad1 (b 7) q44)) h44 r50 h_50 hz) (cwV 0 hts gX6_tick_X6_letOneTickGoBy rfl rfl rfl hv_X6_letOneTickGoBy ⟨Nat.le_of_ble_eq_true rfl, Nat.le_of_ble_eq_true rfl⟩) hK hE hP hD hS hA [0, 1, 2, 3, 4, 5, 6, 7, 8, 9, 10, 11, 12, 13, 14, 15, 16, 17, 18, 19, 20, 21, 22, 23, 24, 25, 26, 27, 28, 29, 30, 31, 32, 33, 34, 35, 36, 37, 38, 39] [] [0, 1, 2, 3, 4, 5, 6, 7, 8, 9, 10, 11, 12, 13, 14, 15, 16, 17, 18, 19, 20, 21, 22, 23, 24, 25, 26, 27, 28, 29, 30, 31, 32, 33, 34, 35, 36, 37, 38, 39] rfl rfl rfl (fun _ => rfl) 6 rfl rfl rfl hl.1 rfl (lv_room (Nat.le_of_ble_eq_true rfl)) dX6_tick_50 ⟨Nat.le_of_ble_eq_true rfl, Nat.le_of_ble_eq_true rfl⟩ rfl (fun q50 H locs hP hD hS => ?_)
            refine lv_iinc (pc := 53) (v := v44_2 + 1) (lv' := [(2, .int (v44_2 + 1)), (0, .ref (b 0 0)), (1, .int x1)]) hx hb dX6_tick_53 hl (k := 2) rfl rfl (by decide) rfl (fun ls hl => ?_)
            refine lv_goto (pc := 56) (tgt := 44) hx hb dX6_tick_56 (by decide) ?_
            exact ih (v44_2 + 1) r50 q50 1 (Or.inr ⟨rfl, let_made h_50⟩) _ (lv_sub hl [1, 2, 0] rfl) _ _ hP hD hS hf
          · exact absurd hz hn
        · refine rw_V (pc := 50) (C := RX6) (As := []) (rest := []) (st1 := []) (wn := fun q => wH Z (bu b 7 (ad1 (b 7) q)) r50) ⟨hx, hb, hml, hown, hts⟩ (c_X6_letOneTickGoBy_old Z l (bu b 7 (ad1 (b 7) q44)) h44 r50 h_50 hz) (cwV 0 hts gX6_tick_X6_letOneTickGoBy rfl rfl rfl hv_X6_letOneTickGoBy ⟨Nat.le_of_ble_eq_true rfl, Nat.le_of_ble_eq_true rfl⟩) hK hE hP hD hS hA [0, 1, 2, 3, 4, 5, 6, 7, 8, 9, 10, 11, 12, 13, 14, 15, 16, 17, 18, 19, 20, 21, 22, 23, 24, 25, 26, 27, 28, 29, 30, 31, 32, 33, 34, 35, 36, 37, 38, 39] [] [0, 1, 2, 3, 4, 5, 6, 7, 8, 9, 10, 11, 12, 13, 14, 15, 16, 17, 18, 19, 20, 21, 22, 23, 24, 25, 26, 27, 28, 29, 30, 31, 32, 33, 34, 35, 36, 37, 38, 39] rfl rfl rfl (fun _ => rfl) 6 rfl rfl rfl hl.1 rfl (lv_room (Nat.le_of_ble_eq_true rfl)) dX6_tick_50 ⟨(show cs ≤ 1 from hle), (show 7200 * cs ≤ 7200 by omega)⟩ rfl (fun q50 H locs hP hD hS => ?_)
          refine lv_iinc (pc := 53) (v := v44_2 + 1) (lv' := [(2, .int (v44_2 + 1)), (0, .ref (b 0 0)), (1, .int x1)]) hx hb dX6_tick_53 hl (k := 2) rfl rfl (by decide) rfl (fun ls hl => ?_)
          refine lv_goto (pc := 56) (tgt := 44) hx hb dX6_tick_56 (by decide) ?_
          exact ih (v44_2 + 1) r50 q50 cs (hcs.elim Or.inl (fun h9 => Or.inr ⟨h9.1, let_made h_50⟩)) _ (lv_sub hl [1, 2, 0] rfl) _ _ hP hD hS hf
  rw [f_X6_tick] at hf
  refine lv_iload_n (pc := 0) hx hb dX6_tick_0 rfl (lv_at hl 1 rfl) ?_
  refine lv_iconst (pc := 1) (v := 1) hx hb dX6_tick_1 (by decide) ?_
  refine lv_bipush (pc := 2) (v := 50) hx hb dX6_tick_2 (by decide) ?_
  refine ro_S (pc := 4) (As := [.int x1, .int 1, .int 50]) (rest := []) (st1 := [.int (f_X6_isOutside x1 1 50)]) ⟨hx, hb, hml, hown, hts⟩ (c_X6_isOutside Z l x1 1 50 _ rfl) (va_cwS 3 hts gX6_tick_X6_isOutside rfl rfl rfl hs_X6_isOutside ⟨Nat.le_of_ble_eq_true rfl, Nat.le_of_ble_eq_true rfl⟩) hK hE (hP.sub (ws' := []) [] rfl) rfl hl.1 rfl (lv_room (Nat.le_of_ble_eq_true rfl)) dX6_tick_4 ⟨Nat.le_of_ble_eq_true rfl, Nat.le_of_ble_eq_true rfl⟩ rfl ?_
  refine lv_if_eq (pc := 7) (tgt := 20) hx hb dX6_tick_7 (by decide) (fun c1 => ?_) (fun c1 => ?_)
  · have hf := (if_pos c1).symm.trans hf
    refine lv_aload_n (pc := 20) hx hb dX6_tick_20 rfl (lv_at hl 0 rfl) ?_
    refine va_get (pc := 21) (D := Z.1) (ci := 6) (v := .int ((h 0).1 7 0)) (C := RX6) (T := TX6) (N := 9) hx hb hts u6 hown hK hP 0 rfl rfl 7 (by decide) w0 (fun _ h9 => h9) rfl dX6_tick_21 ?_
    refine lv_iload_n (pc := 24) hx hb dX6_tick_24 rfl (lv_at hl 1 rfl) ?_
    refine lv_iadd (pc := 25) hx hb dX6_tick_25 ?_
    refine lv_sipush (pc := 26) (v := 300) hx hb dX6_tick_26 (by decide) ?_
    refine lv_icmp_le (pc := 29) (tgt := 42) hx hb dX6_tick_29 (by decide) (fun c2 => ?_) (fun c2 => ?_)
    · have hf := (if_pos c2).symm.trans hf
      refine lv_iconst (pc := 42) (v := 0) hx hb dX6_tick_42 (by decide) ?_
      refine lv_istore_n (pc := 43) (lv' := [(2, .int 0), (0, .ref (b 0 0)), (1, .int x1)]) hx hb dX6_tick_43 rfl hl (by decide) rfl (fun ls hl => ?_)
      exact B44 64 0 h (fun _ => b 7 1) 0 (Or.inl rfl) _ (lv_sub hl [1, 2, 0] rfl) _ _ hP hD hS hf
    · have hf := (if_neg c2).symm.trans hf
      exact th_throw (pc := 32) (i := 11) (text := "it would be above the tick 300") hx hb hst hown hno hlk thW_2 w1 w2 hE (by decide) rfl he2 hZ hS hP hD (hl.1.trans hml.symm) dX6_tick_32 dX6_tick_35 dX6_tick_36 dX6_tick_38 dX6_tick_41 (Nat.le_of_ble_eq_true rfl) (Nat.le_of_ble_eq_true rfl) (Nat.le_of_ble_eq_true rfl) (Nat.le_of_ble_eq_true rfl) (Nat.le_of_ble_eq_true rfl) (Nat.le_of_ble_eq_true rfl) (Option.some.inj hf).symm
  · have hf := (if_neg c1).symm.trans hf
    exact th_throw (pc := 10) (i := 10) (text := "ticks is out of range") hx hb hst hown hno hlk thW_1 w3 w4 hE (by decide) rfl he1 hZ hS hP hD (hl.1.trans hml.symm) dX6_tick_10 dX6_tick_13 dX6_tick_14 dX6_tick_16 dX6_tick_19 (Nat.le_of_ble_eq_true rfl) (Nat.le_of_ble_eq_true rfl) (Nat.le_of_ble_eq_true rfl) (Nat.le_of_ble_eq_true rfl) (Nat.le_of_ble_eq_true rfl) (Nat.le_of_ble_eq_true rfl) (Option.some.inj hf).symm
