def f_L_source (h : Nat → ObS) (x1 : Int32) (x2 : Int32) (w : ObS) : Option (Int32 × (Nat → ObS) × ObS) :=
  (f_X6_source h x1 x2).bind fun R0 =>
  sumE R0 (fun k => if k = 1 then some ((1 : Int32), h, w) else if k = 2 then some ((2 : Int32), h, w) else none)
    (fun r => some ((0 : Int32), r.2, oj w 0 ((0 : Int32).toNatClampNeg) r.1.toInt64))
set_option maxHeartbeats 4000000 in
set_option maxRecDepth 100000 in
theorem c_L_source (Z : EnvT) (l : Launch) (hst : l.stackTraces = false) (b : Nat → Nat → Nat) (h : Nat → ObS) (x1 : Int32) (x2 : Int32) (a : Nat → Nat) (w : ObS) (R : Int32 × (Nat → ObS) × ObS) (hf : f_L_source h x1 x2 w = some R) : WR Z l yL_source wsL_source { frames := 9, cells := 1, slots := 6, locals := 154 } [.ref (b 0 0), .int x1, .int x2, .ref (a 0)] (wH Z b h ++ wO Z a w) (some (.int R.1)) (fun _ => wH Z b R.2.1 ++ wO Z a R.2.2) 1 6 := by
  refine wr_of (cc := cL_source) (maxL := 5) (ret := (some .int)) (hh := [(0, 10, 13, 13), (0, 10, 17, 15)]) (by decide) rfl (Nat.le_of_ble_eq_true rfl) ?_
  intro p e s m below meth c A ls hx hb hr hml hts hown hlk htab hP hK hE hD hA hS hZ hl
  have hown : s.vm.findClass RL = some m.cls := hown
  have hl : lv_has ls 5 [(0, .ref (b 0 0)), (1, .int x1), (2, .int x2), (3, .ref (a 0))] := hl
  have wc13 := hts (.classLink RL 13 "java/lang/IllegalArgumentException") (by decide +kernel)
  have wc15 := hts (.classLink RL 15 "java/lang/IllegalStateException") (by decide +kernel)
  rw [f_L_source] at hf
  obtain ⟨R0, h0, hf⟩ := bd hf
  refine lv_aload_n (pc := 0) hx hb dL_source_0 rfl (lv_at hl 3 rfl) ?_
  refine lv_iconst (pc := 1) (v := 0) hx hb dL_source_1 (by decide) ?_
  refine lv_aload_n (pc := 2) hx hb dL_source_2 rfl (lv_at hl 0 rfl) ?_
  refine lv_iload_n (pc := 3) hx hb dL_source_3 rfl (lv_at hl 1 rfl) ?_
  refine lv_iload_n (pc := 4) hx hb dL_source_4 rfl (lv_at hl 2 rfl) ?_
  rcases R0 with k | r
  · have hf := (sumE_l).symm.trans hf
    refine th_Lx (pc := 5) (C := RX6) (As := [.int x1, .int x2]) (rest := [.int 0, .ref (a 0)]) ⟨hx, hb, hml, hown, hts⟩ (c_X6_source Z l hst b h x1 x2 (.inl k) h0) (cwV 2 hts gL_source_X6_source rfl rfl rfl hv_X6_source ⟨Nat.le_of_ble_eq_true rfl, Nat.le_of_ble_eq_true rfl⟩) hK hE hP hD hS hA hZ [0, 1, 2, 3, 4, 5, 6, 7, 8, 9, 10, 11, 12, 13, 14, 15, 16, 17, 18, 19, 20, 21, 22, 23, 24, 25, 26, 27, 28, 29, 30, 31, 32, 33, 34, 35, 36, 37, 38, 39] [40] [1, 2, 3, 4, 5, 6, 7, 8, 9, 10, 11, 12, 13, 14, 15, 16, 17, 18, 19, 20, 21, 22, 23, 24, 25, 26, 27, 28, 29, 30, 31, 32, 33, 34, 35, 36, 37, 38, 39, 40, 0] rfl rfl rfl rfl 6 rfl rfl rfl hl.1 rfl (lv_room (Nat.le_of_ble_eq_true rfl)) dL_source_5 ⟨Nat.le_of_ble_eq_true rfl, Nat.le_of_ble_eq_true rfl⟩ (fun q9 ce H locs hP hD hS hq hv hcl => ?_)
    by_cases c1 : k = 1
    · have hf := (if_pos c1).symm.trans hf
      subst c1
      refine vx_catch (name := exN 1) hown [] ⟨0, 10, 13, 13⟩ [⟨0, 10, 17, 15⟩] (htab.trans rfl) (fun _ h => nomatch h) (by decide) (by decide) wc13 (va_Nw.use rfl (hE.2.2.2.1 1)) hq hv hcl ?_
      refine lv_astore (pc := 13) (lv' := [(4, .ref q9), (0, .ref (b 0 0)), (1, .int x1), (2, .int x2), (3, .ref (a 0))]) hx hb dL_source_13 hl (by decide) rfl (fun ls hl => ?_)
      refine lv_iconst (pc := 15) (v := 1) hx hb dL_source_15 (by decide) ?_
      have hf := (Option.some.inj hf)
      subst hf
      refine W.widen (k := 1) (n := 6) (Nat.le_of_ble_eq_true rfl) (Nat.le_of_ble_eq_true rfl) ?_
      exact vx_ret (rw_i (fun _ => 0) hx hb hr hlk rfl hP hD hS dL_source_16)
    · have hf := (if_neg c1).symm.trans hf
      by_cases c2 : k = 2
      · have hf := (if_pos c2).symm.trans hf
        subst c2
        refine vx_catch (name := exN 2) hown [⟨0, 10, 13, 13⟩] ⟨0, 10, 17, 15⟩ [] (htab.trans rfl) (fun z hz => by rcases List.mem_cons.mp hz with rfl | hz; { exact Or.inr ⟨by decide, exN 1, wc13, hE.2.2.2.2.1 2 1 (by decide)⟩ };  exact nomatch hz) (by decide) (by decide) wc15 (va_Nw.use rfl (hE.2.2.2.1 2)) hq hv hcl ?_
        refine lv_astore (pc := 17) (lv' := [(4, .ref q9), (0, .ref (b 0 0)), (1, .int x1), (2, .int x2), (3, .ref (a 0))]) hx hb dL_source_17 hl (by decide) rfl (fun ls hl => ?_)
        refine lv_iconst (pc := 19) (v := 2) hx hb dL_source_19 (by decide) ?_
        have hf := (Option.some.inj hf)
        subst hf
        refine W.widen (k := 1) (n := 6) (Nat.le_of_ble_eq_true rfl) (Nat.le_of_ble_eq_true rfl) ?_
        exact vx_ret (rw_i (fun _ => 0) hx hb hr hlk rfl hP hD hS dL_source_20)
      · have hf := (if_neg c2).symm.trans hf
        exact nomatch hf
  · have hf := (sumE_r).symm.trans hf
    refine th_Ln (pc := 5) (C := RX6) (As := [.int x1, .int x2]) (rest := [.int 0, .ref (a 0)]) (st1 := [.int r.1, .int 0, .ref (a 0)]) (wn := fun _ => wH Z b r.2 ++ wO Z a w) ⟨hx, hb, hml, hown, hts⟩ (c_X6_source Z l hst b h x1 x2 (.inr r) h0) (cwV 2 hts gL_source_X6_source rfl rfl rfl hv_X6_source ⟨Nat.le_of_ble_eq_true rfl, Nat.le_of_ble_eq_true rfl⟩) hK hE hP hD hS hA hZ [0, 1, 2, 3, 4, 5, 6, 7, 8, 9, 10, 11, 12, 13, 14, 15, 16, 17, 18, 19, 20, 21, 22, 23, 24, 25, 26, 27, 28, 29, 30, 31, 32, 33, 34, 35, 36, 37, 38, 39] [40] [1, 2, 3, 4, 5, 6, 7, 8, 9, 10, 11, 12, 13, 14, 15, 16, 17, 18, 19, 20, 21, 22, 23, 24, 25, 26, 27, 28, 29, 30, 31, 32, 33, 34, 35, 36, 37, 38, 39, 40, 0] rfl rfl rfl (fun _ => rfl) 6 rfl rfl rfl hl.1 rfl (lv_room (Nat.le_of_ble_eq_true rfl)) dL_source_5 ⟨Nat.le_of_ble_eq_true rfl, Nat.le_of_ble_eq_true rfl⟩ rfl (fun _ H locs hP hD hS => ?_)
    refine lv_i2l (pc := 8) (v := r.1.toInt64) hx hb dL_source_8 rfl ?_
    refine va_last (pc := 9) (D := Z.1) (n := 1) (f := w.2 0) hx hb hK hP hD hS 40 1 rfl rfl (inb_in (by decide)) dL_source_9 (fun H locs hP hD hS => ?_)
    have hP : va_P Z.1 vwCl (wH Z b r.2 ++ wO Z a (oj w 0 ((0 : Int32).toNatClampNeg) r.1.toInt64)) H := hP
    have hD : va_D A (wH Z b r.2 ++ wO Z a (oj w 0 ((0 : Int32).toNatClampNeg) r.1.toInt64)) := hD
    refine lv_goto (pc := 10) (tgt := 21) hx hb dL_source_10 (by decide) ?_
    refine lv_iconst (pc := 21) (v := 0) hx hb dL_source_21 (by decide) ?_
    have hf := (Option.some.inj hf)
    subst hf
    refine W.widen (k := 1) (n := 6) (Nat.le_of_ble_eq_true rfl) (Nat.le_of_ble_eq_true rfl) ?_
    exact vx_ret (rw_i (fun _ => 0) hx hb hr hlk rfl hP hD hS dL_source_22)
def f_L_unit (h : Nat → ObS) (x1 : Int32) (x2 : Int32) (x3 : Int32) (x4 : Int32) (w : ObS) : Option (Int32 × (Nat → ObS) × ObS) :=
  (f_X6_unit h x1 x2 x3 x4).bind fun R0 =>
  sumE R0 (fun k => if k = 1 then some ((1 : Int32), h, w) else if k = 3 then some ((2 : Int32), h, w) else if k = 2 then some ((3 : Int32), h, w) else none)
    (fun r => some ((0 : Int32), r.2, oj w 0 ((0 : Int32).toNatClampNeg) r.1.toInt64))
set_option maxHeartbeats 4000000 in
set_option maxRecDepth 100000 in
theorem c_L_unit (Z : EnvT) (l : Launch) (hst : l.stackTraces = false) (b : Nat → Nat → Nat) (h : Nat → ObS) (x1 : Int32) (x2 : Int32) (x3 : Int32) (x4 : Int32) (a : Nat → Nat) (w : ObS) (R : Int32 × (Nat → ObS) × ObS) (hf : f_L_unit h x1 x2 x3 x4 w = some R) : WR Z l yL_unit wsL_unit { frames := 9, cells := 5, slots := 30, locals := 157 } [.ref (b 0 0), .int x1, .int x2, .int x3, .int x4, .ref (a 0)] (wH Z b h ++ wO Z a w) (some (.int R.1)) (fun _ => wH Z b R.2.1 ++ wO Z a R.2.2) 5 30 := by
  refine wr_of (cc := cL_unit) (maxL := 7) (ret := (some .int)) (hh := [(0, 14, 17, 13), (0, 14, 21, 21), (0, 14, 25, 15)]) (by decide) rfl (Nat.le_of_ble_eq_true rfl) ?_
  intro p e s m below meth c A ls hx hb hr hml hts hown hlk htab hP hK hE hD hA hS hZ hl
  have hown : s.vm.findClass RL = some m.cls := hown
  have hl : lv_has ls 7 [(0, .ref (b 0 0)), (1, .int x1), (2, .int x2), (3, .int x3), (4, .int x4), (5, .ref (a 0))] := hl
  have wc13 := hts (.classLink RL 13 "java/lang/IllegalArgumentException") (by decide +kernel)
  have wc15 := hts (.classLink RL 15 "java/lang/IllegalStateException") (by decide +kernel)
  have wc21 := hts (.classLink RL 21 "java/lang/IndexOutOfBoundsException") (by decide +kernel)
  rw [f_L_unit] at hf
  obtain ⟨R0, h0, hf⟩ := bd hf
  refine lv_aload (pc := 0) hx hb dL_unit_0 (lv_at hl 5 rfl) ?_
  refine lv_iconst (pc := 2) (v := 0) hx hb dL_unit_2 (by decide) ?_
  refine lv_aload_n (pc := 3) hx hb dL_unit_3 rfl (lv_at hl 0 rfl) ?_
  refine lv_iload_n (pc := 4) hx hb dL_unit_4 rfl (lv_at hl 1 rfl) ?_
  refine lv_iload_n (pc := 5) hx hb dL_unit_5 rfl (lv_at hl 2 rfl) ?_
  refine lv_iload_n (pc := 6) hx hb dL_unit_6 rfl (lv_at hl 3 rfl) ?_
  refine lv_iload (pc := 7) hx hb dL_unit_7 (lv_at hl 4 rfl) ?_
  rcases R0 with k | r
  · have hf := (sumE_l).symm.trans hf
    refine th_Lx (pc := 9) (C := RX6) (As := [.int x1, .int x2, .int x3, .int x4]) (rest := [.int 0, .ref (a 0)]) ⟨hx, hb, hml, hown, hts⟩ (c_X6_unit Z l hst b h x1 x2 x3 x4 (.inl k) h0) (cwV 4 hts gL_unit_X6_unit rfl rfl rfl hv_X6_unit ⟨Nat.le_of_ble_eq_true rfl, Nat.le_of_ble_eq_true rfl⟩) hK hE hP hD hS hA hZ [0, 1, 2, 3, 4, 5, 6, 7, 8, 9, 10, 11, 12, 13, 14, 15, 16, 17, 18, 19, 20, 21, 22, 23, 24, 25, 26, 27, 28, 29, 30, 31, 32, 33, 34, 35, 36, 37, 38, 39] [40] [1, 2, 3, 4, 5, 6, 7, 8, 9, 10, 11, 12, 13, 14, 15, 16, 17, 18, 19, 20, 21, 22, 23, 24, 25, 26, 27, 28, 29, 30, 31, 32, 33, 34, 35, 36, 37, 38, 39, 40, 0] rfl rfl rfl rfl 6 rfl rfl rfl hl.1 rfl (lv_room (Nat.le_of_ble_eq_true rfl)) dL_unit_9 ⟨Nat.le_of_ble_eq_true rfl, Nat.le_of_ble_eq_true rfl⟩ (fun q9 ce H locs hP hD hS hq hv hcl => ?_)
    by_cases c1 : k = 1
    · have hf := (if_pos c1).symm.trans hf
      subst c1
      refine vx_catch (name := exN 1) hown [] ⟨0, 14, 17, 13⟩ [⟨0, 14, 21, 21⟩, ⟨0, 14, 25, 15⟩] (htab.trans rfl) (fun _ h => nomatch h) (by decide) (by decide) wc13 (va_Nw.use rfl (hE.2.2.2.1 1)) hq hv hcl ?_
      refine lv_astore (pc := 17) (lv' := [(6, .ref q9), (0, .ref (b 0 0)), (1, .int x1), (2, .int x2), (3, .int x3), (4, .int x4), (5, .ref (a 0))]) hx hb dL_unit_17 hl (by decide) rfl (fun ls hl => ?_)
      refine lv_iconst (pc := 19) (v := 1) hx hb dL_unit_19 (by decide) ?_
      have hf := (Option.some.inj hf)
      subst hf
      refine W.widen (k := 5) (n := 30) (Nat.le_of_ble_eq_true rfl) (Nat.le_of_ble_eq_true rfl) ?_
      exact vx_ret (rw_i (fun _ => 0) hx hb hr hlk rfl hP hD hS dL_unit_20)
    · have hf := (if_neg c1).symm.trans hf
      by_cases c2 : k = 3
      · have hf := (if_pos c2).symm.trans hf
        subst c2
        refine vx_catch (name := exN 3) hown [⟨0, 14, 17, 13⟩] ⟨0, 14, 21, 21⟩ [⟨0, 14, 25, 15⟩] (htab.trans rfl) (fun z hz => by rcases List.mem_cons.mp hz with rfl | hz; { exact Or.inr ⟨by decide, exN 1, wc13, hE.2.2.2.2.1 3 1 (by decide)⟩ };  exact nomatch hz) (by decide) (by decide) wc21 (va_Nw.use rfl (hE.2.2.2.1 3)) hq hv hcl ?_
        refine lv_astore (pc := 21) (lv' := [(6, .ref q9), (0, .ref (b 0 0)), (1, .int x1), (2, .int x2), (3, .int x3), (4, .int x4), (5, .ref (a 0))]) hx hb dL_unit_21 hl (by decide) rfl (fun ls hl => ?_)
        refine lv_iconst (pc := 23) (v := 2) hx hb dL_unit_23 (by decide) ?_
        have hf := (Option.some.inj hf)
        subst hf
        refine W.widen (k := 5) (n := 30) (Nat.le_of_ble_eq_true rfl) (Nat.le_of_ble_eq_true rfl) ?_
        exact vx_ret (rw_i (fun _ => 0) hx hb hr hlk rfl hP hD hS dL_unit_24)
      · have hf := (if_neg c2).symm.trans hf
        by_cases c3 : k = 2
        · have hf := (if_pos c3).symm.trans hf
          subst c3
          refine vx_catch (name := exN 2) hown [⟨0, 14, 17, 13⟩, ⟨0, 14, 21, 21⟩] ⟨0, 14, 25, 15⟩ [] (htab.trans rfl) (fun z hz => by rcases List.mem_cons.mp hz with rfl | hz; { exact Or.inr ⟨by decide, exN 1, wc13, hE.2.2.2.2.1 2 1 (by decide)⟩ }; rcases List.mem_cons.mp hz with rfl | hz; { exact Or.inr ⟨by decide, exN 3, wc21, hE.2.2.2.2.1 2 3 (by decide)⟩ };  exact nomatch hz) (by decide) (by decide) wc15 (va_Nw.use rfl (hE.2.2.2.1 2)) hq hv hcl ?_
          refine lv_astore (pc := 25) (lv' := [(6, .ref q9), (0, .ref (b 0 0)), (1, .int x1), (2, .int x2), (3, .int x3), (4, .int x4), (5, .ref (a 0))]) hx hb dL_unit_25 hl (by decide) rfl (fun ls hl => ?_)
          refine lv_iconst (pc := 27) (v := 3) hx hb dL_unit_27 (by decide) ?_
          have hf := (Option.some.inj hf)
          subst hf
          refine W.widen (k := 5) (n := 30) (Nat.le_of_ble_eq_true rfl) (Nat.le_of_ble_eq_true rfl) ?_
          exact vx_ret (rw_i (fun _ => 0) hx hb hr hlk rfl hP hD hS dL_unit_28)
        · have hf := (if_neg c3).symm.trans hf
          exact nomatch hf
  · have hf := (sumE_r).symm.trans hf
    refine th_Ln (pc := 9) (C := RX6) (As := [.int x1, .int x2, .int x3, .int x4]) (rest := [.int 0, .ref (a 0)]) (st1 := [.int r.1, .int 0, .ref (a 0)]) (wn := fun _ => wH Z b r.2 ++ wO Z a w) ⟨hx, hb, hml, hown, hts⟩ (c_X6_unit Z l hst b h x1 x2 x3 x4 (.inr r) h0) (cwV 4 hts gL_unit_X6_unit rfl rfl rfl hv_X6_unit ⟨Nat.le_of_ble_eq_true rfl, Nat.le_of_ble_eq_true rfl⟩) hK hE hP hD hS hA hZ [0, 1, 2, 3, 4, 5, 6, 7, 8, 9, 10, 11, 12, 13, 14, 15, 16, 17, 18, 19, 20, 21, 22, 23, 24, 25, 26, 27, 28, 29, 30, 31, 32, 33, 34, 35, 36, 37, 38, 39] [40] [1, 2, 3, 4, 5, 6, 7, 8, 9, 10, 11, 12, 13, 14, 15, 16, 17, 18, 19, 20, 21, 22, 23, 24, 25, 26, 27, 28, 29, 30, 31, 32, 33, 34, 35, 36, 37, 38, 39, 40, 0] rfl rfl rfl (fun _ => rfl) 6 rfl rfl rfl hl.1 rfl (lv_room (Nat.le_of_ble_eq_true rfl)) dL_unit_9 ⟨Nat.le_of_ble_eq_true rfl, Nat.le_of_ble_eq_true rfl⟩ rfl (fun _ H locs hP hD hS => ?_)
    refine lv_i2l (pc := 12) (v := r.1.toInt64) hx hb dL_unit_12 rfl ?_
    refine va_last (pc := 13) (D := Z.1) (n := 1) (f := w.2 0) hx hb hK hP hD hS 40 1 rfl rfl (inb_in (by decide)) dL_unit_13 (fun H locs hP hD hS => ?_)
    have hP : va_P Z.1 vwCl (wH Z b r.2 ++ wO Z a (oj w 0 ((0 : Int32).toNatClampNeg) r.1.toInt64)) H := hP
    have hD : va_D A (wH Z b r.2 ++ wO Z a (oj w 0 ((0 : Int32).toNatClampNeg) r.1.toInt64)) := hD
    refine lv_goto (pc := 14) (tgt := 29) hx hb dL_unit_14 (by decide) ?_
    refine lv_iconst (pc := 29) (v := 0) hx hb dL_unit_29 (by decide) ?_
    have hf := (Option.some.inj hf)
    subst hf
    refine W.widen (k := 5) (n := 30) (Nat.le_of_ble_eq_true rfl) (Nat.le_of_ble_eq_true rfl) ?_
    exact vx_ret (rw_i (fun _ => 0) hx hb hr hlk rfl hP hD hS dL_unit_30)
def f_L_back (h : Nat → ObS) (x1 : Int32) (x2 : Int32) (w : ObS) : Option (Int32 × (Nat → ObS) × ObS) :=
  (f_X6_back h x1 x2).bind fun R0 =>
  sumE R0 (fun k => if k = 3 then some ((1 : Int32), h, w) else if k = 2 then some ((2 : Int32), h, w) else none)
    (fun r => some ((0 : Int32), r.2, oj w 0 ((0 : Int32).toNatClampNeg) r.1.toInt64))
set_option maxHeartbeats 4000000 in
set_option maxRecDepth 100000 in
theorem c_L_back (Z : EnvT) (l : Launch) (hst : l.stackTraces = false) (b : Nat → Nat → Nat) (h : Nat → ObS) (x1 : Int32) (x2 : Int32) (a : Nat → Nat) (w : ObS) (R : Int32 × (Nat → ObS) × ObS) (hf : f_L_back h x1 x2 w = some R) : WR Z l yL_back wsL_back { frames := 8, cells := 4, slots := 24, locals := 135 } [.ref (b 0 0), .int x1, .int x2, .ref (a 0)] (wH Z b h ++ wO Z a w) (some (.int R.1)) (fun _ => wH Z b R.2.1 ++ wO Z a R.2.2) 4 24 := by
  refine wr_of (cc := cL_back) (maxL := 5) (ret := (some .int)) (hh := [(0, 10, 13, 21), (0, 10, 17, 15)]) (by decide) rfl (Nat.le_of_ble_eq_true rfl) ?_
  intro p e s m below meth c A ls hx hb hr hml hts hown hlk htab hP hK hE hD hA hS hZ hl
  have hown : s.vm.findClass RL = some m.cls := hown
  have hl : lv_has ls 5 [(0, .ref (b 0 0)), (1, .int x1), (2, .int x2), (3, .ref (a 0))] := hl
  have wc15 := hts (.classLink RL 15 "java/lang/IllegalStateException") (by decide +kernel)
  have wc21 := hts (.classLink RL 21 "java/lang/IndexOutOfBoundsException") (by decide +kernel)
  rw [f_L_back] at hf
  obtain ⟨R0, h0, hf⟩ := bd hf
  refine lv_aload_n (pc := 0) hx hb dL_back_0 rfl (lv_at hl 3 rfl) ?_
  refine lv_iconst (pc := 1) (v := 0) hx hb dL_back_1 (by decide) ?_
  refine lv_aload_n (pc := 2) hx hb dL_back_2 rfl (lv_at hl 0 rfl) ?_
  refine lv_iload_n (pc := 3) hx hb dL_back_3 rfl (lv_at hl 1 rfl) ?_
  refine lv_iload_n (pc := 4) hx hb dL_back_4 rfl (lv_at hl 2 rfl) ?_
  rcases R0 with k | r
  · have hf := (sumE_l).symm.trans hf
    refine th_Lx (pc := 5) (C := RX6) (As := [.int x1, .int x2]) (rest := [.int 0, .ref (a 0)]) ⟨hx, hb, hml, hown, hts⟩ (c_X6_back Z l hst b h x1 x2 (.inl k) h0) (cwV 2 hts gL_back_X6_back rfl rfl rfl hv_X6_back ⟨Nat.le_of_ble_eq_true rfl, Nat.le_of_ble_eq_true rfl⟩) hK hE hP hD hS hA hZ [0, 1, 2, 3, 4, 5, 6, 7, 8, 9, 10, 11, 12, 13, 14, 15, 16, 17, 18, 19, 20, 21, 22, 23, 24, 25, 26, 27, 28, 29, 30, 31, 32, 33, 34, 35, 36, 37, 38, 39] [40] [1, 2, 3, 4, 5, 6, 7, 8, 9, 10, 11, 12, 13, 14, 15, 16, 17, 18, 19, 20, 21, 22, 23, 24, 25, 26, 27, 28, 29, 30, 31, 32, 33, 34, 35, 36, 37, 38, 39, 40, 0] rfl rfl rfl rfl 6 rfl rfl rfl hl.1 rfl (lv_room (Nat.le_of_ble_eq_true rfl)) dL_back_5 ⟨Nat.le_of_ble_eq_true rfl, Nat.le_of_ble_eq_true rfl⟩ (fun q9 ce H locs hP hD hS hq hv hcl => ?_)
    by_cases c1 : k = 3
    · have hf := (if_pos c1).symm.trans hf
      subst c1
      refine vx_catch (name := exN 3) hown [] ⟨0, 10, 13, 21⟩ [⟨0, 10, 17, 15⟩] (htab.trans rfl) (fun _ h => nomatch h) (by decide) (by decide) wc21 (va_Nw.use rfl (hE.2.2.2.1 3)) hq hv hcl ?_
      refine lv_astore (pc := 13) (lv' := [(4, .ref q9), (0, .ref (b 0 0)), (1, .int x1), (2, .int x2), (3, .ref (a 0))]) hx hb dL_back_13 hl (by decide) rfl (fun ls hl => ?_)
      refine lv_iconst (pc := 15) (v := 1) hx hb dL_back_15 (by decide) ?_
      have hf := (Option.some.inj hf)
      subst hf
      refine W.widen (k := 4) (n := 24) (Nat.le_of_ble_eq_true rfl) (Nat.le_of_ble_eq_true rfl) ?_
      exact vx_ret (rw_i (fun _ => 0) hx hb hr hlk rfl hP hD hS dL_back_16)
    · have hf := (if_neg c1).symm.trans hf
      by_cases c2 : k = 2
      · have hf := (if_pos c2).symm.trans hf
        subst c2
        refine vx_catch (name := exN 2) hown [⟨0, 10, 13, 21⟩] ⟨0, 10, 17, 15⟩ [] (htab.trans rfl) (fun z hz => by rcases List.mem_cons.mp hz with rfl | hz; { exact Or.inr ⟨by decide, exN 3, wc21, hE.2.2.2.2.1 2 3 (by decide)⟩ };  exact nomatch hz) (by decide) (by decide) wc15 (va_Nw.use rfl (hE.2.2.2.1 2)) hq hv hcl ?_
        refine lv_astore (pc := 17) (lv' := [(4, .ref q9), (0, .ref (b 0 0)), (1, .int x1), (2, .int x2), (3, .ref (a 0))]) hx hb dL_back_17 hl (by decide) rfl (fun ls hl => ?_)
        refine lv_iconst (pc := 19) (v := 2) hx hb dL_back_19 (by decide) ?_
        have hf := (Option.some.inj hf)
        subst hf
        refine W.widen (k := 4) (n := 24) (Nat.le_of_ble_eq_true rfl) (Nat.le_of_ble_eq_true rfl) ?_
        exact vx_ret (rw_i (fun _ => 0) hx hb hr hlk rfl hP hD hS dL_back_20)
      · have hf := (if_neg c2).symm.trans hf
        exact nomatch hf
  · have hf := (sumE_r).symm.trans hf
    refine th_Ln (pc := 5) (C := RX6) (As := [.int x1, .int x2]) (rest := [.int 0, .ref (a 0)]) (st1 := [.int r.1, .int 0, .ref (a 0)]) (wn := fun _ => wH Z b r.2 ++ wO Z a w) ⟨hx, hb, hml, hown, hts⟩ (c_X6_back Z l hst b h x1 x2 (.inr r) h0) (cwV 2 hts gL_back_X6_back rfl rfl rfl hv_X6_back ⟨Nat.le_of_ble_eq_true rfl, Nat.le_of_ble_eq_true rfl⟩) hK hE hP hD hS hA hZ [0, 1, 2, 3, 4, 5, 6, 7, 8, 9, 10, 11, 12, 13, 14, 15, 16, 17, 18, 19, 20, 21, 22, 23, 24, 25, 26, 27, 28, 29, 30, 31, 32, 33, 34, 35, 36, 37, 38, 39] [40] [1, 2, 3, 4, 5, 6, 7, 8, 9, 10, 11, 12, 13, 14, 15, 16, 17, 18, 19, 20, 21, 22, 23, 24, 25, 26, 27, 28, 29, 30, 31, 32, 33, 34, 35, 36, 37, 38, 39, 40, 0] rfl rfl rfl (fun _ => rfl) 6 rfl rfl rfl hl.1 rfl (lv_room (Nat.le_of_ble_eq_true rfl)) dL_back_5 ⟨Nat.le_of_ble_eq_true rfl, Nat.le_of_ble_eq_true rfl⟩ rfl (fun _ H locs hP hD hS => ?_)
    refine lv_i2l (pc := 8) (v := r.1.toInt64) hx hb dL_back_8 rfl ?_
    refine va_last (pc := 9) (D := Z.1) (n := 1) (f := w.2 0) hx hb hK hP hD hS 40 1 rfl rfl (inb_in (by decide)) dL_back_9 (fun H locs hP hD hS => ?_)
    have hP : va_P Z.1 vwCl (wH Z b r.2 ++ wO Z a (oj w 0 ((0 : Int32).toNatClampNeg) r.1.toInt64)) H := hP
    have hD : va_D A (wH Z b r.2 ++ wO Z a (oj w 0 ((0 : Int32).toNatClampNeg) r.1.toInt64)) := hD
    refine lv_goto (pc := 10) (tgt := 21) hx hb dL_back_10 (by decide) ?_
    refine lv_iconst (pc := 21) (v := 0) hx hb dL_back_21 (by decide) ?_
    have hf := (Option.some.inj hf)
    subst hf
    refine W.widen (k := 4) (n := 24) (Nat.le_of_ble_eq_true rfl) (Nat.le_of_ble_eq_true rfl) ?_
    exact vx_ret (rw_i (fun _ => 0) hx hb hr hlk rfl hP hD hS dL_back_22)
def f_L_set (h : Nat → ObS) (x1 : Int32) (x2 : Int32) (w : ObS) : Option (Int32 × (Nat → ObS) × ObS) :=
  (f_X6_set h x1 x2).bind fun R0 =>
  sumE R0 (fun k => if k = 3 then some ((1 : Int32), h, w) else if k = 1 then some ((2 : Int32), h, w) else none)
    (fun r => some ((0 : Int32), r.2, oj w 0 ((0 : Int32).toNatClampNeg) r.1.toInt64))
set_option maxHeartbeats 4000000 in
set_option maxRecDepth 100000 in
theorem c_L_set (Z : EnvT) (l : Launch) (hst : l.stackTraces = false) (b : Nat → Nat → Nat) (h : Nat → ObS) (x1 : Int32) (x2 : Int32) (a : Nat → Nat) (w : ObS) (R : Int32 × (Nat → ObS) × ObS) (hf : f_L_set h x1 x2 w = some R) : WR Z l yL_set wsL_set { frames := 8, cells := 2, slots := 12, locals := 137 } [.ref (b 0 0), .int x1, .int x2, .ref (a 0)] (wH Z b h ++ wO Z a w) (some (.int R.1)) (fun _ => wH Z b R.2.1 ++ wO Z a R.2.2) 2 12 := by
  refine wr_of (cc := cL_set) (maxL := 5) (ret := (some .int)) (hh := [(0, 10, 13, 21), (0, 10, 17, 13)]) (by decide) rfl (Nat.le_of_ble_eq_true rfl) ?_
  intro p e s m below meth c A ls hx hb hr hml hts hown hlk htab hP hK hE hD hA hS hZ hl
  have hown : s.vm.findClass RL = some m.cls := hown
  have hl : lv_has ls 5 [(0, .ref (b 0 0)), (1, .int x1), (2, .int x2), (3, .ref (a 0))] := hl
  have wc13 := hts (.classLink RL 13 "java/lang/IllegalArgumentException") (by decide +kernel)
  have wc21 := hts (.classLink RL 21 "java/lang/IndexOutOfBoundsException") (by decide +kernel)
  rw [f_L_set] at hf
  obtain ⟨R0, h0, hf⟩ := bd hf
  refine lv_aload_n (pc := 0) hx hb dL_set_0 rfl (lv_at hl 3 rfl) ?_
  refine lv_iconst (pc := 1) (v := 0) hx hb dL_set_1 (by decide) ?_
  refine lv_aload_n (pc := 2) hx hb dL_set_2 rfl (lv_at hl 0 rfl) ?_
  refine lv_iload_n (pc := 3) hx hb dL_set_3 rfl (lv_at hl 1 rfl) ?_
  refine lv_iload_n (pc := 4) hx hb dL_set_4 rfl (lv_at hl 2 rfl) ?_
  rcases R0 with k | r
  · have hf := (sumE_l).symm.trans hf
    refine th_Lx (pc := 5) (C := RX6) (As := [.int x1, .int x2]) (rest := [.int 0, .ref (a 0)]) ⟨hx, hb, hml, hown, hts⟩ (c_X6_set Z l hst b h x1 x2 (.inl k) h0) (cwV 2 hts gL_set_X6_set rfl rfl rfl hv_X6_set ⟨Nat.le_of_ble_eq_true rfl, Nat.le_of_ble_eq_true rfl⟩) hK hE hP hD hS hA hZ [0, 1, 2, 3, 4, 5, 6, 7, 8, 9, 10, 11, 12, 13, 14, 15, 16, 17, 18, 19, 20, 21, 22, 23, 24, 25, 26, 27, 28, 29, 30, 31, 32, 33, 34, 35, 36, 37, 38, 39] [40] [1, 2, 3, 4, 5, 6, 7, 8, 9, 10, 11, 12, 13, 14, 15, 16, 17, 18, 19, 20, 21, 22, 23, 24, 25, 26, 27, 28, 29, 30, 31, 32, 33, 34, 35, 36, 37, 38, 39, 40, 0] rfl rfl rfl rfl 6 rfl rfl rfl hl.1 rfl (lv_room (Nat.le_of_ble_eq_true rfl)) dL_set_5 ⟨Nat.le_of_ble_eq_true rfl, Nat.le_of_ble_eq_true rfl⟩ (fun q9 ce H locs hP hD hS hq hv hcl => ?_)
    by_cases c1 : k = 3
    · have hf := (if_pos c1).symm.trans hf
      subst c1
      refine vx_catch (name := exN 3) hown [] ⟨0, 10, 13, 21⟩ [⟨0, 10, 17, 13⟩] (htab.trans rfl) (fun _ h => nomatch h) (by decide) (by decide) wc21 (va_Nw.use rfl (hE.2.2.2.1 3)) hq hv hcl ?_
      refine lv_astore (pc := 13) (lv' := [(4, .ref q9), (0, .ref (b 0 0)), (1, .int x1), (2, .int x2), (3, .ref (a 0))]) hx hb dL_set_13 hl (by decide) rfl (fun ls hl => ?_)
      refine lv_iconst (pc := 15) (v := 1) hx hb dL_set_15 (by decide) ?_
      have hf := (Option.some.inj hf)
      subst hf
      refine W.widen (k := 2) (n := 12) (Nat.le_of_ble_eq_true rfl) (Nat.le_of_ble_eq_true rfl) ?_
      exact vx_ret (rw_i (fun _ => 0) hx hb hr hlk rfl hP hD hS dL_set_16)
    · have hf := (if_neg c1).symm.trans hf
      by_cases c2 : k = 1
      · have hf := (if_pos c2).symm.trans hf
        subst c2
        refine vx_catch (name := exN 1) hown [⟨0, 10, 13, 21⟩] ⟨0, 10, 17, 13⟩ [] (htab.trans rfl) (fun z hz => by rcases List.mem_cons.mp hz with rfl | hz; { exact Or.inr ⟨by decide, exN 3, wc21, hE.2.2.2.2.1 1 3 (by decide)⟩ };  exact nomatch hz) (by decide) (by decide) wc13 (va_Nw.use rfl (hE.2.2.2.1 1)) hq hv hcl ?_
        refine lv_astore (pc := 17) (lv' := [(4, .ref q9), (0, .ref (b 0 0)), (1, .int x1), (2, .int x2), (3, .ref (a 0))]) hx hb dL_set_17 hl (by decide) rfl (fun ls hl => ?_)
        refine lv_iconst (pc := 19) (v := 2) hx hb dL_set_19 (by decide) ?_
        have hf := (Option.some.inj hf)
        subst hf
        refine W.widen (k := 2) (n := 12) (Nat.le_of_ble_eq_true rfl) (Nat.le_of_ble_eq_true rfl) ?_
        exact vx_ret (rw_i (fun _ => 0) hx hb hr hlk rfl hP hD hS dL_set_20)
      · have hf := (if_neg c2).symm.trans hf
        exact nomatch hf
  · have hf := (sumE_r).symm.trans hf
    refine th_Ln (pc := 5) (C := RX6) (As := [.int x1, .int x2]) (rest := [.int 0, .ref (a 0)]) (st1 := [.int r.1, .int 0, .ref (a 0)]) (wn := fun _ => wH Z b r.2 ++ wO Z a w) ⟨hx, hb, hml, hown, hts⟩ (c_X6_set Z l hst b h x1 x2 (.inr r) h0) (cwV 2 hts gL_set_X6_set rfl rfl rfl hv_X6_set ⟨Nat.le_of_ble_eq_true rfl, Nat.le_of_ble_eq_true rfl⟩) hK hE hP hD hS hA hZ [0, 1, 2, 3, 4, 5, 6, 7, 8, 9, 10, 11, 12, 13, 14, 15, 16, 17, 18, 19, 20, 21, 22, 23, 24, 25, 26, 27, 28, 29, 30, 31, 32, 33, 34, 35, 36, 37, 38, 39] [40] [1, 2, 3, 4, 5, 6, 7, 8, 9, 10, 11, 12, 13, 14, 15, 16, 17, 18, 19, 20, 21, 22, 23, 24, 25, 26, 27, 28, 29, 30, 31, 32, 33, 34, 35, 36, 37, 38, 39, 40, 0] rfl rfl rfl (fun _ => rfl) 6 rfl rfl rfl hl.1 rfl (lv_room (Nat.le_of_ble_eq_true rfl)) dL_set_5 ⟨Nat.le_of_ble_eq_true rfl, Nat.le_of_ble_eq_true rfl⟩ rfl (fun _ H locs hP hD hS => ?_)
    refine lv_i2l (pc := 8) (v := r.1.toInt64) hx hb dL_set_8 rfl ?_
    refine va_last (pc := 9) (D := Z.1) (n := 1) (f := w.2 0) hx hb hK hP hD hS 40 1 rfl rfl (inb_in (by decide)) dL_set_9 (fun H locs hP hD hS => ?_)
    have hP : va_P Z.1 vwCl (wH Z b r.2 ++ wO Z a (oj w 0 ((0 : Int32).toNatClampNeg) r.1.toInt64)) H := hP
    have hD : va_D A (wH Z b r.2 ++ wO Z a (oj w 0 ((0 : Int32).toNatClampNeg) r.1.toInt64)) := hD
    refine lv_goto (pc := 10) (tgt := 21) hx hb dL_set_10 (by decide) ?_
    refine lv_iconst (pc := 21) (v := 0) hx hb dL_set_21 (by decide) ?_
    have hf := (Option.some.inj hf)
    subst hf
    refine W.widen (k := 2) (n := 12) (Nat.le_of_ble_eq_true rfl) (Nat.le_of_ble_eq_true rfl) ?_
    exact vx_ret (rw_i (fun _ => 0) hx hb hr hlk rfl hP hD hS dL_set_22)
def f_L_disturb (h : Nat → ObS) (x1 : Int32) (x2 : Int32) (x3 : Int32) (w : ObS) : Option (Int32 × (Nat → ObS) × ObS) :=
  (f_X6_disturb h x1 x2 x3).bind fun R0 =>
  sumE R0 (fun k => if k = 3 then some ((1 : Int32), h, w) else if k = 1 then some ((2 : Int32), h, w) else if k = 2 then some ((3 : Int32), h, w) else none)
    (fun r => some ((0 : Int32), r.2, oj w 0 ((0 : Int32).toNatClampNeg) r.1.toInt64))
set_option maxHeartbeats 4000000 in
set_option maxRecDepth 100000 in
theorem c_L_disturb (Z : EnvT) (l : Launch) (hst : l.stackTraces = false) (b : Nat → Nat → Nat) (h : Nat → ObS) (x1 : Int32) (x2 : Int32) (x3 : Int32) (a : Nat → Nat) (w : ObS) (R : Int32 × (Nat → ObS) × ObS) (hf : f_L_disturb h x1 x2 x3 w = some R) : WR Z l yL_disturb wsL_disturb { frames := 8, cells := 3, slots := 18, locals := 137 } [.ref (b 0 0), .int x1, .int x2, .int x3, .ref (a 0)] (wH Z b h ++ wO Z a w) (some (.int R.1)) (fun _ => wH Z b R.2.1 ++ wO Z a R.2.2) 3 18 := by
  refine wr_of (cc := cL_disturb) (maxL := 6) (ret := (some .int)) (hh := [(0, 12, 15, 21), (0, 12, 19, 13), (0, 12, 23, 15)]) (by decide) rfl (Nat.le_of_ble_eq_true rfl) ?_
  intro p e s m below meth c A ls hx hb hr hml hts hown hlk htab hP hK hE hD hA hS hZ hl
  have hown : s.vm.findClass RL = some m.cls := hown
  have hl : lv_has ls 6 [(0, .ref (b 0 0)), (1, .int x1), (2, .int x2), (3, .int x3), (4, .ref (a 0))] := hl
  have wc13 := hts (.classLink RL 13 "java/lang/IllegalArgumentException") (by decide +kernel)
  have wc15 := hts (.classLink RL 15 "java/lang/IllegalStateException") (by decide +kernel)
  have wc21 := hts (.classLink RL 21 "java/lang/IndexOutOfBoundsException") (by decide +kernel)
  rw [f_L_disturb] at hf
  obtain ⟨R0, h0, hf⟩ := bd hf
  refine lv_aload (pc := 0) hx hb dL_disturb_0 (lv_at hl 4 rfl) ?_
  refine lv_iconst (pc := 2) (v := 0) hx hb dL_disturb_2 (by decide) ?_
  refine lv_aload_n (pc := 3) hx hb dL_disturb_3 rfl (lv_at hl 0 rfl) ?_
  refine lv_iload_n (pc := 4) hx hb dL_disturb_4 rfl (lv_at hl 1 rfl) ?_
  refine lv_iload_n (pc := 5) hx hb dL_disturb_5 rfl (lv_at hl 2 rfl) ?_
  refine lv_iload_n (pc := 6) hx hb dL_disturb_6 rfl (lv_at hl 3 rfl) ?_
  rcases R0 with k | r
  · have hf := (sumE_l).symm.trans hf
    refine th_Lx (pc := 7) (C := RX6) (As := [.int x1, .int x2, .int x3]) (rest := [.int 0, .ref (a 0)]) ⟨hx, hb, hml, hown, hts⟩ (c_X6_disturb Z l hst b h x1 x2 x3 (.inl k) h0) (cwV 3 hts gL_disturb_X6_disturb rfl rfl rfl hv_X6_disturb ⟨Nat.le_of_ble_eq_true rfl, Nat.le_of_ble_eq_true rfl⟩) hK hE hP hD hS hA hZ [0, 1, 2, 3, 4, 5, 6, 7, 8, 9, 10, 11, 12, 13, 14, 15, 16, 17, 18, 19, 20, 21, 22, 23, 24, 25, 26, 27, 28, 29, 30, 31, 32, 33, 34, 35, 36, 37, 38, 39] [40] [1, 2, 3, 4, 5, 6, 7, 8, 9, 10, 11, 12, 13, 14, 15, 16, 17, 18, 19, 20, 21, 22, 23, 24, 25, 26, 27, 28, 29, 30, 31, 32, 33, 34, 35, 36, 37, 38, 39, 40, 0] rfl rfl rfl rfl 6 rfl rfl rfl hl.1 rfl (lv_room (Nat.le_of_ble_eq_true rfl)) dL_disturb_7 ⟨Nat.le_of_ble_eq_true rfl, Nat.le_of_ble_eq_true rfl⟩ (fun q9 ce H locs hP hD hS hq hv hcl => ?_)
    by_cases c1 : k = 3
    · have hf := (if_pos c1).symm.trans hf
      subst c1
      refine vx_catch (name := exN 3) hown [] ⟨0, 12, 15, 21⟩ [⟨0, 12, 19, 13⟩, ⟨0, 12, 23, 15⟩] (htab.trans rfl) (fun _ h => nomatch h) (by decide) (by decide) wc21 (va_Nw.use rfl (hE.2.2.2.1 3)) hq hv hcl ?_
      refine lv_astore (pc := 15) (lv' := [(5, .ref q9), (0, .ref (b 0 0)), (1, .int x1), (2, .int x2), (3, .int x3), (4, .ref (a 0))]) hx hb dL_disturb_15 hl (by decide) rfl (fun ls hl => ?_)
      refine lv_iconst (pc := 17) (v := 1) hx hb dL_disturb_17 (by decide) ?_
      have hf := (Option.some.inj hf)
      subst hf
      refine W.widen (k := 3) (n := 18) (Nat.le_of_ble_eq_true rfl) (Nat.le_of_ble_eq_true rfl) ?_
      exact vx_ret (rw_i (fun _ => 0) hx hb hr hlk rfl hP hD hS dL_disturb_18)
    · have hf := (if_neg c1).symm.trans hf
      by_cases c2 : k = 1
      · have hf := (if_pos c2).symm.trans hf
        subst c2
        refine vx_catch (name := exN 1) hown [⟨0, 12, 15, 21⟩] ⟨0, 12, 19, 13⟩ [⟨0, 12, 23, 15⟩] (htab.trans rfl) (fun z hz => by rcases List.mem_cons.mp hz with rfl | hz; { exact Or.inr ⟨by decide, exN 3, wc21, hE.2.2.2.2.1 1 3 (by decide)⟩ };  exact nomatch hz) (by decide) (by decide) wc13 (va_Nw.use rfl (hE.2.2.2.1 1)) hq hv hcl ?_
        refine lv_astore (pc := 19) (lv' := [(5, .ref q9), (0, .ref (b 0 0)), (1, .int x1), (2, .int x2), (3, .int x3), (4, .ref (a 0))]) hx hb dL_disturb_19 hl (by decide) rfl (fun ls hl => ?_)
        refine lv_iconst (pc := 21) (v := 2) hx hb dL_disturb_21 (by decide) ?_
        have hf := (Option.some.inj hf)
        subst hf
        refine W.widen (k := 3) (n := 18) (Nat.le_of_ble_eq_true rfl) (Nat.le_of_ble_eq_true rfl) ?_
        exact vx_ret (rw_i (fun _ => 0) hx hb hr hlk rfl hP hD hS dL_disturb_22)
      · have hf := (if_neg c2).symm.trans hf
        by_cases c3 : k = 2
        · have hf := (if_pos c3).symm.trans hf
          subst c3
          refine vx_catch (name := exN 2) hown [⟨0, 12, 15, 21⟩, ⟨0, 12, 19, 13⟩] ⟨0, 12, 23, 15⟩ [] (htab.trans rfl) (fun z hz => by rcases List.mem_cons.mp hz with rfl | hz; { exact Or.inr ⟨by decide, exN 3, wc21, hE.2.2.2.2.1 2 3 (by decide)⟩ }; rcases List.mem_cons.mp hz with rfl | hz; { exact Or.inr ⟨by decide, exN 1, wc13, hE.2.2.2.2.1 2 1 (by decide)⟩ };  exact nomatch hz) (by decide) (by decide) wc15 (va_Nw.use rfl (hE.2.2.2.1 2)) hq hv hcl ?_
          refine lv_astore (pc := 23) (lv' := [(5, .ref q9), (0, .ref (b 0 0)), (1, .int x1), (2, .int x2), (3, .int x3), (4, .ref (a 0))]) hx hb dL_disturb_23 hl (by decide) rfl (fun ls hl => ?_)
          refine lv_iconst (pc := 25) (v := 3) hx hb dL_disturb_25 (by decide) ?_
          have hf := (Option.some.inj hf)
          subst hf
          refine W.widen (k := 3) (n := 18) (Nat.le_of_ble_eq_true rfl) (Nat.le_of_ble_eq_true rfl) ?_
          exact vx_ret (rw_i (fun _ => 0) hx hb hr hlk rfl hP hD hS dL_disturb_26)
        · have hf := (if_neg c3).symm.trans hf
          exact nomatch hf
  · have hf := (sumE_r).symm.trans hf
    refine th_Ln (pc := 7) (C := RX6) (As := [.int x1, .int x2, .int x3]) (rest := [.int 0, .ref (a 0)]) (st1 := [.int r.1, .int 0, .ref (a 0)]) (wn := fun _ => wH Z b r.2 ++ wO Z a w) ⟨hx, hb, hml, hown, hts⟩ (c_X6_disturb Z l hst b h x1 x2 x3 (.inr r) h0) (cwV 3 hts gL_disturb_X6_disturb rfl rfl rfl hv_X6_disturb ⟨Nat.le_of_ble_eq_true rfl, Nat.le_of_ble_eq_true rfl⟩) hK hE hP hD hS hA hZ [0, 1, 2, 3, 4, 5, 6, 7, 8, 9, 10, 11, 12, 13, 14, 15, 16, 17, 18, 19, 20, 21, 22, 23, 24, 25, 26, 27, 28, 29, 30, 31, 32, 33, 34, 35, 36, 37, 38, 39] [40] [1, 2, 3, 4, 5, 6, 7, 8, 9, 10, 11, 12, 13, 14, 15, 16, 17, 18, 19, 20, 21, 22, 23, 24, 25, 26, 27, 28, 29, 30, 31, 32, 33, 34, 35, 36, 37, 38, 39, 40, 0] rfl rfl rfl (fun _ => rfl) 6 rfl rfl rfl hl.1 rfl (lv_room (Nat.le_of_ble_eq_true rfl)) dL_disturb_7 ⟨Nat.le_of_ble_eq_true rfl, Nat.le_of_ble_eq_true rfl⟩ rfl (fun _ H locs hP hD hS => ?_)
    refine lv_i2l (pc := 10) (v := r.1.toInt64) hx hb dL_disturb_10 rfl ?_
    refine va_last (pc := 11) (D := Z.1) (n := 1) (f := w.2 0) hx hb hK hP hD hS 40 1 rfl rfl (inb_in (by decide)) dL_disturb_11 (fun H locs hP hD hS => ?_)
    have hP : va_P Z.1 vwCl (wH Z b r.2 ++ wO Z a (oj w 0 ((0 : Int32).toNatClampNeg) r.1.toInt64)) H := hP
    have hD : va_D A (wH Z b r.2 ++ wO Z a (oj w 0 ((0 : Int32).toNatClampNeg) r.1.toInt64)) := hD
    refine lv_goto (pc := 12) (tgt := 27) hx hb dL_disturb_12 (by decide) ?_
    refine lv_iconst (pc := 27) (v := 0) hx hb dL_disturb_27 (by decide) ?_
    have hf := (Option.some.inj hf)
    subst hf
    refine W.widen (k := 3) (n := 18) (Nat.le_of_ble_eq_true rfl) (Nat.le_of_ble_eq_true rfl) ?_
    exact vx_ret (rw_i (fun _ => 0) hx hb hr hlk rfl hP hD hS dL_disturb_28)
def f_L_control (h : Nat → ObS) (x1 : Int32) (x2 : Int32) (x3 : Int32) (x4 : Int32) (x5 : Int32) (w : ObS) : Option (Int32 × (Nat → ObS) × ObS) :=
  (f_X6_control h x1 x2 x3 x4 x5).bind fun R0 =>
  sumE R0 (fun k => if k = 3 then some ((1 : Int32), h, w) else if k = 1 then some ((2 : Int32), h, w) else if k = 2 then some ((3 : Int32), h, w) else none)
    (fun r => some ((0 : Int32), r.2, oj w 0 ((0 : Int32).toNatClampNeg) r.1.toInt64))
set_option maxHeartbeats 4000000 in
set_option maxRecDepth 100000 in
theorem c_L_control (Z : EnvT) (l : Launch) (hst : l.stackTraces = false) (b : Nat → Nat → Nat) (h : Nat → ObS) (x1 : Int32) (x2 : Int32) (x3 : Int32) (x4 : Int32) (x5 : Int32) (a : Nat → Nat) (w : ObS) (R : Int32 × (Nat → ObS) × ObS) (hf : f_L_control h x1 x2 x3 x4 x5 w = some R) : WR Z l yL_control wsL_control { frames := 8, cells := 4, slots := 24, locals := 138 } [.ref (b 0 0), .int x1, .int x2, .int x3, .int x4, .int x5, .ref (a 0)] (wH Z b h ++ wO Z a w) (some (.int R.1)) (fun _ => wH Z b R.2.1 ++ wO Z a R.2.2) 4 24 := by
  refine wr_of (cc := cL_control) (maxL := 8) (ret := (some .int)) (hh := [(0, 16, 19, 21), (0, 16, 23, 13), (0, 16, 27, 15)]) (by decide) rfl (Nat.le_of_ble_eq_true rfl) ?_
  intro p e s m below meth c A ls hx hb hr hml hts hown hlk htab hP hK hE hD hA hS hZ hl
  have hown : s.vm.findClass RL = some m.cls := hown
  have hl : lv_has ls 8 [(0, .ref (b 0 0)), (1, .int x1), (2, .int x2), (3, .int x3), (4, .int x4), (5, .int x5), (6, .ref (a 0))] := hl
  have wc13 := hts (.classLink RL 13 "java/lang/IllegalArgumentException") (by decide +kernel)
  have wc15 := hts (.classLink RL 15 "java/lang/IllegalStateException") (by decide +kernel)
  have wc21 := hts (.classLink RL 21 "java/lang/IndexOutOfBoundsException") (by decide +kernel)
  rw [f_L_control] at hf
  obtain ⟨R0, h0, hf⟩ := bd hf
  refine lv_aload (pc := 0) hx hb dL_control_0 (lv_at hl 6 rfl) ?_
  refine lv_iconst (pc := 2) (v := 0) hx hb dL_control_2 (by decide) ?_
  refine lv_aload_n (pc := 3) hx hb dL_control_3 rfl (lv_at hl 0 rfl) ?_
  refine lv_iload_n (pc := 4) hx hb dL_control_4 rfl (lv_at hl 1 rfl) ?_
  refine lv_iload_n (pc := 5) hx hb dL_control_5 rfl (lv_at hl 2 rfl) ?_
  refine lv_iload_n (pc := 6) hx hb dL_control_6 rfl (lv_at hl 3 rfl) ?_
  refine lv_iload (pc := 7) hx hb dL_control_7 (lv_at hl 4 rfl) ?_
  refine lv_iload (pc := 9) hx hb dL_control_9 (lv_at hl 5 rfl) ?_
  rcases R0 with k | r
  · have hf := (sumE_l).symm.trans hf
    refine th_Lx (pc := 11) (C := RX6) (As := [.int x1, .int x2, .int x3, .int x4, .int x5]) (rest := [.int 0, .ref (a 0)]) ⟨hx, hb, hml, hown, hts⟩ (c_X6_control Z l hst b h x1 x2 x3 x4 x5 (.inl k) h0) (cwV 5 hts gL_control_X6_control rfl rfl rfl hv_X6_control ⟨Nat.le_of_ble_eq_true rfl, Nat.le_of_ble_eq_true rfl⟩) hK hE hP hD hS hA hZ [0, 1, 2, 3, 4, 5, 6, 7, 8, 9, 10, 11, 12, 13, 14, 15, 16, 17, 18, 19, 20, 21, 22, 23, 24, 25, 26, 27, 28, 29, 30, 31, 32, 33, 34, 35, 36, 37, 38, 39] [40] [1, 2, 3, 4, 5, 6, 7, 8, 9, 10, 11, 12, 13, 14, 15, 16, 17, 18, 19, 20, 21, 22, 23, 24, 25, 26, 27, 28, 29, 30, 31, 32, 33, 34, 35, 36, 37, 38, 39, 40, 0] rfl rfl rfl rfl 6 rfl rfl rfl hl.1 rfl (lv_room (Nat.le_of_ble_eq_true rfl)) dL_control_11 ⟨Nat.le_of_ble_eq_true rfl, Nat.le_of_ble_eq_true rfl⟩ (fun q9 ce H locs hP hD hS hq hv hcl => ?_)
    by_cases c1 : k = 3
    · have hf := (if_pos c1).symm.trans hf
      subst c1
      refine vx_catch (name := exN 3) hown [] ⟨0, 16, 19, 21⟩ [⟨0, 16, 23, 13⟩, ⟨0, 16, 27, 15⟩] (htab.trans rfl) (fun _ h => nomatch h) (by decide) (by decide) wc21 (va_Nw.use rfl (hE.2.2.2.1 3)) hq hv hcl ?_
      refine lv_astore (pc := 19) (lv' := [(7, .ref q9), (0, .ref (b 0 0)), (1, .int x1), (2, .int x2), (3, .int x3), (4, .int x4), (5, .int x5), (6, .ref (a 0))]) hx hb dL_control_19 hl (by decide) rfl (fun ls hl => ?_)
      refine lv_iconst (pc := 21) (v := 1) hx hb dL_control_21 (by decide) ?_
      have hf := (Option.some.inj hf)
      subst hf
      refine W.widen (k := 4) (n := 24) (Nat.le_of_ble_eq_true rfl) (Nat.le_of_ble_eq_true rfl) ?_
      exact vx_ret (rw_i (fun _ => 0) hx hb hr hlk rfl hP hD hS dL_control_22)
    · have hf := (if_neg c1).symm.trans hf
      by_cases c2 : k = 1
      · have hf := (if_pos c2).symm.trans hf
        subst c2
        refine vx_catch (name := exN 1) hown [⟨0, 16, 19, 21⟩] ⟨0, 16, 23, 13⟩ [⟨0, 16, 27, 15⟩] (htab.trans rfl) (fun z hz => by rcases List.mem_cons.mp hz with rfl | hz; { exact Or.inr ⟨by decide, exN 3, wc21, hE.2.2.2.2.1 1 3 (by decide)⟩ };  exact nomatch hz) (by decide) (by decide) wc13 (va_Nw.use rfl (hE.2.2.2.1 1)) hq hv hcl ?_
        refine lv_astore (pc := 23) (lv' := [(7, .ref q9), (0, .ref (b 0 0)), (1, .int x1), (2, .int x2), (3, .int x3), (4, .int x4), (5, .int x5), (6, .ref (a 0))]) hx hb dL_control_23 hl (by decide) rfl (fun ls hl => ?_)
        refine lv_iconst (pc := 25) (v := 2) hx hb dL_control_25 (by decide) ?_
        have hf := (Option.some.inj hf)
        subst hf
        refine W.widen (k := 4) (n := 24) (Nat.le_of_ble_eq_true rfl) (Nat.le_of_ble_eq_true rfl) ?_
        exact vx_ret (rw_i (fun _ => 0) hx hb hr hlk rfl hP hD hS dL_control_26)
      · have hf := (if_neg c2).symm.trans hf
        by_cases c3 : k = 2
        · have hf := (if_pos c3).symm.trans hf
          subst c3
          refine vx_catch (name := exN 2) hown [⟨0, 16, 19, 21⟩, ⟨0, 16, 23, 13⟩] ⟨0, 16, 27, 15⟩ [] (htab.trans rfl) (fun z hz => by rcases List.mem_cons.mp hz with rfl | hz; { exact Or.inr ⟨by decide, exN 3, wc21, hE.2.2.2.2.1 2 3 (by decide)⟩ }; rcases List.mem_cons.mp hz with rfl | hz; { exact Or.inr ⟨by decide, exN 1, wc13, hE.2.2.2.2.1 2 1 (by decide)⟩ };  exact nomatch hz) (by decide) (by decide) wc15 (va_Nw.use rfl (hE.2.2.2.1 2)) hq hv hcl ?_
          refine lv_astore (pc := 27) (lv' := [(7, .ref q9), (0, .ref (b 0 0)), (1, .int x1), (2, .int x2), (3, .int x3), (4, .int x4), (5, .int x5), (6, .ref (a 0))]) hx hb dL_control_27 hl (by decide) rfl (fun ls hl => ?_)
          refine lv_iconst (pc := 29) (v := 3) hx hb dL_control_29 (by decide) ?_
          have hf := (Option.some.inj hf)
          subst hf
          refine W.widen (k := 4) (n := 24) (Nat.le_of_ble_eq_true rfl) (Nat.le_of_ble_eq_true rfl) ?_
          exact vx_ret (rw_i (fun _ => 0) hx hb hr hlk rfl hP hD hS dL_control_30)
        · have hf := (if_neg c3).symm.trans hf
          exact nomatch hf
  · have hf := (sumE_r).symm.trans hf
    refine th_Ln (pc := 11) (C := RX6) (As := [.int x1, .int x2, .int x3, .int x4, .int x5]) (rest := [.int 0, .ref (a 0)]) (st1 := [.int r.1, .int 0, .ref (a 0)]) (wn := fun _ => wH Z b r.2 ++ wO Z a w) ⟨hx, hb, hml, hown, hts⟩ (c_X6_control Z l hst b h x1 x2 x3 x4 x5 (.inr r) h0) (cwV 5 hts gL_control_X6_control rfl rfl rfl hv_X6_control ⟨Nat.le_of_ble_eq_true rfl, Nat.le_of_ble_eq_true rfl⟩) hK hE hP hD hS hA hZ [0, 1, 2, 3, 4, 5, 6, 7, 8, 9, 10, 11, 12, 13, 14, 15, 16, 17, 18, 19, 20, 21, 22, 23, 24, 25, 26, 27, 28, 29, 30, 31, 32, 33, 34, 35, 36, 37, 38, 39] [40] [1, 2, 3, 4, 5, 6, 7, 8, 9, 10, 11, 12, 13, 14, 15, 16, 17, 18, 19, 20, 21, 22, 23, 24, 25, 26, 27, 28, 29, 30, 31, 32, 33, 34, 35, 36, 37, 38, 39, 40, 0] rfl rfl rfl (fun _ => rfl) 6 rfl rfl rfl hl.1 rfl (lv_room (Nat.le_of_ble_eq_true rfl)) dL_control_11 ⟨Nat.le_of_ble_eq_true rfl, Nat.le_of_ble_eq_true rfl⟩ rfl (fun _ H locs hP hD hS => ?_)
    refine lv_i2l (pc := 14) (v := r.1.toInt64) hx hb dL_control_14 rfl ?_
    refine va_last (pc := 15) (D := Z.1) (n := 1) (f := w.2 0) hx hb hK hP hD hS 40 1 rfl rfl (inb_in (by decide)) dL_control_15 (fun H locs hP hD hS => ?_)
    have hP : va_P Z.1 vwCl (wH Z b r.2 ++ wO Z a (oj w 0 ((0 : Int32).toNatClampNeg) r.1.toInt64)) H := hP
    have hD : va_D A (wH Z b r.2 ++ wO Z a (oj w 0 ((0 : Int32).toNatClampNeg) r.1.toInt64)) := hD
    refine lv_goto (pc := 16) (tgt := 31) hx hb dL_control_16 (by decide) ?_
    refine lv_iconst (pc := 31) (v := 0) hx hb dL_control_31 (by decide) ?_
    have hf := (Option.some.inj hf)
    subst hf
    refine W.widen (k := 4) (n := 24) (Nat.le_of_ble_eq_true rfl) (Nat.le_of_ble_eq_true rfl) ?_
    exact vx_ret (rw_i (fun _ => 0) hx hb hr hlk rfl hP hD hS dL_control_32)
