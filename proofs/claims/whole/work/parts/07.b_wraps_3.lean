def f_L_ofUnit (h : Nat → ObS) (x1 : Int32) (x2 : Int32) (w : ObS) : Option (Int32 × ObS) :=
  (f_X6_ofUnit h x1 x2).bind fun R0 =>
  sumE R0 (fun k => if k = 3 then some ((1 : Int32), w) else if k = 1 then some ((2 : Int32), w) else none)
    (fun r => some ((0 : Int32), oj w 0 ((0 : Int32).toNatClampNeg) r.toInt64))
set_option maxHeartbeats 4000000 in
set_option maxRecDepth 100000 in
theorem c_L_ofUnit (Z : EnvT) (l : Launch) (hst : l.stackTraces = false) (b : Nat → Nat → Nat) (h : Nat → ObS) (x1 : Int32) (x2 : Int32) (a : Nat → Nat) (w : ObS) (R : Int32 × ObS) (hf : f_L_ofUnit h x1 x2 w = some R) : WR Z l yL_ofUnit wsL_ofUnit { frames := 8, cells := 2, slots := 12, locals := 135 } [.ref (b 0 0), .int x1, .int x2, .ref (a 0)] (wH Z b h ++ wO Z a w) (some (.int R.1)) (fun _ => wH Z b h ++ wO Z a R.2) 2 12 := by
  refine wr_of (cc := cL_ofUnit) (maxL := 5) (ret := (some .int)) (hh := [(0, 10, 13, 21), (0, 10, 17, 13)]) (by decide) rfl (Nat.le_of_ble_eq_true rfl) ?_
  intro p e s m below meth c A ls hx hb hr hml hts hown hlk htab hP hK hE hD hA hS hZ hl
  have hown : s.vm.findClass RL = some m.cls := hown
  have hl : lv_has ls 5 [(0, .ref (b 0 0)), (1, .int x1), (2, .int x2), (3, .ref (a 0))] := hl
  have wc13 := hts (.classLink RL 13 "java/lang/IllegalArgumentException") (by decide +kernel)
  have wc21 := hts (.classLink RL 21 "java/lang/IndexOutOfBoundsException") (by decide +kernel)
  rw [f_L_ofUnit] at hf
  obtain ⟨R0, h0, hf⟩ := bd hf
  refine lv_aload_n (pc := 0) hx hb dL_ofUnit_0 rfl (lv_at hl 3 rfl) ?_
  refine lv_iconst (pc := 1) (v := 0) hx hb dL_ofUnit_1 (by decide) ?_
  refine lv_aload_n (pc := 2) hx hb dL_ofUnit_2 rfl (lv_at hl 0 rfl) ?_
  refine lv_iload_n (pc := 3) hx hb dL_ofUnit_3 rfl (lv_at hl 1 rfl) ?_
  refine lv_iload_n (pc := 4) hx hb dL_ofUnit_4 rfl (lv_at hl 2 rfl) ?_
  rcases R0 with k | r
  · have hf := (sumE_l).symm.trans hf
    refine th_Lx (pc := 5) (C := RX6) (As := [.int x1, .int x2]) (rest := [.int 0, .ref (a 0)]) ⟨hx, hb, hml, hown, hts⟩ (c_X6_ofUnit Z l hst b h x1 x2 (.inl k) h0) (cwV 2 hts gL_ofUnit_X6_ofUnit rfl rfl rfl hv_X6_ofUnit ⟨Nat.le_of_ble_eq_true rfl, Nat.le_of_ble_eq_true rfl⟩) hK hE hP hD hS hA hZ [0, 1, 2, 3, 4, 5, 6, 7, 8, 9, 10, 11, 12, 13, 14, 15, 16, 17, 18, 19, 20, 21, 22, 23, 24, 25, 26, 27, 28, 29, 30, 31, 32, 33, 34, 35, 36, 37, 38, 39] [40] [1, 2, 3, 4, 5, 6, 7, 8, 9, 10, 11, 12, 13, 14, 15, 16, 17, 18, 19, 20, 21, 22, 23, 24, 25, 26, 27, 28, 29, 30, 31, 32, 33, 34, 35, 36, 37, 38, 39, 40, 0] rfl rfl rfl rfl 6 rfl rfl rfl hl.1 rfl (lv_room (Nat.le_of_ble_eq_true rfl)) dL_ofUnit_5 ⟨Nat.le_of_ble_eq_true rfl, Nat.le_of_ble_eq_true rfl⟩ (fun q9 ce H locs hP hD hS hq hv hcl => ?_)
    by_cases c1 : k = 3
    · have hf := (if_pos c1).symm.trans hf
      subst c1
      refine vx_catch (name := exN 3) hown [] ⟨0, 10, 13, 21⟩ [⟨0, 10, 17, 13⟩] (htab.trans rfl) (fun _ h => nomatch h) (by decide) (by decide) wc21 (va_Nw.use rfl (hE.2.2.2.1 3)) hq hv hcl ?_
      refine lv_astore (pc := 13) (lv' := [(4, .ref q9), (0, .ref (b 0 0)), (1, .int x1), (2, .int x2), (3, .ref (a 0))]) hx hb dL_ofUnit_13 hl (by decide) rfl (fun ls hl => ?_)
      refine lv_iconst (pc := 15) (v := 1) hx hb dL_ofUnit_15 (by decide) ?_
      have hf := (Option.some.inj hf)
      subst hf
      refine W.widen (k := 2) (n := 12) (Nat.le_of_ble_eq_true rfl) (Nat.le_of_ble_eq_true rfl) ?_
      exact vx_ret (rw_i (fun _ => 0) hx hb hr hlk rfl hP hD hS dL_ofUnit_16)
    · have hf := (if_neg c1).symm.trans hf
      by_cases c2 : k = 1
      · have hf := (if_pos c2).symm.trans hf
        subst c2
        refine vx_catch (name := exN 1) hown [⟨0, 10, 13, 21⟩] ⟨0, 10, 17, 13⟩ [] (htab.trans rfl) (fun z hz => by rcases List.mem_cons.mp hz with rfl | hz; { exact Or.inr ⟨by decide, exN 3, wc21, hE.2.2.2.2.1 1 3 (by decide)⟩ };  exact nomatch hz) (by decide) (by decide) wc13 (va_Nw.use rfl (hE.2.2.2.1 1)) hq hv hcl ?_
        refine lv_astore (pc := 17) (lv' := [(4, .ref q9), (0, .ref (b 0 0)), (1, .int x1), (2, .int x2), (3, .ref (a 0))]) hx hb dL_ofUnit_17 hl (by decide) rfl (fun ls hl => ?_)
        refine lv_iconst (pc := 19) (v := 2) hx hb dL_ofUnit_19 (by decide) ?_
        have hf := (Option.some.inj hf)
        subst hf
        refine W.widen (k := 2) (n := 12) (Nat.le_of_ble_eq_true rfl) (Nat.le_of_ble_eq_true rfl) ?_
        exact vx_ret (rw_i (fun _ => 0) hx hb hr hlk rfl hP hD hS dL_ofUnit_20)
      · have hf := (if_neg c2).symm.trans hf
        exact nomatch hf
  · have hf := (sumE_r).symm.trans hf
    refine th_Ln (pc := 5) (C := RX6) (As := [.int x1, .int x2]) (rest := [.int 0, .ref (a 0)]) (st1 := [.int r, .int 0, .ref (a 0)]) (wn := fun _ => wH Z b h ++ wO Z a w) ⟨hx, hb, hml, hown, hts⟩ (c_X6_ofUnit Z l hst b h x1 x2 (.inr r) h0) (cwV 2 hts gL_ofUnit_X6_ofUnit rfl rfl rfl hv_X6_ofUnit ⟨Nat.le_of_ble_eq_true rfl, Nat.le_of_ble_eq_true rfl⟩) hK hE hP hD hS hA hZ [0, 1, 2, 3, 4, 5, 6, 7, 8, 9, 10, 11, 12, 13, 14, 15, 16, 17, 18, 19, 20, 21, 22, 23, 24, 25, 26, 27, 28, 29, 30, 31, 32, 33, 34, 35, 36, 37, 38, 39] [40] [1, 2, 3, 4, 5, 6, 7, 8, 9, 10, 11, 12, 13, 14, 15, 16, 17, 18, 19, 20, 21, 22, 23, 24, 25, 26, 27, 28, 29, 30, 31, 32, 33, 34, 35, 36, 37, 38, 39, 40, 0] rfl rfl rfl (fun _ => rfl) 6 rfl rfl rfl hl.1 rfl (lv_room (Nat.le_of_ble_eq_true rfl)) dL_ofUnit_5 ⟨Nat.le_of_ble_eq_true rfl, Nat.le_of_ble_eq_true rfl⟩ rfl (fun _ H locs hP hD hS => ?_)
    refine lv_i2l (pc := 8) (v := r.toInt64) hx hb dL_ofUnit_8 rfl ?_
    refine va_last (pc := 9) (D := Z.1) (n := 1) (f := w.2 0) hx hb hK hP hD hS 40 1 rfl rfl (inb_in (by decide)) dL_ofUnit_9 (fun H locs hP hD hS => ?_)
    have hP : va_P Z.1 vwCl (wH Z b h ++ wO Z a (oj w 0 ((0 : Int32).toNatClampNeg) r.toInt64)) H := hP
    have hD : va_D A (wH Z b h ++ wO Z a (oj w 0 ((0 : Int32).toNatClampNeg) r.toInt64)) := hD
    refine lv_goto (pc := 10) (tgt := 21) hx hb dL_ofUnit_10 (by decide) ?_
    refine lv_iconst (pc := 21) (v := 0) hx hb dL_ofUnit_21 (by decide) ?_
    have hf := (Option.some.inj hf)
    subst hf
    refine W.widen (k := 2) (n := 12) (Nat.le_of_ble_eq_true rfl) (Nat.le_of_ble_eq_true rfl) ?_
    exact vx_ret (rw_i (fun _ => 0) hx hb hr hlk rfl hP hD hS dL_ofUnit_22)
def f_L_ofController (h : Nat → ObS) (x1 : Int32) (x2 : Int32) (w : ObS) : Option (Int32 × ObS) :=
  (f_X6_ofController h x1 x2).bind fun R0 =>
  sumE R0 (fun k => if k = 3 then some ((1 : Int32), w) else if k = 1 then some ((2 : Int32), w) else none)
    (fun r => some ((0 : Int32), oj w 0 ((0 : Int32).toNatClampNeg) r.toInt64))
set_option maxHeartbeats 4000000 in
set_option maxRecDepth 100000 in
theorem c_L_ofController (Z : EnvT) (l : Launch) (hst : l.stackTraces = false) (b : Nat → Nat → Nat) (h : Nat → ObS) (x1 : Int32) (x2 : Int32) (a : Nat → Nat) (w : ObS) (R : Int32 × ObS) (hf : f_L_ofController h x1 x2 w = some R) : WR Z l yL_ofController wsL_ofController { frames := 8, cells := 2, slots := 12, locals := 135 } [.ref (b 0 0), .int x1, .int x2, .ref (a 0)] (wH Z b h ++ wO Z a w) (some (.int R.1)) (fun _ => wH Z b h ++ wO Z a R.2) 2 12 := by
  refine wr_of (cc := cL_ofController) (maxL := 5) (ret := (some .int)) (hh := [(0, 10, 13, 21), (0, 10, 17, 13)]) (by decide) rfl (Nat.le_of_ble_eq_true rfl) ?_
  intro p e s m below meth c A ls hx hb hr hml hts hown hlk htab hP hK hE hD hA hS hZ hl
  have hown : s.vm.findClass RL = some m.cls := hown
  have hl : lv_has ls 5 [(0, .ref (b 0 0)), (1, .int x1), (2, .int x2), (3, .ref (a 0))] := hl
  have wc13 := hts (.classLink RL 13 "java/lang/IllegalArgumentException") (by decide +kernel)
  have wc21 := hts (.classLink RL 21 "java/lang/IndexOutOfBoundsException") (by decide +kernel)
  rw [f_L_ofController] at hf
  obtain ⟨R0, h0, hf⟩ := bd hf
  refine lv_aload_n (pc := 0) hx hb dL_ofController_0 rfl (lv_at hl 3 rfl) ?_
  refine lv_iconst (pc := 1) (v := 0) hx hb dL_ofController_1 (by decide) ?_
  refine lv_aload_n (pc := 2) hx hb dL_ofController_2 rfl (lv_at hl 0 rfl) ?_
  refine lv_iload_n (pc := 3) hx hb dL_ofController_3 rfl (lv_at hl 1 rfl) ?_
  refine lv_iload_n (pc := 4) hx hb dL_ofController_4 rfl (lv_at hl 2 rfl) ?_
  rcases R0 with k | r
  · have hf := (sumE_l).symm.trans hf
    refine th_Lx (pc := 5) (C := RX6) (As := [.int x1, .int x2]) (rest := [.int 0, .ref (a 0)]) ⟨hx, hb, hml, hown, hts⟩ (c_X6_ofController Z l hst b h x1 x2 (.inl k) h0) (cwV 2 hts gL_ofController_X6_ofController rfl rfl rfl hv_X6_ofController ⟨Nat.le_of_ble_eq_true rfl, Nat.le_of_ble_eq_true rfl⟩) hK hE hP hD hS hA hZ [0, 1, 2, 3, 4, 5, 6, 7, 8, 9, 10, 11, 12, 13, 14, 15, 16, 17, 18, 19, 20, 21, 22, 23, 24, 25, 26, 27, 28, 29, 30, 31, 32, 33, 34, 35, 36, 37, 38, 39] [40] [1, 2, 3, 4, 5, 6, 7, 8, 9, 10, 11, 12, 13, 14, 15, 16, 17, 18, 19, 20, 21, 22, 23, 24, 25, 26, 27, 28, 29, 30, 31, 32, 33, 34, 35, 36, 37, 38, 39, 40, 0] rfl rfl rfl rfl 6 rfl rfl rfl hl.1 rfl (lv_room (Nat.le_of_ble_eq_true rfl)) dL_ofController_5 ⟨Nat.le_of_ble_eq_true rfl, Nat.le_of_ble_eq_true rfl⟩ (fun q9 ce H locs hP hD hS hq hv hcl => ?_)
    by_cases c1 : k = 3
    · have hf := (if_pos c1).symm.trans hf
      subst c1
      refine vx_catch (name := exN 3) hown [] ⟨0, 10, 13, 21⟩ [⟨0, 10, 17, 13⟩] (htab.trans rfl) (fun _ h => nomatch h) (by decide) (by decide) wc21 (va_Nw.use rfl (hE.2.2.2.1 3)) hq hv hcl ?_
      refine lv_astore (pc := 13) (lv' := [(4, .ref q9), (0, .ref (b 0 0)), (1, .int x1), (2, .int x2), (3, .ref (a 0))]) hx hb dL_ofController_13 hl (by decide) rfl (fun ls hl => ?_)
      refine lv_iconst (pc := 15) (v := 1) hx hb dL_ofController_15 (by decide) ?_
      have hf := (Option.some.inj hf)
      subst hf
      refine W.widen (k := 2) (n := 12) (Nat.le_of_ble_eq_true rfl) (Nat.le_of_ble_eq_true rfl) ?_
      exact vx_ret (rw_i (fun _ => 0) hx hb hr hlk rfl hP hD hS dL_ofController_16)
    · have hf := (if_neg c1).symm.trans hf
      by_cases c2 : k = 1
      · have hf := (if_pos c2).symm.trans hf
        subst c2
        refine vx_catch (name := exN 1) hown [⟨0, 10, 13, 21⟩] ⟨0, 10, 17, 13⟩ [] (htab.trans rfl) (fun z hz => by rcases List.mem_cons.mp hz with rfl | hz; { exact Or.inr ⟨by decide, exN 3, wc21, hE.2.2.2.2.1 1 3 (by decide)⟩ };  exact nomatch hz) (by decide) (by decide) wc13 (va_Nw.use rfl (hE.2.2.2.1 1)) hq hv hcl ?_
        refine lv_astore (pc := 17) (lv' := [(4, .ref q9), (0, .ref (b 0 0)), (1, .int x1), (2, .int x2), (3, .ref (a 0))]) hx hb dL_ofController_17 hl (by decide) rfl (fun ls hl => ?_)
        refine lv_iconst (pc := 19) (v := 2) hx hb dL_ofController_19 (by decide) ?_
        have hf := (Option.some.inj hf)
        subst hf
        refine W.widen (k := 2) (n := 12) (Nat.le_of_ble_eq_true rfl) (Nat.le_of_ble_eq_true rfl) ?_
        exact vx_ret (rw_i (fun _ => 0) hx hb hr hlk rfl hP hD hS dL_ofController_20)
      · have hf := (if_neg c2).symm.trans hf
        exact nomatch hf
  · have hf := (sumE_r).symm.trans hf
    refine th_Ln (pc := 5) (C := RX6) (As := [.int x1, .int x2]) (rest := [.int 0, .ref (a 0)]) (st1 := [.int r, .int 0, .ref (a 0)]) (wn := fun _ => wH Z b h ++ wO Z a w) ⟨hx, hb, hml, hown, hts⟩ (c_X6_ofController Z l hst b h x1 x2 (.inr r) h0) (cwV 2 hts gL_ofController_X6_ofController rfl rfl rfl hv_X6_ofController ⟨Nat.le_of_ble_eq_true rfl, Nat.le_of_ble_eq_true rfl⟩) hK hE hP hD hS hA hZ [0, 1, 2, 3, 4, 5, 6, 7, 8, 9, 10, 11, 12, 13, 14, 15, 16, 17, 18, 19, 20, 21, 22, 23, 24, 25, 26, 27, 28, 29, 30, 31, 32, 33, 34, 35, 36, 37, 38, 39] [40] [1, 2, 3, 4, 5, 6, 7, 8, 9, 10, 11, 12, 13, 14, 15, 16, 17, 18, 19, 20, 21, 22, 23, 24, 25, 26, 27, 28, 29, 30, 31, 32, 33, 34, 35, 36, 37, 38, 39, 40, 0] rfl rfl rfl (fun _ => rfl) 6 rfl rfl rfl hl.1 rfl (lv_room (Nat.le_of_ble_eq_true rfl)) dL_ofController_5 ⟨Nat.le_of_ble_eq_true rfl, Nat.le_of_ble_eq_true rfl⟩ rfl (fun _ H locs hP hD hS => ?_)
    refine lv_i2l (pc := 8) (v := r.toInt64) hx hb dL_ofController_8 rfl ?_
    refine va_last (pc := 9) (D := Z.1) (n := 1) (f := w.2 0) hx hb hK hP hD hS 40 1 rfl rfl (inb_in (by decide)) dL_ofController_9 (fun H locs hP hD hS => ?_)
    have hP : va_P Z.1 vwCl (wH Z b h ++ wO Z a (oj w 0 ((0 : Int32).toNatClampNeg) r.toInt64)) H := hP
    have hD : va_D A (wH Z b h ++ wO Z a (oj w 0 ((0 : Int32).toNatClampNeg) r.toInt64)) := hD
    refine lv_goto (pc := 10) (tgt := 21) hx hb dL_ofController_10 (by decide) ?_
    refine lv_iconst (pc := 21) (v := 0) hx hb dL_ofController_21 (by decide) ?_
    have hf := (Option.some.inj hf)
    subst hf
    refine W.widen (k := 2) (n := 12) (Nat.le_of_ble_eq_true rfl) (Nat.le_of_ble_eq_true rfl) ?_
    exact vx_ret (rw_i (fun _ => 0) hx hb hr hlk rfl hP hD hS dL_ofController_22)
def f_L_trend (h : Nat → ObS) (x1 : Int32) (x2 : Int32) (w : ObS) : Option (Int32 × ObS) :=
  (f_X6_trend h x1 x2).bind fun R0 =>
  sumE R0 (fun k => if k = 3 then some ((1 : Int32), w) else none)
    (fun r => some ((0 : Int32), oj w 0 ((0 : Int32).toNatClampNeg) r.toInt64))
set_option maxHeartbeats 4000000 in
set_option maxRecDepth 100000 in
theorem c_L_trend (Z : EnvT) (l : Launch) (hst : l.stackTraces = false) (b : Nat → Nat → Nat) (h : Nat → ObS) (x1 : Int32) (x2 : Int32) (a : Nat → Nat) (w : ObS) (R : Int32 × ObS) (hf : f_L_trend h x1 x2 w = some R) : WR Z l yL_trend wsL_trend { frames := 8, cells := 2, slots := 12, locals := 135 } [.ref (b 0 0), .int x1, .int x2, .ref (a 0)] (wH Z b h ++ wO Z a w) (some (.int R.1)) (fun _ => wH Z b h ++ wO Z a R.2) 2 12 := by
  refine wr_of (cc := cL_trend) (maxL := 5) (ret := (some .int)) (hh := [(0, 10, 13, 21)]) (by decide) rfl (Nat.le_of_ble_eq_true rfl) ?_
  intro p e s m below meth c A ls hx hb hr hml hts hown hlk htab hP hK hE hD hA hS hZ hl
  have hown : s.vm.findClass RL = some m.cls := hown
  have hl : lv_has ls 5 [(0, .ref (b 0 0)), (1, .int x1), (2, .int x2), (3, .ref (a 0))] := hl
  have wc21 := hts (.classLink RL 21 "java/lang/IndexOutOfBoundsException") (by decide +kernel)
  rw [f_L_trend] at hf
  obtain ⟨R0, h0, hf⟩ := bd hf
  refine lv_aload_n (pc := 0) hx hb dL_trend_0 rfl (lv_at hl 3 rfl) ?_
  refine lv_iconst (pc := 1) (v := 0) hx hb dL_trend_1 (by decide) ?_
  refine lv_aload_n (pc := 2) hx hb dL_trend_2 rfl (lv_at hl 0 rfl) ?_
  refine lv_iload_n (pc := 3) hx hb dL_trend_3 rfl (lv_at hl 1 rfl) ?_
  refine lv_iload_n (pc := 4) hx hb dL_trend_4 rfl (lv_at hl 2 rfl) ?_
  rcases R0 with k | r
  · have hf := (sumE_l).symm.trans hf
    refine th_Lx (pc := 5) (C := RX6) (As := [.int x1, .int x2]) (rest := [.int 0, .ref (a 0)]) ⟨hx, hb, hml, hown, hts⟩ (c_X6_trend Z l hst b h x1 x2 (.inl k) h0) (cwV 2 hts gL_trend_X6_trend rfl rfl rfl hv_X6_trend ⟨Nat.le_of_ble_eq_true rfl, Nat.le_of_ble_eq_true rfl⟩) hK hE hP hD hS hA hZ [0, 1, 2, 3, 4, 5, 6, 7, 8, 9, 10, 11, 12, 13, 14, 15, 16, 17, 18, 19, 20, 21, 22, 23, 24, 25, 26, 27, 28, 29, 30, 31, 32, 33, 34, 35, 36, 37, 38, 39] [40] [1, 2, 3, 4, 5, 6, 7, 8, 9, 10, 11, 12, 13, 14, 15, 16, 17, 18, 19, 20, 21, 22, 23, 24, 25, 26, 27, 28, 29, 30, 31, 32, 33, 34, 35, 36, 37, 38, 39, 40, 0] rfl rfl rfl rfl 6 rfl rfl rfl hl.1 rfl (lv_room (Nat.le_of_ble_eq_true rfl)) dL_trend_5 ⟨Nat.le_of_ble_eq_true rfl, Nat.le_of_ble_eq_true rfl⟩ (fun q9 ce H locs hP hD hS hq hv hcl => ?_)
    by_cases c1 : k = 3
    · have hf := (if_pos c1).symm.trans hf
      subst c1
      refine vx_catch (name := exN 3) hown [] ⟨0, 10, 13, 21⟩ [] (htab.trans rfl) (fun _ h => nomatch h) (by decide) (by decide) wc21 (va_Nw.use rfl (hE.2.2.2.1 3)) hq hv hcl ?_
      refine lv_astore (pc := 13) (lv' := [(4, .ref q9), (0, .ref (b 0 0)), (1, .int x1), (2, .int x2), (3, .ref (a 0))]) hx hb dL_trend_13 hl (by decide) rfl (fun ls hl => ?_)
      refine lv_iconst (pc := 15) (v := 1) hx hb dL_trend_15 (by decide) ?_
      have hf := (Option.some.inj hf)
      subst hf
      refine W.widen (k := 2) (n := 12) (Nat.le_of_ble_eq_true rfl) (Nat.le_of_ble_eq_true rfl) ?_
      exact vx_ret (rw_i (fun _ => 0) hx hb hr hlk rfl hP hD hS dL_trend_16)
    · have hf := (if_neg c1).symm.trans hf
      exact nomatch hf
  · have hf := (sumE_r).symm.trans hf
    refine th_Ln (pc := 5) (C := RX6) (As := [.int x1, .int x2]) (rest := [.int 0, .ref (a 0)]) (st1 := [.int r, .int 0, .ref (a 0)]) (wn := fun _ => wH Z b h ++ wO Z a w) ⟨hx, hb, hml, hown, hts⟩ (c_X6_trend Z l hst b h x1 x2 (.inr r) h0) (cwV 2 hts gL_trend_X6_trend rfl rfl rfl hv_X6_trend ⟨Nat.le_of_ble_eq_true rfl, Nat.le_of_ble_eq_true rfl⟩) hK hE hP hD hS hA hZ [0, 1, 2, 3, 4, 5, 6, 7, 8, 9, 10, 11, 12, 13, 14, 15, 16, 17, 18, 19, 20, 21, 22, 23, 24, 25, 26, 27, 28, 29, 30, 31, 32, 33, 34, 35, 36, 37, 38, 39] [40] [1, 2, 3, 4, 5, 6, 7, 8, 9, 10, 11, 12, 13, 14, 15, 16, 17, 18, 19, 20, 21, 22, 23, 24, 25, 26, 27, 28, 29, 30, 31, 32, 33, 34, 35, 36, 37, 38, 39, 40, 0] rfl rfl rfl (fun _ => rfl) 6 rfl rfl rfl hl.1 rfl (lv_room (Nat.le_of_ble_eq_true rfl)) dL_trend_5 ⟨Nat.le_of_ble_eq_true rfl, Nat.le_of_ble_eq_true rfl⟩ rfl (fun _ H locs hP hD hS => ?_)
    refine lv_i2l (pc := 8) (v := r.toInt64) hx hb dL_trend_8 rfl ?_
    refine va_last (pc := 9) (D := Z.1) (n := 1) (f := w.2 0) hx hb hK hP hD hS 40 1 rfl rfl (inb_in (by decide)) dL_trend_9 (fun H locs hP hD hS => ?_)
    have hP : va_P Z.1 vwCl (wH Z b h ++ wO Z a (oj w 0 ((0 : Int32).toNatClampNeg) r.toInt64)) H := hP
    have hD : va_D A (wH Z b h ++ wO Z a (oj w 0 ((0 : Int32).toNatClampNeg) r.toInt64)) := hD
    refine lv_goto (pc := 10) (tgt := 17) hx hb dL_trend_10 (by decide) ?_
    refine lv_iconst (pc := 17) (v := 0) hx hb dL_trend_17 (by decide) ?_
    have hf := (Option.some.inj hf)
    subst hf
    refine W.widen (k := 2) (n := 12) (Nat.le_of_ble_eq_true rfl) (Nat.le_of_ble_eq_true rfl) ?_
    exact vx_ret (rw_i (fun _ => 0) hx hb hr hlk rfl hP hD hS dL_trend_18)
def f_L_gain (h : Nat → ObS) (x1 : Int32) (x2 : Int32) (w : ObS) : Option (Int32 × (Nat → ObS) × ObS) :=
  (f_X6_gain h x1 x2).bind fun R0 =>
  sumE R0 (fun k => if k = 3 then some ((1 : Int32), h, w) else none)
    (fun r => some ((0 : Int32), r.2, oj w 0 ((0 : Int32).toNatClampNeg) r.1.toInt64))
set_option maxHeartbeats 4000000 in
set_option maxRecDepth 100000 in
theorem c_L_gain (Z : EnvT) (l : Launch) (hst : l.stackTraces = false) (b : Nat → Nat → Nat) (h : Nat → ObS) (x1 : Int32) (x2 : Int32) (a : Nat → Nat) (w : ObS) (R : Int32 × (Nat → ObS) × ObS) (hf : f_L_gain h x1 x2 w = some R) : WR Z l yL_gain wsL_gain { frames := 8, cells := 2, slots := 12, locals := 178 } [.ref (b 0 0), .int x1, .int x2, .ref (a 0)] (wH Z b h ++ wO Z a w) (some (.int R.1)) (fun _ => wH Z b R.2.1 ++ wO Z a R.2.2) 2 12 := by
  refine wr_of (cc := cL_gain) (maxL := 5) (ret := (some .int)) (hh := [(0, 10, 13, 21)]) (by decide) rfl (Nat.le_of_ble_eq_true rfl) ?_
  intro p e s m below meth c A ls hx hb hr hml hts hown hlk htab hP hK hE hD hA hS hZ hl
  have hown : s.vm.findClass RL = some m.cls := hown
  have hl : lv_has ls 5 [(0, .ref (b 0 0)), (1, .int x1), (2, .int x2), (3, .ref (a 0))] := hl
  have wc21 := hts (.classLink RL 21 "java/lang/IndexOutOfBoundsException") (by decide +kernel)
  rw [f_L_gain] at hf
  obtain ⟨R0, h0, hf⟩ := bd hf
  refine lv_aload_n (pc := 0) hx hb dL_gain_0 rfl (lv_at hl 3 rfl) ?_
  refine lv_iconst (pc := 1) (v := 0) hx hb dL_gain_1 (by decide) ?_
  refine lv_aload_n (pc := 2) hx hb dL_gain_2 rfl (lv_at hl 0 rfl) ?_
  refine lv_iload_n (pc := 3) hx hb dL_gain_3 rfl (lv_at hl 1 rfl) ?_
  refine lv_iload_n (pc := 4) hx hb dL_gain_4 rfl (lv_at hl 2 rfl) ?_
  rcases R0 with k | r
  · have hf := (sumE_l).symm.trans hf
    refine th_Lx (pc := 5) (C := RX6) (As := [.int x1, .int x2]) (rest := [.int 0, .ref (a 0)]) ⟨hx, hb, hml, hown, hts⟩ (c_X6_gain Z l hst b h x1 x2 (.inl k) h0) (cwV 2 hts gL_gain_X6_gain rfl rfl rfl hv_X6_gain ⟨Nat.le_of_ble_eq_true rfl, Nat.le_of_ble_eq_true rfl⟩) hK hE hP hD hS hA hZ [0, 1, 2, 3, 4, 5, 6, 7, 8, 9, 10, 11, 12, 13, 14, 15, 16, 17, 18, 19, 20, 21, 22, 23, 24, 25, 26, 27, 28, 29, 30, 31, 32, 33, 34, 35, 36, 37, 38, 39] [40] [1, 2, 3, 4, 5, 6, 7, 8, 9, 10, 11, 12, 13, 14, 15, 16, 17, 18, 19, 20, 21, 22, 23, 24, 25, 26, 27, 28, 29, 30, 31, 32, 33, 34, 35, 36, 37, 38, 39, 40, 0] rfl rfl rfl rfl 6 rfl rfl rfl hl.1 rfl (lv_room (Nat.le_of_ble_eq_true rfl)) dL_gain_5 ⟨Nat.le_of_ble_eq_true rfl, Nat.le_of_ble_eq_true rfl⟩ (fun q9 ce H locs hP hD hS hq hv hcl => ?_)
    by_cases c1 : k = 3
    · have hf := (if_pos c1).symm.trans hf
      subst c1
      refine vx_catch (name := exN 3) hown [] ⟨0, 10, 13, 21⟩ [] (htab.trans rfl) (fun _ h => nomatch h) (by decide) (by decide) wc21 (va_Nw.use rfl (hE.2.2.2.1 3)) hq hv hcl ?_
      refine lv_astore (pc := 13) (lv' := [(4, .ref q9), (0, .ref (b 0 0)), (1, .int x1), (2, .int x2), (3, .ref (a 0))]) hx hb dL_gain_13 hl (by decide) rfl (fun ls hl => ?_)
      refine lv_iconst (pc := 15) (v := 1) hx hb dL_gain_15 (by decide) ?_
      have hf := (Option.some.inj hf)
      subst hf
      refine W.widen (k := 2) (n := 12) (Nat.le_of_ble_eq_true rfl) (Nat.le_of_ble_eq_true rfl) ?_
      exact vx_ret (rw_i (fun _ => 0) hx hb hr hlk rfl hP hD hS dL_gain_16)
    · have hf := (if_neg c1).symm.trans hf
      exact nomatch hf
  · have hf := (sumE_r).symm.trans hf
    refine th_Ln (pc := 5) (C := RX6) (As := [.int x1, .int x2]) (rest := [.int 0, .ref (a 0)]) (st1 := [.int r.1, .int 0, .ref (a 0)]) (wn := fun _ => wH Z b r.2 ++ wO Z a w) ⟨hx, hb, hml, hown, hts⟩ (c_X6_gain Z l hst b h x1 x2 (.inr r) h0) (cwV 2 hts gL_gain_X6_gain rfl rfl rfl hv_X6_gain ⟨Nat.le_of_ble_eq_true rfl, Nat.le_of_ble_eq_true rfl⟩) hK hE hP hD hS hA hZ [0, 1, 2, 3, 4, 5, 6, 7, 8, 9, 10, 11, 12, 13, 14, 15, 16, 17, 18, 19, 20, 21, 22, 23, 24, 25, 26, 27, 28, 29, 30, 31, 32, 33, 34, 35, 36, 37, 38, 39] [40] [1, 2, 3, 4, 5, 6, 7, 8, 9, 10, 11, 12, 13, 14, 15, 16, 17, 18, 19, 20, 21, 22, 23, 24, 25, 26, 27, 28, 29, 30, 31, 32, 33, 34, 35, 36, 37, 38, 39, 40, 0] rfl rfl rfl (fun _ => rfl) 6 rfl rfl rfl hl.1 rfl (lv_room (Nat.le_of_ble_eq_true rfl)) dL_gain_5 ⟨Nat.le_of_ble_eq_true rfl, Nat.le_of_ble_eq_true rfl⟩ rfl (fun _ H locs hP hD hS => ?_)
    refine lv_i2l (pc := 8) (v := r.1.toInt64) hx hb dL_gain_8 rfl ?_
    refine va_last (pc := 9) (D := Z.1) (n := 1) (f := w.2 0) hx hb hK hP hD hS 40 1 rfl rfl (inb_in (by decide)) dL_gain_9 (fun H locs hP hD hS => ?_)
    have hP : va_P Z.1 vwCl (wH Z b r.2 ++ wO Z a (oj w 0 ((0 : Int32).toNatClampNeg) r.1.toInt64)) H := hP
    have hD : va_D A (wH Z b r.2 ++ wO Z a (oj w 0 ((0 : Int32).toNatClampNeg) r.1.toInt64)) := hD
    refine lv_goto (pc := 10) (tgt := 17) hx hb dL_gain_10 (by decide) ?_
    refine lv_iconst (pc := 17) (v := 0) hx hb dL_gain_17 (by decide) ?_
    have hf := (Option.some.inj hf)
    subst hf
    refine W.widen (k := 2) (n := 12) (Nat.le_of_ble_eq_true rfl) (Nat.le_of_ble_eq_true rfl) ?_
    exact vx_ret (rw_i (fun _ => 0) hx hb hr hlk rfl hP hD hS dL_gain_18)
def f_L_relative (h : Nat → ObS) (x1 : Int32) (x2 : Int32) (x3 : Int32) (x4 : Int32) (w : ObS) : Option (Int32 × (Nat → ObS) × ObS) :=
  (f_X6_relative h x1 x2 x3 x4).bind fun R0 =>
  sumE R0 (fun k => if k = 3 then some ((1 : Int32), h, w) else none)
    (fun r => some ((0 : Int32), r.2, oj w 0 ((0 : Int32).toNatClampNeg) r.1.toInt64))
set_option maxHeartbeats 4000000 in
set_option maxRecDepth 100000 in
theorem c_L_relative (Z : EnvT) (l : Launch) (hst : l.stackTraces = false) (b : Nat → Nat → Nat) (h : Nat → ObS) (x1 : Int32) (x2 : Int32) (x3 : Int32) (x4 : Int32) (a : Nat → Nat) (w : ObS) (R : Int32 × (Nat → ObS) × ObS) (hf : f_L_relative h x1 x2 x3 x4 w = some R) : WR Z l yL_relative wsL_relative { frames := 8, cells := 4, slots := 24, locals := 186 } [.ref (b 0 0), .int x1, .int x2, .int x3, .int x4, .ref (a 0)] (wH Z b h ++ wO Z a w) (some (.int R.1)) (fun _ => wH Z b R.2.1 ++ wO Z a R.2.2) 4 24 := by
  refine wr_of (cc := cL_relative) (maxL := 7) (ret := (some .int)) (hh := [(0, 14, 17, 21)]) (by decide) rfl (Nat.le_of_ble_eq_true rfl) ?_
  intro p e s m below meth c A ls hx hb hr hml hts hown hlk htab hP hK hE hD hA hS hZ hl
  have hown : s.vm.findClass RL = some m.cls := hown
  have hl : lv_has ls 7 [(0, .ref (b 0 0)), (1, .int x1), (2, .int x2), (3, .int x3), (4, .int x4), (5, .ref (a 0))] := hl
  have wc21 := hts (.classLink RL 21 "java/lang/IndexOutOfBoundsException") (by decide +kernel)
  rw [f_L_relative] at hf
  obtain ⟨R0, h0, hf⟩ := bd hf
  refine lv_aload (pc := 0) hx hb dL_relative_0 (lv_at hl 5 rfl) ?_
  refine lv_iconst (pc := 2) (v := 0) hx hb dL_relative_2 (by decide) ?_
  refine lv_aload_n (pc := 3) hx hb dL_relative_3 rfl (lv_at hl 0 rfl) ?_
  refine lv_iload_n (pc := 4) hx hb dL_relative_4 rfl (lv_at hl 1 rfl) ?_
  refine lv_iload_n (pc := 5) hx hb dL_relative_5 rfl (lv_at hl 2 rfl) ?_
  refine lv_iload_n (pc := 6) hx hb dL_relative_6 rfl (lv_at hl 3 rfl) ?_
  refine lv_iload (pc := 7) hx hb dL_relative_7 (lv_at hl 4 rfl) ?_
  rcases R0 with k | r
  · have hf := (sumE_l).symm.trans hf
    refine th_Lx (pc := 9) (C := RX6) (As := [.int x1, .int x2, .int x3, .int x4]) (rest := [.int 0, .ref (a 0)]) ⟨hx, hb, hml, hown, hts⟩ (c_X6_relative Z l hst b h x1 x2 x3 x4 (.inl k) h0) (cwV 4 hts gL_relative_X6_relative rfl rfl rfl hv_X6_relative ⟨Nat.le_of_ble_eq_true rfl, Nat.le_of_ble_eq_true rfl⟩) hK hE hP hD hS hA hZ [0, 1, 2, 3, 4, 5, 6, 7, 8, 9, 10, 11, 12, 13, 14, 15, 16, 17, 18, 19, 20, 21, 22, 23, 24, 25, 26, 27, 28, 29, 30, 31, 32, 33, 34, 35, 36, 37, 38, 39] [40] [1, 2, 3, 4, 5, 6, 7, 8, 9, 10, 11, 12, 13, 14, 15, 16, 17, 18, 19, 20, 21, 22, 23, 24, 25, 26, 27, 28, 29, 30, 31, 32, 33, 34, 35, 36, 37, 38, 39, 40, 0] rfl rfl rfl rfl 6 rfl rfl rfl hl.1 rfl (lv_room (Nat.le_of_ble_eq_true rfl)) dL_relative_9 ⟨Nat.le_of_ble_eq_true rfl, Nat.le_of_ble_eq_true rfl⟩ (fun q9 ce H locs hP hD hS hq hv hcl => ?_)
    by_cases c1 : k = 3
    · have hf := (if_pos c1).symm.trans hf
      subst c1
      refine vx_catch (name := exN 3) hown [] ⟨0, 14, 17, 21⟩ [] (htab.trans rfl) (fun _ h => nomatch h) (by decide) (by decide) wc21 (va_Nw.use rfl (hE.2.2.2.1 3)) hq hv hcl ?_
      refine lv_astore (pc := 17) (lv' := [(6, .ref q9), (0, .ref (b 0 0)), (1, .int x1), (2, .int x2), (3, .int x3), (4, .int x4), (5, .ref (a 0))]) hx hb dL_relative_17 hl (by decide) rfl (fun ls hl => ?_)
      refine lv_iconst (pc := 19) (v := 1) hx hb dL_relative_19 (by decide) ?_
      have hf := (Option.some.inj hf)
      subst hf
      refine W.widen (k := 4) (n := 24) (Nat.le_of_ble_eq_true rfl) (Nat.le_of_ble_eq_true rfl) ?_
      exact vx_ret (rw_i (fun _ => 0) hx hb hr hlk rfl hP hD hS dL_relative_20)
    · have hf := (if_neg c1).symm.trans hf
      exact nomatch hf
  · have hf := (sumE_r).symm.trans hf
    refine th_Ln (pc := 9) (C := RX6) (As := [.int x1, .int x2, .int x3, .int x4]) (rest := [.int 0, .ref (a 0)]) (st1 := [.int r.1, .int 0, .ref (a 0)]) (wn := fun _ => wH Z b r.2 ++ wO Z a w) ⟨hx, hb, hml, hown, hts⟩ (c_X6_relative Z l hst b h x1 x2 x3 x4 (.inr r) h0) (cwV 4 hts gL_relative_X6_relative rfl rfl rfl hv_X6_relative ⟨Nat.le_of_ble_eq_true rfl, Nat.le_of_ble_eq_true rfl⟩) hK hE hP hD hS hA hZ [0, 1, 2, 3, 4, 5, 6, 7, 8, 9, 10, 11, 12, 13, 14, 15, 16, 17, 18, 19, 20, 21, 22, 23, 24, 25, 26, 27, 28, 29, 30, 31, 32, 33, 34, 35, 36, 37, 38, 39] [40] [1, 2, 3, 4, 5, 6, 7, 8, 9, 10, 11, 12, 13, 14, 15, 16, 17, 18, 19, 20, 21, 22, 23, 24, 25, 26, 27, 28, 29, 30, 31, 32, 33, 34, 35, 36, 37, 38, 39, 40, 0] rfl rfl rfl (fun _ => rfl) 6 rfl rfl rfl hl.1 rfl (lv_room (Nat.le_of_ble_eq_true rfl)) dL_relative_9 ⟨Nat.le_of_ble_eq_true rfl, Nat.le_of_ble_eq_true rfl⟩ rfl (fun _ H locs hP hD hS => ?_)
    refine lv_i2l (pc := 12) (v := r.1.toInt64) hx hb dL_relative_12 rfl ?_
    refine va_last (pc := 13) (D := Z.1) (n := 1) (f := w.2 0) hx hb hK hP hD hS 40 1 rfl rfl (inb_in (by decide)) dL_relative_13 (fun H locs hP hD hS => ?_)
    have hP : va_P Z.1 vwCl (wH Z b r.2 ++ wO Z a (oj w 0 ((0 : Int32).toNatClampNeg) r.1.toInt64)) H := hP
    have hD : va_D A (wH Z b r.2 ++ wO Z a (oj w 0 ((0 : Int32).toNatClampNeg) r.1.toInt64)) := hD
    refine lv_goto (pc := 14) (tgt := 21) hx hb dL_relative_14 (by decide) ?_
    refine lv_iconst (pc := 21) (v := 0) hx hb dL_relative_21 (by decide) ?_
    have hf := (Option.some.inj hf)
    subst hf
    refine W.widen (k := 4) (n := 24) (Nat.le_of_ble_eq_true rfl) (Nat.le_of_ble_eq_true rfl) ?_
    exact vx_ret (rw_i (fun _ => 0) hx hb hr hlk rfl hP hD hS dL_relative_22)
