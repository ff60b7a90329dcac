def f_L_ratio (h : Nat → ObS) (x1 : Int32) (x2 : Int32) (x3 : Int32) (w : ObS) : Option (Int32 × (Nat → ObS) × ObS) :=
  (f_X6_ratio h x1 x2 x3).bind fun R0 =>
  sumE R0 (fun k => if k = 3 then some ((1 : Int32), h, w) else if k = 1 then some ((2 : Int32), h, w) else if k = 2 then some ((3 : Int32), h, w) else none)
    (fun r => some ((0 : Int32), r.2, oj w 0 ((0 : Int32).toNatClampNeg) r.1.toInt64))
set_option maxHeartbeats 4000000 in
set_option maxRecDepth 100000 in
theorem c_L_ratio (Z : EnvT) (l : Launch) (hst : l.stackTraces = false) (b : Nat → Nat → Nat) (h : Nat → ObS) (x1 : Int32) (x2 : Int32) (x3 : Int32) (a : Nat → Nat) (w : ObS) (R : Int32 × (Nat → ObS) × ObS) (hf : f_L_ratio h x1 x2 x3 w = some R) : WR Z l yL_ratio wsL_ratio { frames := 8, cells := 4, slots := 24, locals := 136 } [.ref (b 0 0), .int x1, .int x2, .int x3, .ref (a 0)] (wH Z b h ++ wO Z a w) (some (.int R.1)) (fun _ => wH Z b R.2.1 ++ wO Z a R.2.2) 4 24 := by
  refine wr_of (cc := cL_ratio) (maxL := 6) (ret := (some .int)) (hh := [(0, 12, 15, 21), (0, 12, 19, 13), (0, 12, 23, 15)]) (by decide) rfl (Nat.le_of_ble_eq_true rfl) ?_
  intro p e s m below meth c A ls hx hb hr hml hts hown hlk htab hP hK hE hD hA hS hZ hl
  have hown : s.vm.findClass RL = some m.cls := hown
  have hl : lv_has ls 6 [(0, .ref (b 0 0)), (1, .int x1), (2, .int x2), (3, .int x3), (4, .ref (a 0))] := hl
  have wc13 := hts (.classLink RL 13 "java/lang/IllegalArgumentException") (by decide +kernel)
  have wc15 := hts (.classLink RL 15 "java/lang/IllegalStateException") (by decide +kernel)
  have wc21 := hts (.classLink RL 21 "java/lang/IndexOutOfBoundsException") (by decide +kernel)
  rw [f_L_ratio] at hf
  obtain ⟨R0, h0, hf⟩ := bd hf
  refine lv_aload (pc := 0) hx hb dL_ratio_0 (lv_at hl 4 rfl) ?_
  refine lv_iconst (pc := 2) (v := 0) hx hb dL_ratio_2 (by decide) ?_
  refine lv_aload_n (pc := 3) hx hb dL_ratio_3 rfl (lv_at hl 0 rfl) ?_
  refine lv_iload_n (pc := 4) hx hb dL_ratio_4 rfl (lv_at hl 1 rfl) ?_
  refine lv_iload_n (pc := 5) hx hb dL_ratio_5 rfl (lv_at hl 2 rfl) ?_
  refine lv_iload_n (pc := 6) hx hb dL_ratio_6 rfl (lv_at hl 3 rfl) ?_
  rcases R0 with k | r
  · have hf := (sumE_l).symm.trans hf
    refine th_Lx (pc := 7) (C := RX6) (As := [.int x1, .int x2, .int x3]) (rest := [.int 0, .ref (a 0)]) ⟨hx, hb, hml, hown, hts⟩ (c_X6_ratio Z l hst b h x1 x2 x3 (.inl k) h0) (cwV 3 hts gL_ratio_X6_ratio rfl rfl rfl hv_X6_ratio ⟨Nat.le_of_ble_eq_true rfl, Nat.le_of_ble_eq_true rfl⟩) hK hE hP hD hS hA hZ [0, 1, 2, 3, 4, 5, 6, 7, 8, 9, 10, 11, 12, 13, 14, 15, 16, 17, 18, 19, 20, 21, 22, 23, 24, 25, 26, 27, 28, 29, 30, 31, 32, 33, 34, 35, 36, 37, 38, 39] [40] [1, 2, 3, 4, 5, 6, 7, 8, 9, 10, 11, 12, 13, 14, 15, 16, 17, 18, 19, 20, 21, 22, 23, 24, 25, 26, 27, 28, 29, 30, 31, 32, 33, 34, 35, 36, 37, 38, 39, 40, 0] rfl rfl rfl rfl 6 rfl rfl rfl hl.1 rfl (lv_room (Nat.le_of_ble_eq_true rfl)) dL_ratio_7 ⟨Nat.le_of_ble_eq_true rfl, Nat.le_of_ble_eq_true rfl⟩ (fun q9 ce H locs hP hD hS hq hv hcl => ?_)
    by_cases c1 : k = 3
    · have hf := (if_pos c1).symm.trans hf
      subst c1
      refine vx_catch (name := exN 3) hown [] ⟨0, 12, 15, 21⟩ [⟨0, 12, 19, 13⟩, ⟨0, 12, 23, 15⟩] (htab.trans rfl) (fun _ h => nomatch h) (by decide) (by decide) wc21 (va_Nw.use rfl (hE.2.2.2.1 3)) hq hv hcl ?_
      refine lv_astore (pc := 15) (lv' := [(5, .ref q9), (0, .ref (b 0 0)), (1, .int x1), (2, .int x2), (3, .int x3), (4, .ref (a 0))]) hx hb dL_ratio_15 hl (by decide) rfl (fun ls hl => ?_)
      refine lv_iconst (pc := 17) (v := 1) hx hb dL_ratio_17 (by decide) ?_
      have hf := (Option.some.inj hf)
      subst hf
      refine W.widen (k := 4) (n := 24) (Nat.le_of_ble_eq_true rfl) (Nat.le_of_ble_eq_true rfl) ?_
      exact vx_ret (rw_i (fun _ => 0) hx hb hr hlk rfl hP hD hS dL_ratio_18)
    · have hf := (if_neg c1).symm.trans hf
      by_cases c2 : k = 1
      · have hf := (if_pos c2).symm.trans hf
        subst c2
        refine vx_catch (name := exN 1) hown [⟨0, 12, 15, 21⟩] ⟨0, 12, 19, 13⟩ [⟨0, 12, 23, 15⟩] (htab.trans rfl) (fun z hz => by rcases List.mem_cons.mp hz with rfl | hz; { exact Or.inr ⟨by decide, exN 3, wc21, hE.2.2.2.2.1 1 3 (by decide)⟩ };  exact nomatch hz) (by decide) (by decide) wc13 (va_Nw.use rfl (hE.2.2.2.1 1)) hq hv hcl ?_
        refine lv_astore (pc := 19) (lv' := [(5, .ref q9), (0, .ref (b 0 0)), (1, .int x1), (2, .int x2), (3, .int x3), (4, .ref (a 0))]) hx hb dL_ratio_19 hl (by decide) rfl (fun ls hl => ?_)
        refine lv_iconst (pc := 21) (v := 2) hx hb dL_ratio_21 (by decide) ?_
        have hf := (Option.some.inj hf)
        subst hf
        refine W.widen (k := 4) (n := 24) (Nat.le_of_ble_eq_true rfl) (Nat.le_of_ble_eq_true rfl) ?_
        exact vx_ret (rw_i (fun _ => 0) hx hb hr hlk rfl hP hD hS dL_ratio_22)
      · have hf := (if_neg c2).symm.trans hf
        by_cases c3 : k = 2
        · have hf := (if_pos c3).symm.trans hf
          subst c3
          refine vx_catch (name := exN 2) hown [⟨0, 12, 15, 21⟩, ⟨0, 12, 19, 13⟩] ⟨0, 12, 23, 15⟩ [] (htab.trans rfl) (fun z hz => by rcases List.mem_cons.mp hz with rfl | hz; { exact Or.inr ⟨by decide, exN 3, wc21, hE.2.2.2.2.1 2 3 (by decide)⟩ }; rcases List.mem_cons.mp hz with rfl | hz; { exact Or.inr ⟨by decide, exN 1, wc13, hE.2.2.2.2.1 2 1 (by decide)⟩ };  exact nomatch hz) (by decide) (by decide) wc15 (va_Nw.use rfl (hE.2.2.2.1 2)) hq hv hcl ?_
          refine lv_astore (pc := 23) (lv' := [(5, .ref q9), (0, .ref (b 0 0)), (1, .int x1), (2, .int x2), (3, .int x3), (4, .ref (a 0))]) hx hb dL_ratio_23 hl (by decide) rfl (fun ls hl => ?_)
          refine lv_iconst (pc := 25) (v := 3) hx hb dL_ratio_25 (by decide) ?_
          have hf := (Option.some.inj hf)
          subst hf
          refine W.widen (k := 4) (n := 24) (Nat.le_of_ble_eq_true rfl) (Nat.le_of_ble_eq_true rfl) ?_
          exact vx_ret (rw_i (fun _ => 0) hx hb hr hlk rfl hP hD hS dL_ratio_26)
        · have hf := (if_neg c3).symm.trans hf
          exact nomatch hf
  · have hf := (sumE_r).symm.trans hf
    refine th_Ln (pc := 7) (C := RX6) (As := [.int x1, .int x2, .int x3]) (rest := [.int 0, .ref (a 0)]) (st1 := [.int r.1, .int 0, .ref (a 0)]) (wn := fun _ => wH Z b r.2 ++ wO Z a w) ⟨hx, hb, hml, hown, hts⟩ (c_X6_ratio Z l hst b h x1 x2 x3 (.inr r) h0) (cwV 3 hts gL_ratio_X6_ratio rfl rfl rfl hv_X6_ratio ⟨Nat.le_of_ble_eq_true rfl, Nat.le_of_ble_eq_true rfl⟩) hK hE hP hD hS hA hZ [0, 1, 2, 3, 4, 5, 6, 7, 8, 9, 10, 11, 12, 13, 14, 15, 16, 17, 18, 19, 20, 21, 22, 23, 24, 25, 26, 27, 28, 29, 30, 31, 32, 33, 34, 35, 36, 37, 38, 39] [40] [1, 2, 3, 4, 5, 6, 7, 8, 9, 10, 11, 12, 13, 14, 15, 16, 17, 18, 19, 20, 21, 22, 23, 24, 25, 26, 27, 28, 29, 30, 31, 32, 33, 34, 35, 36, 37, 38, 39, 40, 0] rfl rfl rfl (fun _ => rfl) 6 rfl rfl rfl hl.1 rfl (lv_room (Nat.le_of_ble_eq_true rfl)) dL_ratio_7 ⟨Nat.le_of_ble_eq_true rfl, Nat.le_of_ble_eq_true rfl⟩ rfl (fun _ H locs hP hD hS => ?_)
    refine lv_i2l (pc := 10) (v := r.1.toInt64) hx hb dL_ratio_10 rfl ?_
    refine va_last (pc := 11) (D := Z.1) (n := 1) (f := w.2 0) hx hb hK hP hD hS 40 1 rfl rfl (inb_in (by decide)) dL_ratio_11 (fun H locs hP hD hS => ?_)
    have hP : va_P Z.1 vwCl (wH Z b r.2 ++ wO Z a (oj w 0 ((0 : Int32).toNatClampNeg) r.1.toInt64)) H := hP
    have hD : va_D A (wH Z b r.2 ++ wO Z a (oj w 0 ((0 : Int32).toNatClampNeg) r.1.toInt64)) := hD
    refine lv_goto (pc := 12) (tgt := 27) hx hb dL_ratio_12 (by decide) ?_
    refine lv_iconst (pc := 27) (v := 0) hx hb dL_ratio_27 (by decide) ?_
    have hf := (Option.some.inj hf)
    subst hf
    refine W.widen (k := 4) (n := 24) (Nat.le_of_ble_eq_true rfl) (Nat.le_of_ble_eq_true rfl) ?_
    exact vx_ret (rw_i (fun _ => 0) hx hb hr hlk rfl hP hD hS dL_ratio_28)
def f_L_feed (h : Nat → ObS) (x1 : Int32) (x2 : Int32) (x3 : Int32) : Option (Int32 × (Nat → ObS)) :=
  (f_X6_feed h x1 x2 x3).bind fun R0 =>
  sumE R0 (fun k => if k = 3 then some ((1 : Int32), h) else if k = 1 then some ((2 : Int32), h) else if k = 2 then some ((3 : Int32), h) else none)
    (fun r => some ((0 : Int32), r))
set_option maxHeartbeats 4000000 in
set_option maxRecDepth 100000 in
theorem c_L_feed (Z : EnvT) (l : Launch) (hst : l.stackTraces = false) (b : Nat → Nat → Nat) (h : Nat → ObS) (x1 : Int32) (x2 : Int32) (x3 : Int32) (R : Int32 × (Nat → ObS)) (hf : f_L_feed h x1 x2 x3 = some R) : WR Z l yL_feed wsL_feed { frames := 8, cells := 3, slots := 18, locals := 136 } [.ref (b 0 0), .int x1, .int x2, .int x3] (wH Z b h) (some (.int R.1)) (fun _ => wH Z b R.2) 3 18 := by
  refine wr_of (cc := cL_feed) (maxL := 5) (ret := (some .int)) (hh := [(0, 7, 10, 21), (0, 7, 14, 13), (0, 7, 18, 15)]) (by decide) rfl (Nat.le_of_ble_eq_true rfl) ?_
  intro p e s m below meth c A ls hx hb hr hml hts hown hlk htab hP hK hE hD hA hS hZ hl
  have hown : s.vm.findClass RL = some m.cls := hown
  have hl : lv_has ls 5 [(0, .ref (b 0 0)), (1, .int x1), (2, .int x2), (3, .int x3)] := hl
  have wc13 := hts (.classLink RL 13 "java/lang/IllegalArgumentException") (by decide +kernel)
  have wc15 := hts (.classLink RL 15 "java/lang/IllegalStateException") (by decide +kernel)
  have wc21 := hts (.classLink RL 21 "java/lang/IndexOutOfBoundsException") (by decide +kernel)
  rw [f_L_feed] at hf
  obtain ⟨R0, h0, hf⟩ := bd hf
  refine lv_aload_n (pc := 0) hx hb dL_feed_0 rfl (lv_at hl 0 rfl) ?_
  refine lv_iload_n (pc := 1) hx hb dL_feed_1 rfl (lv_at hl 1 rfl) ?_
  refine lv_iload_n (pc := 2) hx hb dL_feed_2 rfl (lv_at hl 2 rfl) ?_
  refine lv_iload_n (pc := 3) hx hb dL_feed_3 rfl (lv_at hl 3 rfl) ?_
  rcases R0 with k | r
  · have hf := (sumE_l).symm.trans hf
    refine th_Lx (pc := 4) (C := RX6) (As := [.int x1, .int x2, .int x3]) (rest := []) ⟨hx, hb, hml, hown, hts⟩ (c_X6_feed Z l hst b h x1 x2 x3 (.inl k) h0) (cwV 3 hts gL_feed_X6_feed rfl rfl rfl hv_X6_feed ⟨Nat.le_of_ble_eq_true rfl, Nat.le_of_ble_eq_true rfl⟩) hK hE hP hD hS hA hZ [0, 1, 2, 3, 4, 5, 6, 7, 8, 9, 10, 11, 12, 13, 14, 15, 16, 17, 18, 19, 20, 21, 22, 23, 24, 25, 26, 27, 28, 29, 30, 31, 32, 33, 34, 35, 36, 37, 38, 39] [] [0, 1, 2, 3, 4, 5, 6, 7, 8, 9, 10, 11, 12, 13, 14, 15, 16, 17, 18, 19, 20, 21, 22, 23, 24, 25, 26, 27, 28, 29, 30, 31, 32, 33, 34, 35, 36, 37, 38, 39] rfl rfl rfl rfl 6 rfl rfl rfl hl.1 rfl (lv_room (Nat.le_of_ble_eq_true rfl)) dL_feed_4 ⟨Nat.le_of_ble_eq_true rfl, Nat.le_of_ble_eq_true rfl⟩ (fun q9 ce H locs hP hD hS hq hv hcl => ?_)
    by_cases c1 : k = 3
    · have hf := (if_pos c1).symm.trans hf
      subst c1
      refine vx_catch (name := exN 3) hown [] ⟨0, 7, 10, 21⟩ [⟨0, 7, 14, 13⟩, ⟨0, 7, 18, 15⟩] (htab.trans rfl) (fun _ h => nomatch h) (by decide) (by decide) wc21 (va_Nw.use rfl (hE.2.2.2.1 3)) hq hv hcl ?_
      refine lv_astore (pc := 10) (lv' := [(4, .ref q9), (0, .ref (b 0 0)), (1, .int x1), (2, .int x2), (3, .int x3)]) hx hb dL_feed_10 hl (by decide) rfl (fun ls hl => ?_)
      refine lv_iconst (pc := 12) (v := 1) hx hb dL_feed_12 (by decide) ?_
      have hf := (Option.some.inj hf)
      subst hf
      refine W.widen (k := 3) (n := 18) (Nat.le_of_ble_eq_true rfl) (Nat.le_of_ble_eq_true rfl) ?_
      exact vx_ret (rw_i (fun _ => 0) hx hb hr hlk rfl hP hD hS dL_feed_13)
    · have hf := (if_neg c1).symm.trans hf
      by_cases c2 : k = 1
      · have hf := (if_pos c2).symm.trans hf
        subst c2
        refine vx_catch (name := exN 1) hown [⟨0, 7, 10, 21⟩] ⟨0, 7, 14, 13⟩ [⟨0, 7, 18, 15⟩] (htab.trans rfl) (fun z hz => by rcases List.mem_cons.mp hz with rfl | hz; { exact Or.inr ⟨by decide, exN 3, wc21, hE.2.2.2.2.1 1 3 (by decide)⟩ };  exact nomatch hz) (by decide) (by decide) wc13 (va_Nw.use rfl (hE.2.2.2.1 1)) hq hv hcl ?_
        refine lv_astore (pc := 14) (lv' := [(4, .ref q9), (0, .ref (b 0 0)), (1, .int x1), (2, .int x2), (3, .int x3)]) hx hb dL_feed_14 hl (by decide) rfl (fun ls hl => ?_)
        refine lv_iconst (pc := 16) (v := 2) hx hb dL_feed_16 (by decide) ?_
        have hf := (Option.some.inj hf)
        subst hf
        refine W.widen (k := 3) (n := 18) (Nat.le_of_ble_eq_true rfl) (Nat.le_of_ble_eq_true rfl) ?_
        exact vx_ret (rw_i (fun _ => 0) hx hb hr hlk rfl hP hD hS dL_feed_17)
      · have hf := (if_neg c2).symm.trans hf
        by_cases c3 : k = 2
        · have hf := (if_pos c3).symm.trans hf
          subst c3
          refine vx_catch (name := exN 2) hown [⟨0, 7, 10, 21⟩, ⟨0, 7, 14, 13⟩] ⟨0, 7, 18, 15⟩ [] (htab.trans rfl) (fun z hz => by rcases List.mem_cons.mp hz with rfl | hz; { exact Or.inr ⟨by decide, exN 3, wc21, hE.2.2.2.2.1 2 3 (by decide)⟩ }; rcases List.mem_cons.mp hz with rfl | hz; { exact Or.inr ⟨by decide, exN 1, wc13, hE.2.2.2.2.1 2 1 (by decide)⟩ };  exact nomatch hz) (by decide) (by decide) wc15 (va_Nw.use rfl (hE.2.2.2.1 2)) hq hv hcl ?_
          refine lv_astore (pc := 18) (lv' := [(4, .ref q9), (0, .ref (b 0 0)), (1, .int x1), (2, .int x2), (3, .int x3)]) hx hb dL_feed_18 hl (by decide) rfl (fun ls hl => ?_)
          refine lv_iconst (pc := 20) (v := 3) hx hb dL_feed_20 (by decide) ?_
          have hf := (Option.some.inj hf)
          subst hf
          refine W.widen (k := 3) (n := 18) (Nat.le_of_ble_eq_true rfl) (Nat.le_of_ble_eq_true rfl) ?_
          exact vx_ret (rw_i (fun _ => 0) hx hb hr hlk rfl hP hD hS dL_feed_21)
        · have hf := (if_neg c3).symm.trans hf
          exact nomatch hf
  · have hf := (sumE_r).symm.trans hf
    refine th_Ln (pc := 4) (C := RX6) (As := [.int x1, .int x2, .int x3]) (rest := []) (st1 := []) (wn := fun _ => wH Z b r) ⟨hx, hb, hml, hown, hts⟩ (c_X6_feed Z l hst b h x1 x2 x3 (.inr r) h0) (cwV 3 hts gL_feed_X6_feed rfl rfl rfl hv_X6_feed ⟨Nat.le_of_ble_eq_true rfl, Nat.le_of_ble_eq_true rfl⟩) hK hE hP hD hS hA hZ [0, 1, 2, 3, 4, 5, 6, 7, 8, 9, 10, 11, 12, 13, 14, 15, 16, 17, 18, 19, 20, 21, 22, 23, 24, 25, 26, 27, 28, 29, 30, 31, 32, 33, 34, 35, 36, 37, 38, 39] [] [0, 1, 2, 3, 4, 5, 6, 7, 8, 9, 10, 11, 12, 13, 14, 15, 16, 17, 18, 19, 20, 21, 22, 23, 24, 25, 26, 27, 28, 29, 30, 31, 32, 33, 34, 35, 36, 37, 38, 39] rfl rfl rfl (fun _ => rfl) 6 rfl rfl rfl hl.1 rfl (lv_room (Nat.le_of_ble_eq_true rfl)) dL_feed_4 ⟨Nat.le_of_ble_eq_true rfl, Nat.le_of_ble_eq_true rfl⟩ rfl (fun _ H locs hP hD hS => ?_)
    refine lv_goto (pc := 7) (tgt := 22) hx hb dL_feed_7 (by decide) ?_
    refine lv_iconst (pc := 22) (v := 0) hx hb dL_feed_22 (by decide) ?_
    have hf := (Option.some.inj hf)
    subst hf
    refine W.widen (k := 3) (n := 18) (Nat.le_of_ble_eq_true rfl) (Nat.le_of_ble_eq_true rfl) ?_
    exact vx_ret (rw_i (fun _ => 0) hx hb hr hlk rfl hP hD hS dL_feed_23)
def f_L_aim (h : Nat → ObS) (x1 : Int32) (x2 : Int32) (x3 : Int32) (w : ObS) : Option (Int32 × (Nat → ObS) × ObS) :=
  (f_X6_aim h x1 x2 x3).bind fun R0 =>
  sumE R0 (fun k => if k = 3 then some ((1 : Int32), h, w) else if k = 1 then some ((2 : Int32), h, w) else if k = 2 then some ((3 : Int32), h, w) else none)
    (fun r => some ((0 : Int32), r.2, oj w 0 ((0 : Int32).toNatClampNeg) r.1.toInt64))
set_option maxHeartbeats 4000000 in
set_option maxRecDepth 100000 in
theorem c_L_aim (Z : EnvT) (l : Launch) (hst : l.stackTraces = false) (b : Nat → Nat → Nat) (h : Nat → ObS) (x1 : Int32) (x2 : Int32) (x3 : Int32) (a : Nat → Nat) (w : ObS) (R : Int32 × (Nat → ObS) × ObS) (hf : f_L_aim h x1 x2 x3 w = some R) : WR Z l yL_aim wsL_aim { frames := 8, cells := 2, slots := 12, locals := 136 } [.ref (b 0 0), .int x1, .int x2, .int x3, .ref (a 0)] (wH Z b h ++ wO Z a w) (some (.int R.1)) (fun _ => wH Z b R.2.1 ++ wO Z a R.2.2) 2 12 := by
  refine wr_of (cc := cL_aim) (maxL := 6) (ret := (some .int)) (hh := [(0, 12, 15, 21), (0, 12, 19, 13), (0, 12, 23, 15)]) (by decide) rfl (Nat.le_of_ble_eq_true rfl) ?_
  intro p e s m below meth c A ls hx hb hr hml hts hown hlk htab hP hK hE hD hA hS hZ hl
  have hown : s.vm.findClass RL = some m.cls := hown
  have hl : lv_has ls 6 [(0, .ref (b 0 0)), (1, .int x1), (2, .int x2), (3, .int x3), (4, .ref (a 0))] := hl
  have wc13 := hts (.classLink RL 13 "java/lang/IllegalArgumentException") (by decide +kernel)
  have wc15 := hts (.classLink RL 15 "java/lang/IllegalStateException") (by decide +kernel)
  have wc21 := hts (.classLink RL 21 "java/lang/IndexOutOfBoundsException") (by decide +kernel)
  rw [f_L_aim] at hf
  obtain ⟨R0, h0, hf⟩ := bd hf
  refine lv_aload (pc := 0) hx hb dL_aim_0 (lv_at hl 4 rfl) ?_
  refine lv_iconst (pc := 2) (v := 0) hx hb dL_aim_2 (by decide) ?_
  refine lv_aload_n (pc := 3) hx hb dL_aim_3 rfl (lv_at hl 0 rfl) ?_
  refine lv_iload_n (pc := 4) hx hb dL_aim_4 rfl (lv_at hl 1 rfl) ?_
  refine lv_iload_n (pc := 5) hx hb dL_aim_5 rfl (lv_at hl 2 rfl) ?_
  refine lv_iload_n (pc := 6) hx hb dL_aim_6 rfl (lv_at hl 3 rfl) ?_
  rcases R0 with k | r
  · have hf := (sumE_l).symm.trans hf
    refine th_Lx (pc := 7) (C := RX6) (As := [.int x1, .int x2, .int x3]) (rest := [.int 0, .ref (a 0)]) ⟨hx, hb, hml, hown, hts⟩ (c_X6_aim Z l hst b h x1 x2 x3 (.inl k) h0) (cwV 3 hts gL_aim_X6_aim rfl rfl rfl hv_X6_aim ⟨Nat.le_of_ble_eq_true rfl, Nat.le_of_ble_eq_true rfl⟩) hK hE hP hD hS hA hZ [0, 1, 2, 3, 4, 5, 6, 7, 8, 9, 10, 11, 12, 13, 14, 15, 16, 17, 18, 19, 20, 21, 22, 23, 24, 25, 26, 27, 28, 29, 30, 31, 32, 33, 34, 35, 36, 37, 38, 39] [40] [1, 2, 3, 4, 5, 6, 7, 8, 9, 10, 11, 12, 13, 14, 15, 16, 17, 18, 19, 20, 21, 22, 23, 24, 25, 26, 27, 28, 29, 30, 31, 32, 33, 34, 35, 36, 37, 38, 39, 40, 0] rfl rfl rfl rfl 6 rfl rfl rfl hl.1 rfl (lv_room (Nat.le_of_ble_eq_true rfl)) dL_aim_7 ⟨Nat.le_of_ble_eq_true rfl, Nat.le_of_ble_eq_true rfl⟩ (fun q9 ce H locs hP hD hS hq hv hcl => ?_)
    by_cases c1 : k = 3
    · have hf := (if_pos c1).symm.trans hf
      subst c1
      refine vx_catch (name := exN 3) hown [] ⟨0, 12, 15, 21⟩ [⟨0, 12, 19, 13⟩, ⟨0, 12, 23, 15⟩] (htab.trans rfl) (fun _ h => nomatch h) (by decide) (by decide) wc21 (va_Nw.use rfl (hE.2.2.2.1 3)) hq hv hcl ?_
      refine lv_astore (pc := 15) (lv' := [(5, .ref q9), (0, .ref (b 0 0)), (1, .int x1), (2, .int x2), (3, .int x3), (4, .ref (a 0))]) hx hb dL_aim_15 hl (by decide) rfl (fun ls hl => ?_)
      refine lv_iconst (pc := 17) (v := 1) hx hb dL_aim_17 (by decide) ?_
      have hf := (Option.some.inj hf)
      subst hf
      refine W.widen (k := 2) (n := 12) (Nat.le_of_ble_eq_true rfl) (Nat.le_of_ble_eq_true rfl) ?_
      exact vx_ret (rw_i (fun _ => 0) hx hb hr hlk rfl hP hD hS dL_aim_18)
    · have hf := (if_neg c1).symm.trans hf
      by_cases c2 : k = 1
      · have hf := (if_pos c2).symm.trans hf
        subst c2
        refine vx_catch (name := exN 1) hown [⟨0, 12, 15, 21⟩] ⟨0, 12, 19, 13⟩ [⟨0, 12, 23, 15⟩] (htab.trans rfl) (fun z hz => by rcases List.mem_cons.mp hz with rfl | hz; { exact Or.inr ⟨by decide, exN 3, wc21, hE.2.2.2.2.1 1 3 (by decide)⟩ };  exact nomatch hz) (by decide) (by decide) wc13 (va_Nw.use rfl (hE.2.2.2.1 1)) hq hv hcl ?_
        refine lv_astore (pc := 19) (lv' := [(5, .ref q9), (0, .ref (b 0 0)), (1, .int x1), (2, .int x2), (3, .int x3), (4, .ref (a 0))]) hx hb dL_aim_19 hl (by decide) rfl (fun ls hl => ?_)
        refine lv_iconst (pc := 21) (v := 2) hx hb dL_aim_21 (by decide) ?_
        have hf := (Option.some.inj hf)
        subst hf
        refine W.widen (k := 2) (n := 12) (Nat.le_of_ble_eq_true rfl) (Nat.le_of_ble_eq_true rfl) ?_
        exact vx_ret (rw_i (fun _ => 0) hx hb hr hlk rfl hP hD hS dL_aim_22)
      · have hf := (if_neg c2).symm.trans hf
        by_cases c3 : k = 2
        · have hf := (if_pos c3).symm.trans hf
          subst c3
          refine vx_catch (name := exN 2) hown [⟨0, 12, 15, 21⟩, ⟨0, 12, 19, 13⟩] ⟨0, 12, 23, 15⟩ [] (htab.trans rfl) (fun z hz => by rcases List.mem_cons.mp hz with rfl | hz; { exact Or.inr ⟨by decide, exN 3, wc21, hE.2.2.2.2.1 2 3 (by decide)⟩ }; rcases List.mem_cons.mp hz with rfl | hz; { exact Or.inr ⟨by decide, exN 1, wc13, hE.2.2.2.2.1 2 1 (by decide)⟩ };  exact nomatch hz) (by decide) (by decide) wc15 (va_Nw.use rfl (hE.2.2.2.1 2)) hq hv hcl ?_
          refine lv_astore (pc := 23) (lv' := [(5, .ref q9), (0, .ref (b 0 0)), (1, .int x1), (2, .int x2), (3, .int x3), (4, .ref (a 0))]) hx hb dL_aim_23 hl (by decide) rfl (fun ls hl => ?_)
          refine lv_iconst (pc := 25) (v := 3) hx hb dL_aim_25 (by decide) ?_
          have hf := (Option.some.inj hf)
          subst hf
          refine W.widen (k := 2) (n := 12) (Nat.le_of_ble_eq_true rfl) (Nat.le_of_ble_eq_true rfl) ?_
          exact vx_ret (rw_i (fun _ => 0) hx hb hr hlk rfl hP hD hS dL_aim_26)
        · have hf := (if_neg c3).symm.trans hf
          exact nomatch hf
  · have hf := (sumE_r).symm.trans hf
    refine th_Ln (pc := 7) (C := RX6) (As := [.int x1, .int x2, .int x3]) (rest := [.int 0, .ref (a 0)]) (st1 := [.int r.1, .int 0, .ref (a 0)]) (wn := fun _ => wH Z b r.2 ++ wO Z a w) ⟨hx, hb, hml, hown, hts⟩ (c_X6_aim Z l hst b h x1 x2 x3 (.inr r) h0) (cwV 3 hts gL_aim_X6_aim rfl rfl rfl hv_X6_aim ⟨Nat.le_of_ble_eq_true rfl, Nat.le_of_ble_eq_true rfl⟩) hK hE hP hD hS hA hZ [0, 1, 2, 3, 4, 5, 6, 7, 8, 9, 10, 11, 12, 13, 14, 15, 16, 17, 18, 19, 20, 21, 22, 23, 24, 25, 26, 27, 28, 29, 30, 31, 32, 33, 34, 35, 36, 37, 38, 39] [40] [1, 2, 3, 4, 5, 6, 7, 8, 9, 10, 11, 12, 13, 14, 15, 16, 17, 18, 19, 20, 21, 22, 23, 24, 25, 26, 27, 28, 29, 30, 31, 32, 33, 34, 35, 36, 37, 38, 39, 40, 0] rfl rfl rfl (fun _ => rfl) 6 rfl rfl rfl hl.1 rfl (lv_room (Nat.le_of_ble_eq_true rfl)) dL_aim_7 ⟨Nat.le_of_ble_eq_true rfl, Nat.le_of_ble_eq_true rfl⟩ rfl (fun _ H locs hP hD hS => ?_)
    refine lv_i2l (pc := 10) (v := r.1.toInt64) hx hb dL_aim_10 rfl ?_
    refine va_last (pc := 11) (D := Z.1) (n := 1) (f := w.2 0) hx hb hK hP hD hS 40 1 rfl rfl (inb_in (by decide)) dL_aim_11 (fun H locs hP hD hS => ?_)
    have hP : va_P Z.1 vwCl (wH Z b r.2 ++ wO Z a (oj w 0 ((0 : Int32).toNatClampNeg) r.1.toInt64)) H := hP
    have hD : va_D A (wH Z b r.2 ++ wO Z a (oj w 0 ((0 : Int32).toNatClampNeg) r.1.toInt64)) := hD
    refine lv_goto (pc := 12) (tgt := 27) hx hb dL_aim_12 (by decide) ?_
    refine lv_iconst (pc := 27) (v := 0) hx hb dL_aim_27 (by decide) ?_
    have hf := (Option.some.inj hf)
    subst hf
    refine W.widen (k := 2) (n := 12) (Nat.le_of_ble_eq_true rfl) (Nat.le_of_ble_eq_true rfl) ?_
    exact vx_ret (rw_i (fun _ => 0) hx hb hr hlk rfl hP hD hS dL_aim_28)
def f_L_select (h : Nat → ObS) (x1 : Int32) (w : ObS) : Option (Int32 × (Nat → ObS) × ObS) :=
  (f_X6_select h x1).bind fun R0 =>
  sumE R0 (fun k => if k = 3 then some ((1 : Int32), h, w) else none)
    (fun r => if r.1 = (0 : Int32) then some ((0 : Int32), r.2, oj w 0 ((0 : Int32).toNatClampNeg) 0) else some ((0 : Int32), r.2, oj w 0 ((0 : Int32).toNatClampNeg) 1))
set_option maxHeartbeats 4000000 in
set_option maxRecDepth 100000 in
theorem c_L_select (Z : EnvT) (l : Launch) (hst : l.stackTraces = false) (b : Nat → Nat → Nat) (h : Nat → ObS) (x1 : Int32) (a : Nat → Nat) (w : ObS) (R : Int32 × (Nat → ObS) × ObS) (hf : f_L_select h x1 w = some R) : WR Z l yL_select wsL_select { frames := 8, cells := 1, slots := 6, locals := 134 } [.ref (b 0 0), .int x1, .ref (a 0)] (wH Z b h ++ wO Z a w) (some (.int R.1)) (fun _ => wH Z b R.2.1 ++ wO Z a R.2.2) 1 6 := by
  refine wr_of (cc := cL_select) (maxL := 4) (ret := (some .int)) (hh := [(0, 16, 19, 21)]) (by decide) rfl (Nat.le_of_ble_eq_true rfl) ?_
  intro p e s m below meth c A ls hx hb hr hml hts hown hlk htab hP hK hE hD hA hS hZ hl
  have hown : s.vm.findClass RL = some m.cls := hown
  have hl : lv_has ls 4 [(0, .ref (b 0 0)), (1, .int x1), (2, .ref (a 0))] := hl
  have wc21 := hts (.classLink RL 21 "java/lang/IndexOutOfBoundsException") (by decide +kernel)
  rw [f_L_select] at hf
  obtain ⟨R0, h0, hf⟩ := bd hf
  refine lv_aload_n (pc := 0) hx hb dL_select_0 rfl (lv_at hl 2 rfl) ?_
  refine lv_iconst (pc := 1) (v := 0) hx hb dL_select_1 (by decide) ?_
  refine lv_aload_n (pc := 2) hx hb dL_select_2 rfl (lv_at hl 0 rfl) ?_
  refine lv_iload_n (pc := 3) hx hb dL_select_3 rfl (lv_at hl 1 rfl) ?_
  rcases R0 with k | r
  · have hf := (sumE_l).symm.trans hf
    refine th_Lx (pc := 4) (C := RX6) (As := [.int x1]) (rest := [.int 0, .ref (a 0)]) ⟨hx, hb, hml, hown, hts⟩ (c_X6_select Z l hst b h x1 (.inl k) h0) (cwV 1 hts gL_select_X6_select rfl rfl rfl hv_X6_select ⟨Nat.le_of_ble_eq_true rfl, Nat.le_of_ble_eq_true rfl⟩) hK hE hP hD hS hA hZ [0, 1, 2, 3, 4, 5, 6, 7, 8, 9, 10, 11, 12, 13, 14, 15, 16, 17, 18, 19, 20, 21, 22, 23, 24, 25, 26, 27, 28, 29, 30, 31, 32, 33, 34, 35, 36, 37, 38, 39] [40] [1, 2, 3, 4, 5, 6, 7, 8, 9, 10, 11, 12, 13, 14, 15, 16, 17, 18, 19, 20, 21, 22, 23, 24, 25, 26, 27, 28, 29, 30, 31, 32, 33, 34, 35, 36, 37, 38, 39, 40, 0] rfl rfl rfl rfl 6 rfl rfl rfl hl.1 rfl (lv_room (Nat.le_of_ble_eq_true rfl)) dL_select_4 ⟨Nat.le_of_ble_eq_true rfl, Nat.le_of_ble_eq_true rfl⟩ (fun q9 ce H locs hP hD hS hq hv hcl => ?_)
    by_cases c1 : k = 3
    · have hf := (if_pos c1).symm.trans hf
      subst c1
      refine vx_catch (name := exN 3) hown [] ⟨0, 16, 19, 21⟩ [] (htab.trans rfl) (fun _ h => nomatch h) (by decide) (by decide) wc21 (va_Nw.use rfl (hE.2.2.2.1 3)) hq hv hcl ?_
      refine lv_astore_n (pc := 19) (lv' := [(3, .ref q9), (0, .ref (b 0 0)), (1, .int x1), (2, .ref (a 0))]) hx hb dL_select_19 rfl hl (by decide) rfl (fun ls hl => ?_)
      refine lv_iconst (pc := 20) (v := 1) hx hb dL_select_20 (by decide) ?_
      have hf := (Option.some.inj hf)
      subst hf
      refine W.widen (k := 1) (n := 6) (Nat.le_of_ble_eq_true rfl) (Nat.le_of_ble_eq_true rfl) ?_
      exact vx_ret (rw_i (fun _ => 0) hx hb hr hlk rfl hP hD hS dL_select_21)
    · have hf := (if_neg c1).symm.trans hf
      exact nomatch hf
  · have hf := (sumE_r).symm.trans hf
    refine th_Ln (pc := 4) (C := RX6) (As := [.int x1]) (rest := [.int 0, .ref (a 0)]) (st1 := [.int r.1, .int 0, .ref (a 0)]) (wn := fun _ => wH Z b r.2 ++ wO Z a w) ⟨hx, hb, hml, hown, hts⟩ (c_X6_select Z l hst b h x1 (.inr r) h0) (cwV 1 hts gL_select_X6_select rfl rfl rfl hv_X6_select ⟨Nat.le_of_ble_eq_true rfl, Nat.le_of_ble_eq_true rfl⟩) hK hE hP hD hS hA hZ [0, 1, 2, 3, 4, 5, 6, 7, 8, 9, 10, 11, 12, 13, 14, 15, 16, 17, 18, 19, 20, 21, 22, 23, 24, 25, 26, 27, 28, 29, 30, 31, 32, 33, 34, 35, 36, 37, 38, 39] [40] [1, 2, 3, 4, 5, 6, 7, 8, 9, 10, 11, 12, 13, 14, 15, 16, 17, 18, 19, 20, 21, 22, 23, 24, 25, 26, 27, 28, 29, 30, 31, 32, 33, 34, 35, 36, 37, 38, 39, 40, 0] rfl rfl rfl (fun _ => rfl) 6 rfl rfl rfl hl.1 rfl (lv_room (Nat.le_of_ble_eq_true rfl)) dL_select_4 ⟨Nat.le_of_ble_eq_true rfl, Nat.le_of_ble_eq_true rfl⟩ rfl (fun _ H locs hP hD hS => ?_)
    refine lv_if_eq (pc := 7) (tgt := 14) hx hb dL_select_7 (by decide) (fun c1 => ?_) (fun c1 => ?_)
    · have hf := (if_pos c1).symm.trans hf
      refine lv_lconst (pc := 14) (v := 0) hx hb dL_select_14 (by decide) ?_
      refine va_last (pc := 15) (D := Z.1) (n := 1) (f := w.2 0) hx hb hK hP hD hS 40 1 rfl rfl (inb_in (by decide)) dL_select_15 (fun H locs hP hD hS => ?_)
      have hP : va_P Z.1 vwCl (wH Z b r.2 ++ wO Z a (oj w 0 ((0 : Int32).toNatClampNeg) 0)) H := hP
      have hD : va_D A (wH Z b r.2 ++ wO Z a (oj w 0 ((0 : Int32).toNatClampNeg) 0)) := hD
      refine lv_goto (pc := 16) (tgt := 22) hx hb dL_select_16 (by decide) ?_
      refine lv_iconst (pc := 22) (v := 0) hx hb dL_select_22 (by decide) ?_
      have hf := (Option.some.inj hf)
      subst hf
      refine W.widen (k := 1) (n := 6) (Nat.le_of_ble_eq_true rfl) (Nat.le_of_ble_eq_true rfl) ?_
      exact vx_ret (rw_i (fun _ => 0) hx hb hr hlk rfl hP hD hS dL_select_23)
    · have hf := (if_neg c1).symm.trans hf
      refine lv_lconst (pc := 10) (v := 1) hx hb dL_select_10 (by decide) ?_
      refine lv_goto (pc := 11) (tgt := 15) hx hb dL_select_11 (by decide) ?_
      refine va_last (pc := 15) (D := Z.1) (n := 1) (f := w.2 0) hx hb hK hP hD hS 40 1 rfl rfl (inb_in (by decide)) dL_select_15 (fun H locs hP hD hS => ?_)
      have hP : va_P Z.1 vwCl (wH Z b r.2 ++ wO Z a (oj w 0 ((0 : Int32).toNatClampNeg) 1)) H := hP
      have hD : va_D A (wH Z b r.2 ++ wO Z a (oj w 0 ((0 : Int32).toNatClampNeg) 1)) := hD
      refine lv_goto (pc := 16) (tgt := 22) hx hb dL_select_16 (by decide) ?_
      refine lv_iconst (pc := 22) (v := 0) hx hb dL_select_22 (by decide) ?_
      have hf := (Option.some.inj hf)
      subst hf
      refine W.widen (k := 1) (n := 6) (Nat.le_of_ble_eq_true rfl) (Nat.le_of_ble_eq_true rfl) ?_
      exact vx_ret (rw_i (fun _ => 0) hx hb hr hlk rfl hP hD hS dL_select_23)
def f_L_tick (h : Nat → ObS) (x1 : Int32) (w : ObS) : Option (Int32 × (Nat → ObS) × ObS) :=
  (f_X6_tick h x1).bind fun R0 =>
  sumE R0 (fun k => if k = 1 then some ((1 : Int32), h, w) else if k = 2 then some ((2 : Int32), h, w) else none)
    (fun r => some ((0 : Int32), r.2, oj w 0 ((0 : Int32).toNatClampNeg) r.1.toInt64))
set_option maxHeartbeats 4000000 in
set_option maxRecDepth 100000 in
theorem c_L_tick (Z : EnvT) (l : Launch) (hst : l.stackTraces = false) (b : Nat → Nat → Nat) (h : Nat → ObS) (x1 : Int32) (a : Nat → Nat) (w : ObS) (R : Int32 × (Nat → ObS) × ObS) (hf : f_L_tick h x1 w = some R) : WR Z l yL_tick wsL_tick { frames := 7, cells := 1, slots := 7200, locals := 171 } [.ref (b 0 0), .int x1, .ref (a 0)] (wH Z b h ++ wO Z a w) (some (.int R.1)) (fun q => wH Z (bu b 7 (ad1 (b 7) q)) R.2.1 ++ wO Z a R.2.2) 1 7200 := by
  refine wr_of (cc := cL_tick) (maxL := 4) (ret := (some .int)) (hh := [(0, 9, 12, 13), (0, 9, 15, 15)]) (by decide) rfl (Nat.le_of_ble_eq_true rfl) ?_
  intro p e s m below meth c A ls hx hb hr hml hts hown hlk htab hP hK hE hD hA hS hZ hl
  have hown : s.vm.findClass RL = some m.cls := hown
  have hl : lv_has ls 4 [(0, .ref (b 0 0)), (1, .int x1), (2, .ref (a 0))] := hl
  have wc13 := hts (.classLink RL 13 "java/lang/IllegalArgumentException") (by decide +kernel)
  have wc15 := hts (.classLink RL 15 "java/lang/IllegalStateException") (by decide +kernel)
  rw [f_L_tick] at hf
  obtain ⟨R0, h0, hf⟩ := bd hf
  refine lv_aload_n (pc := 0) hx hb dL_tick_0 rfl (lv_at hl 2 rfl) ?_
  refine lv_iconst (pc := 1) (v := 0) hx hb dL_tick_1 (by decide) ?_
  refine lv_aload_n (pc := 2) hx hb dL_tick_2 rfl (lv_at hl 0 rfl) ?_
  refine lv_iload_n (pc := 3) hx hb dL_tick_3 rfl (lv_at hl 1 rfl) ?_
  rcases R0 with k | r
  · have hf := (sumE_l).symm.trans hf
    refine th_Lx (pc := 4) (C := RX6) (As := [.int x1]) (rest := [.int 0, .ref (a 0)]) ⟨hx, hb, hml, hown, hts⟩ (c_X6_tick Z l hst b h x1 (.inl k) h0) (cwV 1 hts gL_tick_X6_tick rfl rfl rfl hv_X6_tick ⟨Nat.le_of_ble_eq_true rfl, Nat.le_of_ble_eq_true rfl⟩) hK hE hP hD hS hA hZ [0, 1, 2, 3, 4, 5, 6, 7, 8, 9, 10, 11, 12, 13, 14, 15, 16, 17, 18, 19, 20, 21, 22, 23, 24, 25, 26, 27, 28, 29, 30, 31, 32, 33, 34, 35, 36, 37, 38, 39] [40] [1, 2, 3, 4, 5, 6, 7, 8, 9, 10, 11, 12, 13, 14, 15, 16, 17, 18, 19, 20, 21, 22, 23, 24, 25, 26, 27, 28, 29, 30, 31, 32, 33, 34, 35, 36, 37, 38, 39, 40, 0] rfl rfl rfl rfl 6 rfl rfl rfl hl.1 rfl (lv_room (Nat.le_of_ble_eq_true rfl)) dL_tick_4 ⟨Nat.le_of_ble_eq_true rfl, Nat.le_of_ble_eq_true rfl⟩ (fun q9 ce H locs hP hD hS hq hv hcl => ?_)
    by_cases c1 : k = 1
    · have hf := (if_pos c1).symm.trans hf
      subst c1
      refine vx_catch (name := exN 1) hown [] ⟨0, 9, 12, 13⟩ [⟨0, 9, 15, 15⟩] (htab.trans rfl) (fun _ h => nomatch h) (by decide) (by decide) wc13 (va_Nw.use rfl (hE.2.2.2.1 1)) hq hv hcl ?_
      refine lv_astore_n (pc := 12) (lv' := [(3, .ref q9), (0, .ref (b 0 0)), (1, .int x1), (2, .ref (a 0))]) hx hb dL_tick_12 rfl hl (by decide) rfl (fun ls hl => ?_)
      refine lv_iconst (pc := 13) (v := 1) hx hb dL_tick_13 (by decide) ?_
      have hf := (Option.some.inj hf)
      subst hf
      refine W.widen (k := 1) (n := 7200) (Nat.le_of_ble_eq_true rfl) (Nat.le_of_ble_eq_true rfl) ?_
      exact vx_ret (rw_i (fun _ => b 7 1) hx hb hr hlk rfl hP hD hS dL_tick_14)
    · have hf := (if_neg c1).symm.trans hf
      by_cases c2 : k = 2
      · have hf := (if_pos c2).symm.trans hf
        subst c2
        refine vx_catch (name := exN 2) hown [⟨0, 9, 12, 13⟩] ⟨0, 9, 15, 15⟩ [] (htab.trans rfl) (fun z hz => by rcases List.mem_cons.mp hz with rfl | hz; { exact Or.inr ⟨by decide, exN 1, wc13, hE.2.2.2.2.1 2 1 (by decide)⟩ };  exact nomatch hz) (by decide) (by decide) wc15 (va_Nw.use rfl (hE.2.2.2.1 2)) hq hv hcl ?_
        refine lv_astore_n (pc := 15) (lv' := [(3, .ref q9), (0, .ref (b 0 0)), (1, .int x1), (2, .ref (a 0))]) hx hb dL_tick_15 rfl hl (by decide) rfl (fun ls hl => ?_)
        refine lv_iconst (pc := 16) (v := 2) hx hb dL_tick_16 (by decide) ?_
        have hf := (Option.some.inj hf)
        subst hf
        refine W.widen (k := 1) (n := 7200) (Nat.le_of_ble_eq_true rfl) (Nat.le_of_ble_eq_true rfl) ?_
        exact vx_ret (rw_i (fun _ => b 7 1) hx hb hr hlk rfl hP hD hS dL_tick_17)
      · have hf := (if_neg c2).symm.trans hf
        exact nomatch hf
  · have hf := (sumE_r).symm.trans hf
    refine th_Ln (pc := 4) (C := RX6) (As := [.int x1]) (rest := [.int 0, .ref (a 0)]) (st1 := [.int r.1, .int 0, .ref (a 0)]) (wn := fun q => wH Z (bu b 7 (ad1 (b 7) q)) r.2 ++ wO Z a w) ⟨hx, hb, hml, hown, hts⟩ (c_X6_tick Z l hst b h x1 (.inr r) h0) (cwV 1 hts gL_tick_X6_tick rfl rfl rfl hv_X6_tick ⟨Nat.le_of_ble_eq_true rfl, Nat.le_of_ble_eq_true rfl⟩) hK hE hP hD hS hA hZ [0, 1, 2, 3, 4, 5, 6, 7, 8, 9, 10, 11, 12, 13, 14, 15, 16, 17, 18, 19, 20, 21, 22, 23, 24, 25, 26, 27, 28, 29, 30, 31, 32, 33, 34, 35, 36, 37, 38, 39] [40] [1, 2, 3, 4, 5, 6, 7, 8, 9, 10, 11, 12, 13, 14, 15, 16, 17, 18, 19, 20, 21, 22, 23, 24, 25, 26, 27, 28, 29, 30, 31, 32, 33, 34, 35, 36, 37, 38, 39, 40, 0] rfl rfl rfl (fun _ => rfl) 6 rfl rfl rfl hl.1 rfl (lv_room (Nat.le_of_ble_eq_true rfl)) dL_tick_4 ⟨Nat.le_of_ble_eq_true rfl, Nat.le_of_ble_eq_true rfl⟩ rfl (fun q H locs hP hD hS => ?_)
    refine lv_i2l (pc := 7) (v := r.1.toInt64) hx hb dL_tick_7 rfl ?_
    refine va_last (pc := 8) (D := Z.1) (n := 1) (f := w.2 0) hx hb hK hP hD hS 40 1 rfl rfl (inb_in (by decide)) dL_tick_8 (fun H locs hP hD hS => ?_)
    have hP : va_P Z.1 vwCl (wH Z (bu b 7 (ad1 (b 7) q)) r.2 ++ wO Z a (oj w 0 ((0 : Int32).toNatClampNeg) r.1.toInt64)) H := hP
    have hD : va_D A (wH Z (bu b 7 (ad1 (b 7) q)) r.2 ++ wO Z a (oj w 0 ((0 : Int32).toNatClampNeg) r.1.toInt64)) := hD
    refine lv_goto (pc := 9) (tgt := 18) hx hb dL_tick_9 (by decide) ?_
    refine lv_iconst (pc := 18) (v := 0) hx hb dL_tick_18 (by decide) ?_
    have hf := (Option.some.inj hf)
    subst hf
    refine W.widen (k := 1) (n := 7200) (Nat.le_of_ble_eq_true rfl) (Nat.le_of_ble_eq_true rfl) ?_
    exact vx_ret (rw_i q hx hb hr hlk rfl hP hD hS dL_tick_19)
def f_L_of (h : Nat → ObS) (x1 : Int32) (x2 : Int32) (w : ObS) : Option (Int32 × ObS) :=
  (f_X6_of h x1 x2).bind fun R0 =>
  sumE R0 (fun k => if k = 3 then some ((1 : Int32), w) else if k = 1 then some ((2 : Int32), w) else none)
    (fun r => some ((0 : Int32), oj w 0 ((0 : Int32).toNatClampNeg) r.toInt64))
set_option maxHeartbeats 4000000 in
set_option maxRecDepth 100000 in
theorem c_L_of (Z : EnvT) (l : Launch) (hst : l.stackTraces = false) (b : Nat → Nat → Nat) (h : Nat → ObS) (x1 : Int32) (x2 : Int32) (a : Nat → Nat) (w : ObS) (R : Int32 × ObS) (hf : f_L_of h x1 x2 w = some R) : WR Z l yL_of wsL_of { frames := 8, cells := 2, slots := 12, locals := 135 } [.ref (b 0 0), .int x1, .int x2, .ref (a 0)] (wH Z b h ++ wO Z a w) (some (.int R.1)) (fun _ => wH Z b h ++ wO Z a R.2) 2 12 := by
  refine wr_of (cc := cL_of) (maxL := 5) (ret := (some .int)) (hh := [(0, 10, 13, 21), (0, 10, 17, 13)]) (by decide) rfl (Nat.le_of_ble_eq_true rfl) ?_
  intro p e s m below meth c A ls hx hb hr hml hts hown hlk htab hP hK hE hD hA hS hZ hl
  have hown : s.vm.findClass RL = some m.cls := hown
  have hl : lv_has ls 5 [(0, .ref (b 0 0)), (1, .int x1), (2, .int x2), (3, .ref (a 0))] := hl
  have wc13 := hts (.classLink RL 13 "java/lang/IllegalArgumentException") (by decide +kernel)
  have wc21 := hts (.classLink RL 21 "java/lang/IndexOutOfBoundsException") (by decide +kernel)
  rw [f_L_of] at hf
  obtain ⟨R0, h0, hf⟩ := bd hf
  refine lv_aload_n (pc := 0) hx hb dL_of_0 rfl (lv_at hl 3 rfl) ?_
  refine lv_iconst (pc := 1) (v := 0) hx hb dL_of_1 (by decide) ?_
  refine lv_aload_n (pc := 2) hx hb dL_of_2 rfl (lv_at hl 0 rfl) ?_
  refine lv_iload_n (pc := 3) hx hb dL_of_3 rfl (lv_at hl 1 rfl) ?_
  refine lv_iload_n (pc := 4) hx hb dL_of_4 rfl (lv_at hl 2 rfl) ?_
  rcases R0 with k | r
  · have hf := (sumE_l).symm.trans hf
    refine th_Lx (pc := 5) (C := RX6) (As := [.int x1, .int x2]) (rest := [.int 0, .ref (a 0)]) ⟨hx, hb, hml, hown, hts⟩ (c_X6_of Z l hst b h x1 x2 (.inl k) h0) (cwV 2 hts gL_of_X6_of rfl rfl rfl hv_X6_of ⟨Nat.le_of_ble_eq_true rfl, Nat.le_of_ble_eq_true rfl⟩) hK hE hP hD hS hA hZ [0, 1, 2, 3, 4, 5, 6, 7, 8, 9, 10, 11, 12, 13, 14, 15, 16, 17, 18, 19, 20, 21, 22, 23, 24, 25, 26, 27, 28, 29, 30, 31, 32, 33, 34, 35, 36, 37, 38, 39] [40] [1, 2, 3, 4, 5, 6, 7, 8, 9, 10, 11, 12, 13, 14, 15, 16, 17, 18, 19, 20, 21, 22, 23, 24, 25, 26, 27, 28, 29, 30, 31, 32, 33, 34, 35, 36, 37, 38, 39, 40, 0] rfl rfl rfl rfl 6 rfl rfl rfl hl.1 rfl (lv_room (Nat.le_of_ble_eq_true rfl)) dL_of_5 ⟨Nat.le_of_ble_eq_true rfl, Nat.le_of_ble_eq_true rfl⟩ (fun q9 ce H locs hP hD hS hq hv hcl => ?_)
    by_cases c1 : k = 3
    · have hf := (if_pos c1).symm.trans hf
      subst c1
      refine vx_catch (name := exN 3) hown [] ⟨0, 10, 13, 21⟩ [⟨0, 10, 17, 13⟩] (htab.trans rfl) (fun _ h => nomatch h) (by decide) (by decide) wc21 (va_Nw.use rfl (hE.2.2.2.1 3)) hq hv hcl ?_
      refine lv_astore (pc := 13) (lv' := [(4, .ref q9), (0, .ref (b 0 0)), (1, .int x1), (2, .int x2), (3, .ref (a 0))]) hx hb dL_of_13 hl (by decide) rfl (fun ls hl => ?_)
      refine lv_iconst (pc := 15) (v := 1) hx hb dL_of_15 (by decide) ?_
      have hf := (Option.some.inj hf)
      subst hf
      refine W.widen (k := 2) (n := 12) (Nat.le_of_ble_eq_true rfl) (Nat.le_of_ble_eq_true rfl) ?_
      exact vx_ret (rw_i (fun _ => 0) hx hb hr hlk rfl hP hD hS dL_of_16)
    · have hf := (if_neg c1).symm.trans hf
      by_cases c2 : k = 1
      · have hf := (if_pos c2).symm.trans hf
        subst c2
        refine vx_catch (name := exN 1) hown [⟨0, 10, 13, 21⟩] ⟨0, 10, 17, 13⟩ [] (htab.trans rfl) (fun z hz => by rcases List.mem_cons.mp hz with rfl | hz; { exact Or.inr ⟨by decide, exN 3, wc21, hE.2.2.2.2.1 1 3 (by decide)⟩ };  exact nomatch hz) (by decide) (by decide) wc13 (va_Nw.use rfl (hE.2.2.2.1 1)) hq hv hcl ?_
        refine lv_astore (pc := 17) (lv' := [(4, .ref q9), (0, .ref (b 0 0)), (1, .int x1), (2, .int x2), (3, .ref (a 0))]) hx hb dL_of_17 hl (by decide) rfl (fun ls hl => ?_)
        refine lv_iconst (pc := 19) (v := 2) hx hb dL_of_19 (by decide) ?_
        have hf := (Option.some.inj hf)
        subst hf
        refine W.widen (k := 2) (n := 12) (Nat.le_of_ble_eq_true rfl) (Nat.le_of_ble_eq_true rfl) ?_
        exact vx_ret (rw_i (fun _ => 0) hx hb hr hlk rfl hP hD hS dL_of_20)
      · have hf := (if_neg c2).symm.trans hf
        exact nomatch hf
  · have hf := (sumE_r).symm.trans hf
    refine th_Ln (pc := 5) (C := RX6) (As := [.int x1, .int x2]) (rest := [.int 0, .ref (a 0)]) (st1 := [.int r, .int 0, .ref (a 0)]) (wn := fun _ => wH Z b h ++ wO Z a w) ⟨hx, hb, hml, hown, hts⟩ (c_X6_of Z l hst b h x1 x2 (.inr r) h0) (cwV 2 hts gL_of_X6_of rfl rfl rfl hv_X6_of ⟨Nat.le_of_ble_eq_true rfl, Nat.le_of_ble_eq_true rfl⟩) hK hE hP hD hS hA hZ [0, 1, 2, 3, 4, 5, 6, 7, 8, 9, 10, 11, 12, 13, 14, 15, 16, 17, 18, 19, 20, 21, 22, 23, 24, 25, 26, 27, 28, 29, 30, 31, 32, 33, 34, 35, 36, 37, 38, 39] [40] [1, 2, 3, 4, 5, 6, 7, 8, 9, 10, 11, 12, 13, 14, 15, 16, 17, 18, 19, 20, 21, 22, 23, 24, 25, 26, 27, 28, 29, 30, 31, 32, 33, 34, 35, 36, 37, 38, 39, 40, 0] rfl rfl rfl (fun _ => rfl) 6 rfl rfl rfl hl.1 rfl (lv_room (Nat.le_of_ble_eq_true rfl)) dL_of_5 ⟨Nat.le_of_ble_eq_true rfl, Nat.le_of_ble_eq_true rfl⟩ rfl (fun _ H locs hP hD hS => ?_)
    refine lv_i2l (pc := 8) (v := r.toInt64) hx hb dL_of_8 rfl ?_
    refine va_last (pc := 9) (D := Z.1) (n := 1) (f := w.2 0) hx hb hK hP hD hS 40 1 rfl rfl (inb_in (by decide)) dL_of_9 (fun H locs hP hD hS => ?_)
    have hP : va_P Z.1 vwCl (wH Z b h ++ wO Z a (oj w 0 ((0 : Int32).toNatClampNeg) r.toInt64)) H := hP
    have hD : va_D A (wH Z b h ++ wO Z a (oj w 0 ((0 : Int32).toNatClampNeg) r.toInt64)) := hD
    refine lv_goto (pc := 10) (tgt := 21) hx hb dL_of_10 (by decide) ?_
    refine lv_iconst (pc := 21) (v := 0) hx hb dL_of_21 (by decide) ?_
    have hf := (Option.some.inj hf)
    subst hf
    refine W.widen (k := 2) (n := 12) (Nat.le_of_ble_eq_true rfl) (Nat.le_of_ble_eq_true rfl) ?_
    exact vx_ret (rw_i (fun _ => 0) hx hb hr hlk rfl hP hD hS dL_of_22)
