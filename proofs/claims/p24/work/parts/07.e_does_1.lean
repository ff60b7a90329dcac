set_option maxHeartbeats 4000000 in
set_option maxRecDepth 100000 in
theorem c_L_fed (Z : EnvT) (l : Launch) (hst : l.stackTraces = false) (b : Nat → Nat → Nat) (h : Nat → ObS) (x1 x2 x3 : Int32) (R : Nat ⊕ (Int32 × (Nat → ObS))) (hf : f_L_fed h x1 x2 x3 = some R) : TH Z l yL_fed wsL_fed { frames := 8, cells := 3, slots := 18, locals := 136 } [.ref (b 0 0), .int x1, .int x2, .int x3] (wH Z b h) R (fun (r : Int32 × (Nat → ObS)) => (some (.int r.1))) (fun (r : Int32 × (Nat → ObS)) _ => wH Z b r.2) 3 18 := by
  refine th_of (cc := cL_fed) (maxL := 4) (ret := (some .int)) (by decide) rfl (Nat.le_of_ble_eq_true rfl) ?_
  intro p e s m below meth c A ls hx hb hr hml hts hown hlk hno hP hK hE hD hA hS hZ hl
  have hown : s.vm.findClass RL = some m.cls := hown
  have hl : lv_has ls 4 [(0, .ref (b 0 0)), (1, .int x1), (2, .int x2), (3, .int x3)] := hl
  rw [f_L_fed] at hf
  refine lv_aload_n (pc := 0) hx hb dL_fed_0 rfl (lv_at hl 0 rfl) ?_
  refine lv_iload_n (pc := 1) hx hb dL_fed_1 rfl (lv_at hl 1 rfl) ?_
  refine lv_iload_n (pc := 2) hx hb dL_fed_2 rfl (lv_at hl 2 rfl) ?_
  refine lv_iload_n (pc := 3) hx hb dL_fed_3 rfl (lv_at hl 3 rfl) ?_
  rcases tbd hf with ⟨k4, h_4, hf⟩ | ⟨r4, h_4, hf⟩
  · exact th_Vx (pc := 4) (C := RX6) (As := [.int x1, .int x2, .int x3]) (rest := []) ⟨hx, hb, hml, hown, hts⟩ (c_X6_feed Z l hst b h x1 x2 x3 (.inl k4) h_4) (cwV 3 hts gL_fed_X6_feed rfl rfl rfl hv_X6_feed ⟨Nat.le_of_ble_eq_true rfl, Nat.le_of_ble_eq_true rfl⟩) hK hE hP hD hS hA hZ 6 rfl rfl rfl hl.1 rfl (lv_room (Nat.le_of_ble_eq_true rfl)) dL_fed_4 ⟨Nat.le_of_ble_eq_true rfl, Nat.le_of_ble_eq_true rfl⟩ hno hlk (Nat.le_of_ble_eq_true rfl) (Nat.le_of_ble_eq_true rfl) hf
  · refine th_Vn (pc := 4) (C := RX6) (As := [.int x1, .int x2, .int x3]) (rest := []) (st1 := []) ⟨hx, hb, hml, hown, hts⟩ (c_X6_feed Z l hst b h x1 x2 x3 (.inr r4) h_4) (cwV 3 hts gL_fed_X6_feed rfl rfl rfl hv_X6_feed ⟨Nat.le_of_ble_eq_true rfl, Nat.le_of_ble_eq_true rfl⟩) hK hE hP hD hS hA hZ 6 rfl rfl rfl hl.1 rfl (lv_room (Nat.le_of_ble_eq_true rfl)) dL_fed_4 ⟨Nat.le_of_ble_eq_true rfl, Nat.le_of_ble_eq_true rfl⟩ rfl (fun _ H locs hP hD hS => ?_)
    refine lv_iconst (pc := 7) (v := 0) hx hb dL_fed_7 (by decide) ?_
    have hf := (Option.some.inj hf).symm
    refine th_ret hf ?_
    exact rw_i (fun _ => 0) hx hb hr hlk rfl hP hD hS dL_fed_8
set_option maxHeartbeats 4000000 in
set_option maxRecDepth 100000 in
theorem c_L_does_0 (Z : EnvT) (l : Launch) (hst : l.stackTraces = false) (b : Nat → Nat → Nat) (h : Nat → ObS) (a b1 c1 d1 : Int32) (R : Int32 × (Nat → ObS)) (hf : f_L_does_0 h a b1 c1 d1 = some R) : WR Z l yL_does wsL_does { frames := 9, cells := 1, slots := 6, locals := 186 } [.ref (b 0 0), .int 0, .int a, .int b1, .int c1, .int d1] (wH Z b h) (some (.int R.1)) (fun _ => wH Z b R.2) 1 6 := by
  refine wr_of (cc := cL_does) (maxL := 7) (ret := (some .int)) (hh := [(0, 287, 288, 74), (0, 287, 293, 77), (0, 287, 298, 79)]) (by decide) rfl (Nat.le_of_ble_eq_true rfl) ?_
  intro p e s m below meth c A ls hx hb hr hml hts hown hlk htab hP hK hE hD hA hS hZ hl
  have hown : s.vm.findClass RL = some m.cls := hown
  have hl : lv_has ls 7 [(0, .ref (b 0 0)), (1, .int 0), (2, .int a), (3, .int b1), (4, .int c1), (5, .int d1)] := hl
  have w76 := hts (.constant RL 76 (-2100000000)) (by decide +kernel)
  have wc74 := hts (.classLink RL 74 "java/lang/IndexOutOfBoundsException") (by decide +kernel)
  have wc77 := hts (.classLink RL 77 "java/lang/IllegalArgumentException") (by decide +kernel)
  have wc79 := hts (.classLink RL 79 "java/lang/IllegalStateException") (by decide +kernel)
  rw [f_L_does_0] at hf
  obtain ⟨R0, h0, hf⟩ := bd hf
  refine lv_iload_n (pc := 0) hx hb dL_does_0 rfl (lv_at hl 1 rfl) ?_
  refine lv_if_ne (pc := 1) (tgt := 13) hx hb dL_does_1 (by decide) (fun y1 => absurd rfl y1) (fun y1 => ?_)
  refine lv_aload_n (pc := 4) hx hb dL_does_4 rfl (lv_at hl 0 rfl) ?_
  refine lv_iload_n (pc := 5) hx hb dL_does_5 rfl (lv_at hl 2 rfl) ?_
  refine lv_iload_n (pc := 6) hx hb dL_does_6 rfl (lv_at hl 3 rfl) ?_
  rcases R0 with k | r
  · have hf := (sumE_l).symm.trans hf
    refine th_Lx (pc := 7) (C := RX6) (As := [.int a, .int b1]) (rest := []) ⟨hx, hb, hml, hown, hts⟩ (c_X6_source Z l hst b h a b1 (.inl k) h0) (cwV 2 hts gL_does_X6_source rfl rfl rfl hv_X6_source ⟨Nat.le_of_ble_eq_true rfl, Nat.le_of_ble_eq_true rfl⟩) hK hE hP hD hS hA hZ [0, 1, 2, 3, 4, 5, 6, 7, 8, 9, 10, 11, 12, 13, 14, 15, 16, 17, 18, 19, 20, 21, 22, 23, 24, 25, 26, 27, 28, 29, 30, 31, 32, 33, 34, 35, 36, 37, 38, 39] [] [0, 1, 2, 3, 4, 5, 6, 7, 8, 9, 10, 11, 12, 13, 14, 15, 16, 17, 18, 19, 20, 21, 22, 23, 24, 25, 26, 27, 28, 29, 30, 31, 32, 33, 34, 35, 36, 37, 38, 39] rfl rfl rfl rfl 6 rfl rfl rfl hl.1 rfl (lv_room (Nat.le_of_ble_eq_true rfl)) dL_does_7 ⟨Nat.le_of_ble_eq_true rfl, Nat.le_of_ble_eq_true rfl⟩ (fun q9 ce H locs hP hD hS hq hv hcl => ?_)
    by_cases z1 : k = 3
    · have hf := (if_pos z1).symm.trans hf
      subst z1
      refine vx_catch (name := exN 3) hown [] ⟨0, 287, 288, 74⟩ [⟨0, 287, 293, 77⟩, ⟨0, 287, 298, 79⟩] (htab.trans rfl) (fun _ h => nomatch h) (by decide) (by decide) wc74 (va_Nw.use rfl (hE.2.2.2.1 3)) hq hv hcl ?_
      refine lv_astore (pc := 288) (lv' := [(6, .ref q9), (0, .ref (b 0 0)), (1, .int 0), (2, .int a), (3, .int b1), (4, .int c1), (5, .int d1)]) hx hb dL_does_288 hl (by decide) rfl (fun ls hl => ?_)
      refine lv_ldc (pc := 290) (v := (-2100000000)) hx hb hown w76 dL_does_290 ?_
      have hf := (Option.some.inj hf)
      subst hf
      exact vx_ret (rw_i (fun _ => 0) hx hb hr hlk rfl hP hD hS dL_does_292)
    · have hf := (if_neg z1).symm.trans hf
      by_cases z2 : k = 1
      · have hf := (if_pos z2).symm.trans hf
        subst z2
        refine vx_catch (name := exN 1) hown [⟨0, 287, 288, 74⟩] ⟨0, 287, 293, 77⟩ [⟨0, 287, 298, 79⟩] (htab.trans rfl) (fun z hz => by rcases List.mem_cons.mp hz with rfl | hz; { exact Or.inr ⟨by decide, exN 3, wc74, hE.2.2.2.2.1 1 3 (by decide)⟩ };  exact nomatch hz) (by decide) (by decide) wc77 (va_Nw.use rfl (hE.2.2.2.1 1)) hq hv hcl ?_
        refine lv_astore (pc := 293) (lv' := [(6, .ref q9), (0, .ref (b 0 0)), (1, .int 0), (2, .int a), (3, .int b1), (4, .int c1), (5, .int d1)]) hx hb dL_does_293 hl (by decide) rfl (fun ls hl => ?_)
        refine lv_ldc (pc := 295) (v := (-2100000000)) hx hb hown w76 dL_does_295 ?_
        have hf := (Option.some.inj hf)
        subst hf
        exact vx_ret (rw_i (fun _ => 0) hx hb hr hlk rfl hP hD hS dL_does_297)
      · have hf := (if_neg z2).symm.trans hf
        by_cases z3 : k = 2
        · have hf := (if_pos z3).symm.trans hf
          subst z3
          refine vx_catch (name := exN 2) hown [⟨0, 287, 288, 74⟩, ⟨0, 287, 293, 77⟩] ⟨0, 287, 298, 79⟩ [] (htab.trans rfl) (fun z hz => by rcases List.mem_cons.mp hz with rfl | hz; { exact Or.inr ⟨by decide, exN 3, wc74, hE.2.2.2.2.1 2 3 (by decide)⟩ }; rcases List.mem_cons.mp hz with rfl | hz; { exact Or.inr ⟨by decide, exN 1, wc77, hE.2.2.2.2.1 2 1 (by decide)⟩ };  exact nomatch hz) (by decide) (by decide) wc79 (va_Nw.use rfl (hE.2.2.2.1 2)) hq hv hcl ?_
          refine lv_astore (pc := 298) (lv' := [(6, .ref q9), (0, .ref (b 0 0)), (1, .int 0), (2, .int a), (3, .int b1), (4, .int c1), (5, .int d1)]) hx hb dL_does_298 hl (by decide) rfl (fun ls hl => ?_)
          refine lv_ldc (pc := 300) (v := (-2100000000)) hx hb hown w76 dL_does_300 ?_
          have hf := (Option.some.inj hf)
          subst hf
          exact vx_ret (rw_i (fun _ => 0) hx hb hr hlk rfl hP hD hS dL_does_302)
        · have hf := (if_neg z3).symm.trans hf
          exact nomatch hf
  · have hf := (sumE_r).symm.trans hf
    refine th_Ln (pc := 7) (C := RX6) (As := [.int a, .int b1]) (rest := []) (st1 := [.int r.1]) (wn := fun _ => wH Z b r.2) ⟨hx, hb, hml, hown, hts⟩ (c_X6_source Z l hst b h a b1 (.inr r) h0) (cwV 2 hts gL_does_X6_source rfl rfl rfl hv_X6_source ⟨Nat.le_of_ble_eq_true rfl, Nat.le_of_ble_eq_true rfl⟩) hK hE hP hD hS hA hZ [0, 1, 2, 3, 4, 5, 6, 7, 8, 9, 10, 11, 12, 13, 14, 15, 16, 17, 18, 19, 20, 21, 22, 23, 24, 25, 26, 27, 28, 29, 30, 31, 32, 33, 34, 35, 36, 37, 38, 39] [] [0, 1, 2, 3, 4, 5, 6, 7, 8, 9, 10, 11, 12, 13, 14, 15, 16, 17, 18, 19, 20, 21, 22, 23, 24, 25, 26, 27, 28, 29, 30, 31, 32, 33, 34, 35, 36, 37, 38, 39] rfl rfl rfl (fun _ => rfl) 6 rfl rfl rfl hl.1 rfl (lv_room (Nat.le_of_ble_eq_true rfl)) dL_does_7 ⟨Nat.le_of_ble_eq_true rfl, Nat.le_of_ble_eq_true rfl⟩ rfl (fun _ H locs hP hD hS => ?_)
    refine lv_goto (pc := 10) (tgt := 287) hx hb dL_does_10 (by decide) ?_
    have hf := (Option.some.inj hf)
    subst hf
    exact vx_ret (rw_i (fun _ => 0) hx hb hr hlk rfl hP hD hS dL_does_287)
set_option maxHeartbeats 4000000 in
set_option maxRecDepth 100000 in
theorem c_L_does_1 (Z : EnvT) (l : Launch) (hst : l.stackTraces = false) (b : Nat → Nat → Nat) (h : Nat → ObS) (a b1 c1 d1 : Int32) (R : Int32 × (Nat → ObS)) (hf : f_L_does_1 h a b1 c1 d1 = some R) : WR Z l yL_does wsL_does { frames := 9, cells := 5, slots := 30, locals := 186 } [.ref (b 0 0), .int 1, .int a, .int b1, .int c1, .int d1] (wH Z b h) (some (.int R.1)) (fun _ => wH Z b R.2) 5 30 := by
  refine wr_of (cc := cL_does) (maxL := 7) (ret := (some .int)) (hh := [(0, 287, 288, 74), (0, 287, 293, 77), (0, 287, 298, 79)]) (by decide) rfl (Nat.le_of_ble_eq_true rfl) ?_
  intro p e s m below meth c A ls hx hb hr hml hts hown hlk htab hP hK hE hD hA hS hZ hl
  have hown : s.vm.findClass RL = some m.cls := hown
  have hl : lv_has ls 7 [(0, .ref (b 0 0)), (1, .int 1), (2, .int a), (3, .int b1), (4, .int c1), (5, .int d1)] := hl
  have w76 := hts (.constant RL 76 (-2100000000)) (by decide +kernel)
  have wc74 := hts (.classLink RL 74 "java/lang/IndexOutOfBoundsException") (by decide +kernel)
  have wc77 := hts (.classLink RL 77 "java/lang/IllegalArgumentException") (by decide +kernel)
  have wc79 := hts (.classLink RL 79 "java/lang/IllegalStateException") (by decide +kernel)
  rw [f_L_does_1] at hf
  obtain ⟨R0, h0, hf⟩ := bd hf
  refine lv_iload_n (pc := 0) hx hb dL_does_0 rfl (lv_at hl 1 rfl) ?_
  refine lv_if_ne (pc := 1) (tgt := 13) hx hb dL_does_1 (by decide) (fun y1 => ?_) (fun y1 => absurd y1 (by decide))
  refine lv_iload_n (pc := 13) hx hb dL_does_13 rfl (lv_at hl 1 rfl) ?_
  refine lv_iconst (pc := 14) (v := 1) hx hb dL_does_14 (by decide) ?_
  refine lv_icmp_ne (pc := 15) (tgt := 31) hx hb dL_does_15 (by decide) (fun y2 => absurd rfl y2) (fun y2 => ?_)
  refine lv_aload_n (pc := 18) hx hb dL_does_18 rfl (lv_at hl 0 rfl) ?_
  refine lv_iload_n (pc := 19) hx hb dL_does_19 rfl (lv_at hl 2 rfl) ?_
  refine lv_iload_n (pc := 20) hx hb dL_does_20 rfl (lv_at hl 3 rfl) ?_
  refine lv_iload (pc := 21) hx hb dL_does_21 (lv_at hl 4 rfl) ?_
  refine lv_iload (pc := 23) hx hb dL_does_23 (lv_at hl 5 rfl) ?_
  rcases R0 with k | r
  · have hf := (sumE_l).symm.trans hf
    refine th_Lx (pc := 25) (C := RX6) (As := [.int a, .int b1, .int c1, .int d1]) (rest := []) ⟨hx, hb, hml, hown, hts⟩ (c_X6_unit Z l hst b h a b1 c1 d1 (.inl k) h0) (cwV 4 hts gL_does_X6_unit rfl rfl rfl hv_X6_unit ⟨Nat.le_of_ble_eq_true rfl, Nat.le_of_ble_eq_true rfl⟩) hK hE hP hD hS hA hZ [0, 1, 2, 3, 4, 5, 6, 7, 8, 9, 10, 11, 12, 13, 14, 15, 16, 17, 18, 19, 20, 21, 22, 23, 24, 25, 26, 27, 28, 29, 30, 31, 32, 33, 34, 35, 36, 37, 38, 39] [] [0, 1, 2, 3, 4, 5, 6, 7, 8, 9, 10, 11, 12, 13, 14, 15, 16, 17, 18, 19, 20, 21, 22, 23, 24, 25, 26, 27, 28, 29, 30, 31, 32, 33, 34, 35, 36, 37, 38, 39] rfl rfl rfl rfl 6 rfl rfl rfl hl.1 rfl (lv_room (Nat.le_of_ble_eq_true rfl)) dL_does_25 ⟨Nat.le_of_ble_eq_true rfl, Nat.le_of_ble_eq_true rfl⟩ (fun q9 ce H locs hP hD hS hq hv hcl => ?_)
    by_cases z1 : k = 3
    · have hf := (if_pos z1).symm.trans hf
      subst z1
      refine vx_catch (name := exN 3) hown [] ⟨0, 287, 288, 74⟩ [⟨0, 287, 293, 77⟩, ⟨0, 287, 298, 79⟩] (htab.trans rfl) (fun _ h => nomatch h) (by decide) (by decide) wc74 (va_Nw.use rfl (hE.2.2.2.1 3)) hq hv hcl ?_
      refine lv_astore (pc := 288) (lv' := [(6, .ref q9), (0, .ref (b 0 0)), (1, .int 1), (2, .int a), (3, .int b1), (4, .int c1), (5, .int d1)]) hx hb dL_does_288 hl (by decide) rfl (fun ls hl => ?_)
      refine lv_ldc (pc := 290) (v := (-2100000000)) hx hb hown w76 dL_does_290 ?_
      have hf := (Option.some.inj hf)
      subst hf
      exact vx_ret (rw_i (fun _ => 0) hx hb hr hlk rfl hP hD hS dL_does_292)
    · have hf := (if_neg z1).symm.trans hf
      by_cases z2 : k = 1
      · have hf := (if_pos z2).symm.trans hf
        subst z2
        refine vx_catch (name := exN 1) hown [⟨0, 287, 288, 74⟩] ⟨0, 287, 293, 77⟩ [⟨0, 287, 298, 79⟩] (htab.trans rfl) (fun z hz => by rcases List.mem_cons.mp hz with rfl | hz; { exact Or.inr ⟨by decide, exN 3, wc74, hE.2.2.2.2.1 1 3 (by decide)⟩ };  exact nomatch hz) (by decide) (by decide) wc77 (va_Nw.use rfl (hE.2.2.2.1 1)) hq hv hcl ?_
        refine lv_astore (pc := 293) (lv' := [(6, .ref q9), (0, .ref (b 0 0)), (1, .int 1), (2, .int a), (3, .int b1), (4, .int c1), (5, .int d1)]) hx hb dL_does_293 hl (by decide) rfl (fun ls hl => ?_)
        refine lv_ldc (pc := 295) (v := (-2100000000)) hx hb hown w76 dL_does_295 ?_
        have hf := (Option.some.inj hf)
        subst hf
        exact vx_ret (rw_i (fun _ => 0) hx hb hr hlk rfl hP hD hS dL_does_297)
      · have hf := (if_neg z2).symm.trans hf
        by_cases z3 : k = 2
        · have hf := (if_pos z3).symm.trans hf
          subst z3
          refine vx_catch (name := exN 2) hown [⟨0, 287, 288, 74⟩, ⟨0, 287, 293, 77⟩] ⟨0, 287, 298, 79⟩ [] (htab.trans rfl) (fun z hz => by rcases List.mem_cons.mp hz with rfl | hz; { exact Or.inr ⟨by decide, exN 3, wc74, hE.2.2.2.2.1 2 3 (by decide)⟩ }; rcases List.mem_cons.mp hz with rfl | hz; { exact Or.inr ⟨by decide, exN 1, wc77, hE.2.2.2.2.1 2 1 (by decide)⟩ };  exact nomatch hz) (by decide) (by decide) wc79 (va_Nw.use rfl (hE.2.2.2.1 2)) hq hv hcl ?_
          refine lv_astore (pc := 298) (lv' := [(6, .ref q9), (0, .ref (b 0 0)), (1, .int 1), (2, .int a), (3, .int b1), (4, .int c1), (5, .int d1)]) hx hb dL_does_298 hl (by decide) rfl (fun ls hl => ?_)
          refine lv_ldc (pc := 300) (v := (-2100000000)) hx hb hown w76 dL_does_300 ?_
          have hf := (Option.some.inj hf)
          subst hf
          exact vx_ret (rw_i (fun _ => 0) hx hb hr hlk rfl hP hD hS dL_does_302)
        · have hf := (if_neg z3).symm.trans hf
          exact nomatch hf
  · have hf := (sumE_r).symm.trans hf
    refine th_Ln (pc := 25) (C := RX6) (As := [.int a, .int b1, .int c1, .int d1]) (rest := []) (st1 := [.int r.1]) (wn := fun _ => wH Z b r.2) ⟨hx, hb, hml, hown, hts⟩ (c_X6_unit Z l hst b h a b1 c1 d1 (.inr r) h0) (cwV 4 hts gL_does_X6_unit rfl rfl rfl hv_X6_unit ⟨Nat.le_of_ble_eq_true rfl, Nat.le_of_ble_eq_true rfl⟩) hK hE hP hD hS hA hZ [0, 1, 2, 3, 4, 5, 6, 7, 8, 9, 10, 11, 12, 13, 14, 15, 16, 17, 18, 19, 20, 21, 22, 23, 24, 25, 26, 27, 28, 29, 30, 31, 32, 33, 34, 35, 36, 37, 38, 39] [] [0, 1, 2, 3, 4, 5, 6, 7, 8, 9, 10, 11, 12, 13, 14, 15, 16, 17, 18, 19, 20, 21, 22, 23, 24, 25, 26, 27, 28, 29, 30, 31, 32, 33, 34, 35, 36, 37, 38, 39] rfl rfl rfl (fun _ => rfl) 6 rfl rfl rfl hl.1 rfl (lv_room (Nat.le_of_ble_eq_true rfl)) dL_does_25 ⟨Nat.le_of_ble_eq_true rfl, Nat.le_of_ble_eq_true rfl⟩ rfl (fun _ H locs hP hD hS => ?_)
    refine lv_goto (pc := 28) (tgt := 287) hx hb dL_does_28 (by decide) ?_
    have hf := (Option.some.inj hf)
    subst hf
    exact vx_ret (rw_i (fun _ => 0) hx hb hr hlk rfl hP hD hS dL_does_287)
set_option maxHeartbeats 4000000 in
set_option maxRecDepth 100000 in
theorem c_L_does_2 (Z : EnvT) (l : Launch) (hst : l.stackTraces = false) (b : Nat → Nat → Nat) (h : Nat → ObS) (a b1 c1 d1 : Int32) (R : Int32 × (Nat → ObS)) (hf : f_L_does_2 h a b1 c1 d1 = some R) : WR Z l yL_does wsL_does { frames := 9, cells := 4, slots := 24, locals := 186 } [.ref (b 0 0), .int 2, .int a, .int b1, .int c1, .int d1] (wH Z b h) (some (.int R.1)) (fun _ => wH Z b R.2) 4 24 := by
  refine wr_of (cc := cL_does) (maxL := 7) (ret := (some .int)) (hh := [(0, 287, 288, 74), (0, 287, 293, 77), (0, 287, 298, 79)]) (by decide) rfl (Nat.le_of_ble_eq_true rfl) ?_
  intro p e s m below meth c A ls hx hb hr hml hts hown hlk htab hP hK hE hD hA hS hZ hl
  have hown : s.vm.findClass RL = some m.cls := hown
  have hl : lv_has ls 7 [(0, .ref (b 0 0)), (1, .int 2), (2, .int a), (3, .int b1), (4, .int c1), (5, .int d1)] := hl
  have w76 := hts (.constant RL 76 (-2100000000)) (by decide +kernel)
  have wc74 := hts (.classLink RL 74 "java/lang/IndexOutOfBoundsException") (by decide +kernel)
  have wc77 := hts (.classLink RL 77 "java/lang/IllegalArgumentException") (by decide +kernel)
  have wc79 := hts (.classLink RL 79 "java/lang/IllegalStateException") (by decide +kernel)
  rw [f_L_does_2] at hf
  obtain ⟨R0, h0, hf⟩ := bd hf
  refine lv_iload_n (pc := 0) hx hb dL_does_0 rfl (lv_at hl 1 rfl) ?_
  refine lv_if_ne (pc := 1) (tgt := 13) hx hb dL_does_1 (by decide) (fun y1 => ?_) (fun y1 => absurd y1 (by decide))
  refine lv_iload_n (pc := 13) hx hb dL_does_13 rfl (lv_at hl 1 rfl) ?_
  refine lv_iconst (pc := 14) (v := 1) hx hb dL_does_14 (by decide) ?_
  refine lv_icmp_ne (pc := 15) (tgt := 31) hx hb dL_does_15 (by decide) (fun y2 => ?_) (fun y2 => absurd y2 (by decide))
  refine lv_iload_n (pc := 31) hx hb dL_does_31 rfl (lv_at hl 1 rfl) ?_
  refine lv_iconst (pc := 32) (v := 2) hx hb dL_does_32 (by decide) ?_
  refine lv_icmp_ne (pc := 33) (tgt := 45) hx hb dL_does_33 (by decide) (fun y3 => absurd rfl y3) (fun y3 => ?_)
  refine lv_aload_n (pc := 36) hx hb dL_does_36 rfl (lv_at hl 0 rfl) ?_
  refine lv_iload_n (pc := 37) hx hb dL_does_37 rfl (lv_at hl 2 rfl) ?_
  refine lv_iload_n (pc := 38) hx hb dL_does_38 rfl (lv_at hl 3 rfl) ?_
  rcases R0 with k | r
  · have hf := (sumE_l).symm.trans hf
    refine th_Lx (pc := 39) (C := RX6) (As := [.int a, .int b1]) (rest := []) ⟨hx, hb, hml, hown, hts⟩ (c_X6_back Z l hst b h a b1 (.inl k) h0) (cwV 2 hts gL_does_X6_back rfl rfl rfl hv_X6_back ⟨Nat.le_of_ble_eq_true rfl, Nat.le_of_ble_eq_true rfl⟩) hK hE hP hD hS hA hZ [0, 1, 2, 3, 4, 5, 6, 7, 8, 9, 10, 11, 12, 13, 14, 15, 16, 17, 18, 19, 20, 21, 22, 23, 24, 25, 26, 27, 28, 29, 30, 31, 32, 33, 34, 35, 36, 37, 38, 39] [] [0, 1, 2, 3, 4, 5, 6, 7, 8, 9, 10, 11, 12, 13, 14, 15, 16, 17, 18, 19, 20, 21, 22, 23, 24, 25, 26, 27, 28, 29, 30, 31, 32, 33, 34, 35, 36, 37, 38, 39] rfl rfl rfl rfl 6 rfl rfl rfl hl.1 rfl (lv_room (Nat.le_of_ble_eq_true rfl)) dL_does_39 ⟨Nat.le_of_ble_eq_true rfl, Nat.le_of_ble_eq_true rfl⟩ (fun q9 ce H locs hP hD hS hq hv hcl => ?_)
    by_cases z1 : k = 3
    · have hf := (if_pos z1).symm.trans hf
      subst z1
      refine vx_catch (name := exN 3) hown [] ⟨0, 287, 288, 74⟩ [⟨0, 287, 293, 77⟩, ⟨0, 287, 298, 79⟩] (htab.trans rfl) (fun _ h => nomatch h) (by decide) (by decide) wc74 (va_Nw.use rfl (hE.2.2.2.1 3)) hq hv hcl ?_
      refine lv_astore (pc := 288) (lv' := [(6, .ref q9), (0, .ref (b 0 0)), (1, .int 2), (2, .int a), (3, .int b1), (4, .int c1), (5, .int d1)]) hx hb dL_does_288 hl (by decide) rfl (fun ls hl => ?_)
      refine lv_ldc (pc := 290) (v := (-2100000000)) hx hb hown w76 dL_does_290 ?_
      have hf := (Option.some.inj hf)
      subst hf
      exact vx_ret (rw_i (fun _ => 0) hx hb hr hlk rfl hP hD hS dL_does_292)
    · have hf := (if_neg z1).symm.trans hf
      by_cases z2 : k = 1
      · have hf := (if_pos z2).symm.trans hf
        subst z2
        refine vx_catch (name := exN 1) hown [⟨0, 287, 288, 74⟩] ⟨0, 287, 293, 77⟩ [⟨0, 287, 298, 79⟩] (htab.trans rfl) (fun z hz => by rcases List.mem_cons.mp hz with rfl | hz; { exact Or.inr ⟨by decide, exN 3, wc74, hE.2.2.2.2.1 1 3 (by decide)⟩ };  exact nomatch hz) (by decide) (by decide) wc77 (va_Nw.use rfl (hE.2.2.2.1 1)) hq hv hcl ?_
        refine lv_astore (pc := 293) (lv' := [(6, .ref q9), (0, .ref (b 0 0)), (1, .int 2), (2, .int a), (3, .int b1), (4, .int c1), (5, .int d1)]) hx hb dL_does_293 hl (by decide) rfl (fun ls hl => ?_)
        refine lv_ldc (pc := 295) (v := (-2100000000)) hx hb hown w76 dL_does_295 ?_
        have hf := (Option.some.inj hf)
        subst hf
        exact vx_ret (rw_i (fun _ => 0) hx hb hr hlk rfl hP hD hS dL_does_297)
      · have hf := (if_neg z2).symm.trans hf
        by_cases z3 : k = 2
        · have hf := (if_pos z3).symm.trans hf
          subst z3
          refine vx_catch (name := exN 2) hown [⟨0, 287, 288, 74⟩, ⟨0, 287, 293, 77⟩] ⟨0, 287, 298, 79⟩ [] (htab.trans rfl) (fun z hz => by rcases List.mem_cons.mp hz with rfl | hz; { exact Or.inr ⟨by decide, exN 3, wc74, hE.2.2.2.2.1 2 3 (by decide)⟩ }; rcases List.mem_cons.mp hz with rfl | hz; { exact Or.inr ⟨by decide, exN 1, wc77, hE.2.2.2.2.1 2 1 (by decide)⟩ };  exact nomatch hz) (by decide) (by decide) wc79 (va_Nw.use rfl (hE.2.2.2.1 2)) hq hv hcl ?_
          refine lv_astore (pc := 298) (lv' := [(6, .ref q9), (0, .ref (b 0 0)), (1, .int 2), (2, .int a), (3, .int b1), (4, .int c1), (5, .int d1)]) hx hb dL_does_298 hl (by decide) rfl (fun ls hl => ?_)
          refine lv_ldc (pc := 300) (v := (-2100000000)) hx hb hown w76 dL_does_300 ?_
          have hf := (Option.some.inj hf)
          subst hf
          exact vx_ret (rw_i (fun _ => 0) hx hb hr hlk rfl hP hD hS dL_does_302)
        · have hf := (if_neg z3).symm.trans hf
          exact nomatch hf
  · have hf := (sumE_r).symm.trans hf
    refine th_Ln (pc := 39) (C := RX6) (As := [.int a, .int b1]) (rest := []) (st1 := [.int r.1]) (wn := fun _ => wH Z b r.2) ⟨hx, hb, hml, hown, hts⟩ (c_X6_back Z l hst b h a b1 (.inr r) h0) (cwV 2 hts gL_does_X6_back rfl rfl rfl hv_X6_back ⟨Nat.le_of_ble_eq_true rfl, Nat.le_of_ble_eq_true rfl⟩) hK hE hP hD hS hA hZ [0, 1, 2, 3, 4, 5, 6, 7, 8, 9, 10, 11, 12, 13, 14, 15, 16, 17, 18, 19, 20, 21, 22, 23, 24, 25, 26, 27, 28, 29, 30, 31, 32, 33, 34, 35, 36, 37, 38, 39] [] [0, 1, 2, 3, 4, 5, 6, 7, 8, 9, 10, 11, 12, 13, 14, 15, 16, 17, 18, 19, 20, 21, 22, 23, 24, 25, 26, 27, 28, 29, 30, 31, 32, 33, 34, 35, 36, 37, 38, 39] rfl rfl rfl (fun _ => rfl) 6 rfl rfl rfl hl.1 rfl (lv_room (Nat.le_of_ble_eq_true rfl)) dL_does_39 ⟨Nat.le_of_ble_eq_true rfl, Nat.le_of_ble_eq_true rfl⟩ rfl (fun _ H locs hP hD hS => ?_)
    refine lv_goto (pc := 42) (tgt := 287) hx hb dL_does_42 (by decide) ?_
    have hf := (Option.some.inj hf)
    subst hf
    exact vx_ret (rw_i (fun _ => 0) hx hb hr hlk rfl hP hD hS dL_does_287)
set_option maxHeartbeats 4000000 in
set_option maxRecDepth 100000 in
theorem c_L_does_3 (Z : EnvT) (l : Launch) (hst : l.stackTraces = false) (b : Nat → Nat → Nat) (h : Nat → ObS) (a b1 c1 d1 : Int32) (R : Int32 × (Nat → ObS)) (hf : f_L_does_3 h a b1 c1 d1 = some R) : WR Z l yL_does wsL_does { frames := 9, cells := 2, slots := 12, locals := 186 } [.ref (b 0 0), .int 3, .int a, .int b1, .int c1, .int d1] (wH Z b h) (some (.int R.1)) (fun _ => wH Z b R.2) 2 12 := by
  refine wr_of (cc := cL_does) (maxL := 7) (ret := (some .int)) (hh := [(0, 287, 288, 74), (0, 287, 293, 77), (0, 287, 298, 79)]) (by decide) rfl (Nat.le_of_ble_eq_true rfl) ?_
  intro p e s m below meth c A ls hx hb hr hml hts hown hlk htab hP hK hE hD hA hS hZ hl
  have hown : s.vm.findClass RL = some m.cls := hown
  have hl : lv_has ls 7 [(0, .ref (b 0 0)), (1, .int 3), (2, .int a), (3, .int b1), (4, .int c1), (5, .int d1)] := hl
  have w76 := hts (.constant RL 76 (-2100000000)) (by decide +kernel)
  have wc74 := hts (.classLink RL 74 "java/lang/IndexOutOfBoundsException") (by decide +kernel)
  have wc77 := hts (.classLink RL 77 "java/lang/IllegalArgumentException") (by decide +kernel)
  have wc79 := hts (.classLink RL 79 "java/lang/IllegalStateException") (by decide +kernel)
  rw [f_L_does_3] at hf
  obtain ⟨R0, h0, hf⟩ := bd hf
  refine lv_iload_n (pc := 0) hx hb dL_does_0 rfl (lv_at hl 1 rfl) ?_
  refine lv_if_ne (pc := 1) (tgt := 13) hx hb dL_does_1 (by decide) (fun y1 => ?_) (fun y1 => absurd y1 (by decide))
  refine lv_iload_n (pc := 13) hx hb dL_does_13 rfl (lv_at hl 1 rfl) ?_
  refine lv_iconst (pc := 14) (v := 1) hx hb dL_does_14 (by decide) ?_
  refine lv_icmp_ne (pc := 15) (tgt := 31) hx hb dL_does_15 (by decide) (fun y2 => ?_) (fun y2 => absurd y2 (by decide))
  refine lv_iload_n (pc := 31) hx hb dL_does_31 rfl (lv_at hl 1 rfl) ?_
  refine lv_iconst (pc := 32) (v := 2) hx hb dL_does_32 (by decide) ?_
  refine lv_icmp_ne (pc := 33) (tgt := 45) hx hb dL_does_33 (by decide) (fun y3 => ?_) (fun y3 => absurd y3 (by decide))
  refine lv_iload_n (pc := 45) hx hb dL_does_45 rfl (lv_at hl 1 rfl) ?_
  refine lv_iconst (pc := 46) (v := 3) hx hb dL_does_46 (by decide) ?_
  refine lv_icmp_ne (pc := 47) (tgt := 59) hx hb dL_does_47 (by decide) (fun y4 => absurd rfl y4) (fun y4 => ?_)
  refine lv_aload_n (pc := 50) hx hb dL_does_50 rfl (lv_at hl 0 rfl) ?_
  refine lv_iload_n (pc := 51) hx hb dL_does_51 rfl (lv_at hl 2 rfl) ?_
  refine lv_iload_n (pc := 52) hx hb dL_does_52 rfl (lv_at hl 3 rfl) ?_
  rcases R0 with k | r
  · have hf := (sumE_l).symm.trans hf
    refine th_Lx (pc := 53) (C := RX6) (As := [.int a, .int b1]) (rest := []) ⟨hx, hb, hml, hown, hts⟩ (c_X6_set Z l hst b h a b1 (.inl k) h0) (cwV 2 hts gL_does_X6_set rfl rfl rfl hv_X6_set ⟨Nat.le_of_ble_eq_true rfl, Nat.le_of_ble_eq_true rfl⟩) hK hE hP hD hS hA hZ [0, 1, 2, 3, 4, 5, 6, 7, 8, 9, 10, 11, 12, 13, 14, 15, 16, 17, 18, 19, 20, 21, 22, 23, 24, 25, 26, 27, 28, 29, 30, 31, 32, 33, 34, 35, 36, 37, 38, 39] [] [0, 1, 2, 3, 4, 5, 6, 7, 8, 9, 10, 11, 12, 13, 14, 15, 16, 17, 18, 19, 20, 21, 22, 23, 24, 25, 26, 27, 28, 29, 30, 31, 32, 33, 34, 35, 36, 37, 38, 39] rfl rfl rfl rfl 6 rfl rfl rfl hl.1 rfl (lv_room (Nat.le_of_ble_eq_true rfl)) dL_does_53 ⟨Nat.le_of_ble_eq_true rfl, Nat.le_of_ble_eq_true rfl⟩ (fun q9 ce H locs hP hD hS hq hv hcl => ?_)
    by_cases z1 : k = 3
    · have hf := (if_pos z1).symm.trans hf
      subst z1
      refine vx_catch (name := exN 3) hown [] ⟨0, 287, 288, 74⟩ [⟨0, 287, 293, 77⟩, ⟨0, 287, 298, 79⟩] (htab.trans rfl) (fun _ h => nomatch h) (by decide) (by decide) wc74 (va_Nw.use rfl (hE.2.2.2.1 3)) hq hv hcl ?_
      refine lv_astore (pc := 288) (lv' := [(6, .ref q9), (0, .ref (b 0 0)), (1, .int 3), (2, .int a), (3, .int b1), (4, .int c1), (5, .int d1)]) hx hb dL_does_288 hl (by decide) rfl (fun ls hl => ?_)
      refine lv_ldc (pc := 290) (v := (-2100000000)) hx hb hown w76 dL_does_290 ?_
      have hf := (Option.some.inj hf)
      subst hf
      exact vx_ret (rw_i (fun _ => 0) hx hb hr hlk rfl hP hD hS dL_does_292)
    · have hf := (if_neg z1).symm.trans hf
      by_cases z2 : k = 1
      · have hf := (if_pos z2).symm.trans hf
        subst z2
        refine vx_catch (name := exN 1) hown [⟨0, 287, 288, 74⟩] ⟨0, 287, 293, 77⟩ [⟨0, 287, 298, 79⟩] (htab.trans rfl) (fun z hz => by rcases List.mem_cons.mp hz with rfl | hz; { exact Or.inr ⟨by decide, exN 3, wc74, hE.2.2.2.2.1 1 3 (by decide)⟩ };  exact nomatch hz) (by decide) (by decide) wc77 (va_Nw.use rfl (hE.2.2.2.1 1)) hq hv hcl ?_
        refine lv_astore (pc := 293) (lv' := [(6, .ref q9), (0, .ref (b 0 0)), (1, .int 3), (2, .int a), (3, .int b1), (4, .int c1), (5, .int d1)]) hx hb dL_does_293 hl (by decide) rfl (fun ls hl => ?_)
        refine lv_ldc (pc := 295) (v := (-2100000000)) hx hb hown w76 dL_does_295 ?_
        have hf := (Option.some.inj hf)
        subst hf
        exact vx_ret (rw_i (fun _ => 0) hx hb hr hlk rfl hP hD hS dL_does_297)
      · have hf := (if_neg z2).symm.trans hf
        by_cases z3 : k = 2
        · have hf := (if_pos z3).symm.trans hf
          subst z3
          refine vx_catch (name := exN 2) hown [⟨0, 287, 288, 74⟩, ⟨0, 287, 293, 77⟩] ⟨0, 287, 298, 79⟩ [] (htab.trans rfl) (fun z hz => by rcases List.mem_cons.mp hz with rfl | hz; { exact Or.inr ⟨by decide, exN 3, wc74, hE.2.2.2.2.1 2 3 (by decide)⟩ }; rcases List.mem_cons.mp hz with rfl | hz; { exact Or.inr ⟨by decide, exN 1, wc77, hE.2.2.2.2.1 2 1 (by decide)⟩ };  exact nomatch hz) (by decide) (by decide) wc79 (va_Nw.use rfl (hE.2.2.2.1 2)) hq hv hcl ?_
          refine lv_astore (pc := 298) (lv' := [(6, .ref q9), (0, .ref (b 0 0)), (1, .int 3), (2, .int a), (3, .int b1), (4, .int c1), (5, .int d1)]) hx hb dL_does_298 hl (by decide) rfl (fun ls hl => ?_)
          refine lv_ldc (pc := 300) (v := (-2100000000)) hx hb hown w76 dL_does_300 ?_
          have hf := (Option.some.inj hf)
          subst hf
          exact vx_ret (rw_i (fun _ => 0) hx hb hr hlk rfl hP hD hS dL_does_302)
        · have hf := (if_neg z3).symm.trans hf
          exact nomatch hf
  · have hf := (sumE_r).symm.trans hf
    refine th_Ln (pc := 53) (C := RX6) (As := [.int a, .int b1]) (rest := []) (st1 := [.int r.1]) (wn := fun _ => wH Z b r.2) ⟨hx, hb, hml, hown, hts⟩ (c_X6_set Z l hst b h a b1 (.inr r) h0) (cwV 2 hts gL_does_X6_set rfl rfl rfl hv_X6_set ⟨Nat.le_of_ble_eq_true rfl, Nat.le_of_ble_eq_true rfl⟩) hK hE hP hD hS hA hZ [0, 1, 2, 3, 4, 5, 6, 7, 8, 9, 10, 11, 12, 13, 14, 15, 16, 17, 18, 19, 20, 21, 22, 23, 24, 25, 26, 27, 28, 29, 30, 31, 32, 33, 34, 35, 36, 37, 38, 39] [] [0, 1, 2, 3, 4, 5, 6, 7, 8, 9, 10, 11, 12, 13, 14, 15, 16, 17, 18, 19, 20, 21, 22, 23, 24, 25, 26, 27, 28, 29, 30, 31, 32, 33, 34, 35, 36, 37, 38, 39] rfl rfl rfl (fun _ => rfl) 6 rfl rfl rfl hl.1 rfl (lv_room (Nat.le_of_ble_eq_true rfl)) dL_does_53 ⟨Nat.le_of_ble_eq_true rfl, Nat.le_of_ble_eq_true rfl⟩ rfl (fun _ H locs hP hD hS => ?_)
    refine lv_goto (pc := 56) (tgt := 287) hx hb dL_does_56 (by decide) ?_
    have hf := (Option.some.inj hf)
    subst hf
    exact vx_ret (rw_i (fun _ => 0) hx hb hr hlk rfl hP hD hS dL_does_287)
set_option maxHeartbeats 4000000 in
set_option maxRecDepth 100000 in
theorem c_L_does_4 (Z : EnvT) (l : Launch) (hst : l.stackTraces = false) (b : Nat → Nat → Nat) (h : Nat → ObS) (a b1 c1 d1 : Int32) (R : Int32 × (Nat → ObS)) (hf : f_L_does_4 h a b1 c1 d1 = some R) : WR Z l yL_does wsL_does { frames := 9, cells := 3, slots := 18, locals := 186 } [.ref (b 0 0), .int 4, .int a, .int b1, .int c1, .int d1] (wH Z b h) (some (.int R.1)) (fun _ => wH Z b R.2) 3 18 := by
  refine wr_of (cc := cL_does) (maxL := 7) (ret := (some .int)) (hh := [(0, 287, 288, 74), (0, 287, 293, 77), (0, 287, 298, 79)]) (by decide) rfl (Nat.le_of_ble_eq_true rfl) ?_
  intro p e s m below meth c A ls hx hb hr hml hts hown hlk htab hP hK hE hD hA hS hZ hl
  have hown : s.vm.findClass RL = some m.cls := hown
  have hl : lv_has ls 7 [(0, .ref (b 0 0)), (1, .int 4), (2, .int a), (3, .int b1), (4, .int c1), (5, .int d1)] := hl
  have w76 := hts (.constant RL 76 (-2100000000)) (by decide +kernel)
  have wc74 := hts (.classLink RL 74 "java/lang/IndexOutOfBoundsException") (by decide +kernel)
  have wc77 := hts (.classLink RL 77 "java/lang/IllegalArgumentException") (by decide +kernel)
  have wc79 := hts (.classLink RL 79 "java/lang/IllegalStateException") (by decide +kernel)
  rw [f_L_does_4] at hf
  obtain ⟨R0, h0, hf⟩ := bd hf
  refine lv_iload_n (pc := 0) hx hb dL_does_0 rfl (lv_at hl 1 rfl) ?_
  refine lv_if_ne (pc := 1) (tgt := 13) hx hb dL_does_1 (by decide) (fun y1 => ?_) (fun y1 => absurd y1 (by decide))
  refine lv_iload_n (pc := 13) hx hb dL_does_13 rfl (lv_at hl 1 rfl) ?_
  refine lv_iconst (pc := 14) (v := 1) hx hb dL_does_14 (by decide) ?_
  refine lv_icmp_ne (pc := 15) (tgt := 31) hx hb dL_does_15 (by decide) (fun y2 => ?_) (fun y2 => absurd y2 (by decide))
  refine lv_iload_n (pc := 31) hx hb dL_does_31 rfl (lv_at hl 1 rfl) ?_
  refine lv_iconst (pc := 32) (v := 2) hx hb dL_does_32 (by decide) ?_
  refine lv_icmp_ne (pc := 33) (tgt := 45) hx hb dL_does_33 (by decide) (fun y3 => ?_) (fun y3 => absurd y3 (by decide))
  refine lv_iload_n (pc := 45) hx hb dL_does_45 rfl (lv_at hl 1 rfl) ?_
  refine lv_iconst (pc := 46) (v := 3) hx hb dL_does_46 (by decide) ?_
  refine lv_icmp_ne (pc := 47) (tgt := 59) hx hb dL_does_47 (by decide) (fun y4 => ?_) (fun y4 => absurd y4 (by decide))
  refine lv_iload_n (pc := 59) hx hb dL_does_59 rfl (lv_at hl 1 rfl) ?_
  refine lv_iconst (pc := 60) (v := 4) hx hb dL_does_60 (by decide) ?_
  refine lv_icmp_ne (pc := 61) (tgt := 75) hx hb dL_does_61 (by decide) (fun y5 => absurd rfl y5) (fun y5 => ?_)
  refine lv_aload_n (pc := 64) hx hb dL_does_64 rfl (lv_at hl 0 rfl) ?_
  refine lv_iload_n (pc := 65) hx hb dL_does_65 rfl (lv_at hl 2 rfl) ?_
  refine lv_iload_n (pc := 66) hx hb dL_does_66 rfl (lv_at hl 3 rfl) ?_
  refine lv_iload (pc := 67) hx hb dL_does_67 (lv_at hl 4 rfl) ?_
  rcases R0 with k | r
  · have hf := (sumE_l).symm.trans hf
    refine th_Lx (pc := 69) (C := RX6) (As := [.int a, .int b1, .int c1]) (rest := []) ⟨hx, hb, hml, hown, hts⟩ (c_X6_disturb Z l hst b h a b1 c1 (.inl k) h0) (cwV 3 hts gL_does_X6_disturb rfl rfl rfl hv_X6_disturb ⟨Nat.le_of_ble_eq_true rfl, Nat.le_of_ble_eq_true rfl⟩) hK hE hP hD hS hA hZ [0, 1, 2, 3, 4, 5, 6, 7, 8, 9, 10, 11, 12, 13, 14, 15, 16, 17, 18, 19, 20, 21, 22, 23, 24, 25, 26, 27, 28, 29, 30, 31, 32, 33, 34, 35, 36, 37, 38, 39] [] [0, 1, 2, 3, 4, 5, 6, 7, 8, 9, 10, 11, 12, 13, 14, 15, 16, 17, 18, 19, 20, 21, 22, 23, 24, 25, 26, 27, 28, 29, 30, 31, 32, 33, 34, 35, 36, 37, 38, 39] rfl rfl rfl rfl 6 rfl rfl rfl hl.1 rfl (lv_room (Nat.le_of_ble_eq_true rfl)) dL_does_69 ⟨Nat.le_of_ble_eq_true rfl, Nat.le_of_ble_eq_true rfl⟩ (fun q9 ce H locs hP hD hS hq hv hcl => ?_)
    by_cases z1 : k = 3
    · have hf := (if_pos z1).symm.trans hf
      subst z1
      refine vx_catch (name := exN 3) hown [] ⟨0, 287, 288, 74⟩ [⟨0, 287, 293, 77⟩, ⟨0, 287, 298, 79⟩] (htab.trans rfl) (fun _ h => nomatch h) (by decide) (by decide) wc74 (va_Nw.use rfl (hE.2.2.2.1 3)) hq hv hcl ?_
      refine lv_astore (pc := 288) (lv' := [(6, .ref q9), (0, .ref (b 0 0)), (1, .int 4), (2, .int a), (3, .int b1), (4, .int c1), (5, .int d1)]) hx hb dL_does_288 hl (by decide) rfl (fun ls hl => ?_)
      refine lv_ldc (pc := 290) (v := (-2100000000)) hx hb hown w76 dL_does_290 ?_
      have hf := (Option.some.inj hf)
      subst hf
      exact vx_ret (rw_i (fun _ => 0) hx hb hr hlk rfl hP hD hS dL_does_292)
    · have hf := (if_neg z1).symm.trans hf
      by_cases z2 : k = 1
      · have hf := (if_pos z2).symm.trans hf
        subst z2
        refine vx_catch (name := exN 1) hown [⟨0, 287, 288, 74⟩] ⟨0, 287, 293, 77⟩ [⟨0, 287, 298, 79⟩] (htab.trans rfl) (fun z hz => by rcases List.mem_cons.mp hz with rfl | hz; { exact Or.inr ⟨by decide, exN 3, wc74, hE.2.2.2.2.1 1 3 (by decide)⟩ };  exact nomatch hz) (by decide) (by decide) wc77 (va_Nw.use rfl (hE.2.2.2.1 1)) hq hv hcl ?_
        refine lv_astore (pc := 293) (lv' := [(6, .ref q9), (0, .ref (b 0 0)), (1, .int 4), (2, .int a), (3, .int b1), (4, .int c1), (5, .int d1)]) hx hb dL_does_293 hl (by decide) rfl (fun ls hl => ?_)
        refine lv_ldc (pc := 295) (v := (-2100000000)) hx hb hown w76 dL_does_295 ?_
        have hf := (Option.some.inj hf)
        subst hf
        exact vx_ret (rw_i (fun _ => 0) hx hb hr hlk rfl hP hD hS dL_does_297)
      · have hf := (if_neg z2).symm.trans hf
        by_cases z3 : k = 2
        · have hf := (if_pos z3).symm.trans hf
          subst z3
          refine vx_catch (name := exN 2) hown [⟨0, 287, 288, 74⟩, ⟨0, 287, 293, 77⟩] ⟨0, 287, 298, 79⟩ [] (htab.trans rfl) (fun z hz => by rcases List.mem_cons.mp hz with rfl | hz; { exact Or.inr ⟨by decide, exN 3, wc74, hE.2.2.2.2.1 2 3 (by decide)⟩ }; rcases List.mem_cons.mp hz with rfl | hz; { exact Or.inr ⟨by decide, exN 1, wc77, hE.2.2.2.2.1 2 1 (by decide)⟩ };  exact nomatch hz) (by decide) (by decide) wc79 (va_Nw.use rfl (hE.2.2.2.1 2)) hq hv hcl ?_
          refine lv_astore (pc := 298) (lv' := [(6, .ref q9), (0, .ref (b 0 0)), (1, .int 4), (2, .int a), (3, .int b1), (4, .int c1), (5, .int d1)]) hx hb dL_does_298 hl (by decide) rfl (fun ls hl => ?_)
          refine lv_ldc (pc := 300) (v := (-2100000000)) hx hb hown w76 dL_does_300 ?_
          have hf := (Option.some.inj hf)
          subst hf
          exact vx_ret (rw_i (fun _ => 0) hx hb hr hlk rfl hP hD hS dL_does_302)
        · have hf := (if_neg z3).symm.trans hf
          exact nomatch hf
  · have hf := (sumE_r).symm.trans hf
    refine th_Ln (pc := 69) (C := RX6) (As := [.int a, .int b1, .int c1]) (rest := []) (st1 := [.int r.1]) (wn := fun _ => wH Z b r.2) ⟨hx, hb, hml, hown, hts⟩ (c_X6_disturb Z l hst b h a b1 c1 (.inr r) h0) (cwV 3 hts gL_does_X6_disturb rfl rfl rfl hv_X6_disturb ⟨Nat.le_of_ble_eq_true rfl, Nat.le_of_ble_eq_true rfl⟩) hK hE hP hD hS hA hZ [0, 1, 2, 3, 4, 5, 6, 7, 8, 9, 10, 11, 12, 13, 14, 15, 16, 17, 18, 19, 20, 21, 22, 23, 24, 25, 26, 27, 28, 29, 30, 31, 32, 33, 34, 35, 36, 37, 38, 39] [] [0, 1, 2, 3, 4, 5, 6, 7, 8, 9, 10, 11, 12, 13, 14, 15, 16, 17, 18, 19, 20, 21, 22, 23, 24, 25, 26, 27, 28, 29, 30, 31, 32, 33, 34, 35, 36, 37, 38, 39] rfl rfl rfl (fun _ => rfl) 6 rfl rfl rfl hl.1 rfl (lv_room (Nat.le_of_ble_eq_true rfl)) dL_does_69 ⟨Nat.le_of_ble_eq_true rfl, Nat.le_of_ble_eq_true rfl⟩ rfl (fun _ H locs hP hD hS => ?_)
    refine lv_goto (pc := 72) (tgt := 287) hx hb dL_does_72 (by decide) ?_
    have hf := (Option.some.inj hf)
    subst hf
    exact vx_ret (rw_i (fun _ => 0) hx hb hr hlk rfl hP hD hS dL_does_287)
set_option maxHeartbeats 4000000 in
set_option maxRecDepth 100000 in
theorem c_L_does_5 (Z : EnvT) (l : Launch) (hst : l.stackTraces = false) (b : Nat → Nat → Nat) (h : Nat → ObS) (a b1 c1 d1 : Int32) (R : Int32 × (Nat → ObS)) (hf : f_L_does_5 h a b1 c1 d1 = some R) : WR Z l yL_does wsL_does { frames := 9, cells := 4, slots := 24, locals := 186 } [.ref (b 0 0), .int 5, .int a, .int b1, .int c1, .int d1] (wH Z b h) (some (.int R.1)) (fun _ => wH Z b R.2) 4 24 := by
  refine wr_of (cc := cL_does) (maxL := 7) (ret := (some .int)) (hh := [(0, 287, 288, 74), (0, 287, 293, 77), (0, 287, 298, 79)]) (by decide) rfl (Nat.le_of_ble_eq_true rfl) ?_
  intro p e s m below meth c A ls hx hb hr hml hts hown hlk htab hP hK hE hD hA hS hZ hl
  have hown : s.vm.findClass RL = some m.cls := hown
  have hl : lv_has ls 7 [(0, .ref (b 0 0)), (1, .int 5), (2, .int a), (3, .int b1), (4, .int c1), (5, .int d1)] := hl
  have w76 := hts (.constant RL 76 (-2100000000)) (by decide +kernel)
  have wc74 := hts (.classLink RL 74 "java/lang/IndexOutOfBoundsException") (by decide +kernel)
  have wc77 := hts (.classLink RL 77 "java/lang/IllegalArgumentException") (by decide +kernel)
  have wc79 := hts (.classLink RL 79 "java/lang/IllegalStateException") (by decide +kernel)
  rw [f_L_does_5] at hf
  obtain ⟨R0, h0, hf⟩ := bd hf
  refine lv_iload_n (pc := 0) hx hb dL_does_0 rfl (lv_at hl 1 rfl) ?_
  refine lv_if_ne (pc := 1) (tgt := 13) hx hb dL_does_1 (by decide) (fun y1 => ?_) (fun y1 => absurd y1 (by decide))
  refine lv_iload_n (pc := 13) hx hb dL_does_13 rfl (lv_at hl 1 rfl) ?_
  refine lv_iconst (pc := 14) (v := 1) hx hb dL_does_14 (by decide) ?_
  refine lv_icmp_ne (pc := 15) (tgt := 31) hx hb dL_does_15 (by decide) (fun y2 => ?_) (fun y2 => absurd y2 (by decide))
  refine lv_iload_n (pc := 31) hx hb dL_does_31 rfl (lv_at hl 1 rfl) ?_
  refine lv_iconst (pc := 32) (v := 2) hx hb dL_does_32 (by decide) ?_
  refine lv_icmp_ne (pc := 33) (tgt := 45) hx hb dL_does_33 (by decide) (fun y3 => ?_) (fun y3 => absurd y3 (by decide))
  refine lv_iload_n (pc := 45) hx hb dL_does_45 rfl (lv_at hl 1 rfl) ?_
  refine lv_iconst (pc := 46) (v := 3) hx hb dL_does_46 (by decide) ?_
  refine lv_icmp_ne (pc := 47) (tgt := 59) hx hb dL_does_47 (by decide) (fun y4 => ?_) (fun y4 => absurd y4 (by decide))
  refine lv_iload_n (pc := 59) hx hb dL_does_59 rfl (lv_at hl 1 rfl) ?_
  refine lv_iconst (pc := 60) (v := 4) hx hb dL_does_60 (by decide) ?_
  refine lv_icmp_ne (pc := 61) (tgt := 75) hx hb dL_does_61 (by decide) (fun y5 => ?_) (fun y5 => absurd y5 (by decide))
  refine lv_iload_n (pc := 75) hx hb dL_does_75 rfl (lv_at hl 1 rfl) ?_
  refine lv_iconst (pc := 76) (v := 5) hx hb dL_does_76 (by decide) ?_
  refine lv_icmp_ne (pc := 77) (tgt := 102) hx hb dL_does_77 (by decide) (fun y6 => absurd rfl y6) (fun y6 => ?_)
  refine lv_aload_n (pc := 80) hx hb dL_does_80 rfl (lv_at hl 0 rfl) ?_
  refine lv_iload_n (pc := 81) hx hb dL_does_81 rfl (lv_at hl 2 rfl) ?_
  refine lv_sipush (pc := 82) (v := 10000) hx hb dL_does_82 (by decide) ?_
  refine lv_irem (pc := 85) hx hb dL_does_85 (by decide) ?_
  refine lv_iload_n (pc := 86) hx hb dL_does_86 rfl (lv_at hl 2 rfl) ?_
  refine lv_sipush (pc := 87) (v := 10000) hx hb dL_does_87 (by decide) ?_
  refine lv_idiv (pc := 90) hx hb dL_does_90 (by decide) ?_
  refine lv_iload_n (pc := 91) hx hb dL_does_91 rfl (lv_at hl 3 rfl) ?_
  refine lv_iload (pc := 92) hx hb dL_does_92 (lv_at hl 4 rfl) ?_
  refine lv_iload (pc := 94) hx hb dL_does_94 (lv_at hl 5 rfl) ?_
  rcases R0 with k | r
  · have hf := (sumE_l).symm.trans hf
    refine th_Lx (pc := 96) (C := RX6) (As := [.int (a - a / 10000 * 10000), .int (a / 10000), .int b1, .int c1, .int d1]) (rest := []) ⟨hx, hb, hml, hown, hts⟩ (c_X6_control Z l hst b h (a - a / 10000 * 10000) (a / 10000) b1 c1 d1 (.inl k) h0) (cwV 5 hts gL_does_X6_control rfl rfl rfl hv_X6_control ⟨Nat.le_of_ble_eq_true rfl, Nat.le_of_ble_eq_true rfl⟩) hK hE hP hD hS hA hZ [0, 1, 2, 3, 4, 5, 6, 7, 8, 9, 10, 11, 12, 13, 14, 15, 16, 17, 18, 19, 20, 21, 22, 23, 24, 25, 26, 27, 28, 29, 30, 31, 32, 33, 34, 35, 36, 37, 38, 39] [] [0, 1, 2, 3, 4, 5, 6, 7, 8, 9, 10, 11, 12, 13, 14, 15, 16, 17, 18, 19, 20, 21, 22, 23, 24, 25, 26, 27, 28, 29, 30, 31, 32, 33, 34, 35, 36, 37, 38, 39] rfl rfl rfl rfl 6 rfl rfl rfl hl.1 rfl (lv_room (Nat.le_of_ble_eq_true rfl)) dL_does_96 ⟨Nat.le_of_ble_eq_true rfl, Nat.le_of_ble_eq_true rfl⟩ (fun q9 ce H locs hP hD hS hq hv hcl => ?_)
    by_cases z1 : k = 3
    · have hf := (if_pos z1).symm.trans hf
      subst z1
      refine vx_catch (name := exN 3) hown [] ⟨0, 287, 288, 74⟩ [⟨0, 287, 293, 77⟩, ⟨0, 287, 298, 79⟩] (htab.trans rfl) (fun _ h => nomatch h) (by decide) (by decide) wc74 (va_Nw.use rfl (hE.2.2.2.1 3)) hq hv hcl ?_
      refine lv_astore (pc := 288) (lv' := [(6, .ref q9), (0, .ref (b 0 0)), (1, .int 5), (2, .int a), (3, .int b1), (4, .int c1), (5, .int d1)]) hx hb dL_does_288 hl (by decide) rfl (fun ls hl => ?_)
      refine lv_ldc (pc := 290) (v := (-2100000000)) hx hb hown w76 dL_does_290 ?_
      have hf := (Option.some.inj hf)
      subst hf
      exact vx_ret (rw_i (fun _ => 0) hx hb hr hlk rfl hP hD hS dL_does_292)
    · have hf := (if_neg z1).symm.trans hf
      by_cases z2 : k = 1
      · have hf := (if_pos z2).symm.trans hf
        subst z2
        refine vx_catch (name := exN 1) hown [⟨0, 287, 288, 74⟩] ⟨0, 287, 293, 77⟩ [⟨0, 287, 298, 79⟩] (htab.trans rfl) (fun z hz => by rcases List.mem_cons.mp hz with rfl | hz; { exact Or.inr ⟨by decide, exN 3, wc74, hE.2.2.2.2.1 1 3 (by decide)⟩ };  exact nomatch hz) (by decide) (by decide) wc77 (va_Nw.use rfl (hE.2.2.2.1 1)) hq hv hcl ?_
        refine lv_astore (pc := 293) (lv' := [(6, .ref q9), (0, .ref (b 0 0)), (1, .int 5), (2, .int a), (3, .int b1), (4, .int c1), (5, .int d1)]) hx hb dL_does_293 hl (by decide) rfl (fun ls hl => ?_)
        refine lv_ldc (pc := 295) (v := (-2100000000)) hx hb hown w76 dL_does_295 ?_
        have hf := (Option.some.inj hf)
        subst hf
        exact vx_ret (rw_i (fun _ => 0) hx hb hr hlk rfl hP hD hS dL_does_297)
      · have hf := (if_neg z2).symm.trans hf
        by_cases z3 : k = 2
        · have hf := (if_pos z3).symm.trans hf
          subst z3
          refine vx_catch (name := exN 2) hown [⟨0, 287, 288, 74⟩, ⟨0, 287, 293, 77⟩] ⟨0, 287, 298, 79⟩ [] (htab.trans rfl) (fun z hz => by rcases List.mem_cons.mp hz with rfl | hz; { exact Or.inr ⟨by decide, exN 3, wc74, hE.2.2.2.2.1 2 3 (by decide)⟩ }; rcases List.mem_cons.mp hz with rfl | hz; { exact Or.inr ⟨by decide, exN 1, wc77, hE.2.2.2.2.1 2 1 (by decide)⟩ };  exact nomatch hz) (by decide) (by decide) wc79 (va_Nw.use rfl (hE.2.2.2.1 2)) hq hv hcl ?_
          refine lv_astore (pc := 298) (lv' := [(6, .ref q9), (0, .ref (b 0 0)), (1, .int 5), (2, .int a), (3, .int b1), (4, .int c1), (5, .int d1)]) hx hb dL_does_298 hl (by decide) rfl (fun ls hl => ?_)
          refine lv_ldc (pc := 300) (v := (-2100000000)) hx hb hown w76 dL_does_300 ?_
          have hf := (Option.some.inj hf)
          subst hf
          exact vx_ret (rw_i (fun _ => 0) hx hb hr hlk rfl hP hD hS dL_does_302)
        · have hf := (if_neg z3).symm.trans hf
          exact nomatch hf
  · have hf := (sumE_r).symm.trans hf
    refine th_Ln (pc := 96) (C := RX6) (As := [.int (a - a / 10000 * 10000), .int (a / 10000), .int b1, .int c1, .int d1]) (rest := []) (st1 := [.int r.1]) (wn := fun _ => wH Z b r.2) ⟨hx, hb, hml, hown, hts⟩ (c_X6_control Z l hst b h (a - a / 10000 * 10000) (a / 10000) b1 c1 d1 (.inr r) h0) (cwV 5 hts gL_does_X6_control rfl rfl rfl hv_X6_control ⟨Nat.le_of_ble_eq_true rfl, Nat.le_of_ble_eq_true rfl⟩) hK hE hP hD hS hA hZ [0, 1, 2, 3, 4, 5, 6, 7, 8, 9, 10, 11, 12, 13, 14, 15, 16, 17, 18, 19, 20, 21, 22, 23, 24, 25, 26, 27, 28, 29, 30, 31, 32, 33, 34, 35, 36, 37, 38, 39] [] [0, 1, 2, 3, 4, 5, 6, 7, 8, 9, 10, 11, 12, 13, 14, 15, 16, 17, 18, 19, 20, 21, 22, 23, 24, 25, 26, 27, 28, 29, 30, 31, 32, 33, 34, 35, 36, 37, 38, 39] rfl rfl rfl (fun _ => rfl) 6 rfl rfl rfl hl.1 rfl (lv_room (Nat.le_of_ble_eq_true rfl)) dL_does_96 ⟨Nat.le_of_ble_eq_true rfl, Nat.le_of_ble_eq_true rfl⟩ rfl (fun _ H locs hP hD hS => ?_)
    refine lv_goto (pc := 99) (tgt := 287) hx hb dL_does_99 (by decide) ?_
    have hf := (Option.some.inj hf)
    subst hf
    exact vx_ret (rw_i (fun _ => 0) hx hb hr hlk rfl hP hD hS dL_does_287)
