set_option maxHeartbeats 4000000 in
set_option maxRecDepth 100000 in
theorem c_L_does_6 (Z : EnvT) (l : Launch) (hst : l.stackTraces = false) (b : Nat → Nat → Nat) (h : Nat → ObS) (a b1 c1 d1 : Int32) (R : Int32 × (Nat → ObS)) (hf : f_L_does_6 h a b1 c1 d1 = some R) : WR Z l yL_does wsL_does { frames := 9, cells := 4, slots := 24, locals := 186 } [.ref (b 0 0), .int 6, .int a, .int b1, .int c1, .int d1] (wH Z b h) (some (.int R.1)) (fun _ => wH Z b R.2) 4 24 := by
  refine wr_of (cc := cL_does) (maxL := 7) (ret := (some .int)) (hh := [(0, 287, 288, 74), (0, 287, 293, 77), (0, 287, 298, 79)]) (by decide) rfl (Nat.le_of_ble_eq_true rfl) ?_
  intro p e s m below meth c A ls hx hb hr hml hts hown hlk htab hP hK hE hD hA hS hZ hl
  have hown : s.vm.findClass RL = some m.cls := hown
  have hl : lv_has ls 7 [(0, .ref (b 0 0)), (1, .int 6), (2, .int a), (3, .int b1), (4, .int c1), (5, .int d1)] := hl
  have w76 := hts (.constant RL 76 (-2100000000)) (by decide +kernel)
  have wc74 := hts (.classLink RL 74 "java/lang/IndexOutOfBoundsException") (by decide +kernel)
  have wc77 := hts (.classLink RL 77 "java/lang/IllegalArgumentException") (by decide +kernel)
  have wc79 := hts (.classLink RL 79 "java/lang/IllegalStateException") (by decide +kernel)
  rw [f_L_does_6] at hf
  obtain ⟨R0, h0, hf⟩ := bd hf
  refine lv_iload_n (pc := 0) hx hb dL_does_0 rfl (lv_at hl 1 rfl) ?_
  refine lv_if_ne (pc := 1) (tgt := 13) hx hb dL_does_1 (by decide) (fun y1 => ?_) (fun y1 => absurd y1 (by decide))
  refine lv_iload_n (pc := 13) hx hb dL_does_13 rfl (lv_at hl 1 rfl) ?_
  refine lv_iconst (pc := 14) (v := 1) hx hb dL_does_14 (by decide) ?_
  refine lv_icmp_ne (pc := 15) (tgt := 31) hx hb dL_does_15 (by decide) (fun y2 => ?_) (fun y2 => absurd y2 (by decide))
  refine lv_iload_n (pc := 31) hx hb dL_does_31 rfl (lv_at hl 1 rfl) ?_
  refine lv_iconst (pc := 32) (v := 2) hx hb dL_does_32 (by decide) ?_
  refine lv_icmp_ne (pc := 33) (tgt := 45) hx hb dL_does_33 (by decide) (fun y3 => ?_) (fun y3 => absurd y3 (by decide))
  refine lv_iload_n (pc := 45) hx hb dL_does_45 rfl (lv_at hl 1 rfl) ?_
  refine lv_iconst (pc := 46) (v := 3) hx hb dL_does_46 (by decide) ?_
  refine lv_icmp_ne (pc := 47) (tgt := 59) hx hb dL_does_47 (by decide) (fun y4 => ?_) (fun y4 => absurd y4 (by decide))
  refine lv_iload_n (pc := 59) hx hb dL_does_59 rfl (lv_at hl 1 rfl) ?_
  refine lv_iconst (pc := 60) (v := 4) hx hb dL_does_60 (by decide) ?_
  refine lv_icmp_ne (pc := 61) (tgt := 75) hx hb dL_does_61 (by decide) (fun y5 => ?_) (fun y5 => absurd y5 (by decide))
  refine lv_iload_n (pc := 75) hx hb dL_does_75 rfl (lv_at hl 1 rfl) ?_
  refine lv_iconst (pc := 76) (v := 5) hx hb dL_does_76 (by decide) ?_
  refine lv_icmp_ne (pc := 77) (tgt := 102) hx hb dL_does_77 (by decide) (fun y6 => ?_) (fun y6 => absurd y6 (by decide))
  refine lv_iload_n (pc := 102) hx hb dL_does_102 rfl (lv_at hl 1 rfl) ?_
  refine lv_bipush (pc := 103) (v := 6) hx hb dL_does_103 (by decide) ?_
  refine lv_icmp_ne (pc := 105) (tgt := 119) hx hb dL_does_105 (by decide) (fun y7 => absurd rfl y7) (fun y7 => ?_)
  refine lv_aload_n (pc := 108) hx hb dL_does_108 rfl (lv_at hl 0 rfl) ?_
  refine lv_iload_n (pc := 109) hx hb dL_does_109 rfl (lv_at hl 2 rfl) ?_
  refine lv_iload_n (pc := 110) hx hb dL_does_110 rfl (lv_at hl 3 rfl) ?_
  refine lv_iload (pc := 111) hx hb dL_does_111 (lv_at hl 4 rfl) ?_
  rcases R0 with k | r
  · have hf := (sumE_l).symm.trans hf
    refine th_Lx (pc := 113) (C := RX6) (As := [.int a, .int b1, .int c1]) (rest := []) ⟨hx, hb, hml, hown, hts⟩ (c_X6_ratio Z l hst b h a b1 c1 (.inl k) h0) (cwV 3 hts gL_does_X6_ratio rfl rfl rfl hv_X6_ratio ⟨Nat.le_of_ble_eq_true rfl, Nat.le_of_ble_eq_true rfl⟩) hK hE hP hD hS hA hZ [0, 1, 2, 3, 4, 5, 6, 7, 8, 9, 10, 11, 12, 13, 14, 15, 16, 17, 18, 19, 20, 21, 22, 23, 24, 25, 26, 27, 28, 29, 30, 31, 32, 33, 34, 35, 36, 37, 38, 39] [] [0, 1, 2, 3, 4, 5, 6, 7, 8, 9, 10, 11, 12, 13, 14, 15, 16, 17, 18, 19, 20, 21, 22, 23, 24, 25, 26, 27, 28, 29, 30, 31, 32, 33, 34, 35, 36, 37, 38, 39] rfl rfl rfl rfl 6 rfl rfl rfl hl.1 rfl (lv_room (Nat.le_of_ble_eq_true rfl)) dL_does_113 ⟨Nat.le_of_ble_eq_true rfl, Nat.le_of_ble_eq_true rfl⟩ (fun q9 ce H locs hP hD hS hq hv hcl => ?_)
    by_cases z1 : k = 3
    · have hf := (if_pos z1).symm.trans hf
      subst z1
      refine vx_catch (name := exN 3) hown [] ⟨0, 287, 288, 74⟩ [⟨0, 287, 293, 77⟩, ⟨0, 287, 298, 79⟩] (htab.trans rfl) (fun _ h => nomatch h) (by decide) (by decide) wc74 (va_Nw.use rfl (hE.2.2.2.1 3)) hq hv hcl ?_
      refine lv_astore (pc := 288) (lv' := [(6, .ref q9), (0, .ref (b 0 0)), (1, .int 6), (2, .int a), (3, .int b1), (4, .int c1), (5, .int d1)]) hx hb dL_does_288 hl (by decide) rfl (fun ls hl => ?_)
      refine lv_ldc (pc := 290) (v := (-2100000000)) hx hb hown w76 dL_does_290 ?_
      have hf := (Option.some.inj hf)
      subst hf
      exact vx_ret (rw_i (fun _ => 0) hx hb hr hlk rfl hP hD hS dL_does_292)
    · have hf := (if_neg z1).symm.trans hf
      by_cases z2 : k = 1
      · have hf := (if_pos z2).symm.trans hf
        subst z2
        refine vx_catch (name := exN 1) hown [⟨0, 287, 288, 74⟩] ⟨0, 287, 293, 77⟩ [⟨0, 287, 298, 79⟩] (htab.trans rfl) (fun z hz => by rcases List.mem_cons.mp hz with rfl | hz; { exact Or.inr ⟨by decide, exN 3, wc74, hE.2.2.2.2.1 1 3 (by decide)⟩ };  exact nomatch hz) (by decide) (by decide) wc77 (va_Nw.use rfl (hE.2.2.2.1 1)) hq hv hcl ?_
        refine lv_astore (pc := 293) (lv' := [(6, .ref q9), (0, .ref (b 0 0)), (1, .int 6), (2, .int a), (3, .int b1), (4, .int c1), (5, .int d1)]) hx hb dL_does_293 hl (by decide) rfl (fun ls hl => ?_)
        refine lv_ldc (pc := 295) (v := (-2100000000)) hx hb hown w76 dL_does_295 ?_
        have hf := (Option.some.inj hf)
        subst hf
        exact vx_ret (rw_i (fun _ => 0) hx hb hr hlk rfl hP hD hS dL_does_297)
      · have hf := (if_neg z2).symm.trans hf
        by_cases z3 : k = 2
        · have hf := (if_pos z3).symm.trans hf
          subst z3
          refine vx_catch (name := exN 2) hown [⟨0, 287, 288, 74⟩, ⟨0, 287, 293, 77⟩] ⟨0, 287, 298, 79⟩ [] (htab.trans rfl) (fun z hz => by rcases List.mem_cons.mp hz with rfl | hz; { exact Or.inr ⟨by decide, exN 3, wc74, hE.2.2.2.2.1 2 3 (by decide)⟩ }; rcases List.mem_cons.mp hz with rfl | hz; { exact Or.inr ⟨by decide, exN 1, wc77, hE.2.2.2.2.1 2 1 (by decide)⟩ };  exact nomatch hz) (by decide) (by decide) wc79 (va_Nw.use rfl (hE.2.2.2.1 2)) hq hv hcl ?_
          refine lv_astore (pc := 298) (lv' := [(6, .ref q9), (0, .ref (b 0 0)), (1, .int 6), (2, .int a), (3, .int b1), (4, .int c1), (5, .int d1)]) hx hb dL_does_298 hl (by decide) rfl (fun ls hl => ?_)
          refine lv_ldc (pc := 300) (v := (-2100000000)) hx hb hown w76 dL_does_300 ?_
          have hf := (Option.some.inj hf)
          subst hf
          exact vx_ret (rw_i (fun _ => 0) hx hb hr hlk rfl hP hD hS dL_does_302)
        · have hf := (if_neg z3).symm.trans hf
          exact nomatch hf
  · have hf := (sumE_r).symm.trans hf
    refine th_Ln (pc := 113) (C := RX6) (As := [.int a, .int b1, .int c1]) (rest := []) (st1 := [.int r.1]) (wn := fun _ => wH Z b r.2) ⟨hx, hb, hml, hown, hts⟩ (c_X6_ratio Z l hst b h a b1 c1 (.inr r) h0) (cwV 3 hts gL_does_X6_ratio rfl rfl rfl hv_X6_ratio ⟨Nat.le_of_ble_eq_true rfl, Nat.le_of_ble_eq_true rfl⟩) hK hE hP hD hS hA hZ [0, 1, 2, 3, 4, 5, 6, 7, 8, 9, 10, 11, 12, 13, 14, 15, 16, 17, 18, 19, 20, 21, 22, 23, 24, 25, 26, 27, 28, 29, 30, 31, 32, 33, 34, 35, 36, 37, 38, 39] [] [0, 1, 2, 3, 4, 5, 6, 7, 8, 9, 10, 11, 12, 13, 14, 15, 16, 17, 18, 19, 20, 21, 22, 23, 24, 25, 26, 27, 28, 29, 30, 31, 32, 33, 34, 35, 36, 37, 38, 39] rfl rfl rfl (fun _ => rfl) 6 rfl rfl rfl hl.1 rfl (lv_room (Nat.le_of_ble_eq_true rfl)) dL_does_113 ⟨Nat.le_of_ble_eq_true rfl, Nat.le_of_ble_eq_true rfl⟩ rfl (fun _ H locs hP hD hS => ?_)
    refine lv_goto (pc := 116) (tgt := 287) hx hb dL_does_116 (by decide) ?_
    have hf := (Option.some.inj hf)
    subst hf
    exact vx_ret (rw_i (fun _ => 0) hx hb hr hlk rfl hP hD hS dL_does_287)
set_option maxHeartbeats 4000000 in
set_option maxRecDepth 100000 in
theorem c_L_does_7 (Z : EnvT) (l : Launch) (hst : l.stackTraces = false) (b : Nat → Nat → Nat) (h : Nat → ObS) (a b1 c1 d1 : Int32) (R : Int32 × (Nat → ObS)) (hf : f_L_does_7 h a b1 c1 d1 = some R) : WR Z l yL_does wsL_does { frames := 9, cells := 3, slots := 18, locals := 186 } [.ref (b 0 0), .int 7, .int a, .int b1, .int c1, .int d1] (wH Z b h) (some (.int R.1)) (fun _ => wH Z b R.2) 3 18 := by
  refine wr_of (cc := cL_does) (maxL := 7) (ret := (some .int)) (hh := [(0, 287, 288, 74), (0, 287, 293, 77), (0, 287, 298, 79)]) (by decide) rfl (Nat.le_of_ble_eq_true rfl) ?_
  intro p e s m below meth c A ls hx hb hr hml hts hown hlk htab hP hK hE hD hA hS hZ hl
  have hown : s.vm.findClass RL = some m.cls := hown
  have hl : lv_has ls 7 [(0, .ref (b 0 0)), (1, .int 7), (2, .int a), (3, .int b1), (4, .int c1), (5, .int d1)] := hl
  have w76 := hts (.constant RL 76 (-2100000000)) (by decide +kernel)
  have wc74 := hts (.classLink RL 74 "java/lang/IndexOutOfBoundsException") (by decide +kernel)
  have wc77 := hts (.classLink RL 77 "java/lang/IllegalArgumentException") (by decide +kernel)
  have wc79 := hts (.classLink RL 79 "java/lang/IllegalStateException") (by decide +kernel)
  rw [f_L_does_7] at hf
  obtain ⟨R0, h0, hf⟩ := bd hf
  refine lv_iload_n (pc := 0) hx hb dL_does_0 rfl (lv_at hl 1 rfl) ?_
  refine lv_if_ne (pc := 1) (tgt := 13) hx hb dL_does_1 (by decide) (fun y1 => ?_) (fun y1 => absurd y1 (by decide))
  refine lv_iload_n (pc := 13) hx hb dL_does_13 rfl (lv_at hl 1 rfl) ?_
  refine lv_iconst (pc := 14) (v := 1) hx hb dL_does_14 (by decide) ?_
  refine lv_icmp_ne (pc := 15) (tgt := 31) hx hb dL_does_15 (by decide) (fun y2 => ?_) (fun y2 => absurd y2 (by decide))
  refine lv_iload_n (pc := 31) hx hb dL_does_31 rfl (lv_at hl 1 rfl) ?_
  refine lv_iconst (pc := 32) (v := 2) hx hb dL_does_32 (by decide) ?_
  refine lv_icmp_ne (pc := 33) (tgt := 45) hx hb dL_does_33 (by decide) (fun y3 => ?_) (fun y3 => absurd y3 (by decide))
  refine lv_iload_n (pc := 45) hx hb dL_does_45 rfl (lv_at hl 1 rfl) ?_
  refine lv_iconst (pc := 46) (v := 3) hx hb dL_does_46 (by decide) ?_
  refine lv_icmp_ne (pc := 47) (tgt := 59) hx hb dL_does_47 (by decide) (fun y4 => ?_) (fun y4 => absurd y4 (by decide))
  refine lv_iload_n (pc := 59) hx hb dL_does_59 rfl (lv_at hl 1 rfl) ?_
  refine lv_iconst (pc := 60) (v := 4) hx hb dL_does_60 (by decide) ?_
  refine lv_icmp_ne (pc := 61) (tgt := 75) hx hb dL_does_61 (by decide) (fun y5 => ?_) (fun y5 => absurd y5 (by decide))
  refine lv_iload_n (pc := 75) hx hb dL_does_75 rfl (lv_at hl 1 rfl) ?_
  refine lv_iconst (pc := 76) (v := 5) hx hb dL_does_76 (by decide) ?_
  refine lv_icmp_ne (pc := 77) (tgt := 102) hx hb dL_does_77 (by decide) (fun y6 => ?_) (fun y6 => absurd y6 (by decide))
  refine lv_iload_n (pc := 102) hx hb dL_does_102 rfl (lv_at hl 1 rfl) ?_
  refine lv_bipush (pc := 103) (v := 6) hx hb dL_does_103 (by decide) ?_
  refine lv_icmp_ne (pc := 105) (tgt := 119) hx hb dL_does_105 (by decide) (fun y7 => ?_) (fun y7 => absurd y7 (by decide))
  refine lv_iload_n (pc := 119) hx hb dL_does_119 rfl (lv_at hl 1 rfl) ?_
  refine lv_bipush (pc := 120) (v := 7) hx hb dL_does_120 (by decide) ?_
  refine lv_icmp_ne (pc := 122) (tgt := 136) hx hb dL_does_122 (by decide) (fun y8 => absurd rfl y8) (fun y8 => ?_)
  refine lv_aload_n (pc := 125) hx hb dL_does_125 rfl (lv_at hl 0 rfl) ?_
  refine lv_iload_n (pc := 126) hx hb dL_does_126 rfl (lv_at hl 2 rfl) ?_
  refine lv_iload_n (pc := 127) hx hb dL_does_127 rfl (lv_at hl 3 rfl) ?_
  refine lv_iload (pc := 128) hx hb dL_does_128 (lv_at hl 4 rfl) ?_
  rcases R0 with k | r
  · have hf := (sumE_l).symm.trans hf
    refine th_Sx (pc := 130) (As := [.ref (b 0 0), .int a, .int b1, .int c1]) (rest := []) ⟨hx, hb, hml, hown, hts⟩ (c_L_fed Z l hst b h a b1 c1 (.inl k) h0) (va_cwS 4 hts gL_does_L_fed rfl rfl rfl hs_L_fed ⟨Nat.le_of_ble_eq_true rfl, Nat.le_of_ble_eq_true rfl⟩) hK hE hP hD hS hA hZ rfl hl.1 rfl (lv_room (Nat.le_of_ble_eq_true rfl)) dL_does_130 ⟨Nat.le_of_ble_eq_true rfl, Nat.le_of_ble_eq_true rfl⟩ (fun q9 ce H locs hP hD hS hq hv hcl => ?_)
    by_cases z1 : k = 3
    · have hf := (if_pos z1).symm.trans hf
      subst z1
      refine vx_catch (name := exN 3) hown [] ⟨0, 287, 288, 74⟩ [⟨0, 287, 293, 77⟩, ⟨0, 287, 298, 79⟩] (htab.trans rfl) (fun _ h => nomatch h) (by decide) (by decide) wc74 (va_Nw.use rfl (hE.2.2.2.1 3)) hq hv hcl ?_
      refine lv_astore (pc := 288) (lv' := [(6, .ref q9), (0, .ref (b 0 0)), (1, .int 7), (2, .int a), (3, .int b1), (4, .int c1), (5, .int d1)]) hx hb dL_does_288 hl (by decide) rfl (fun ls hl => ?_)
      refine lv_ldc (pc := 290) (v := (-2100000000)) hx hb hown w76 dL_does_290 ?_
      have hf := (Option.some.inj hf)
      subst hf
      exact vx_ret (rw_i (fun _ => 0) hx hb hr hlk rfl hP hD hS dL_does_292)
    · have hf := (if_neg z1).symm.trans hf
      by_cases z2 : k = 1
      · have hf := (if_pos z2).symm.trans hf
        subst z2
        refine vx_catch (name := exN 1) hown [⟨0, 287, 288, 74⟩] ⟨0, 287, 293, 77⟩ [⟨0, 287, 298, 79⟩] (htab.trans rfl) (fun z hz => by rcases List.mem_cons.mp hz with rfl | hz; { exact Or.inr ⟨by decide, exN 3, wc74, hE.2.2.2.2.1 1 3 (by decide)⟩ };  exact nomatch hz) (by decide) (by decide) wc77 (va_Nw.use rfl (hE.2.2.2.1 1)) hq hv hcl ?_
        refine lv_astore (pc := 293) (lv' := [(6, .ref q9), (0, .ref (b 0 0)), (1, .int 7), (2, .int a), (3, .int b1), (4, .int c1), (5, .int d1)]) hx hb dL_does_293 hl (by decide) rfl (fun ls hl => ?_)
        refine lv_ldc (pc := 295) (v := (-2100000000)) hx hb hown w76 dL_does_295 ?_
        have hf := (Option.some.inj hf)
        subst hf
        exact vx_ret (rw_i (fun _ => 0) hx hb hr hlk rfl hP hD hS dL_does_297)
      · have hf := (if_neg z2).symm.trans hf
        by_cases z3 : k = 2
        · have hf := (if_pos z3).symm.trans hf
          subst z3
          refine vx_catch (name := exN 2) hown [⟨0, 287, 288, 74⟩, ⟨0, 287, 293, 77⟩] ⟨0, 287, 298, 79⟩ [] (htab.trans rfl) (fun z hz => by rcases List.mem_cons.mp hz with rfl | hz; { exact Or.inr ⟨by decide, exN 3, wc74, hE.2.2.2.2.1 2 3 (by decide)⟩ }; rcases List.mem_cons.mp hz with rfl | hz; { exact Or.inr ⟨by decide, exN 1, wc77, hE.2.2.2.2.1 2 1 (by decide)⟩ };  exact nomatch hz) (by decide) (by decide) wc79 (va_Nw.use rfl (hE.2.2.2.1 2)) hq hv hcl ?_
          refine lv_astore (pc := 298) (lv' := [(6, .ref q9), (0, .ref (b 0 0)), (1, .int 7), (2, .int a), (3, .int b1), (4, .int c1), (5, .int d1)]) hx hb dL_does_298 hl (by decide) rfl (fun ls hl => ?_)
          refine lv_ldc (pc := 300) (v := (-2100000000)) hx hb hown w76 dL_does_300 ?_
          have hf := (Option.some.inj hf)
          subst hf
          exact vx_ret (rw_i (fun _ => 0) hx hb hr hlk rfl hP hD hS dL_does_302)
        · have hf := (if_neg z3).symm.trans hf
          exact nomatch hf
  · have hf := (sumE_r).symm.trans hf
    refine th_Sn (pc := 130) (As := [.ref (b 0 0), .int a, .int b1, .int c1]) (rest := []) (st1 := [.int r.1]) ⟨hx, hb, hml, hown, hts⟩ (c_L_fed Z l hst b h a b1 c1 (.inr r) h0) (va_cwS 4 hts gL_does_L_fed rfl rfl rfl hs_L_fed ⟨Nat.le_of_ble_eq_true rfl, Nat.le_of_ble_eq_true rfl⟩) hK hE hP hD hS hA hZ rfl hl.1 rfl (lv_room (Nat.le_of_ble_eq_true rfl)) dL_does_130 ⟨Nat.le_of_ble_eq_true rfl, Nat.le_of_ble_eq_true rfl⟩ rfl (fun _ H locs hP hD hS => ?_)
    refine lv_goto (pc := 133) (tgt := 287) hx hb dL_does_133 (by decide) ?_
    have hf := (Option.some.inj hf)
    subst hf
    exact vx_ret (rw_i (fun _ => 0) hx hb hr hlk rfl hP hD hS dL_does_287)
set_option maxHeartbeats 4000000 in
set_option maxRecDepth 100000 in
theorem c_L_does_8 (Z : EnvT) (l : Launch) (hst : l.stackTraces = false) (b : Nat → Nat → Nat) (h : Nat → ObS) (a b1 c1 d1 : Int32) (R : Int32 × (Nat → ObS)) (hf : f_L_does_8 h a b1 c1 d1 = some R) : WR Z l yL_does wsL_does { frames := 9, cells := 2, slots := 12, locals := 186 } [.ref (b 0 0), .int 8, .int a, .int b1, .int c1, .int d1] (wH Z b h) (some (.int R.1)) (fun _ => wH Z b R.2) 2 12 := by
  refine wr_of (cc := cL_does) (maxL := 7) (ret := (some .int)) (hh := [(0, 287, 288, 74), (0, 287, 293, 77), (0, 287, 298, 79)]) (by decide) rfl (Nat.le_of_ble_eq_true rfl) ?_
  intro p e s m below meth c A ls hx hb hr hml hts hown hlk htab hP hK hE hD hA hS hZ hl
  have hown : s.vm.findClass RL = some m.cls := hown
  have hl : lv_has ls 7 [(0, .ref (b 0 0)), (1, .int 8), (2, .int a), (3, .int b1), (4, .int c1), (5, .int d1)] := hl
  have w76 := hts (.constant RL 76 (-2100000000)) (by decide +kernel)
  have wc74 := hts (.classLink RL 74 "java/lang/IndexOutOfBoundsException") (by decide +kernel)
  have wc77 := hts (.classLink RL 77 "java/lang/IllegalArgumentException") (by decide +kernel)
  have wc79 := hts (.classLink RL 79 "java/lang/IllegalStateException") (by decide +kernel)
  rw [f_L_does_8] at hf
  obtain ⟨R0, h0, hf⟩ := bd hf
  refine lv_iload_n (pc := 0) hx hb dL_does_0 rfl (lv_at hl 1 rfl) ?_
  refine lv_if_ne (pc := 1) (tgt := 13) hx hb dL_does_1 (by decide) (fun y1 => ?_) (fun y1 => absurd y1 (by decide))
  refine lv_iload_n (pc := 13) hx hb dL_does_13 rfl (lv_at hl 1 rfl) ?_
  refine lv_iconst (pc := 14) (v := 1) hx hb dL_does_14 (by decide) ?_
  refine lv_icmp_ne (pc := 15) (tgt := 31) hx hb dL_does_15 (by decide) (fun y2 => ?_) (fun y2 => absurd y2 (by decide))
  refine lv_iload_n (pc := 31) hx hb dL_does_31 rfl (lv_at hl 1 rfl) ?_
  refine lv_iconst (pc := 32) (v := 2) hx hb dL_does_32 (by decide) ?_
  refine lv_icmp_ne (pc := 33) (tgt := 45) hx hb dL_does_33 (by decide) (fun y3 => ?_) (fun y3 => absurd y3 (by decide))
  refine lv_iload_n (pc := 45) hx hb dL_does_45 rfl (lv_at hl 1 rfl) ?_
  refine lv_iconst (pc := 46) (v := 3) hx hb dL_does_46 (by decide) ?_
  refine lv_icmp_ne (pc := 47) (tgt := 59) hx hb dL_does_47 (by decide) (fun y4 => ?_) (fun y4 => absurd y4 (by decide))
  refine lv_iload_n (pc := 59) hx hb dL_does_59 rfl (lv_at hl 1 rfl) ?_
  refine lv_iconst (pc := 60) (v := 4) hx hb dL_does_60 (by decide) ?_
  refine lv_icmp_ne (pc := 61) (tgt := 75) hx hb dL_does_61 (by decide) (fun y5 => ?_) (fun y5 => absurd y5 (by decide))
  refine lv_iload_n (pc := 75) hx hb dL_does_75 rfl (lv_at hl 1 rfl) ?_
  refine lv_iconst (pc := 76) (v := 5) hx hb dL_does_76 (by decide) ?_
  refine lv_icmp_ne (pc := 77) (tgt := 102) hx hb dL_does_77 (by decide) (fun y6 => ?_) (fun y6 => absurd y6 (by decide))
  refine lv_iload_n (pc := 102) hx hb dL_does_102 rfl (lv_at hl 1 rfl) ?_
  refine lv_bipush (pc := 103) (v := 6) hx hb dL_does_103 (by decide) ?_
  refine lv_icmp_ne (pc := 105) (tgt := 119) hx hb dL_does_105 (by decide) (fun y7 => ?_) (fun y7 => absurd y7 (by decide))
  refine lv_iload_n (pc := 119) hx hb dL_does_119 rfl (lv_at hl 1 rfl) ?_
  refine lv_bipush (pc := 120) (v := 7) hx hb dL_does_120 (by decide) ?_
  refine lv_icmp_ne (pc := 122) (tgt := 136) hx hb dL_does_122 (by decide) (fun y8 => ?_) (fun y8 => absurd y8 (by decide))
  refine lv_iload_n (pc := 136) hx hb dL_does_136 rfl (lv_at hl 1 rfl) ?_
  refine lv_bipush (pc := 137) (v := 8) hx hb dL_does_137 (by decide) ?_
  refine lv_icmp_ne (pc := 139) (tgt := 153) hx hb dL_does_139 (by decide) (fun y9 => absurd rfl y9) (fun y9 => ?_)
  refine lv_aload_n (pc := 142) hx hb dL_does_142 rfl (lv_at hl 0 rfl) ?_
  refine lv_iload_n (pc := 143) hx hb dL_does_143 rfl (lv_at hl 2 rfl) ?_
  refine lv_iload_n (pc := 144) hx hb dL_does_144 rfl (lv_at hl 3 rfl) ?_
  refine lv_iload (pc := 145) hx hb dL_does_145 (lv_at hl 4 rfl) ?_
  rcases R0 with k | r
  · have hf := (sumE_l).symm.trans hf
    refine th_Lx (pc := 147) (C := RX6) (As := [.int a, .int b1, .int c1]) (rest := []) ⟨hx, hb, hml, hown, hts⟩ (c_X6_aim Z l hst b h a b1 c1 (.inl k) h0) (cwV 3 hts gL_does_X6_aim rfl rfl rfl hv_X6_aim ⟨Nat.le_of_ble_eq_true rfl, Nat.le_of_ble_eq_true rfl⟩) hK hE hP hD hS hA hZ [0, 1, 2, 3, 4, 5, 6, 7, 8, 9, 10, 11, 12, 13, 14, 15, 16, 17, 18, 19, 20, 21, 22, 23, 24, 25, 26, 27, 28, 29, 30, 31, 32, 33, 34, 35, 36, 37, 38, 39] [] [0, 1, 2, 3, 4, 5, 6, 7, 8, 9, 10, 11, 12, 13, 14, 15, 16, 17, 18, 19, 20, 21, 22, 23, 24, 25, 26, 27, 28, 29, 30, 31, 32, 33, 34, 35, 36, 37, 38, 39] rfl rfl rfl rfl 6 rfl rfl rfl hl.1 rfl (lv_room (Nat.le_of_ble_eq_true rfl)) dL_does_147 ⟨Nat.le_of_ble_eq_true rfl, Nat.le_of_ble_eq_true rfl⟩ (fun q9 ce H locs hP hD hS hq hv hcl => ?_)
    by_cases z1 : k = 3
    · have hf := (if_pos z1).symm.trans hf
      subst z1
      refine vx_catch (name := exN 3) hown [] ⟨0, 287, 288, 74⟩ [⟨0, 287, 293, 77⟩, ⟨0, 287, 298, 79⟩] (htab.trans rfl) (fun _ h => nomatch h) (by decide) (by decide) wc74 (va_Nw.use rfl (hE.2.2.2.1 3)) hq hv hcl ?_
      refine lv_astore (pc := 288) (lv' := [(6, .ref q9), (0, .ref (b 0 0)), (1, .int 8), (2, .int a), (3, .int b1), (4, .int c1), (5, .int d1)]) hx hb dL_does_288 hl (by decide) rfl (fun ls hl => ?_)
      refine lv_ldc (pc := 290) (v := (-2100000000)) hx hb hown w76 dL_does_290 ?_
      have hf := (Option.some.inj hf)
      subst hf
      exact vx_ret (rw_i (fun _ => 0) hx hb hr hlk rfl hP hD hS dL_does_292)
    · have hf := (if_neg z1).symm.trans hf
      by_cases z2 : k = 1
      · have hf := (if_pos z2).symm.trans hf
        subst z2
        refine vx_catch (name := exN 1) hown [⟨0, 287, 288, 74⟩] ⟨0, 287, 293, 77⟩ [⟨0, 287, 298, 79⟩] (htab.trans rfl) (fun z hz => by rcases List.mem_cons.mp hz with rfl | hz; { exact Or.inr ⟨by decide, exN 3, wc74, hE.2.2.2.2.1 1 3 (by decide)⟩ };  exact nomatch hz) (by decide) (by decide) wc77 (va_Nw.use rfl (hE.2.2.2.1 1)) hq hv hcl ?_
        refine lv_astore (pc := 293) (lv' := [(6, .ref q9), (0, .ref (b 0 0)), (1, .int 8), (2, .int a), (3, .int b1), (4, .int c1), (5, .int d1)]) hx hb dL_does_293 hl (by decide) rfl (fun ls hl => ?_)
        refine lv_ldc (pc := 295) (v := (-2100000000)) hx hb hown w76 dL_does_295 ?_
        have hf := (Option.some.inj hf)
        subst hf
        exact vx_ret (rw_i (fun _ => 0) hx hb hr hlk rfl hP hD hS dL_does_297)
      · have hf := (if_neg z2).symm.trans hf
        by_cases z3 : k = 2
        · have hf := (if_pos z3).symm.trans hf
          subst z3
          refine vx_catch (name := exN 2) hown [⟨0, 287, 288, 74⟩, ⟨0, 287, 293, 77⟩] ⟨0, 287, 298, 79⟩ [] (htab.trans rfl) (fun z hz => by rcases List.mem_cons.mp hz with rfl | hz; { exact Or.inr ⟨by decide, exN 3, wc74, hE.2.2.2.2.1 2 3 (by decide)⟩ }; rcases List.mem_cons.mp hz with rfl | hz; { exact Or.inr ⟨by decide, exN 1, wc77, hE.2.2.2.2.1 2 1 (by decide)⟩ };  exact nomatch hz) (by decide) (by decide) wc79 (va_Nw.use rfl (hE.2.2.2.1 2)) hq hv hcl ?_
          refine lv_astore (pc := 298) (lv' := [(6, .ref q9), (0, .ref (b 0 0)), (1, .int 8), (2, .int a), (3, .int b1), (4, .int c1), (5, .int d1)]) hx hb dL_does_298 hl (by decide) rfl (fun ls hl => ?_)
          refine lv_ldc (pc := 300) (v := (-2100000000)) hx hb hown w76 dL_does_300 ?_
          have hf := (Option.some.inj hf)
          subst hf
          exact vx_ret (rw_i (fun _ => 0) hx hb hr hlk rfl hP hD hS dL_does_302)
        · have hf := (if_neg z3).symm.trans hf
          exact nomatch hf
  · have hf := (sumE_r).symm.trans hf
    refine th_Ln (pc := 147) (C := RX6) (As := [.int a, .int b1, .int c1]) (rest := []) (st1 := [.int r.1]) (wn := fun _ => wH Z b r.2) ⟨hx, hb, hml, hown, hts⟩ (c_X6_aim Z l hst b h a b1 c1 (.inr r) h0) (cwV 3 hts gL_does_X6_aim rfl rfl rfl hv_X6_aim ⟨Nat.le_of_ble_eq_true rfl, Nat.le_of_ble_eq_true rfl⟩) hK hE hP hD hS hA hZ [0, 1, 2, 3, 4, 5, 6, 7, 8, 9, 10, 11, 12, 13, 14, 15, 16, 17, 18, 19, 20, 21, 22, 23, 24, 25, 26, 27, 28, 29, 30, 31, 32, 33, 34, 35, 36, 37, 38, 39] [] [0, 1, 2, 3, 4, 5, 6, 7, 8, 9, 10, 11, 12, 13, 14, 15, 16, 17, 18, 19, 20, 21, 22, 23, 24, 25, 26, 27, 28, 29, 30, 31, 32, 33, 34, 35, 36, 37, 38, 39] rfl rfl rfl (fun _ => rfl) 6 rfl rfl rfl hl.1 rfl (lv_room (Nat.le_of_ble_eq_true rfl)) dL_does_147 ⟨Nat.le_of_ble_eq_true rfl, Nat.le_of_ble_eq_true rfl⟩ rfl (fun _ H locs hP hD hS => ?_)
    refine lv_goto (pc := 150) (tgt := 287) hx hb dL_does_150 (by decide) ?_
    have hf := (Option.some.inj hf)
    subst hf
    exact vx_ret (rw_i (fun _ => 0) hx hb hr hlk rfl hP hD hS dL_does_287)
set_option maxHeartbeats 4000000 in
set_option maxRecDepth 100000 in
theorem c_L_does_9 (Z : EnvT) (l : Launch) (hst : l.stackTraces = false) (b : Nat → Nat → Nat) (h : Nat → ObS) (a b1 c1 d1 : Int32) (R : Int32 × (Nat → ObS)) (hf : f_L_does_9 h a b1 c1 d1 = some R) : WR Z l yL_does wsL_does { frames := 9, cells := 1, slots := 6, locals := 186 } [.ref (b 0 0), .int 9, .int a, .int b1, .int c1, .int d1] (wH Z b h) (some (.int R.1)) (fun _ => wH Z b R.2) 1 6 := by
  refine wr_of (cc := cL_does) (maxL := 7) (ret := (some .int)) (hh := [(0, 287, 288, 74), (0, 287, 293, 77), (0, 287, 298, 79)]) (by decide) rfl (Nat.le_of_ble_eq_true rfl) ?_
  intro p e s m below meth c A ls hx hb hr hml hts hown hlk htab hP hK hE hD hA hS hZ hl
  have hown : s.vm.findClass RL = some m.cls := hown
  have hl : lv_has ls 7 [(0, .ref (b 0 0)), (1, .int 9), (2, .int a), (3, .int b1), (4, .int c1), (5, .int d1)] := hl
  have w76 := hts (.constant RL 76 (-2100000000)) (by decide +kernel)
  have wc74 := hts (.classLink RL 74 "java/lang/IndexOutOfBoundsException") (by decide +kernel)
  have wc77 := hts (.classLink RL 77 "java/lang/IllegalArgumentException") (by decide +kernel)
  have wc79 := hts (.classLink RL 79 "java/lang/IllegalStateException") (by decide +kernel)
  rw [f_L_does_9] at hf
  obtain ⟨R0, h0, hf⟩ := bd hf
  refine lv_iload_n (pc := 0) hx hb dL_does_0 rfl (lv_at hl 1 rfl) ?_
  refine lv_if_ne (pc := 1) (tgt := 13) hx hb dL_does_1 (by decide) (fun y1 => ?_) (fun y1 => absurd y1 (by decide))
  refine lv_iload_n (pc := 13) hx hb dL_does_13 rfl (lv_at hl 1 rfl) ?_
  refine lv_iconst (pc := 14) (v := 1) hx hb dL_does_14 (by decide) ?_
  refine lv_icmp_ne (pc := 15) (tgt := 31) hx hb dL_does_15 (by decide) (fun y2 => ?_) (fun y2 => absurd y2 (by decide))
  refine lv_iload_n (pc := 31) hx hb dL_does_31 rfl (lv_at hl 1 rfl) ?_
  refine lv_iconst (pc := 32) (v := 2) hx hb dL_does_32 (by decide) ?_
  refine lv_icmp_ne (pc := 33) (tgt := 45) hx hb dL_does_33 (by decide) (fun y3 => ?_) (fun y3 => absurd y3 (by decide))
  refine lv_iload_n (pc := 45) hx hb dL_does_45 rfl (lv_at hl 1 rfl) ?_
  refine lv_iconst (pc := 46) (v := 3) hx hb dL_does_46 (by decide) ?_
  refine lv_icmp_ne (pc := 47) (tgt := 59) hx hb dL_does_47 (by decide) (fun y4 => ?_) (fun y4 => absurd y4 (by decide))
  refine lv_iload_n (pc := 59) hx hb dL_does_59 rfl (lv_at hl 1 rfl) ?_
  refine lv_iconst (pc := 60) (v := 4) hx hb dL_does_60 (by decide) ?_
  refine lv_icmp_ne (pc := 61) (tgt := 75) hx hb dL_does_61 (by decide) (fun y5 => ?_) (fun y5 => absurd y5 (by decide))
  refine lv_iload_n (pc := 75) hx hb dL_does_75 rfl (lv_at hl 1 rfl) ?_
  refine lv_iconst (pc := 76) (v := 5) hx hb dL_does_76 (by decide) ?_
  refine lv_icmp_ne (pc := 77) (tgt := 102) hx hb dL_does_77 (by decide) (fun y6 => ?_) (fun y6 => absurd y6 (by decide))
  refine lv_iload_n (pc := 102) hx hb dL_does_102 rfl (lv_at hl 1 rfl) ?_
  refine lv_bipush (pc := 103) (v := 6) hx hb dL_does_103 (by decide) ?_
  refine lv_icmp_ne (pc := 105) (tgt := 119) hx hb dL_does_105 (by decide) (fun y7 => ?_) (fun y7 => absurd y7 (by decide))
  refine lv_iload_n (pc := 119) hx hb dL_does_119 rfl (lv_at hl 1 rfl) ?_
  refine lv_bipush (pc := 120) (v := 7) hx hb dL_does_120 (by decide) ?_
  refine lv_icmp_ne (pc := 122) (tgt := 136) hx hb dL_does_122 (by decide) (fun y8 => ?_) (fun y8 => absurd y8 (by decide))
  refine lv_iload_n (pc := 136) hx hb dL_does_136 rfl (lv_at hl 1 rfl) ?_
  refine lv_bipush (pc := 137) (v := 8) hx hb dL_does_137 (by decide) ?_
  refine lv_icmp_ne (pc := 139) (tgt := 153) hx hb dL_does_139 (by decide) (fun y9 => ?_) (fun y9 => absurd y9 (by decide))
  refine lv_iload_n (pc := 153) hx hb dL_does_153 rfl (lv_at hl 1 rfl) ?_
  refine lv_bipush (pc := 154) (v := 9) hx hb dL_does_154 (by decide) ?_
  refine lv_icmp_ne (pc := 156) (tgt := 175) hx hb dL_does_156 (by decide) (fun y10 => absurd rfl y10) (fun y10 => ?_)
  refine lv_aload_n (pc := 159) hx hb dL_does_159 rfl (lv_at hl 0 rfl) ?_
  refine lv_iload_n (pc := 160) hx hb dL_does_160 rfl (lv_at hl 2 rfl) ?_
  rcases R0 with k | r
  · have hf := (sumE_l).symm.trans hf
    refine th_Lx (pc := 161) (C := RX6) (As := [.int a]) (rest := []) ⟨hx, hb, hml, hown, hts⟩ (c_X6_select Z l hst b h a (.inl k) h0) (cwV 1 hts gL_does_X6_select rfl rfl rfl hv_X6_select ⟨Nat.le_of_ble_eq_true rfl, Nat.le_of_ble_eq_true rfl⟩) hK hE hP hD hS hA hZ [0, 1, 2, 3, 4, 5, 6, 7, 8, 9, 10, 11, 12, 13, 14, 15, 16, 17, 18, 19, 20, 21, 22, 23, 24, 25, 26, 27, 28, 29, 30, 31, 32, 33, 34, 35, 36, 37, 38, 39] [] [0, 1, 2, 3, 4, 5, 6, 7, 8, 9, 10, 11, 12, 13, 14, 15, 16, 17, 18, 19, 20, 21, 22, 23, 24, 25, 26, 27, 28, 29, 30, 31, 32, 33, 34, 35, 36, 37, 38, 39] rfl rfl rfl rfl 6 rfl rfl rfl hl.1 rfl (lv_room (Nat.le_of_ble_eq_true rfl)) dL_does_161 ⟨Nat.le_of_ble_eq_true rfl, Nat.le_of_ble_eq_true rfl⟩ (fun q9 ce H locs hP hD hS hq hv hcl => ?_)
    by_cases z1 : k = 3
    · have hf := (if_pos z1).symm.trans hf
      subst z1
      refine vx_catch (name := exN 3) hown [] ⟨0, 287, 288, 74⟩ [⟨0, 287, 293, 77⟩, ⟨0, 287, 298, 79⟩] (htab.trans rfl) (fun _ h => nomatch h) (by decide) (by decide) wc74 (va_Nw.use rfl (hE.2.2.2.1 3)) hq hv hcl ?_
      refine lv_astore (pc := 288) (lv' := [(6, .ref q9), (0, .ref (b 0 0)), (1, .int 9), (2, .int a), (3, .int b1), (4, .int c1), (5, .int d1)]) hx hb dL_does_288 hl (by decide) rfl (fun ls hl => ?_)
      refine lv_ldc (pc := 290) (v := (-2100000000)) hx hb hown w76 dL_does_290 ?_
      have hf := (Option.some.inj hf)
      subst hf
      exact vx_ret (rw_i (fun _ => 0) hx hb hr hlk rfl hP hD hS dL_does_292)
    · have hf := (if_neg z1).symm.trans hf
      by_cases z2 : k = 1
      · have hf := (if_pos z2).symm.trans hf
        subst z2
        refine vx_catch (name := exN 1) hown [⟨0, 287, 288, 74⟩] ⟨0, 287, 293, 77⟩ [⟨0, 287, 298, 79⟩] (htab.trans rfl) (fun z hz => by rcases List.mem_cons.mp hz with rfl | hz; { exact Or.inr ⟨by decide, exN 3, wc74, hE.2.2.2.2.1 1 3 (by decide)⟩ };  exact nomatch hz) (by decide) (by decide) wc77 (va_Nw.use rfl (hE.2.2.2.1 1)) hq hv hcl ?_
        refine lv_astore (pc := 293) (lv' := [(6, .ref q9), (0, .ref (b 0 0)), (1, .int 9), (2, .int a), (3, .int b1), (4, .int c1), (5, .int d1)]) hx hb dL_does_293 hl (by decide) rfl (fun ls hl => ?_)
        refine lv_ldc (pc := 295) (v := (-2100000000)) hx hb hown w76 dL_does_295 ?_
        have hf := (Option.some.inj hf)
        subst hf
        exact vx_ret (rw_i (fun _ => 0) hx hb hr hlk rfl hP hD hS dL_does_297)
      · have hf := (if_neg z2).symm.trans hf
        by_cases z3 : k = 2
        · have hf := (if_pos z3).symm.trans hf
          subst z3
          refine vx_catch (name := exN 2) hown [⟨0, 287, 288, 74⟩, ⟨0, 287, 293, 77⟩] ⟨0, 287, 298, 79⟩ [] (htab.trans rfl) (fun z hz => by rcases List.mem_cons.mp hz with rfl | hz; { exact Or.inr ⟨by decide, exN 3, wc74, hE.2.2.2.2.1 2 3 (by decide)⟩ }; rcases List.mem_cons.mp hz with rfl | hz; { exact Or.inr ⟨by decide, exN 1, wc77, hE.2.2.2.2.1 2 1 (by decide)⟩ };  exact nomatch hz) (by decide) (by decide) wc79 (va_Nw.use rfl (hE.2.2.2.1 2)) hq hv hcl ?_
          refine lv_astore (pc := 298) (lv' := [(6, .ref q9), (0, .ref (b 0 0)), (1, .int 9), (2, .int a), (3, .int b1), (4, .int c1), (5, .int d1)]) hx hb dL_does_298 hl (by decide) rfl (fun ls hl => ?_)
          refine lv_ldc (pc := 300) (v := (-2100000000)) hx hb hown w76 dL_does_300 ?_
          have hf := (Option.some.inj hf)
          subst hf
          exact vx_ret (rw_i (fun _ => 0) hx hb hr hlk rfl hP hD hS dL_does_302)
        · have hf := (if_neg z3).symm.trans hf
          exact nomatch hf
  · have hf := (sumE_r).symm.trans hf
    refine th_Ln (pc := 161) (C := RX6) (As := [.int a]) (rest := []) (st1 := [.int r.1]) (wn := fun _ => wH Z b r.2) ⟨hx, hb, hml, hown, hts⟩ (c_X6_select Z l hst b h a (.inr r) h0) (cwV 1 hts gL_does_X6_select rfl rfl rfl hv_X6_select ⟨Nat.le_of_ble_eq_true rfl, Nat.le_of_ble_eq_true rfl⟩) hK hE hP hD hS hA hZ [0, 1, 2, 3, 4, 5, 6, 7, 8, 9, 10, 11, 12, 13, 14, 15, 16, 17, 18, 19, 20, 21, 22, 23, 24, 25, 26, 27, 28, 29, 30, 31, 32, 33, 34, 35, 36, 37, 38, 39] [] [0, 1, 2, 3, 4, 5, 6, 7, 8, 9, 10, 11, 12, 13, 14, 15, 16, 17, 18, 19, 20, 21, 22, 23, 24, 25, 26, 27, 28, 29, 30, 31, 32, 33, 34, 35, 36, 37, 38, 39] rfl rfl rfl (fun _ => rfl) 6 rfl rfl rfl hl.1 rfl (lv_room (Nat.le_of_ble_eq_true rfl)) dL_does_161 ⟨Nat.le_of_ble_eq_true rfl, Nat.le_of_ble_eq_true rfl⟩ rfl (fun _ H locs hP hD hS => ?_)
    refine lv_if_eq (pc := 164) (tgt := 171) hx hb dL_does_164 (by decide) (fun y9 => ?_) (fun y9 => ?_)
    · have hf := (if_pos y9).symm.trans hf
      refine lv_iconst (pc := 171) (v := 0) hx hb dL_does_171 (by decide) ?_
      refine lv_goto (pc := 172) (tgt := 287) hx hb dL_does_172 (by decide) ?_
      have hf := (Option.some.inj hf)
      subst hf
      exact vx_ret (rw_i (fun _ => 0) hx hb hr hlk rfl hP hD hS dL_does_287)
    · have hf := (if_neg y9).symm.trans hf
      refine lv_iconst (pc := 167) (v := 1) hx hb dL_does_167 (by decide) ?_
      refine lv_goto (pc := 168) (tgt := 287) hx hb dL_does_168 (by decide) ?_
      have hf := (Option.some.inj hf)
      subst hf
      exact vx_ret (rw_i (fun _ => 0) hx hb hr hlk rfl hP hD hS dL_does_287)
set_option maxHeartbeats 4000000 in
set_option maxRecDepth 100000 in
theorem c_L_does_10 (Z : EnvT) (l : Launch) (hst : l.stackTraces = false) (b : Nat → Nat → Nat) (h : Nat → ObS) (a b1 c1 d1 : Int32) (R : Int32 × (Nat → ObS)) (hf : f_L_does_10 h a b1 c1 d1 = some R) : WR Z l yL_does wsL_does { frames := 9, cells := 1, slots := 7200, locals := 186 } [.ref (b 0 0), .int 10, .int a, .int b1, .int c1, .int d1] (wH Z b h) (some (.int R.1)) (fun q => wH Z (bu b 7 (ad1 (b 7) q)) R.2) 1 7200 := by
  refine wr_of (cc := cL_does) (maxL := 7) (ret := (some .int)) (hh := [(0, 287, 288, 74), (0, 287, 293, 77), (0, 287, 298, 79)]) (by decide) rfl (Nat.le_of_ble_eq_true rfl) ?_
  intro p e s m below meth c A ls hx hb hr hml hts hown hlk htab hP hK hE hD hA hS hZ hl
  have hown : s.vm.findClass RL = some m.cls := hown
  have hl : lv_has ls 7 [(0, .ref (b 0 0)), (1, .int 10), (2, .int a), (3, .int b1), (4, .int c1), (5, .int d1)] := hl
  have w76 := hts (.constant RL 76 (-2100000000)) (by decide +kernel)
  have wc74 := hts (.classLink RL 74 "java/lang/IndexOutOfBoundsException") (by decide +kernel)
  have wc77 := hts (.classLink RL 77 "java/lang/IllegalArgumentException") (by decide +kernel)
  have wc79 := hts (.classLink RL 79 "java/lang/IllegalStateException") (by decide +kernel)
  rw [f_L_does_10] at hf
  obtain ⟨R0, h0, hf⟩ := bd hf
  refine lv_iload_n (pc := 0) hx hb dL_does_0 rfl (lv_at hl 1 rfl) ?_
  refine lv_if_ne (pc := 1) (tgt := 13) hx hb dL_does_1 (by decide) (fun y1 => ?_) (fun y1 => absurd y1 (by decide))
  refine lv_iload_n (pc := 13) hx hb dL_does_13 rfl (lv_at hl 1 rfl) ?_
  refine lv_iconst (pc := 14) (v := 1) hx hb dL_does_14 (by decide) ?_
  refine lv_icmp_ne (pc := 15) (tgt := 31) hx hb dL_does_15 (by decide) (fun y2 => ?_) (fun y2 => absurd y2 (by decide))
  refine lv_iload_n (pc := 31) hx hb dL_does_31 rfl (lv_at hl 1 rfl) ?_
  refine lv_iconst (pc := 32) (v := 2) hx hb dL_does_32 (by decide) ?_
  refine lv_icmp_ne (pc := 33) (tgt := 45) hx hb dL_does_33 (by decide) (fun y3 => ?_) (fun y3 => absurd y3 (by decide))
  refine lv_iload_n (pc := 45) hx hb dL_does_45 rfl (lv_at hl 1 rfl) ?_
  refine lv_iconst (pc := 46) (v := 3) hx hb dL_does_46 (by decide) ?_
  refine lv_icmp_ne (pc := 47) (tgt := 59) hx hb dL_does_47 (by decide) (fun y4 => ?_) (fun y4 => absurd y4 (by decide))
  refine lv_iload_n (pc := 59) hx hb dL_does_59 rfl (lv_at hl 1 rfl) ?_
  refine lv_iconst (pc := 60) (v := 4) hx hb dL_does_60 (by decide) ?_
  refine lv_icmp_ne (pc := 61) (tgt := 75) hx hb dL_does_61 (by decide) (fun y5 => ?_) (fun y5 => absurd y5 (by decide))
  refine lv_iload_n (pc := 75) hx hb dL_does_75 rfl (lv_at hl 1 rfl) ?_
  refine lv_iconst (pc := 76) (v := 5) hx hb dL_does_76 (by decide) ?_
  refine lv_icmp_ne (pc := 77) (tgt := 102) hx hb dL_does_77 (by decide) (fun y6 => ?_) (fun y6 => absurd y6 (by decide))
  refine lv_iload_n (pc := 102) hx hb dL_does_102 rfl (lv_at hl 1 rfl) ?_
  refine lv_bipush (pc := 103) (v := 6) hx hb dL_does_103 (by decide) ?_
  refine lv_icmp_ne (pc := 105) (tgt := 119) hx hb dL_does_105 (by decide) (fun y7 => ?_) (fun y7 => absurd y7 (by decide))
  refine lv_iload_n (pc := 119) hx hb dL_does_119 rfl (lv_at hl 1 rfl) ?_
  refine lv_bipush (pc := 120) (v := 7) hx hb dL_does_120 (by decide) ?_
  refine lv_icmp_ne (pc := 122) (tgt := 136) hx hb dL_does_122 (by decide) (fun y8 => ?_) (fun y8 => absurd y8 (by decide))
  refine lv_iload_n (pc := 136) hx hb dL_does_136 rfl (lv_at hl 1 rfl) ?_
  refine lv_bipush (pc := 137) (v := 8) hx hb dL_does_137 (by decide) ?_
  refine lv_icmp_ne (pc := 139) (tgt := 153) hx hb dL_does_139 (by decide) (fun y9 => ?_) (fun y9 => absurd y9 (by decide))
  refine lv_iload_n (pc := 153) hx hb dL_does_153 rfl (lv_at hl 1 rfl) ?_
  refine lv_bipush (pc := 154) (v := 9) hx hb dL_does_154 (by decide) ?_
  refine lv_icmp_ne (pc := 156) (tgt := 175) hx hb dL_does_156 (by decide) (fun y10 => ?_) (fun y10 => absurd y10 (by decide))
  refine lv_iload_n (pc := 175) hx hb dL_does_175 rfl (lv_at hl 1 rfl) ?_
  refine lv_bipush (pc := 176) (v := 10) hx hb dL_does_176 (by decide) ?_
  refine lv_icmp_ne (pc := 178) (tgt := 189) hx hb dL_does_178 (by decide) (fun y11 => absurd rfl y11) (fun y11 => ?_)
  refine lv_aload_n (pc := 181) hx hb dL_does_181 rfl (lv_at hl 0 rfl) ?_
  refine lv_iload_n (pc := 182) hx hb dL_does_182 rfl (lv_at hl 2 rfl) ?_
  rcases R0 with k | r
  · have hf := (sumE_l).symm.trans hf
    refine th_Lx (pc := 183) (C := RX6) (As := [.int a]) (rest := []) ⟨hx, hb, hml, hown, hts⟩ (c_X6_tick Z l hst b h a (.inl k) h0) (cwV 1 hts gL_does_X6_tick rfl rfl rfl hv_X6_tick ⟨Nat.le_of_ble_eq_true rfl, Nat.le_of_ble_eq_true rfl⟩) hK hE hP hD hS hA hZ [0, 1, 2, 3, 4, 5, 6, 7, 8, 9, 10, 11, 12, 13, 14, 15, 16, 17, 18, 19, 20, 21, 22, 23, 24, 25, 26, 27, 28, 29, 30, 31, 32, 33, 34, 35, 36, 37, 38, 39] [] [0, 1, 2, 3, 4, 5, 6, 7, 8, 9, 10, 11, 12, 13, 14, 15, 16, 17, 18, 19, 20, 21, 22, 23, 24, 25, 26, 27, 28, 29, 30, 31, 32, 33, 34, 35, 36, 37, 38, 39] rfl rfl rfl rfl 6 rfl rfl rfl hl.1 rfl (lv_room (Nat.le_of_ble_eq_true rfl)) dL_does_183 ⟨Nat.le_of_ble_eq_true rfl, Nat.le_of_ble_eq_true rfl⟩ (fun q9 ce H locs hP hD hS hq hv hcl => ?_)
    by_cases z1 : k = 3
    · have hf := (if_pos z1).symm.trans hf
      subst z1
      refine vx_catch (name := exN 3) hown [] ⟨0, 287, 288, 74⟩ [⟨0, 287, 293, 77⟩, ⟨0, 287, 298, 79⟩] (htab.trans rfl) (fun _ h => nomatch h) (by decide) (by decide) wc74 (va_Nw.use rfl (hE.2.2.2.1 3)) hq hv hcl ?_
      refine lv_astore (pc := 288) (lv' := [(6, .ref q9), (0, .ref (b 0 0)), (1, .int 10), (2, .int a), (3, .int b1), (4, .int c1), (5, .int d1)]) hx hb dL_does_288 hl (by decide) rfl (fun ls hl => ?_)
      refine lv_ldc (pc := 290) (v := (-2100000000)) hx hb hown w76 dL_does_290 ?_
      have hf := (Option.some.inj hf)
      subst hf
      exact vx_ret (rw_i (fun _ => b 7 1) hx hb hr hlk rfl hP hD hS dL_does_292)
    · have hf := (if_neg z1).symm.trans hf
      by_cases z2 : k = 1
      · have hf := (if_pos z2).symm.trans hf
        subst z2
        refine vx_catch (name := exN 1) hown [⟨0, 287, 288, 74⟩] ⟨0, 287, 293, 77⟩ [⟨0, 287, 298, 79⟩] (htab.trans rfl) (fun z hz => by rcases List.mem_cons.mp hz with rfl | hz; { exact Or.inr ⟨by decide, exN 3, wc74, hE.2.2.2.2.1 1 3 (by decide)⟩ };  exact nomatch hz) (by decide) (by decide) wc77 (va_Nw.use rfl (hE.2.2.2.1 1)) hq hv hcl ?_
        refine lv_astore (pc := 293) (lv' := [(6, .ref q9), (0, .ref (b 0 0)), (1, .int 10), (2, .int a), (3, .int b1), (4, .int c1), (5, .int d1)]) hx hb dL_does_293 hl (by decide) rfl (fun ls hl => ?_)
        refine lv_ldc (pc := 295) (v := (-2100000000)) hx hb hown w76 dL_does_295 ?_
        have hf := (Option.some.inj hf)
        subst hf
        exact vx_ret (rw_i (fun _ => b 7 1) hx hb hr hlk rfl hP hD hS dL_does_297)
      · have hf := (if_neg z2).symm.trans hf
        by_cases z3 : k = 2
        · have hf := (if_pos z3).symm.trans hf
          subst z3
          refine vx_catch (name := exN 2) hown [⟨0, 287, 288, 74⟩, ⟨0, 287, 293, 77⟩] ⟨0, 287, 298, 79⟩ [] (htab.trans rfl) (fun z hz => by rcases List.mem_cons.mp hz with rfl | hz; { exact Or.inr ⟨by decide, exN 3, wc74, hE.2.2.2.2.1 2 3 (by decide)⟩ }; rcases List.mem_cons.mp hz with rfl | hz; { exact Or.inr ⟨by decide, exN 1, wc77, hE.2.2.2.2.1 2 1 (by decide)⟩ };  exact nomatch hz) (by decide) (by decide) wc79 (va_Nw.use rfl (hE.2.2.2.1 2)) hq hv hcl ?_
          refine lv_astore (pc := 298) (lv' := [(6, .ref q9), (0, .ref (b 0 0)), (1, .int 10), (2, .int a), (3, .int b1), (4, .int c1), (5, .int d1)]) hx hb dL_does_298 hl (by decide) rfl (fun ls hl => ?_)
          refine lv_ldc (pc := 300) (v := (-2100000000)) hx hb hown w76 dL_does_300 ?_
          have hf := (Option.some.inj hf)
          subst hf
          exact vx_ret (rw_i (fun _ => b 7 1) hx hb hr hlk rfl hP hD hS dL_does_302)
        · have hf := (if_neg z3).symm.trans hf
          exact nomatch hf
  · have hf := (sumE_r).symm.trans hf
    refine th_Ln (pc := 183) (C := RX6) (As := [.int a]) (rest := []) (st1 := [.int r.1]) (wn := fun q => wH Z (bu b 7 (ad1 (b 7) q)) r.2) ⟨hx, hb, hml, hown, hts⟩ (c_X6_tick Z l hst b h a (.inr r) h0) (cwV 1 hts gL_does_X6_tick rfl rfl rfl hv_X6_tick ⟨Nat.le_of_ble_eq_true rfl, Nat.le_of_ble_eq_true rfl⟩) hK hE hP hD hS hA hZ [0, 1, 2, 3, 4, 5, 6, 7, 8, 9, 10, 11, 12, 13, 14, 15, 16, 17, 18, 19, 20, 21, 22, 23, 24, 25, 26, 27, 28, 29, 30, 31, 32, 33, 34, 35, 36, 37, 38, 39] [] [0, 1, 2, 3, 4, 5, 6, 7, 8, 9, 10, 11, 12, 13, 14, 15, 16, 17, 18, 19, 20, 21, 22, 23, 24, 25, 26, 27, 28, 29, 30, 31, 32, 33, 34, 35, 36, 37, 38, 39] rfl rfl rfl (fun _ => rfl) 6 rfl rfl rfl hl.1 rfl (lv_room (Nat.le_of_ble_eq_true rfl)) dL_does_183 ⟨Nat.le_of_ble_eq_true rfl, Nat.le_of_ble_eq_true rfl⟩ rfl (fun q H locs hP hD hS => ?_)
    refine lv_goto (pc := 186) (tgt := 287) hx hb dL_does_186 (by decide) ?_
    have hf := (Option.some.inj hf)
    subst hf
    exact vx_ret (rw_i q hx hb hr hlk rfl hP hD hS dL_does_287)
set_option maxHeartbeats 4000000 in
set_option maxRecDepth 100000 in
theorem c_L_does_11 (Z : EnvT) (l : Launch) (hst : l.stackTraces = false) (b : Nat → Nat → Nat) (h : Nat → ObS) (a b1 c1 d1 : Int32) (R : Int32 × (Nat → ObS)) (hf : f_L_does_11 h a b1 c1 d1 = some R) : WR Z l yL_does wsL_does { frames := 9, cells := 0, slots := 0, locals := 186 } [.ref (b 0 0), .int 11, .int a, .int b1, .int c1, .int d1] (wH Z b h) (some (.int R.1)) (fun _ => wH Z b R.2) 0 0 := by
  refine wr_of (cc := cL_does) (maxL := 7) (ret := (some .int)) (hh := [(0, 287, 288, 74), (0, 287, 293, 77), (0, 287, 298, 79)]) (by decide) rfl (Nat.le_of_ble_eq_true rfl) ?_
  intro p e s m below meth c A ls hx hb hr hml hts hown hlk htab hP hK hE hD hA hS hZ hl
  have hown : s.vm.findClass RL = some m.cls := hown
  have hl : lv_has ls 7 [(0, .ref (b 0 0)), (1, .int 11), (2, .int a), (3, .int b1), (4, .int c1), (5, .int d1)] := hl
  have w76 := hts (.constant RL 76 (-2100000000)) (by decide +kernel)
  have wc74 := hts (.classLink RL 74 "java/lang/IndexOutOfBoundsException") (by decide +kernel)
  have wc77 := hts (.classLink RL 77 "java/lang/IllegalArgumentException") (by decide +kernel)
  have wc79 := hts (.classLink RL 79 "java/lang/IllegalStateException") (by decide +kernel)
  rw [f_L_does_11] at hf
  obtain ⟨r, h0, hf⟩ := bd hf
  refine lv_iload_n (pc := 0) hx hb dL_does_0 rfl (lv_at hl 1 rfl) ?_
  refine lv_if_ne (pc := 1) (tgt := 13) hx hb dL_does_1 (by decide) (fun y1 => ?_) (fun y1 => absurd y1 (by decide))
  refine lv_iload_n (pc := 13) hx hb dL_does_13 rfl (lv_at hl 1 rfl) ?_
  refine lv_iconst (pc := 14) (v := 1) hx hb dL_does_14 (by decide) ?_
  refine lv_icmp_ne (pc := 15) (tgt := 31) hx hb dL_does_15 (by decide) (fun y2 => ?_) (fun y2 => absurd y2 (by decide))
  refine lv_iload_n (pc := 31) hx hb dL_does_31 rfl (lv_at hl 1 rfl) ?_
  refine lv_iconst (pc := 32) (v := 2) hx hb dL_does_32 (by decide) ?_
  refine lv_icmp_ne (pc := 33) (tgt := 45) hx hb dL_does_33 (by decide) (fun y3 => ?_) (fun y3 => absurd y3 (by decide))
  refine lv_iload_n (pc := 45) hx hb dL_does_45 rfl (lv_at hl 1 rfl) ?_
  refine lv_iconst (pc := 46) (v := 3) hx hb dL_does_46 (by decide) ?_
  refine lv_icmp_ne (pc := 47) (tgt := 59) hx hb dL_does_47 (by decide) (fun y4 => ?_) (fun y4 => absurd y4 (by decide))
  refine lv_iload_n (pc := 59) hx hb dL_does_59 rfl (lv_at hl 1 rfl) ?_
  refine lv_iconst (pc := 60) (v := 4) hx hb dL_does_60 (by decide) ?_
  refine lv_icmp_ne (pc := 61) (tgt := 75) hx hb dL_does_61 (by decide) (fun y5 => ?_) (fun y5 => absurd y5 (by decide))
  refine lv_iload_n (pc := 75) hx hb dL_does_75 rfl (lv_at hl 1 rfl) ?_
  refine lv_iconst (pc := 76) (v := 5) hx hb dL_does_76 (by decide) ?_
  refine lv_icmp_ne (pc := 77) (tgt := 102) hx hb dL_does_77 (by decide) (fun y6 => ?_) (fun y6 => absurd y6 (by decide))
  refine lv_iload_n (pc := 102) hx hb dL_does_102 rfl (lv_at hl 1 rfl) ?_
  refine lv_bipush (pc := 103) (v := 6) hx hb dL_does_103 (by decide) ?_
  refine lv_icmp_ne (pc := 105) (tgt := 119) hx hb dL_does_105 (by decide) (fun y7 => ?_) (fun y7 => absurd y7 (by decide))
  refine lv_iload_n (pc := 119) hx hb dL_does_119 rfl (lv_at hl 1 rfl) ?_
  refine lv_bipush (pc := 120) (v := 7) hx hb dL_does_120 (by decide) ?_
  refine lv_icmp_ne (pc := 122) (tgt := 136) hx hb dL_does_122 (by decide) (fun y8 => ?_) (fun y8 => absurd y8 (by decide))
  refine lv_iload_n (pc := 136) hx hb dL_does_136 rfl (lv_at hl 1 rfl) ?_
  refine lv_bipush (pc := 137) (v := 8) hx hb dL_does_137 (by decide) ?_
  refine lv_icmp_ne (pc := 139) (tgt := 153) hx hb dL_does_139 (by decide) (fun y9 => ?_) (fun y9 => absurd y9 (by decide))
  refine lv_iload_n (pc := 153) hx hb dL_does_153 rfl (lv_at hl 1 rfl) ?_
  refine lv_bipush (pc := 154) (v := 9) hx hb dL_does_154 (by decide) ?_
  refine lv_icmp_ne (pc := 156) (tgt := 175) hx hb dL_does_156 (by decide) (fun y10 => ?_) (fun y10 => absurd y10 (by decide))
  refine lv_iload_n (pc := 175) hx hb dL_does_175 rfl (lv_at hl 1 rfl) ?_
  refine lv_bipush (pc := 176) (v := 10) hx hb dL_does_176 (by decide) ?_
  refine lv_icmp_ne (pc := 178) (tgt := 189) hx hb dL_does_178 (by decide) (fun y11 => ?_) (fun y11 => absurd y11 (by decide))
  refine lv_iload_n (pc := 189) hx hb dL_does_189 rfl (lv_at hl 1 rfl) ?_
  refine lv_bipush (pc := 190) (v := 11) hx hb dL_does_190 (by decide) ?_
  refine lv_icmp_ne (pc := 192) (tgt := 202) hx hb dL_does_192 (by decide) (fun y12 => absurd rfl y12) (fun y12 => ?_)
  refine lv_aload_n (pc := 195) hx hb dL_does_195 rfl (lv_at hl 0 rfl) ?_
  refine rw_V (pc := 196) (C := RX6) (As := []) (rest := []) (st1 := [.int r.1]) (wn := fun _ => wH Z b r.2) ⟨hx, hb, hml, hown, hts⟩ (c_X6_quit Z l b h r h0) (cwV 0 hts gL_does_X6_quit rfl rfl rfl hv_X6_quit ⟨Nat.le_of_ble_eq_true rfl, Nat.le_of_ble_eq_true rfl⟩) hK hE hP hD hS hA [0, 1, 2, 3, 4, 5, 6, 7, 8, 9, 10, 11, 12, 13, 14, 15, 16, 17, 18, 19, 20, 21, 22, 23, 24, 25, 26, 27, 28, 29, 30, 31, 32, 33, 34, 35, 36, 37, 38, 39] [] [0, 1, 2, 3, 4, 5, 6, 7, 8, 9, 10, 11, 12, 13, 14, 15, 16, 17, 18, 19, 20, 21, 22, 23, 24, 25, 26, 27, 28, 29, 30, 31, 32, 33, 34, 35, 36, 37, 38, 39] rfl rfl rfl (fun _ => rfl) 6 rfl rfl rfl hl.1 rfl (lv_room (Nat.le_of_ble_eq_true rfl)) dL_does_196 ⟨Nat.le_of_ble_eq_true rfl, Nat.le_of_ble_eq_true rfl⟩ rfl (fun _ H locs hP hD hS => ?_)
  refine lv_goto (pc := 199) (tgt := 287) hx hb dL_does_199 (by decide) ?_
  have hf := (Option.some.inj hf)
  subst hf
  exact vx_ret (rw_i (fun _ => 0) hx hb hr hlk rfl hP hD hS dL_does_287)
