set_option maxHeartbeats 4000000 in
set_option maxRecDepth 100000 in
theorem c_L_does_12 (Z : EnvT) (l : Launch) (hst : l.stackTraces = false) (b : Nat → Nat → Nat) (h : Nat → ObS) (a b1 c1 d1 : Int32) (R : Int32) (hf : f_L_does_12 h a b1 c1 d1 = some R) : WR Z l yL_does wsL_does { frames := 9, cells := 2, slots := 12, locals := 186 } [.ref (b 0 0), .int 12, .int a, .int b1, .int c1, .int d1] (wH Z b h) (some (.int R)) (fun _ => wH Z b h) 2 12 := by
  refine wr_of (cc := cL_does) (maxL := 7) (ret := (some .int)) (hh := [(0, 287, 288, 74), (0, 287, 293, 77), (0, 287, 298, 79)]) (by decide) rfl (Nat.le_of_ble_eq_true rfl) ?_
  intro p e s m below meth c A ls hx hb hr hml hts hown hlk htab hP hK hE hD hA hS hZ hl
  have hown : s.vm.findClass RL = some m.cls := hown
  have hl : lv_has ls 7 [(0, .ref (b 0 0)), (1, .int 12), (2, .int a), (3, .int b1), (4, .int c1), (5, .int d1)] := hl
  have w76 := hts (.constant RL 76 (-2100000000)) (by decide +kernel)
  have wc74 := hts (.classLink RL 74 "java/lang/IndexOutOfBoundsException") (by decide +kernel)
  have wc77 := hts (.classLink RL 77 "java/lang/IllegalArgumentException") (by decide +kernel)
  have wc79 := hts (.classLink RL 79 "java/lang/IllegalStateException") (by decide +kernel)
  rw [f_L_does_12] at hf
  obtain ⟨R0, h0, hf⟩ := bd hf
  refine lv_iload_n (pc := 0) hx hb dL_does_0 rfl (lv_at hl 1 rfl) ?_
  refine lv_if_ne (pc := 1) (tgt := 13) hx hb dL_does_1 (by decide) (fun y1 => ?_) (fun y1 => absurd y1 (by decide))
  refine lv_iload_n (pc := 13) hx hb dL_does_13 rfl (lv_at hl 1 rfl) ?_
  refine lv_iconst (pc := 14) (v := 1) hx hb dL_does_14 (by decide) ?_
  refine lv_icmp_ne (pc := 15) (tgt := 31) hx hb dL_does_15 (by decide) (fun y2 => ?_) (fun y2 => absurd y2 (by decide))
  refine lv_iload_n (pc := 31) hx hb dL_does_31 rfl (lv_at hl 1 rfl) ?_
  refine lv_iconst (pc := 32) (v := 2) hx hb dL_does_32 (by decide) ?_
  refine lv_icmp_ne (pc := 33) (tgt := 45) hx hb dL_does_33 (by decide) (fun y3 => ?_) (fun y3 => absurd y3 (by decide))
  refine lv_iload_n (pc := 45) hx hb dL_does_45 rfl (lv_at hl 1 rfl) ?_
  refine lv_iconst (pc := 46) (v := 3) hx hb dL_does_46 (by decide) ?_
  refine lv_icmp_ne (pc := 47) (tgt := 59) hx hb dL_does_47 (by decide) (fun y4 => ?_) (fun y4 => absurd y4 (by decide))
  refine lv_iload_n (pc := 59) hx hb dL_does_59 rfl (lv_at hl 1 rfl) ?_
  refine lv_iconst (pc := 60) (v := 4) hx hb dL_does_60 (by decide) ?_
  refine lv_icmp_ne (pc := 61) (tgt := 75) hx hb dL_does_61 (by decide) (fun y5 => ?_) (fun y5 => absurd y5 (by decide))
  refine lv_iload_n (pc := 75) hx hb dL_does_75 rfl (lv_at hl 1 rfl) ?_
  refine lv_iconst (pc := 76) (v := 5) hx hb dL_does_76 (by decide) ?_
  refine lv_icmp_ne (pc := 77) (tgt := 102) hx hb dL_does_77 (by decide) (fun y6 => ?_) (fun y6 => absurd y6 (by decide))
  refine lv_iload_n (pc := 102) hx hb dL_does_102 rfl (lv_at hl 1 rfl) ?_
  refine lv_bipush (pc := 103) (v := 6) hx hb dL_does_103 (by decide) ?_
  refine lv_icmp_ne (pc := 105) (tgt := 119) hx hb dL_does_105 (by decide) (fun y7 => ?_) (fun y7 => absurd y7 (by decide))
  refine lv_iload_n (pc := 119) hx hb dL_does_119 rfl (lv_at hl 1 rfl) ?_
  refine lv_bipush (pc := 120) (v := 7) hx hb dL_does_120 (by decide) ?_
  refine lv_icmp_ne (pc := 122) (tgt := 136) hx hb dL_does_122 (by decide) (fun y8 => ?_) (fun y8 => absurd y8 (by decide))
  refine lv_iload_n (pc := 136) hx hb dL_does_136 rfl (lv_at hl 1 rfl) ?_
  refine lv_bipush (pc := 137) (v := 8) hx hb dL_does_137 (by decide) ?_
  refine lv_icmp_ne (pc := 139) (tgt := 153) hx hb dL_does_139 (by decide) (fun y9 => ?_) (fun y9 => absurd y9 (by decide))
  refine lv_iload_n (pc := 153) hx hb dL_does_153 rfl (lv_at hl 1 rfl) ?_
  refine lv_bipush (pc := 154) (v := 9) hx hb dL_does_154 (by decide) ?_
  refine lv_icmp_ne (pc := 156) (tgt := 175) hx hb dL_does_156 (by decide) (fun y10 => ?_) (fun y10 => absurd y10 (by decide))
  refine lv_iload_n (pc := 175) hx hb dL_does_175 rfl (lv_at hl 1 rfl) ?_
  refine lv_bipush (pc := 176) (v := 10) hx hb dL_does_176 (by decide) ?_
  refine lv_icmp_ne (pc := 178) (tgt := 189) hx hb dL_does_178 (by decide) (fun y11 => ?_) (fun y11 => absurd y11 (by decide))
  refine lv_iload_n (pc := 189) hx hb dL_does_189 rfl (lv_at hl 1 rfl) ?_
  refine lv_bipush (pc := 190) (v := 11) hx hb dL_does_190 (by decide) ?_
  refine lv_icmp_ne (pc := 192) (tgt := 202) hx hb dL_does_192 (by decide) (fun y12 => ?_) (fun y12 => absurd y12 (by decide))
  refine lv_iload_n (pc := 202) hx hb dL_does_202 rfl (lv_at hl 1 rfl) ?_
  refine lv_bipush (pc := 203) (v := 12) hx hb dL_does_203 (by decide) ?_
  refine lv_icmp_ne (pc := 205) (tgt := 217) hx hb dL_does_205 (by decide) (fun y13 => absurd rfl y13) (fun y13 => ?_)
  refine lv_aload_n (pc := 208) hx hb dL_does_208 rfl (lv_at hl 0 rfl) ?_
  refine lv_iload_n (pc := 209) hx hb dL_does_209 rfl (lv_at hl 2 rfl) ?_
  refine lv_iload_n (pc := 210) hx hb dL_does_210 rfl (lv_at hl 3 rfl) ?_
  rcases R0 with k | r
  · have hf := (sumE_l).symm.trans hf
    refine th_Lx (pc := 211) (C := RX6) (As := [.int a, .int b1]) (rest := []) ⟨hx, hb, hml, hown, hts⟩ (c_X6_of Z l hst b h a b1 (.inl k) h0) (cwV 2 hts gL_does_X6_of rfl rfl rfl hv_X6_of ⟨Nat.le_of_ble_eq_true rfl, Nat.le_of_ble_eq_true rfl⟩) hK hE hP hD hS hA hZ [0, 1, 2, 3, 4, 5, 6, 7, 8, 9, 10, 11, 12, 13, 14, 15, 16, 17, 18, 19, 20, 21, 22, 23, 24, 25, 26, 27, 28, 29, 30, 31, 32, 33, 34, 35, 36, 37, 38, 39] [] [0, 1, 2, 3, 4, 5, 6, 7, 8, 9, 10, 11, 12, 13, 14, 15, 16, 17, 18, 19, 20, 21, 22, 23, 24, 25, 26, 27, 28, 29, 30, 31, 32, 33, 34, 35, 36, 37, 38, 39] rfl rfl rfl rfl 6 rfl rfl rfl hl.1 rfl (lv_room (Nat.le_of_ble_eq_true rfl)) dL_does_211 ⟨Nat.le_of_ble_eq_true rfl, Nat.le_of_ble_eq_true rfl⟩ (fun q9 ce H locs hP hD hS hq hv hcl => ?_)
    by_cases z1 : k = 3
    · have hf := (if_pos z1).symm.trans hf
      subst z1
      refine vx_catch (name := exN 3) hown [] ⟨0, 287, 288, 74⟩ [⟨0, 287, 293, 77⟩, ⟨0, 287, 298, 79⟩] (htab.trans rfl) (fun _ h => nomatch h) (by decide) (by decide) wc74 (va_Nw.use rfl (hE.2.2.2.1 3)) hq hv hcl ?_
      refine lv_astore (pc := 288) (lv' := [(6, .ref q9), (0, .ref (b 0 0)), (1, .int 12), (2, .int a), (3, .int b1), (4, .int c1), (5, .int d1)]) hx hb dL_does_288 hl (by decide) rfl (fun ls hl => ?_)
      refine lv_ldc (pc := 290) (v := (-2100000000)) hx hb hown w76 dL_does_290 ?_
      have hf := (Option.some.inj hf)
      subst hf
      exact vx_ret (rw_i (fun _ => 0) hx hb hr hlk rfl hP hD hS dL_does_292)
    · have hf := (if_neg z1).symm.trans hf
      by_cases z2 : k = 1
      · have hf := (if_pos z2).symm.trans hf
        subst z2
        refine vx_catch (name := exN 1) hown [⟨0, 287, 288, 74⟩] ⟨0, 287, 293, 77⟩ [⟨0, 287, 298, 79⟩] (htab.trans rfl) (fun z hz => by rcases List.mem_cons.mp hz with rfl | hz; { exact Or.inr ⟨by decide, exN 3, wc74, hE.2.2.2.2.1 1 3 (by decide)⟩ };  exact nomatch hz) (by decide) (by decide) wc77 (va_Nw.use rfl (hE.2.2.2.1 1)) hq hv hcl ?_
        refine lv_astore (pc := 293) (lv' := [(6, .ref q9), (0, .ref (b 0 0)), (1, .int 12), (2, .int a), (3, .int b1), (4, .int c1), (5, .int d1)]) hx hb dL_does_293 hl (by decide) rfl (fun ls hl => ?_)
        refine lv_ldc (pc := 295) (v := (-2100000000)) hx hb hown w76 dL_does_295 ?_
        have hf := (Option.some.inj hf)
        subst hf
        exact vx_ret (rw_i (fun _ => 0) hx hb hr hlk rfl hP hD hS dL_does_297)
      · have hf := (if_neg z2).symm.trans hf
        by_cases z3 : k = 2
        · have hf := (if_pos z3).symm.trans hf
          subst z3
          refine vx_catch (name := exN 2) hown [⟨0, 287, 288, 74⟩, ⟨0, 287, 293, 77⟩] ⟨0, 287, 298, 79⟩ [] (htab.trans rfl) (fun z hz => by rcases List.mem_cons.mp hz with rfl | hz; { exact Or.inr ⟨by decide, exN 3, wc74, hE.2.2.2.2.1 2 3 (by decide)⟩ }; rcases List.mem_cons.mp hz with rfl | hz; { exact Or.inr ⟨by decide, exN 1, wc77, hE.2.2.2.2.1 2 1 (by decide)⟩ };  exact nomatch hz) (by decide) (by decide) wc79 (va_Nw.use rfl (hE.2.2.2.1 2)) hq hv hcl ?_
          refine lv_astore (pc := 298) (lv' := [(6, .ref q9), (0, .ref (b 0 0)), (1, .int 12), (2, .int a), (3, .int b1), (4, .int c1), (5, .int d1)]) hx hb dL_does_298 hl (by decide) rfl (fun ls hl => ?_)
          refine lv_ldc (pc := 300) (v := (-2100000000)) hx hb hown w76 dL_does_300 ?_
          have hf := (Option.some.inj hf)
          subst hf
          exact vx_ret (rw_i (fun _ => 0) hx hb hr hlk rfl hP hD hS dL_does_302)
        · have hf := (if_neg z3).symm.trans hf
          exact nomatch hf
  · have hf := (sumE_r).symm.trans hf
    refine th_Ln (pc := 211) (C := RX6) (As := [.int a, .int b1]) (rest := []) (st1 := [.int r]) (wn := fun _ => wH Z b h) ⟨hx, hb, hml, hown, hts⟩ (c_X6_of Z l hst b h a b1 (.inr r) h0) (cwV 2 hts gL_does_X6_of rfl rfl rfl hv_X6_of ⟨Nat.le_of_ble_eq_true rfl, Nat.le_of_ble_eq_true rfl⟩) hK hE hP hD hS hA hZ [0, 1, 2, 3, 4, 5, 6, 7, 8, 9, 10, 11, 12, 13, 14, 15, 16, 17, 18, 19, 20, 21, 22, 23, 24, 25, 26, 27, 28, 29, 30, 31, 32, 33, 34, 35, 36, 37, 38, 39] [] [0, 1, 2, 3, 4, 5, 6, 7, 8, 9, 10, 11, 12, 13, 14, 15, 16, 17, 18, 19, 20, 21, 22, 23, 24, 25, 26, 27, 28, 29, 30, 31, 32, 33, 34, 35, 36, 37, 38, 39] rfl rfl rfl (fun _ => rfl) 6 rfl rfl rfl hl.1 rfl (lv_room (Nat.le_of_ble_eq_true rfl)) dL_does_211 ⟨Nat.le_of_ble_eq_true rfl, Nat.le_of_ble_eq_true rfl⟩ rfl (fun _ H locs hP hD hS => ?_)
    refine lv_goto (pc := 214) (tgt := 287) hx hb dL_does_214 (by decide) ?_
    have hf := (Option.some.inj hf)
    subst hf
    exact vx_ret (rw_i (fun _ => 0) hx hb hr hlk rfl hP hD hS dL_does_287)
set_option maxHeartbeats 4000000 in
set_option maxRecDepth 100000 in
theorem c_L_does_13 (Z : EnvT) (l : Launch) (hst : l.stackTraces = false) (b : Nat → Nat → Nat) (h : Nat → ObS) (a b1 c1 d1 : Int32) (R : Int32) (hf : f_L_does_13 h a b1 c1 d1 = some R) : WR Z l yL_does wsL_does { frames := 9, cells := 2, slots := 12, locals := 186 } [.ref (b 0 0), .int 13, .int a, .int b1, .int c1, .int d1] (wH Z b h) (some (.int R)) (fun _ => wH Z b h) 2 12 := by
  refine wr_of (cc := cL_does) (maxL := 7) (ret := (some .int)) (hh := [(0, 287, 288, 74), (0, 287, 293, 77), (0, 287, 298, 79)]) (by decide) rfl (Nat.le_of_ble_eq_true rfl) ?_
  intro p e s m below meth c A ls hx hb hr hml hts hown hlk htab hP hK hE hD hA hS hZ hl
  have hown : s.vm.findClass RL = some m.cls := hown
  have hl : lv_has ls 7 [(0, .ref (b 0 0)), (1, .int 13), (2, .int a), (3, .int b1), (4, .int c1), (5, .int d1)] := hl
  have w76 := hts (.constant RL 76 (-2100000000)) (by decide +kernel)
  have wc74 := hts (.classLink RL 74 "java/lang/IndexOutOfBoundsException") (by decide +kernel)
  have wc77 := hts (.classLink RL 77 "java/lang/IllegalArgumentException") (by decide +kernel)
  have wc79 := hts (.classLink RL 79 "java/lang/IllegalStateException") (by decide +kernel)
  rw [f_L_does_13] at hf
  obtain ⟨R0, h0, hf⟩ := bd hf
  refine lv_iload_n (pc := 0) hx hb dL_does_0 rfl (lv_at hl 1 rfl) ?_
  refine lv_if_ne (pc := 1) (tgt := 13) hx hb dL_does_1 (by decide) (fun y1 => ?_) (fun y1 => absurd y1 (by decide))
  refine lv_iload_n (pc := 13) hx hb dL_does_13 rfl (lv_at hl 1 rfl) ?_
  refine lv_iconst (pc := 14) (v := 1) hx hb dL_does_14 (by decide) ?_
  refine lv_icmp_ne (pc := 15) (tgt := 31) hx hb dL_does_15 (by decide) (fun y2 => ?_) (fun y2 => absurd y2 (by decide))
  refine lv_iload_n (pc := 31) hx hb dL_does_31 rfl (lv_at hl 1 rfl) ?_
  refine lv_iconst (pc := 32) (v := 2) hx hb dL_does_32 (by decide) ?_
  refine lv_icmp_ne (pc := 33) (tgt := 45) hx hb dL_does_33 (by decide) (fun y3 => ?_) (fun y3 => absurd y3 (by decide))
  refine lv_iload_n (pc := 45) hx hb dL_does_45 rfl (lv_at hl 1 rfl) ?_
  refine lv_iconst (pc := 46) (v := 3) hx hb dL_does_46 (by decide) ?_
  refine lv_icmp_ne (pc := 47) (tgt := 59) hx hb dL_does_47 (by decide) (fun y4 => ?_) (fun y4 => absurd y4 (by decide))
  refine lv_iload_n (pc := 59) hx hb dL_does_59 rfl (lv_at hl 1 rfl) ?_
  refine lv_iconst (pc := 60) (v := 4) hx hb dL_does_60 (by decide) ?_
  refine lv_icmp_ne (pc := 61) (tgt := 75) hx hb dL_does_61 (by decide) (fun y5 => ?_) (fun y5 => absurd y5 (by decide))
  refine lv_iload_n (pc := 75) hx hb dL_does_75 rfl (lv_at hl 1 rfl) ?_
  refine lv_iconst (pc := 76) (v := 5) hx hb dL_does_76 (by decide) ?_
  refine lv_icmp_ne (pc := 77) (tgt := 102) hx hb dL_does_77 (by decide) (fun y6 => ?_) (fun y6 => absurd y6 (by decide))
  refine lv_iload_n (pc := 102) hx hb dL_does_102 rfl (lv_at hl 1 rfl) ?_
  refine lv_bipush (pc := 103) (v := 6) hx hb dL_does_103 (by decide) ?_
  refine lv_icmp_ne (pc := 105) (tgt := 119) hx hb dL_does_105 (by decide) (fun y7 => ?_) (fun y7 => absurd y7 (by decide))
  refine lv_iload_n (pc := 119) hx hb dL_does_119 rfl (lv_at hl 1 rfl) ?_
  refine lv_bipush (pc := 120) (v := 7) hx hb dL_does_120 (by decide) ?_
  refine lv_icmp_ne (pc := 122) (tgt := 136) hx hb dL_does_122 (by decide) (fun y8 => ?_) (fun y8 => absurd y8 (by decide))
  refine lv_iload_n (pc := 136) hx hb dL_does_136 rfl (lv_at hl 1 rfl) ?_
  refine lv_bipush (pc := 137) (v := 8) hx hb dL_does_137 (by decide) ?_
  refine lv_icmp_ne (pc := 139) (tgt := 153) hx hb dL_does_139 (by decide) (fun y9 => ?_) (fun y9 => absurd y9 (by decide))
  refine lv_iload_n (pc := 153) hx hb dL_does_153 rfl (lv_at hl 1 rfl) ?_
  refine lv_bipush (pc := 154) (v := 9) hx hb dL_does_154 (by decide) ?_
  refine lv_icmp_ne (pc := 156) (tgt := 175) hx hb dL_does_156 (by decide) (fun y10 => ?_) (fun y10 => absurd y10 (by decide))
  refine lv_iload_n (pc := 175) hx hb dL_does_175 rfl (lv_at hl 1 rfl) ?_
  refine lv_bipush (pc := 176) (v := 10) hx hb dL_does_176 (by decide) ?_
  refine lv_icmp_ne (pc := 178) (tgt := 189) hx hb dL_does_178 (by decide) (fun y11 => ?_) (fun y11 => absurd y11 (by decide))
  refine lv_iload_n (pc := 189) hx hb dL_does_189 rfl (lv_at hl 1 rfl) ?_
  refine lv_bipush (pc := 190) (v := 11) hx hb dL_does_190 (by decide) ?_
  refine lv_icmp_ne (pc := 192) (tgt := 202) hx hb dL_does_192 (by decide) (fun y12 => ?_) (fun y12 => absurd y12 (by decide))
  refine lv_iload_n (pc := 202) hx hb dL_does_202 rfl (lv_at hl 1 rfl) ?_
  refine lv_bipush (pc := 203) (v := 12) hx hb dL_does_203 (by decide) ?_
  refine lv_icmp_ne (pc := 205) (tgt := 217) hx hb dL_does_205 (by decide) (fun y13 => ?_) (fun y13 => absurd y13 (by decide))
  refine lv_iload_n (pc := 217) hx hb dL_does_217 rfl (lv_at hl 1 rfl) ?_
  refine lv_bipush (pc := 218) (v := 13) hx hb dL_does_218 (by decide) ?_
  refine lv_icmp_ne (pc := 220) (tgt := 232) hx hb dL_does_220 (by decide) (fun y14 => absurd rfl y14) (fun y14 => ?_)
  refine lv_aload_n (pc := 223) hx hb dL_does_223 rfl (lv_at hl 0 rfl) ?_
  refine lv_iload_n (pc := 224) hx hb dL_does_224 rfl (lv_at hl 2 rfl) ?_
  refine lv_iload_n (pc := 225) hx hb dL_does_225 rfl (lv_at hl 3 rfl) ?_
  rcases R0 with k | r
  · have hf := (sumE_l).symm.trans hf
    refine th_Lx (pc := 226) (C := RX6) (As := [.int a, .int b1]) (rest := []) ⟨hx, hb, hml, hown, hts⟩ (c_X6_ofUnit Z l hst b h a b1 (.inl k) h0) (cwV 2 hts gL_does_X6_ofUnit rfl rfl rfl hv_X6_ofUnit ⟨Nat.le_of_ble_eq_true rfl, Nat.le_of_ble_eq_true rfl⟩) hK hE hP hD hS hA hZ [0, 1, 2, 3, 4, 5, 6, 7, 8, 9, 10, 11, 12, 13, 14, 15, 16, 17, 18, 19, 20, 21, 22, 23, 24, 25, 26, 27, 28, 29, 30, 31, 32, 33, 34, 35, 36, 37, 38, 39] [] [0, 1, 2, 3, 4, 5, 6, 7, 8, 9, 10, 11, 12, 13, 14, 15, 16, 17, 18, 19, 20, 21, 22, 23, 24, 25, 26, 27, 28, 29, 30, 31, 32, 33, 34, 35, 36, 37, 38, 39] rfl rfl rfl rfl 6 rfl rfl rfl hl.1 rfl (lv_room (Nat.le_of_ble_eq_true rfl)) dL_does_226 ⟨Nat.le_of_ble_eq_true rfl, Nat.le_of_ble_eq_true rfl⟩ (fun q9 ce H locs hP hD hS hq hv hcl => ?_)
    by_cases z1 : k = 3
    · have hf := (if_pos z1).symm.trans hf
      subst z1
      refine vx_catch (name := exN 3) hown [] ⟨0, 287, 288, 74⟩ [⟨0, 287, 293, 77⟩, ⟨0, 287, 298, 79⟩] (htab.trans rfl) (fun _ h => nomatch h) (by decide) (by decide) wc74 (va_Nw.use rfl (hE.2.2.2.1 3)) hq hv hcl ?_
      refine lv_astore (pc := 288) (lv' := [(6, .ref q9), (0, .ref (b 0 0)), (1, .int 13), (2, .int a), (3, .int b1), (4, .int c1), (5, .int d1)]) hx hb dL_does_288 hl (by decide) rfl (fun ls hl => ?_)
      refine lv_ldc (pc := 290) (v := (-2100000000)) hx hb hown w76 dL_does_290 ?_
      have hf := (Option.some.inj hf)
      subst hf
      exact vx_ret (rw_i (fun _ => 0) hx hb hr hlk rfl hP hD hS dL_does_292)
    · have hf := (if_neg z1).symm.trans hf
      by_cases z2 : k = 1
      · have hf := (if_pos z2).symm.trans hf
        subst z2
        refine vx_catch (name := exN 1) hown [⟨0, 287, 288, 74⟩] ⟨0, 287, 293, 77⟩ [⟨0, 287, 298, 79⟩] (htab.trans rfl) (fun z hz => by rcases List.mem_cons.mp hz with rfl | hz; { exact Or.inr ⟨by decide, exN 3, wc74, hE.2.2.2.2.1 1 3 (by decide)⟩ };  exact nomatch hz) (by decide) (by decide) wc77 (va_Nw.use rfl (hE.2.2.2.1 1)) hq hv hcl ?_
        refine lv_astore (pc := 293) (lv' := [(6, .ref q9), (0, .ref (b 0 0)), (1, .int 13), (2, .int a), (3, .int b1), (4, .int c1), (5, .int d1)]) hx hb dL_does_293 hl (by decide) rfl (fun ls hl => ?_)
        refine lv_ldc (pc := 295) (v := (-2100000000)) hx hb hown w76 dL_does_295 ?_
        have hf := (Option.some.inj hf)
        subst hf
        exact vx_ret (rw_i (fun _ => 0) hx hb hr hlk rfl hP hD hS dL_does_297)
      · have hf := (if_neg z2).symm.trans hf
        by_cases z3 : k = 2
        · have hf := (if_pos z3).symm.trans hf
          subst z3
          refine vx_catch (name := exN 2) hown [⟨0, 287, 288, 74⟩, ⟨0, 287, 293, 77⟩] ⟨0, 287, 298, 79⟩ [] (htab.trans rfl) (fun z hz => by rcases List.mem_cons.mp hz with rfl | hz; { exact Or.inr ⟨by decide, exN 3, wc74, hE.2.2.2.2.1 2 3 (by decide)⟩ }; rcases List.mem_cons.mp hz with rfl | hz; { exact Or.inr ⟨by decide, exN 1, wc77, hE.2.2.2.2.1 2 1 (by decide)⟩ };  exact nomatch hz) (by decide) (by decide) wc79 (va_Nw.use rfl (hE.2.2.2.1 2)) hq hv hcl ?_
          refine lv_astore (pc := 298) (lv' := [(6, .ref q9), (0, .ref (b 0 0)), (1, .int 13), (2, .int a), (3, .int b1), (4, .int c1), (5, .int d1)]) hx hb dL_does_298 hl (by decide) rfl (fun ls hl => ?_)
          refine lv_ldc (pc := 300) (v := (-2100000000)) hx hb hown w76 dL_does_300 ?_
          have hf := (Option.some.inj hf)
          subst hf
          exact vx_ret (rw_i (fun _ => 0) hx hb hr hlk rfl hP hD hS dL_does_302)
        · have hf := (if_neg z3).symm.trans hf
          exact nomatch hf
  · have hf := (sumE_r).symm.trans hf
    refine th_Ln (pc := 226) (C := RX6) (As := [.int a, .int b1]) (rest := []) (st1 := [.int r]) (wn := fun _ => wH Z b h) ⟨hx, hb, hml, hown, hts⟩ (c_X6_ofUnit Z l hst b h a b1 (.inr r) h0) (cwV 2 hts gL_does_X6_ofUnit rfl rfl rfl hv_X6_ofUnit ⟨Nat.le_of_ble_eq_true rfl, Nat.le_of_ble_eq_true rfl⟩) hK hE hP hD hS hA hZ [0, 1, 2, 3, 4, 5, 6, 7, 8, 9, 10, 11, 12, 13, 14, 15, 16, 17, 18, 19, 20, 21, 22, 23, 24, 25, 26, 27, 28, 29, 30, 31, 32, 33, 34, 35, 36, 37, 38, 39] [] [0, 1, 2, 3, 4, 5, 6, 7, 8, 9, 10, 11, 12, 13, 14, 15, 16, 17, 18, 19, 20, 21, 22, 23, 24, 25, 26, 27, 28, 29, 30, 31, 32, 33, 34, 35, 36, 37, 38, 39] rfl rfl rfl (fun _ => rfl) 6 rfl rfl rfl hl.1 rfl (lv_room (Nat.le_of_ble_eq_true rfl)) dL_does_226 ⟨Nat.le_of_ble_eq_true rfl, Nat.le_of_ble_eq_true rfl⟩ rfl (fun _ H locs hP hD hS => ?_)
    refine lv_goto (pc := 229) (tgt := 287) hx hb dL_does_229 (by decide) ?_
    have hf := (Option.some.inj hf)
    subst hf
    exact vx_ret (rw_i (fun _ => 0) hx hb hr hlk rfl hP hD hS dL_does_287)
set_option maxHeartbeats 4000000 in
set_option maxRecDepth 100000 in
theorem c_L_does_14 (Z : EnvT) (l : Launch) (hst : l.stackTraces = false) (b : Nat → Nat → Nat) (h : Nat → ObS) (a b1 c1 d1 : Int32) (R : Int32) (hf : f_L_does_14 h a b1 c1 d1 = some R) : WR Z l yL_does wsL_does { frames := 9, cells := 2, slots := 12, locals := 186 } [.ref (b 0 0), .int 14, .int a, .int b1, .int c1, .int d1] (wH Z b h) (some (.int R)) (fun _ => wH Z b h) 2 12 := by
  refine wr_of (cc := cL_does) (maxL := 7) (ret := (some .int)) (hh := [(0, 287, 288, 74), (0, 287, 293, 77), (0, 287, 298, 79)]) (by decide) rfl (Nat.le_of_ble_eq_true rfl) ?_
  intro p e s m below meth c A ls hx hb hr hml hts hown hlk htab hP hK hE hD hA hS hZ hl
  have hown : s.vm.findClass RL = some m.cls := hown
  have hl : lv_has ls 7 [(0, .ref (b 0 0)), (1, .int 14), (2, .int a), (3, .int b1), (4, .int c1), (5, .int d1)] := hl
  have w76 := hts (.constant RL 76 (-2100000000)) (by decide +kernel)
  have wc74 := hts (.classLink RL 74 "java/lang/IndexOutOfBoundsException") (by decide +kernel)
  have wc77 := hts (.classLink RL 77 "java/lang/IllegalArgumentException") (by decide +kernel)
  have wc79 := hts (.classLink RL 79 "java/lang/IllegalStateException") (by decide +kernel)
  rw [f_L_does_14] at hf
  obtain ⟨R0, h0, hf⟩ := bd hf
  refine lv_iload_n (pc := 0) hx hb dL_does_0 rfl (lv_at hl 1 rfl) ?_
  refine lv_if_ne (pc := 1) (tgt := 13) hx hb dL_does_1 (by decide) (fun y1 => ?_) (fun y1 => absurd y1 (by decide))
  refine lv_iload_n (pc := 13) hx hb dL_does_13 rfl (lv_at hl 1 rfl) ?_
  refine lv_iconst (pc := 14) (v := 1) hx hb dL_does_14 (by decide) ?_
  refine lv_icmp_ne (pc := 15) (tgt := 31) hx hb dL_does_15 (by decide) (fun y2 => ?_) (fun y2 => absurd y2 (by decide))
  refine lv_iload_n (pc := 31) hx hb dL_does_31 rfl (lv_at hl 1 rfl) ?_
  refine lv_iconst (pc := 32) (v := 2) hx hb dL_does_32 (by decide) ?_
  refine lv_icmp_ne (pc := 33) (tgt := 45) hx hb dL_does_33 (by decide) (fun y3 => ?_) (fun y3 => absurd y3 (by decide))
  refine lv_iload_n (pc := 45) hx hb dL_does_45 rfl (lv_at hl 1 rfl) ?_
  refine lv_iconst (pc := 46) (v := 3) hx hb dL_does_46 (by decide) ?_
  refine lv_icmp_ne (pc := 47) (tgt := 59) hx hb dL_does_47 (by decide) (fun y4 => ?_) (fun y4 => absurd y4 (by decide))
  refine lv_iload_n (pc := 59) hx hb dL_does_59 rfl (lv_at hl 1 rfl) ?_
  refine lv_iconst (pc := 60) (v := 4) hx hb dL_does_60 (by decide) ?_
  refine lv_icmp_ne (pc := 61) (tgt := 75) hx hb dL_does_61 (by decide) (fun y5 => ?_) (fun y5 => absurd y5 (by decide))
  refine lv_iload_n (pc := 75) hx hb dL_does_75 rfl (lv_at hl 1 rfl) ?_
  refine lv_iconst (pc := 76) (v := 5) hx hb dL_does_76 (by decide) ?_
  refine lv_icmp_ne (pc := 77) (tgt := 102) hx hb dL_does_77 (by decide) (fun y6 => ?_) (fun y6 => absurd y6 (by decide))
  refine lv_iload_n (pc := 102) hx hb dL_does_102 rfl (lv_at hl 1 rfl) ?_
  refine lv_bipush (pc := 103) (v := 6) hx hb dL_does_103 (by decide) ?_
  refine lv_icmp_ne (pc := 105) (tgt := 119) hx hb dL_does_105 (by decide) (fun y7 => ?_) (fun y7 => absurd y7 (by decide))
  refine lv_iload_n (pc := 119) hx hb dL_does_119 rfl (lv_at hl 1 rfl) ?_
  refine lv_bipush (pc := 120) (v := 7) hx hb dL_does_120 (by decide) ?_
  refine lv_icmp_ne (pc := 122) (tgt := 136) hx hb dL_does_122 (by decide) (fun y8 => ?_) (fun y8 => absurd y8 (by decide))
  refine lv_iload_n (pc := 136) hx hb dL_does_136 rfl (lv_at hl 1 rfl) ?_
  refine lv_bipush (pc := 137) (v := 8) hx hb dL_does_137 (by decide) ?_
  refine lv_icmp_ne (pc := 139) (tgt := 153) hx hb dL_does_139 (by decide) (fun y9 => ?_) (fun y9 => absurd y9 (by decide))
  refine lv_iload_n (pc := 153) hx hb dL_does_153 rfl (lv_at hl 1 rfl) ?_
  refine lv_bipush (pc := 154) (v := 9) hx hb dL_does_154 (by decide) ?_
  refine lv_icmp_ne (pc := 156) (tgt := 175) hx hb dL_does_156 (by decide) (fun y10 => ?_) (fun y10 => absurd y10 (by decide))
  refine lv_iload_n (pc := 175) hx hb dL_does_175 rfl (lv_at hl 1 rfl) ?_
  refine lv_bipush (pc := 176) (v := 10) hx hb dL_does_176 (by decide) ?_
  refine lv_icmp_ne (pc := 178) (tgt := 189) hx hb dL_does_178 (by decide) (fun y11 => ?_) (fun y11 => absurd y11 (by decide))
  refine lv_iload_n (pc := 189) hx hb dL_does_189 rfl (lv_at hl 1 rfl) ?_
  refine lv_bipush (pc := 190) (v := 11) hx hb dL_does_190 (by decide) ?_
  refine lv_icmp_ne (pc := 192) (tgt := 202) hx hb dL_does_192 (by decide) (fun y12 => ?_) (fun y12 => absurd y12 (by decide))
  refine lv_iload_n (pc := 202) hx hb dL_does_202 rfl (lv_at hl 1 rfl) ?_
  refine lv_bipush (pc := 203) (v := 12) hx hb dL_does_203 (by decide) ?_
  refine lv_icmp_ne (pc := 205) (tgt := 217) hx hb dL_does_205 (by decide) (fun y13 => ?_) (fun y13 => absurd y13 (by decide))
  refine lv_iload_n (pc := 217) hx hb dL_does_217 rfl (lv_at hl 1 rfl) ?_
  refine lv_bipush (pc := 218) (v := 13) hx hb dL_does_218 (by decide) ?_
  refine lv_icmp_ne (pc := 220) (tgt := 232) hx hb dL_does_220 (by decide) (fun y14 => ?_) (fun y14 => absurd y14 (by decide))
  refine lv_iload_n (pc := 232) hx hb dL_does_232 rfl (lv_at hl 1 rfl) ?_
  refine lv_bipush (pc := 233) (v := 14) hx hb dL_does_233 (by decide) ?_
  refine lv_icmp_ne (pc := 235) (tgt := 247) hx hb dL_does_235 (by decide) (fun y15 => absurd rfl y15) (fun y15 => ?_)
  refine lv_aload_n (pc := 238) hx hb dL_does_238 rfl (lv_at hl 0 rfl) ?_
  refine lv_iload_n (pc := 239) hx hb dL_does_239 rfl (lv_at hl 2 rfl) ?_
  refine lv_iload_n (pc := 240) hx hb dL_does_240 rfl (lv_at hl 3 rfl) ?_
  rcases R0 with k | r
  · have hf := (sumE_l).symm.trans hf
    refine th_Lx (pc := 241) (C := RX6) (As := [.int a, .int b1]) (rest := []) ⟨hx, hb, hml, hown, hts⟩ (c_X6_ofController Z l hst b h a b1 (.inl k) h0) (cwV 2 hts gL_does_X6_ofController rfl rfl rfl hv_X6_ofController ⟨Nat.le_of_ble_eq_true rfl, Nat.le_of_ble_eq_true rfl⟩) hK hE hP hD hS hA hZ [0, 1, 2, 3, 4, 5, 6, 7, 8, 9, 10, 11, 12, 13, 14, 15, 16, 17, 18, 19, 20, 21, 22, 23, 24, 25, 26, 27, 28, 29, 30, 31, 32, 33, 34, 35, 36, 37, 38, 39] [] [0, 1, 2, 3, 4, 5, 6, 7, 8, 9, 10, 11, 12, 13, 14, 15, 16, 17, 18, 19, 20, 21, 22, 23, 24, 25, 26, 27, 28, 29, 30, 31, 32, 33, 34, 35, 36, 37, 38, 39] rfl rfl rfl rfl 6 rfl rfl rfl hl.1 rfl (lv_room (Nat.le_of_ble_eq_true rfl)) dL_does_241 ⟨Nat.le_of_ble_eq_true rfl, Nat.le_of_ble_eq_true rfl⟩ (fun q9 ce H locs hP hD hS hq hv hcl => ?_)
    by_cases z1 : k = 3
    · have hf := (if_pos z1).symm.trans hf
      subst z1
      refine vx_catch (name := exN 3) hown [] ⟨0, 287, 288, 74⟩ [⟨0, 287, 293, 77⟩, ⟨0, 287, 298, 79⟩] (htab.trans rfl) (fun _ h => nomatch h) (by decide) (by decide) wc74 (va_Nw.use rfl (hE.2.2.2.1 3)) hq hv hcl ?_
      refine lv_astore (pc := 288) (lv' := [(6, .ref q9), (0, .ref (b 0 0)), (1, .int 14), (2, .int a), (3, .int b1), (4, .int c1), (5, .int d1)]) hx hb dL_does_288 hl (by decide) rfl (fun ls hl => ?_)
      refine lv_ldc (pc := 290) (v := (-2100000000)) hx hb hown w76 dL_does_290 ?_
      have hf := (Option.some.inj hf)
      subst hf
      exact vx_ret (rw_i (fun _ => 0) hx hb hr hlk rfl hP hD hS dL_does_292)
    · have hf := (if_neg z1).symm.trans hf
      by_cases z2 : k = 1
      · have hf := (if_pos z2).symm.trans hf
        subst z2
        refine vx_catch (name := exN 1) hown [⟨0, 287, 288, 74⟩] ⟨0, 287, 293, 77⟩ [⟨0, 287, 298, 79⟩] (htab.trans rfl) (fun z hz => by rcases List.mem_cons.mp hz with rfl | hz; { exact Or.inr ⟨by decide, exN 3, wc74, hE.2.2.2.2.1 1 3 (by decide)⟩ };  exact nomatch hz) (by decide) (by decide) wc77 (va_Nw.use rfl (hE.2.2.2.1 1)) hq hv hcl ?_
        refine lv_astore (pc := 293) (lv' := [(6, .ref q9), (0, .ref (b 0 0)), (1, .int 14), (2, .int a), (3, .int b1), (4, .int c1), (5, .int d1)]) hx hb dL_does_293 hl (by decide) rfl (fun ls hl => ?_)
        refine lv_ldc (pc := 295) (v := (-2100000000)) hx hb hown w76 dL_does_295 ?_
        have hf := (Option.some.inj hf)
        subst hf
        exact vx_ret (rw_i (fun _ => 0) hx hb hr hlk rfl hP hD hS dL_does_297)
      · have hf := (if_neg z2).symm.trans hf
        by_cases z3 : k = 2
        · have hf := (if_pos z3).symm.trans hf
          subst z3
          refine vx_catch (name := exN 2) hown [⟨0, 287, 288, 74⟩, ⟨0, 287, 293, 77⟩] ⟨0, 287, 298, 79⟩ [] (htab.trans rfl) (fun z hz => by rcases List.mem_cons.mp hz with rfl | hz; { exact Or.inr ⟨by decide, exN 3, wc74, hE.2.2.2.2.1 2 3 (by decide)⟩ }; rcases List.mem_cons.mp hz with rfl | hz; { exact Or.inr ⟨by decide, exN 1, wc77, hE.2.2.2.2.1 2 1 (by decide)⟩ };  exact nomatch hz) (by decide) (by decide) wc79 (va_Nw.use rfl (hE.2.2.2.1 2)) hq hv hcl ?_
          refine lv_astore (pc := 298) (lv' := [(6, .ref q9), (0, .ref (b 0 0)), (1, .int 14), (2, .int a), (3, .int b1), (4, .int c1), (5, .int d1)]) hx hb dL_does_298 hl (by decide) rfl (fun ls hl => ?_)
          refine lv_ldc (pc := 300) (v := (-2100000000)) hx hb hown w76 dL_does_300 ?_
          have hf := (Option.some.inj hf)
          subst hf
          exact vx_ret (rw_i (fun _ => 0) hx hb hr hlk rfl hP hD hS dL_does_302)
        · have hf := (if_neg z3).symm.trans hf
          exact nomatch hf
  · have hf := (sumE_r).symm.trans hf
    refine th_Ln (pc := 241) (C := RX6) (As := [.int a, .int b1]) (rest := []) (st1 := [.int r]) (wn := fun _ => wH Z b h) ⟨hx, hb, hml, hown, hts⟩ (c_X6_ofController Z l hst b h a b1 (.inr r) h0) (cwV 2 hts gL_does_X6_ofController rfl rfl rfl hv_X6_ofController ⟨Nat.le_of_ble_eq_true rfl, Nat.le_of_ble_eq_true rfl⟩) hK hE hP hD hS hA hZ [0, 1, 2, 3, 4, 5, 6, 7, 8, 9, 10, 11, 12, 13, 14, 15, 16, 17, 18, 19, 20, 21, 22, 23, 24, 25, 26, 27, 28, 29, 30, 31, 32, 33, 34, 35, 36, 37, 38, 39] [] [0, 1, 2, 3, 4, 5, 6, 7, 8, 9, 10, 11, 12, 13, 14, 15, 16, 17, 18, 19, 20, 21, 22, 23, 24, 25, 26, 27, 28, 29, 30, 31, 32, 33, 34, 35, 36, 37, 38, 39] rfl rfl rfl (fun _ => rfl) 6 rfl rfl rfl hl.1 rfl (lv_room (Nat.le_of_ble_eq_true rfl)) dL_does_241 ⟨Nat.le_of_ble_eq_true rfl, Nat.le_of_ble_eq_true rfl⟩ rfl (fun _ H locs hP hD hS => ?_)
    refine lv_goto (pc := 244) (tgt := 287) hx hb dL_does_244 (by decide) ?_
    have hf := (Option.some.inj hf)
    subst hf
    exact vx_ret (rw_i (fun _ => 0) hx hb hr hlk rfl hP hD hS dL_does_287)
set_option maxHeartbeats 4000000 in
set_option maxRecDepth 100000 in
theorem c_L_does_15 (Z : EnvT) (l : Launch) (hst : l.stackTraces = false) (b : Nat → Nat → Nat) (h : Nat → ObS) (a b1 c1 d1 : Int32) (R : Int32) (hf : f_L_does_15 h a b1 c1 d1 = some R) : WR Z l yL_does wsL_does { frames := 9, cells := 2, slots := 12, locals := 186 } [.ref (b 0 0), .int 15, .int a, .int b1, .int c1, .int d1] (wH Z b h) (some (.int R)) (fun _ => wH Z b h) 2 12 := by
  refine wr_of (cc := cL_does) (maxL := 7) (ret := (some .int)) (hh := [(0, 287, 288, 74), (0, 287, 293, 77), (0, 287, 298, 79)]) (by decide) rfl (Nat.le_of_ble_eq_true rfl) ?_
  intro p e s m below meth c A ls hx hb hr hml hts hown hlk htab hP hK hE hD hA hS hZ hl
  have hown : s.vm.findClass RL = some m.cls := hown
  have hl : lv_has ls 7 [(0, .ref (b 0 0)), (1, .int 15), (2, .int a), (3, .int b1), (4, .int c1), (5, .int d1)] := hl
  have w76 := hts (.constant RL 76 (-2100000000)) (by decide +kernel)
  have wc74 := hts (.classLink RL 74 "java/lang/IndexOutOfBoundsException") (by decide +kernel)
  have wc77 := hts (.classLink RL 77 "java/lang/IllegalArgumentException") (by decide +kernel)
  have wc79 := hts (.classLink RL 79 "java/lang/IllegalStateException") (by decide +kernel)
  rw [f_L_does_15] at hf
  obtain ⟨R0, h0, hf⟩ := bd hf
  refine lv_iload_n (pc := 0) hx hb dL_does_0 rfl (lv_at hl 1 rfl) ?_
  refine lv_if_ne (pc := 1) (tgt := 13) hx hb dL_does_1 (by decide) (fun y1 => ?_) (fun y1 => absurd y1 (by decide))
  refine lv_iload_n (pc := 13) hx hb dL_does_13 rfl (lv_at hl 1 rfl) ?_
  refine lv_iconst (pc := 14) (v := 1) hx hb dL_does_14 (by decide) ?_
  refine lv_icmp_ne (pc := 15) (tgt := 31) hx hb dL_does_15 (by decide) (fun y2 => ?_) (fun y2 => absurd y2 (by decide))
  refine lv_iload_n (pc := 31) hx hb dL_does_31 rfl (lv_at hl 1 rfl) ?_
  refine lv_iconst (pc := 32) (v := 2) hx hb dL_does_32 (by decide) ?_
  refine lv_icmp_ne (pc := 33) (tgt := 45) hx hb dL_does_33 (by decide) (fun y3 => ?_) (fun y3 => absurd y3 (by decide))
  refine lv_iload_n (pc := 45) hx hb dL_does_45 rfl (lv_at hl 1 rfl) ?_
  refine lv_iconst (pc := 46) (v := 3) hx hb dL_does_46 (by decide) ?_
  refine lv_icmp_ne (pc := 47) (tgt := 59) hx hb dL_does_47 (by decide) (fun y4 => ?_) (fun y4 => absurd y4 (by decide))
  refine lv_iload_n (pc := 59) hx hb dL_does_59 rfl (lv_at hl 1 rfl) ?_
  refine lv_iconst (pc := 60) (v := 4) hx hb dL_does_60 (by decide) ?_
  refine lv_icmp_ne (pc := 61) (tgt := 75) hx hb dL_does_61 (by decide) (fun y5 => ?_) (fun y5 => absurd y5 (by decide))
  refine lv_iload_n (pc := 75) hx hb dL_does_75 rfl (lv_at hl 1 rfl) ?_
  refine lv_iconst (pc := 76) (v := 5) hx hb dL_does_76 (by decide) ?_
  refine lv_icmp_ne (pc := 77) (tgt := 102) hx hb dL_does_77 (by decide) (fun y6 => ?_) (fun y6 => absurd y6 (by decide))
  refine lv_iload_n (pc := 102) hx hb dL_does_102 rfl (lv_at hl 1 rfl) ?_
  refine lv_bipush (pc := 103) (v := 6) hx hb dL_does_103 (by decide) ?_
  refine lv_icmp_ne (pc := 105) (tgt := 119) hx hb dL_does_105 (by decide) (fun y7 => ?_) (fun y7 => absurd y7 (by decide))
  refine lv_iload_n (pc := 119) hx hb dL_does_119 rfl (lv_at hl 1 rfl) ?_
  refine lv_bipush (pc := 120) (v := 7) hx hb dL_does_120 (by decide) ?_
  refine lv_icmp_ne (pc := 122) (tgt := 136) hx hb dL_does_122 (by decide) (fun y8 => ?_) (fun y8 => absurd y8 (by decide))
  refine lv_iload_n (pc := 136) hx hb dL_does_136 rfl (lv_at hl 1 rfl) ?_
  refine lv_bipush (pc := 137) (v := 8) hx hb dL_does_137 (by decide) ?_
  refine lv_icmp_ne (pc := 139) (tgt := 153) hx hb dL_does_139 (by decide) (fun y9 => ?_) (fun y9 => absurd y9 (by decide))
  refine lv_iload_n (pc := 153) hx hb dL_does_153 rfl (lv_at hl 1 rfl) ?_
  refine lv_bipush (pc := 154) (v := 9) hx hb dL_does_154 (by decide) ?_
  refine lv_icmp_ne (pc := 156) (tgt := 175) hx hb dL_does_156 (by decide) (fun y10 => ?_) (fun y10 => absurd y10 (by decide))
  refine lv_iload_n (pc := 175) hx hb dL_does_175 rfl (lv_at hl 1 rfl) ?_
  refine lv_bipush (pc := 176) (v := 10) hx hb dL_does_176 (by decide) ?_
  refine lv_icmp_ne (pc := 178) (tgt := 189) hx hb dL_does_178 (by decide) (fun y11 => ?_) (fun y11 => absurd y11 (by decide))
  refine lv_iload_n (pc := 189) hx hb dL_does_189 rfl (lv_at hl 1 rfl) ?_
  refine lv_bipush (pc := 190) (v := 11) hx hb dL_does_190 (by decide) ?_
  refine lv_icmp_ne (pc := 192) (tgt := 202) hx hb dL_does_192 (by decide) (fun y12 => ?_) (fun y12 => absurd y12 (by decide))
  refine lv_iload_n (pc := 202) hx hb dL_does_202 rfl (lv_at hl 1 rfl) ?_
  refine lv_bipush (pc := 203) (v := 12) hx hb dL_does_203 (by decide) ?_
  refine lv_icmp_ne (pc := 205) (tgt := 217) hx hb dL_does_205 (by decide) (fun y13 => ?_) (fun y13 => absurd y13 (by decide))
  refine lv_iload_n (pc := 217) hx hb dL_does_217 rfl (lv_at hl 1 rfl) ?_
  refine lv_bipush (pc := 218) (v := 13) hx hb dL_does_218 (by decide) ?_
  refine lv_icmp_ne (pc := 220) (tgt := 232) hx hb dL_does_220 (by decide) (fun y14 => ?_) (fun y14 => absurd y14 (by decide))
  refine lv_iload_n (pc := 232) hx hb dL_does_232 rfl (lv_at hl 1 rfl) ?_
  refine lv_bipush (pc := 233) (v := 14) hx hb dL_does_233 (by decide) ?_
  refine lv_icmp_ne (pc := 235) (tgt := 247) hx hb dL_does_235 (by decide) (fun y15 => ?_) (fun y15 => absurd y15 (by decide))
  refine lv_iload_n (pc := 247) hx hb dL_does_247 rfl (lv_at hl 1 rfl) ?_
  refine lv_bipush (pc := 248) (v := 15) hx hb dL_does_248 (by decide) ?_
  refine lv_icmp_ne (pc := 250) (tgt := 262) hx hb dL_does_250 (by decide) (fun y16 => absurd rfl y16) (fun y16 => ?_)
  refine lv_aload_n (pc := 253) hx hb dL_does_253 rfl (lv_at hl 0 rfl) ?_
  refine lv_iload_n (pc := 254) hx hb dL_does_254 rfl (lv_at hl 2 rfl) ?_
  refine lv_iload_n (pc := 255) hx hb dL_does_255 rfl (lv_at hl 3 rfl) ?_
  rcases R0 with k | r
  · have hf := (sumE_l).symm.trans hf
    refine th_Lx (pc := 256) (C := RX6) (As := [.int a, .int b1]) (rest := []) ⟨hx, hb, hml, hown, hts⟩ (c_X6_trend Z l hst b h a b1 (.inl k) h0) (cwV 2 hts gL_does_X6_trend rfl rfl rfl hv_X6_trend ⟨Nat.le_of_ble_eq_true rfl, Nat.le_of_ble_eq_true rfl⟩) hK hE hP hD hS hA hZ [0, 1, 2, 3, 4, 5, 6, 7, 8, 9, 10, 11, 12, 13, 14, 15, 16, 17, 18, 19, 20, 21, 22, 23, 24, 25, 26, 27, 28, 29, 30, 31, 32, 33, 34, 35, 36, 37, 38, 39] [] [0, 1, 2, 3, 4, 5, 6, 7, 8, 9, 10, 11, 12, 13, 14, 15, 16, 17, 18, 19, 20, 21, 22, 23, 24, 25, 26, 27, 28, 29, 30, 31, 32, 33, 34, 35, 36, 37, 38, 39] rfl rfl rfl rfl 6 rfl rfl rfl hl.1 rfl (lv_room (Nat.le_of_ble_eq_true rfl)) dL_does_256 ⟨Nat.le_of_ble_eq_true rfl, Nat.le_of_ble_eq_true rfl⟩ (fun q9 ce H locs hP hD hS hq hv hcl => ?_)
    by_cases z1 : k = 3
    · have hf := (if_pos z1).symm.trans hf
      subst z1
      refine vx_catch (name := exN 3) hown [] ⟨0, 287, 288, 74⟩ [⟨0, 287, 293, 77⟩, ⟨0, 287, 298, 79⟩] (htab.trans rfl) (fun _ h => nomatch h) (by decide) (by decide) wc74 (va_Nw.use rfl (hE.2.2.2.1 3)) hq hv hcl ?_
      refine lv_astore (pc := 288) (lv' := [(6, .ref q9), (0, .ref (b 0 0)), (1, .int 15), (2, .int a), (3, .int b1), (4, .int c1), (5, .int d1)]) hx hb dL_does_288 hl (by decide) rfl (fun ls hl => ?_)
      refine lv_ldc (pc := 290) (v := (-2100000000)) hx hb hown w76 dL_does_290 ?_
      have hf := (Option.some.inj hf)
      subst hf
      exact vx_ret (rw_i (fun _ => 0) hx hb hr hlk rfl hP hD hS dL_does_292)
    · have hf := (if_neg z1).symm.trans hf
      by_cases z2 : k = 1
      · have hf := (if_pos z2).symm.trans hf
        subst z2
        refine vx_catch (name := exN 1) hown [⟨0, 287, 288, 74⟩] ⟨0, 287, 293, 77⟩ [⟨0, 287, 298, 79⟩] (htab.trans rfl) (fun z hz => by rcases List.mem_cons.mp hz with rfl | hz; { exact Or.inr ⟨by decide, exN 3, wc74, hE.2.2.2.2.1 1 3 (by decide)⟩ };  exact nomatch hz) (by decide) (by decide) wc77 (va_Nw.use rfl (hE.2.2.2.1 1)) hq hv hcl ?_
        refine lv_astore (pc := 293) (lv' := [(6, .ref q9), (0, .ref (b 0 0)), (1, .int 15), (2, .int a), (3, .int b1), (4, .int c1), (5, .int d1)]) hx hb dL_does_293 hl (by decide) rfl (fun ls hl => ?_)
        refine lv_ldc (pc := 295) (v := (-2100000000)) hx hb hown w76 dL_does_295 ?_
        have hf := (Option.some.inj hf)
        subst hf
        exact vx_ret (rw_i (fun _ => 0) hx hb hr hlk rfl hP hD hS dL_does_297)
      · have hf := (if_neg z2).symm.trans hf
        by_cases z3 : k = 2
        · have hf := (if_pos z3).symm.trans hf
          subst z3
          refine vx_catch (name := exN 2) hown [⟨0, 287, 288, 74⟩, ⟨0, 287, 293, 77⟩] ⟨0, 287, 298, 79⟩ [] (htab.trans rfl) (fun z hz => by rcases List.mem_cons.mp hz with rfl | hz; { exact Or.inr ⟨by decide, exN 3, wc74, hE.2.2.2.2.1 2 3 (by decide)⟩ }; rcases List.mem_cons.mp hz with rfl | hz; { exact Or.inr ⟨by decide, exN 1, wc77, hE.2.2.2.2.1 2 1 (by decide)⟩ };  exact nomatch hz) (by decide) (by decide) wc79 (va_Nw.use rfl (hE.2.2.2.1 2)) hq hv hcl ?_
          refine lv_astore (pc := 298) (lv' := [(6, .ref q9), (0, .ref (b 0 0)), (1, .int 15), (2, .int a), (3, .int b1), (4, .int c1), (5, .int d1)]) hx hb dL_does_298 hl (by decide) rfl (fun ls hl => ?_)
          refine lv_ldc (pc := 300) (v := (-2100000000)) hx hb hown w76 dL_does_300 ?_
          have hf := (Option.some.inj hf)
          subst hf
          exact vx_ret (rw_i (fun _ => 0) hx hb hr hlk rfl hP hD hS dL_does_302)
        · have hf := (if_neg z3).symm.trans hf
          exact nomatch hf
  · have hf := (sumE_r).symm.trans hf
    refine th_Ln (pc := 256) (C := RX6) (As := [.int a, .int b1]) (rest := []) (st1 := [.int r]) (wn := fun _ => wH Z b h) ⟨hx, hb, hml, hown, hts⟩ (c_X6_trend Z l hst b h a b1 (.inr r) h0) (cwV 2 hts gL_does_X6_trend rfl rfl rfl hv_X6_trend ⟨Nat.le_of_ble_eq_true rfl, Nat.le_of_ble_eq_true rfl⟩) hK hE hP hD hS hA hZ [0, 1, 2, 3, 4, 5, 6, 7, 8, 9, 10, 11, 12, 13, 14, 15, 16, 17, 18, 19, 20, 21, 22, 23, 24, 25, 26, 27, 28, 29, 30, 31, 32, 33, 34, 35, 36, 37, 38, 39] [] [0, 1, 2, 3, 4, 5, 6, 7, 8, 9, 10, 11, 12, 13, 14, 15, 16, 17, 18, 19, 20, 21, 22, 23, 24, 25, 26, 27, 28, 29, 30, 31, 32, 33, 34, 35, 36, 37, 38, 39] rfl rfl rfl (fun _ => rfl) 6 rfl rfl rfl hl.1 rfl (lv_room (Nat.le_of_ble_eq_true rfl)) dL_does_256 ⟨Nat.le_of_ble_eq_true rfl, Nat.le_of_ble_eq_true rfl⟩ rfl (fun _ H locs hP hD hS => ?_)
    refine lv_goto (pc := 259) (tgt := 287) hx hb dL_does_259 (by decide) ?_
    have hf := (Option.some.inj hf)
    subst hf
    exact vx_ret (rw_i (fun _ => 0) hx hb hr hlk rfl hP hD hS dL_does_287)
set_option maxHeartbeats 4000000 in
set_option maxRecDepth 100000 in
theorem c_L_does_16 (Z : EnvT) (l : Launch) (hst : l.stackTraces = false) (b : Nat → Nat → Nat) (h : Nat → ObS) (a b1 c1 d1 : Int32) (R : Int32 × (Nat → ObS)) (hf : f_L_does_16 h a b1 c1 d1 = some R) : WR Z l yL_does wsL_does { frames := 9, cells := 2, slots := 12, locals := 186 } [.ref (b 0 0), .int 16, .int a, .int b1, .int c1, .int d1] (wH Z b h) (some (.int R.1)) (fun _ => wH Z b R.2) 2 12 := by
  refine wr_of (cc := cL_does) (maxL := 7) (ret := (some .int)) (hh := [(0, 287, 288, 74), (0, 287, 293, 77), (0, 287, 298, 79)]) (by decide) rfl (Nat.le_of_ble_eq_true rfl) ?_
  intro p e s m below meth c A ls hx hb hr hml hts hown hlk htab hP hK hE hD hA hS hZ hl
  have hown : s.vm.findClass RL = some m.cls := hown
  have hl : lv_has ls 7 [(0, .ref (b 0 0)), (1, .int 16), (2, .int a), (3, .int b1), (4, .int c1), (5, .int d1)] := hl
  have w76 := hts (.constant RL 76 (-2100000000)) (by decide +kernel)
  have wc74 := hts (.classLink RL 74 "java/lang/IndexOutOfBoundsException") (by decide +kernel)
  have wc77 := hts (.classLink RL 77 "java/lang/IllegalArgumentException") (by decide +kernel)
  have wc79 := hts (.classLink RL 79 "java/lang/IllegalStateException") (by decide +kernel)
  rw [f_L_does_16] at hf
  obtain ⟨R0, h0, hf⟩ := bd hf
  refine lv_iload_n (pc := 0) hx hb dL_does_0 rfl (lv_at hl 1 rfl) ?_
  refine lv_if_ne (pc := 1) (tgt := 13) hx hb dL_does_1 (by decide) (fun y1 => ?_) (fun y1 => absurd y1 (by decide))
  refine lv_iload_n (pc := 13) hx hb dL_does_13 rfl (lv_at hl 1 rfl) ?_
  refine lv_iconst (pc := 14) (v := 1) hx hb dL_does_14 (by decide) ?_
  refine lv_icmp_ne (pc := 15) (tgt := 31) hx hb dL_does_15 (by decide) (fun y2 => ?_) (fun y2 => absurd y2 (by decide))
  refine lv_iload_n (pc := 31) hx hb dL_does_31 rfl (lv_at hl 1 rfl) ?_
  refine lv_iconst (pc := 32) (v := 2) hx hb dL_does_32 (by decide) ?_
  refine lv_icmp_ne (pc := 33) (tgt := 45) hx hb dL_does_33 (by decide) (fun y3 => ?_) (fun y3 => absurd y3 (by decide))
  refine lv_iload_n (pc := 45) hx hb dL_does_45 rfl (lv_at hl 1 rfl) ?_
  refine lv_iconst (pc := 46) (v := 3) hx hb dL_does_46 (by decide) ?_
  refine lv_icmp_ne (pc := 47) (tgt := 59) hx hb dL_does_47 (by decide) (fun y4 => ?_) (fun y4 => absurd y4 (by decide))
  refine lv_iload_n (pc := 59) hx hb dL_does_59 rfl (lv_at hl 1 rfl) ?_
  refine lv_iconst (pc := 60) (v := 4) hx hb dL_does_60 (by decide) ?_
  refine lv_icmp_ne (pc := 61) (tgt := 75) hx hb dL_does_61 (by decide) (fun y5 => ?_) (fun y5 => absurd y5 (by decide))
  refine lv_iload_n (pc := 75) hx hb dL_does_75 rfl (lv_at hl 1 rfl) ?_
  refine lv_iconst (pc := 76) (v := 5) hx hb dL_does_76 (by decide) ?_
  refine lv_icmp_ne (pc := 77) (tgt := 102) hx hb dL_does_77 (by decide) (fun y6 => ?_) (fun y6 => absurd y6 (by decide))
  refine lv_iload_n (pc := 102) hx hb dL_does_102 rfl (lv_at hl 1 rfl) ?_
  refine lv_bipush (pc := 103) (v := 6) hx hb dL_does_103 (by decide) ?_
  refine lv_icmp_ne (pc := 105) (tgt := 119) hx hb dL_does_105 (by decide) (fun y7 => ?_) (fun y7 => absurd y7 (by decide))
  refine lv_iload_n (pc := 119) hx hb dL_does_119 rfl (lv_at hl 1 rfl) ?_
  refine lv_bipush (pc := 120) (v := 7) hx hb dL_does_120 (by decide) ?_
  refine lv_icmp_ne (pc := 122) (tgt := 136) hx hb dL_does_122 (by decide) (fun y8 => ?_) (fun y8 => absurd y8 (by decide))
  refine lv_iload_n (pc := 136) hx hb dL_does_136 rfl (lv_at hl 1 rfl) ?_
  refine lv_bipush (pc := 137) (v := 8) hx hb dL_does_137 (by decide) ?_
  refine lv_icmp_ne (pc := 139) (tgt := 153) hx hb dL_does_139 (by decide) (fun y9 => ?_) (fun y9 => absurd y9 (by decide))
  refine lv_iload_n (pc := 153) hx hb dL_does_153 rfl (lv_at hl 1 rfl) ?_
  refine lv_bipush (pc := 154) (v := 9) hx hb dL_does_154 (by decide) ?_
  refine lv_icmp_ne (pc := 156) (tgt := 175) hx hb dL_does_156 (by decide) (fun y10 => ?_) (fun y10 => absurd y10 (by decide))
  refine lv_iload_n (pc := 175) hx hb dL_does_175 rfl (lv_at hl 1 rfl) ?_
  refine lv_bipush (pc := 176) (v := 10) hx hb dL_does_176 (by decide) ?_
  refine lv_icmp_ne (pc := 178) (tgt := 189) hx hb dL_does_178 (by decide) (fun y11 => ?_) (fun y11 => absurd y11 (by decide))
  refine lv_iload_n (pc := 189) hx hb dL_does_189 rfl (lv_at hl 1 rfl) ?_
  refine lv_bipush (pc := 190) (v := 11) hx hb dL_does_190 (by decide) ?_
  refine lv_icmp_ne (pc := 192) (tgt := 202) hx hb dL_does_192 (by decide) (fun y12 => ?_) (fun y12 => absurd y12 (by decide))
  refine lv_iload_n (pc := 202) hx hb dL_does_202 rfl (lv_at hl 1 rfl) ?_
  refine lv_bipush (pc := 203) (v := 12) hx hb dL_does_203 (by decide) ?_
  refine lv_icmp_ne (pc := 205) (tgt := 217) hx hb dL_does_205 (by decide) (fun y13 => ?_) (fun y13 => absurd y13 (by decide))
  refine lv_iload_n (pc := 217) hx hb dL_does_217 rfl (lv_at hl 1 rfl) ?_
  refine lv_bipush (pc := 218) (v := 13) hx hb dL_does_218 (by decide) ?_
  refine lv_icmp_ne (pc := 220) (tgt := 232) hx hb dL_does_220 (by decide) (fun y14 => ?_) (fun y14 => absurd y14 (by decide))
  refine lv_iload_n (pc := 232) hx hb dL_does_232 rfl (lv_at hl 1 rfl) ?_
  refine lv_bipush (pc := 233) (v := 14) hx hb dL_does_233 (by decide) ?_
  refine lv_icmp_ne (pc := 235) (tgt := 247) hx hb dL_does_235 (by decide) (fun y15 => ?_) (fun y15 => absurd y15 (by decide))
  refine lv_iload_n (pc := 247) hx hb dL_does_247 rfl (lv_at hl 1 rfl) ?_
  refine lv_bipush (pc := 248) (v := 15) hx hb dL_does_248 (by decide) ?_
  refine lv_icmp_ne (pc := 250) (tgt := 262) hx hb dL_does_250 (by decide) (fun y16 => ?_) (fun y16 => absurd y16 (by decide))
  refine lv_iload_n (pc := 262) hx hb dL_does_262 rfl (lv_at hl 1 rfl) ?_
  refine lv_bipush (pc := 263) (v := 16) hx hb dL_does_263 (by decide) ?_
  refine lv_icmp_ne (pc := 265) (tgt := 277) hx hb dL_does_265 (by decide) (fun y17 => absurd rfl y17) (fun y17 => ?_)
  refine lv_aload_n (pc := 268) hx hb dL_does_268 rfl (lv_at hl 0 rfl) ?_
  refine lv_iload_n (pc := 269) hx hb dL_does_269 rfl (lv_at hl 2 rfl) ?_
  refine lv_iload_n (pc := 270) hx hb dL_does_270 rfl (lv_at hl 3 rfl) ?_
  rcases R0 with k | r
  · have hf := (sumE_l).symm.trans hf
    refine th_Lx (pc := 271) (C := RX6) (As := [.int a, .int b1]) (rest := []) ⟨hx, hb, hml, hown, hts⟩ (c_X6_gain Z l hst b h a b1 (.inl k) h0) (cwV 2 hts gL_does_X6_gain rfl rfl rfl hv_X6_gain ⟨Nat.le_of_ble_eq_true rfl, Nat.le_of_ble_eq_true rfl⟩) hK hE hP hD hS hA hZ [0, 1, 2, 3, 4, 5, 6, 7, 8, 9, 10, 11, 12, 13, 14, 15, 16, 17, 18, 19, 20, 21, 22, 23, 24, 25, 26, 27, 28, 29, 30, 31, 32, 33, 34, 35, 36, 37, 38, 39] [] [0, 1, 2, 3, 4, 5, 6, 7, 8, 9, 10, 11, 12, 13, 14, 15, 16, 17, 18, 19, 20, 21, 22, 23, 24, 25, 26, 27, 28, 29, 30, 31, 32, 33, 34, 35, 36, 37, 38, 39] rfl rfl rfl rfl 6 rfl rfl rfl hl.1 rfl (lv_room (Nat.le_of_ble_eq_true rfl)) dL_does_271 ⟨Nat.le_of_ble_eq_true rfl, Nat.le_of_ble_eq_true rfl⟩ (fun q9 ce H locs hP hD hS hq hv hcl => ?_)
    by_cases z1 : k = 3
    · have hf := (if_pos z1).symm.trans hf
      subst z1
      refine vx_catch (name := exN 3) hown [] ⟨0, 287, 288, 74⟩ [⟨0, 287, 293, 77⟩, ⟨0, 287, 298, 79⟩] (htab.trans rfl) (fun _ h => nomatch h) (by decide) (by decide) wc74 (va_Nw.use rfl (hE.2.2.2.1 3)) hq hv hcl ?_
      refine lv_astore (pc := 288) (lv' := [(6, .ref q9), (0, .ref (b 0 0)), (1, .int 16), (2, .int a), (3, .int b1), (4, .int c1), (5, .int d1)]) hx hb dL_does_288 hl (by decide) rfl (fun ls hl => ?_)
      refine lv_ldc (pc := 290) (v := (-2100000000)) hx hb hown w76 dL_does_290 ?_
      have hf := (Option.some.inj hf)
      subst hf
      exact vx_ret (rw_i (fun _ => 0) hx hb hr hlk rfl hP hD hS dL_does_292)
    · have hf := (if_neg z1).symm.trans hf
      by_cases z2 : k = 1
      · have hf := (if_pos z2).symm.trans hf
        subst z2
        refine vx_catch (name := exN 1) hown [⟨0, 287, 288, 74⟩] ⟨0, 287, 293, 77⟩ [⟨0, 287, 298, 79⟩] (htab.trans rfl) (fun z hz => by rcases List.mem_cons.mp hz with rfl | hz; { exact Or.inr ⟨by decide, exN 3, wc74, hE.2.2.2.2.1 1 3 (by decide)⟩ };  exact nomatch hz) (by decide) (by decide) wc77 (va_Nw.use rfl (hE.2.2.2.1 1)) hq hv hcl ?_
        refine lv_astore (pc := 293) (lv' := [(6, .ref q9), (0, .ref (b 0 0)), (1, .int 16), (2, .int a), (3, .int b1), (4, .int c1), (5, .int d1)]) hx hb dL_does_293 hl (by decide) rfl (fun ls hl => ?_)
        refine lv_ldc (pc := 295) (v := (-2100000000)) hx hb hown w76 dL_does_295 ?_
        have hf := (Option.some.inj hf)
        subst hf
        exact vx_ret (rw_i (fun _ => 0) hx hb hr hlk rfl hP hD hS dL_does_297)
      · have hf := (if_neg z2).symm.trans hf
        by_cases z3 : k = 2
        · have hf := (if_pos z3).symm.trans hf
          subst z3
          refine vx_catch (name := exN 2) hown [⟨0, 287, 288, 74⟩, ⟨0, 287, 293, 77⟩] ⟨0, 287, 298, 79⟩ [] (htab.trans rfl) (fun z hz => by rcases List.mem_cons.mp hz with rfl | hz; { exact Or.inr ⟨by decide, exN 3, wc74, hE.2.2.2.2.1 2 3 (by decide)⟩ }; rcases List.mem_cons.mp hz with rfl | hz; { exact Or.inr ⟨by decide, exN 1, wc77, hE.2.2.2.2.1 2 1 (by decide)⟩ };  exact nomatch hz) (by decide) (by decide) wc79 (va_Nw.use rfl (hE.2.2.2.1 2)) hq hv hcl ?_
          refine lv_astore (pc := 298) (lv' := [(6, .ref q9), (0, .ref (b 0 0)), (1, .int 16), (2, .int a), (3, .int b1), (4, .int c1), (5, .int d1)]) hx hb dL_does_298 hl (by decide) rfl (fun ls hl => ?_)
          refine lv_ldc (pc := 300) (v := (-2100000000)) hx hb hown w76 dL_does_300 ?_
          have hf := (Option.some.inj hf)
          subst hf
          exact vx_ret (rw_i (fun _ => 0) hx hb hr hlk rfl hP hD hS dL_does_302)
        · have hf := (if_neg z3).symm.trans hf
          exact nomatch hf
  · have hf := (sumE_r).symm.trans hf
    refine th_Ln (pc := 271) (C := RX6) (As := [.int a, .int b1]) (rest := []) (st1 := [.int r.1]) (wn := fun _ => wH Z b r.2) ⟨hx, hb, hml, hown, hts⟩ (c_X6_gain Z l hst b h a b1 (.inr r) h0) (cwV 2 hts gL_does_X6_gain rfl rfl rfl hv_X6_gain ⟨Nat.le_of_ble_eq_true rfl, Nat.le_of_ble_eq_true rfl⟩) hK hE hP hD hS hA hZ [0, 1, 2, 3, 4, 5, 6, 7, 8, 9, 10, 11, 12, 13, 14, 15, 16, 17, 18, 19, 20, 21, 22, 23, 24, 25, 26, 27, 28, 29, 30, 31, 32, 33, 34, 35, 36, 37, 38, 39] [] [0, 1, 2, 3, 4, 5, 6, 7, 8, 9, 10, 11, 12, 13, 14, 15, 16, 17, 18, 19, 20, 21, 22, 23, 24, 25, 26, 27, 28, 29, 30, 31, 32, 33, 34, 35, 36, 37, 38, 39] rfl rfl rfl (fun _ => rfl) 6 rfl rfl rfl hl.1 rfl (lv_room (Nat.le_of_ble_eq_true rfl)) dL_does_271 ⟨Nat.le_of_ble_eq_true rfl, Nat.le_of_ble_eq_true rfl⟩ rfl (fun _ H locs hP hD hS => ?_)
    refine lv_goto (pc := 274) (tgt := 287) hx hb dL_does_274 (by decide) ?_
    have hf := (Option.some.inj hf)
    subst hf
    exact vx_ret (rw_i (fun _ => 0) hx hb hr hlk rfl hP hD hS dL_does_287)
set_option maxHeartbeats 4000000 in
set_option maxRecDepth 100000 in
theorem c_L_does_17 (Z : EnvT) (l : Launch) (hst : l.stackTraces = false) (b : Nat → Nat → Nat) (h : Nat → ObS) (a b1 c1 d1 : Int32) (R : Int32 × (Nat → ObS)) (hf : f_L_does_17 h a b1 c1 d1 = some R) : WR Z l yL_does wsL_does { frames := 9, cells := 4, slots := 24, locals := 186 } [.ref (b 0 0), .int 17, .int a, .int b1, .int c1, .int d1] (wH Z b h) (some (.int R.1)) (fun _ => wH Z b R.2) 4 24 := by
  refine wr_of (cc := cL_does) (maxL := 7) (ret := (some .int)) (hh := [(0, 287, 288, 74), (0, 287, 293, 77), (0, 287, 298, 79)]) (by decide) rfl (Nat.le_of_ble_eq_true rfl) ?_
  intro p e s m below meth c A ls hx hb hr hml hts hown hlk htab hP hK hE hD hA hS hZ hl
  have hown : s.vm.findClass RL = some m.cls := hown
  have hl : lv_has ls 7 [(0, .ref (b 0 0)), (1, .int 17), (2, .int a), (3, .int b1), (4, .int c1), (5, .int d1)] := hl
  have w76 := hts (.constant RL 76 (-2100000000)) (by decide +kernel)
  have wc74 := hts (.classLink RL 74 "java/lang/IndexOutOfBoundsException") (by decide +kernel)
  have wc77 := hts (.classLink RL 77 "java/lang/IllegalArgumentException") (by decide +kernel)
  have wc79 := hts (.classLink RL 79 "java/lang/IllegalStateException") (by decide +kernel)
  rw [f_L_does_17] at hf
  obtain ⟨R0, h0, hf⟩ := bd hf
  refine lv_iload_n (pc := 0) hx hb dL_does_0 rfl (lv_at hl 1 rfl) ?_
  refine lv_if_ne (pc := 1) (tgt := 13) hx hb dL_does_1 (by decide) (fun y1 => ?_) (fun y1 => absurd y1 (by decide))
  refine lv_iload_n (pc := 13) hx hb dL_does_13 rfl (lv_at hl 1 rfl) ?_
  refine lv_iconst (pc := 14) (v := 1) hx hb dL_does_14 (by decide) ?_
  refine lv_icmp_ne (pc := 15) (tgt := 31) hx hb dL_does_15 (by decide) (fun y2 => ?_) (fun y2 => absurd y2 (by decide))
  refine lv_iload_n (pc := 31) hx hb dL_does_31 rfl (lv_at hl 1 rfl) ?_
  refine lv_iconst (pc := 32) (v := 2) hx hb dL_does_32 (by decide) ?_
  refine lv_icmp_ne (pc := 33) (tgt := 45) hx hb dL_does_33 (by decide) (fun y3 => ?_) (fun y3 => absurd y3 (by decide))
  refine lv_iload_n (pc := 45) hx hb dL_does_45 rfl (lv_at hl 1 rfl) ?_
  refine lv_iconst (pc := 46) (v := 3) hx hb dL_does_46 (by decide) ?_
  refine lv_icmp_ne (pc := 47) (tgt := 59) hx hb dL_does_47 (by decide) (fun y4 => ?_) (fun y4 => absurd y4 (by decide))
  refine lv_iload_n (pc := 59) hx hb dL_does_59 rfl (lv_at hl 1 rfl) ?_
  refine lv_iconst (pc := 60) (v := 4) hx hb dL_does_60 (by decide) ?_
  refine lv_icmp_ne (pc := 61) (tgt := 75) hx hb dL_does_61 (by decide) (fun y5 => ?_) (fun y5 => absurd y5 (by decide))
  refine lv_iload_n (pc := 75) hx hb dL_does_75 rfl (lv_at hl 1 rfl) ?_
  refine lv_iconst (pc := 76) (v := 5) hx hb dL_does_76 (by decide) ?_
  refine lv_icmp_ne (pc := 77) (tgt := 102) hx hb dL_does_77 (by decide) (fun y6 => ?_) (fun y6 => absurd y6 (by decide))
  refine lv_iload_n (pc := 102) hx hb dL_does_102 rfl (lv_at hl 1 rfl) ?_
  refine lv_bipush (pc := 103) (v := 6) hx hb dL_does_103 (by decide) ?_
  refine lv_icmp_ne (pc := 105) (tgt := 119) hx hb dL_does_105 (by decide) (fun y7 => ?_) (fun y7 => absurd y7 (by decide))
  refine lv_iload_n (pc := 119) hx hb dL_does_119 rfl (lv_at hl 1 rfl) ?_
  refine lv_bipush (pc := 120) (v := 7) hx hb dL_does_120 (by decide) ?_
  refine lv_icmp_ne (pc := 122) (tgt := 136) hx hb dL_does_122 (by decide) (fun y8 => ?_) (fun y8 => absurd y8 (by decide))
  refine lv_iload_n (pc := 136) hx hb dL_does_136 rfl (lv_at hl 1 rfl) ?_
  refine lv_bipush (pc := 137) (v := 8) hx hb dL_does_137 (by decide) ?_
  refine lv_icmp_ne (pc := 139) (tgt := 153) hx hb dL_does_139 (by decide) (fun y9 => ?_) (fun y9 => absurd y9 (by decide))
  refine lv_iload_n (pc := 153) hx hb dL_does_153 rfl (lv_at hl 1 rfl) ?_
  refine lv_bipush (pc := 154) (v := 9) hx hb dL_does_154 (by decide) ?_
  refine lv_icmp_ne (pc := 156) (tgt := 175) hx hb dL_does_156 (by decide) (fun y10 => ?_) (fun y10 => absurd y10 (by decide))
  refine lv_iload_n (pc := 175) hx hb dL_does_175 rfl (lv_at hl 1 rfl) ?_
  refine lv_bipush (pc := 176) (v := 10) hx hb dL_does_176 (by decide) ?_
  refine lv_icmp_ne (pc := 178) (tgt := 189) hx hb dL_does_178 (by decide) (fun y11 => ?_) (fun y11 => absurd y11 (by decide))
  refine lv_iload_n (pc := 189) hx hb dL_does_189 rfl (lv_at hl 1 rfl) ?_
  refine lv_bipush (pc := 190) (v := 11) hx hb dL_does_190 (by decide) ?_
  refine lv_icmp_ne (pc := 192) (tgt := 202) hx hb dL_does_192 (by decide) (fun y12 => ?_) (fun y12 => absurd y12 (by decide))
  refine lv_iload_n (pc := 202) hx hb dL_does_202 rfl (lv_at hl 1 rfl) ?_
  refine lv_bipush (pc := 203) (v := 12) hx hb dL_does_203 (by decide) ?_
  refine lv_icmp_ne (pc := 205) (tgt := 217) hx hb dL_does_205 (by decide) (fun y13 => ?_) (fun y13 => absurd y13 (by decide))
  refine lv_iload_n (pc := 217) hx hb dL_does_217 rfl (lv_at hl 1 rfl) ?_
  refine lv_bipush (pc := 218) (v := 13) hx hb dL_does_218 (by decide) ?_
  refine lv_icmp_ne (pc := 220) (tgt := 232) hx hb dL_does_220 (by decide) (fun y14 => ?_) (fun y14 => absurd y14 (by decide))
  refine lv_iload_n (pc := 232) hx hb dL_does_232 rfl (lv_at hl 1 rfl) ?_
  refine lv_bipush (pc := 233) (v := 14) hx hb dL_does_233 (by decide) ?_
  refine lv_icmp_ne (pc := 235) (tgt := 247) hx hb dL_does_235 (by decide) (fun y15 => ?_) (fun y15 => absurd y15 (by decide))
  refine lv_iload_n (pc := 247) hx hb dL_does_247 rfl (lv_at hl 1 rfl) ?_
  refine lv_bipush (pc := 248) (v := 15) hx hb dL_does_248 (by decide) ?_
  refine lv_icmp_ne (pc := 250) (tgt := 262) hx hb dL_does_250 (by decide) (fun y16 => ?_) (fun y16 => absurd y16 (by decide))
  refine lv_iload_n (pc := 262) hx hb dL_does_262 rfl (lv_at hl 1 rfl) ?_
  refine lv_bipush (pc := 263) (v := 16) hx hb dL_does_263 (by decide) ?_
  refine lv_icmp_ne (pc := 265) (tgt := 277) hx hb dL_does_265 (by decide) (fun y17 => ?_) (fun y17 => absurd y17 (by decide))
  refine lv_aload_n (pc := 277) hx hb dL_does_277 rfl (lv_at hl 0 rfl) ?_
  refine lv_iload_n (pc := 278) hx hb dL_does_278 rfl (lv_at hl 2 rfl) ?_
  refine lv_iload_n (pc := 279) hx hb dL_does_279 rfl (lv_at hl 3 rfl) ?_
  refine lv_iload (pc := 280) hx hb dL_does_280 (lv_at hl 4 rfl) ?_
  refine lv_iload (pc := 282) hx hb dL_does_282 (lv_at hl 5 rfl) ?_
  rcases R0 with k | r
  · have hf := (sumE_l).symm.trans hf
    refine th_Lx (pc := 284) (C := RX6) (As := [.int a, .int b1, .int c1, .int d1]) (rest := []) ⟨hx, hb, hml, hown, hts⟩ (c_X6_relative Z l hst b h a b1 c1 d1 (.inl k) h0) (cwV 4 hts gL_does_X6_relative rfl rfl rfl hv_X6_relative ⟨Nat.le_of_ble_eq_true rfl, Nat.le_of_ble_eq_true rfl⟩) hK hE hP hD hS hA hZ [0, 1, 2, 3, 4, 5, 6, 7, 8, 9, 10, 11, 12, 13, 14, 15, 16, 17, 18, 19, 20, 21, 22, 23, 24, 25, 26, 27, 28, 29, 30, 31, 32, 33, 34, 35, 36, 37, 38, 39] [] [0, 1, 2, 3, 4, 5, 6, 7, 8, 9, 10, 11, 12, 13, 14, 15, 16, 17, 18, 19, 20, 21, 22, 23, 24, 25, 26, 27, 28, 29, 30, 31, 32, 33, 34, 35, 36, 37, 38, 39] rfl rfl rfl rfl 6 rfl rfl rfl hl.1 rfl (lv_room (Nat.le_of_ble_eq_true rfl)) dL_does_284 ⟨Nat.le_of_ble_eq_true rfl, Nat.le_of_ble_eq_true rfl⟩ (fun q9 ce H locs hP hD hS hq hv hcl => ?_)
    by_cases z1 : k = 3
    · have hf := (if_pos z1).symm.trans hf
      subst z1
      refine vx_catch (name := exN 3) hown [] ⟨0, 287, 288, 74⟩ [⟨0, 287, 293, 77⟩, ⟨0, 287, 298, 79⟩] (htab.trans rfl) (fun _ h => nomatch h) (by decide) (by decide) wc74 (va_Nw.use rfl (hE.2.2.2.1 3)) hq hv hcl ?_
      refine lv_astore (pc := 288) (lv' := [(6, .ref q9), (0, .ref (b 0 0)), (1, .int 17), (2, .int a), (3, .int b1), (4, .int c1), (5, .int d1)]) hx hb dL_does_288 hl (by decide) rfl (fun ls hl => ?_)
      refine lv_ldc (pc := 290) (v := (-2100000000)) hx hb hown w76 dL_does_290 ?_
      have hf := (Option.some.inj hf)
      subst hf
      exact vx_ret (rw_i (fun _ => 0) hx hb hr hlk rfl hP hD hS dL_does_292)
    · have hf := (if_neg z1).symm.trans hf
      by_cases z2 : k = 1
      · have hf := (if_pos z2).symm.trans hf
        subst z2
        refine vx_catch (name := exN 1) hown [⟨0, 287, 288, 74⟩] ⟨0, 287, 293, 77⟩ [⟨0, 287, 298, 79⟩] (htab.trans rfl) (fun z hz => by rcases List.mem_cons.mp hz with rfl | hz; { exact Or.inr ⟨by decide, exN 3, wc74, hE.2.2.2.2.1 1 3 (by decide)⟩ };  exact nomatch hz) (by decide) (by decide) wc77 (va_Nw.use rfl (hE.2.2.2.1 1)) hq hv hcl ?_
        refine lv_astore (pc := 293) (lv' := [(6, .ref q9), (0, .ref (b 0 0)), (1, .int 17), (2, .int a), (3, .int b1), (4, .int c1), (5, .int d1)]) hx hb dL_does_293 hl (by decide) rfl (fun ls hl => ?_)
        refine lv_ldc (pc := 295) (v := (-2100000000)) hx hb hown w76 dL_does_295 ?_
        have hf := (Option.some.inj hf)
        subst hf
        exact vx_ret (rw_i (fun _ => 0) hx hb hr hlk rfl hP hD hS dL_does_297)
      · have hf := (if_neg z2).symm.trans hf
        by_cases z3 : k = 2
        · have hf := (if_pos z3).symm.trans hf
          subst z3
          refine vx_catch (name := exN 2) hown [⟨0, 287, 288, 74⟩, ⟨0, 287, 293, 77⟩] ⟨0, 287, 298, 79⟩ [] (htab.trans rfl) (fun z hz => by rcases List.mem_cons.mp hz with rfl | hz; { exact Or.inr ⟨by decide, exN 3, wc74, hE.2.2.2.2.1 2 3 (by decide)⟩ }; rcases List.mem_cons.mp hz with rfl | hz; { exact Or.inr ⟨by decide, exN 1, wc77, hE.2.2.2.2.1 2 1 (by decide)⟩ };  exact nomatch hz) (by decide) (by decide) wc79 (va_Nw.use rfl (hE.2.2.2.1 2)) hq hv hcl ?_
          refine lv_astore (pc := 298) (lv' := [(6, .ref q9), (0, .ref (b 0 0)), (1, .int 17), (2, .int a), (3, .int b1), (4, .int c1), (5, .int d1)]) hx hb dL_does_298 hl (by decide) rfl (fun ls hl => ?_)
          refine lv_ldc (pc := 300) (v := (-2100000000)) hx hb hown w76 dL_does_300 ?_
          have hf := (Option.some.inj hf)
          subst hf
          exact vx_ret (rw_i (fun _ => 0) hx hb hr hlk rfl hP hD hS dL_does_302)
        · have hf := (if_neg z3).symm.trans hf
          exact nomatch hf
  · have hf := (sumE_r).symm.trans hf
    refine th_Ln (pc := 284) (C := RX6) (As := [.int a, .int b1, .int c1, .int d1]) (rest := []) (st1 := [.int r.1]) (wn := fun _ => wH Z b r.2) ⟨hx, hb, hml, hown, hts⟩ (c_X6_relative Z l hst b h a b1 c1 d1 (.inr r) h0) (cwV 4 hts gL_does_X6_relative rfl rfl rfl hv_X6_relative ⟨Nat.le_of_ble_eq_true rfl, Nat.le_of_ble_eq_true rfl⟩) hK hE hP hD hS hA hZ [0, 1, 2, 3, 4, 5, 6, 7, 8, 9, 10, 11, 12, 13, 14, 15, 16, 17, 18, 19, 20, 21, 22, 23, 24, 25, 26, 27, 28, 29, 30, 31, 32, 33, 34, 35, 36, 37, 38, 39] [] [0, 1, 2, 3, 4, 5, 6, 7, 8, 9, 10, 11, 12, 13, 14, 15, 16, 17, 18, 19, 20, 21, 22, 23, 24, 25, 26, 27, 28, 29, 30, 31, 32, 33, 34, 35, 36, 37, 38, 39] rfl rfl rfl (fun _ => rfl) 6 rfl rfl rfl hl.1 rfl (lv_room (Nat.le_of_ble_eq_true rfl)) dL_does_284 ⟨Nat.le_of_ble_eq_true rfl, Nat.le_of_ble_eq_true rfl⟩ rfl (fun _ H locs hP hD hS => ?_)
    have hf := (Option.some.inj hf)
    subst hf
    exact vx_ret (rw_i (fun _ => 0) hx hb hr hlk rfl hP hD hS dL_does_287)
