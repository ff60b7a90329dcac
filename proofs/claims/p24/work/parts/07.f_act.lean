set_option maxHeartbeats 16000000 in
set_option maxRecDepth 100000 in
theorem c_L_act (Z : EnvT) (l : Launch) (hst : l.stackTraces = false) (b : Nat → Nat → Nat) (h : Nat → ObS) (x1 : Int32) (R : Int32 × (Nat → ObS)) (hf : f_L_act h x1 = some R) : WR Z l yL_act wsL_act { frames := 10, cells := 4, slots := 7200, locals := 212 } [.ref (b 0 0), .int x1] (wH Z b h) (some (.int R.1)) (fun q => wH Z (bu b 7 (ad1 (b 7) q)) R.2) 4 7200 := by
  refine wr_ofP (cc := cL_act) (maxL := 10) (ret := (some .int)) (by decide) rfl (Nat.le_of_ble_eq_true rfl) ?_
  intro p e s m below meth c A ls hx hb hr hml hts hown hlk hP hK hE hD hA hS hZ hl
  have hown : s.vm.findClass RL = some m.cls := hown
  have hl : lv_has ls 10 [(0, .ref (b 0 0)), (1, .int x1)] := hl
  rw [f_L_act] at hf
  refine lv_iload_n (pc := 0) hx hb dL_act_0 rfl (lv_at hl 1 rfl) ?_
  refine lv_bipush (pc := 1) (v := 18) hx hb dL_act_1 (by decide) ?_
  refine lv_ishr (pc := 3) hx hb dL_act_3 ?_
  refine lv_bipush (pc := 4) (v := 7) hx hb dL_act_4 (by decide) ?_
  refine lv_iand (pc := 6) hx hb dL_act_6 ?_
  refine lv_bipush (pc := 7) (v := 7) hx hb dL_act_7 (by decide) ?_
  refine lv_icmp_ne (pc := 9) (tgt := 16) hx hb dL_act_9 (by decide) (fun c1 => ?_) (fun c1 => ?_)
  · have hf := (if_neg c1).symm.trans hf
    refine lv_iconst (pc := 16) (v := 0) hx hb dL_act_16 (by decide) ?_
    refine lv_istore_n (pc := 17) (lv' := [(2, .int 0), (0, .ref (b 0 0)), (1, .int x1)]) hx hb dL_act_17 rfl hl (by decide) rfl (fun ls hl => ?_)
    refine lv_iload_n (pc := 18) hx hb dL_act_18 rfl (lv_at hl 2 rfl) ?_
    refine lv_bipush (pc := 19) (v := 40) hx hb dL_act_19 (by decide) ?_
    refine ro_S (pc := 21) (As := [.int x1, .int 40]) (rest := []) (st1 := [.int (lw x1 40)]) ⟨hx, hb, hml, hown, hts⟩ (c_L_low Z l x1 40 (by decide)) (va_cwS 2 hts gL_act_L_low rfl rfl rfl hs_L_low ⟨Nat.le_of_ble_eq_true rfl, Nat.le_of_ble_eq_true rfl⟩) hK hE (hP.sub (ws' := []) [] rfl) rfl hl.1 rfl (lv_room (Nat.le_of_ble_eq_true rfl)) dL_act_21 ⟨(show 0 ≤ 4 by omega), (show 0 ≤ 7200 by omega)⟩ rfl ?_
    refine lv_istore_n (pc := 24) (lv' := [(3, .int (lw x1 40)), (2, .int 0), (0, .ref (b 0 0)), (1, .int x1)]) hx hb dL_act_24 rfl hl (by decide) rfl (fun ls hl => ?_)
    refine lv_iload_n (pc := 25) hx hb dL_act_25 rfl (lv_at hl 3 rfl) ?_
    refine lv_bipush (pc := 26) (v := 6) hx hb dL_act_26 (by decide) ?_
    refine lv_ishr (pc := 28) hx hb dL_act_28 ?_
    refine lv_istore (pc := 29) (lv' := [(4, .int (x1 >>> ((6 : Int32) &&& 31))), (3, .int (lw x1 40)), (2, .int 0), (0, .ref (b 0 0)), (1, .int x1)]) hx hb dL_act_29 hl (by decide) rfl (fun ls hl => ?_)
    refine lv_iload_n (pc := 31) hx hb dL_act_31 rfl (lv_at hl 2 rfl) ?_
    refine lv_if_eq (pc := 32) (tgt := 47) hx hb dL_act_32 (by decide) (fun c2 => ?_) (fun c2 => ?_)
    · refine lv_iload (pc := 47) hx hb dL_act_47 (lv_at hl 0 rfl) ?_
      refine lv_bipush (pc := 49) (v := 8) hx hb dL_act_49 (by decide) ?_
      refine ro_S (pc := 51) (As := [.int (x1 >>> ((6 : Int32) &&& 31)), .int 8]) (rest := []) (st1 := [.int (lw (x1 >>> ((6 : Int32) &&& 31)) 8)]) ⟨hx, hb, hml, hown, hts⟩ (c_L_low Z l (x1 >>> ((6 : Int32) &&& 31)) 8 (by decide)) (va_cwS 2 hts gL_act_L_low rfl rfl rfl hs_L_low ⟨Nat.le_of_ble_eq_true rfl, Nat.le_of_ble_eq_true rfl⟩) hK hE (hP.sub (ws' := []) [] rfl) rfl hl.1 rfl (lv_room (Nat.le_of_ble_eq_true rfl)) dL_act_51 ⟨(show 0 ≤ 4 by omega), (show 0 ≤ 7200 by omega)⟩ rfl ?_
      refine lv_istore (pc := 54) (lv' := [(5, .int (lw (x1 >>> ((6 : Int32) &&& 31)) 8)), (4, .int (x1 >>> ((6 : Int32) &&& 31))), (3, .int (lw x1 40)), (2, .int 0), (0, .ref (b 0 0)), (1, .int x1)]) hx hb dL_act_54 hl (by decide) rfl (fun ls hl => ?_)
      refine lv_iload_n (pc := 56) hx hb dL_act_56 rfl (lv_at hl 3 rfl) ?_
      refine lv_if_eq (pc := 57) (tgt := 74) hx hb dL_act_57 (by decide) (fun c3 => ?_) (fun c3 => ?_)
      · refine lv_iload (pc := 74) hx hb dL_act_74 (lv_at hl 1 rfl) ?_
        refine lv_iconst (pc := 76) (v := 3) hx hb dL_act_76 (by decide) ?_
        refine lv_ishr (pc := 77) hx hb dL_act_77 ?_
        refine lv_bipush (pc := 78) (v := 16) hx hb dL_act_78 (by decide) ?_
        refine ro_S (pc := 80) (As := [.int ((x1 >>> ((6 : Int32) &&& 31)) >>> ((3 : Int32) &&& 31)), .int 16]) (rest := []) (st1 := [.int (lw ((x1 >>> ((6 : Int32) &&& 31)) >>> ((3 : Int32) &&& 31)) 16)]) ⟨hx, hb, hml, hown, hts⟩ (c_L_low Z l ((x1 >>> ((6 : Int32) &&& 31)) >>> ((3 : Int32) &&& 31)) 16 (by decide)) (va_cwS 2 hts gL_act_L_low rfl rfl rfl hs_L_low ⟨Nat.le_of_ble_eq_true rfl, Nat.le_of_ble_eq_true rfl⟩) hK hE (hP.sub (ws' := []) [] rfl) rfl hl.1 rfl (lv_room (Nat.le_of_ble_eq_true rfl)) dL_act_80 ⟨(show 0 ≤ 4 by omega), (show 0 ≤ 7200 by omega)⟩ rfl ?_
        refine lv_istore (pc := 83) (lv' := [(6, .int (lw ((x1 >>> ((6 : Int32) &&& 31)) >>> ((3 : Int32) &&& 31)) 16)), (5, .int (lw (x1 >>> ((6 : Int32) &&& 31)) 8)), (4, .int (x1 >>> ((6 : Int32) &&& 31))), (3, .int (lw x1 40)), (2, .int 0), (0, .ref (b 0 0)), (1, .int x1)]) hx hb dL_act_83 hl (by decide) rfl (fun ls hl => ?_)
        refine lv_iload_n (pc := 85) hx hb dL_act_85 rfl (lv_at hl 4 rfl) ?_
        refine lv_if_eq (pc := 86) (tgt := 96) hx hb dL_act_86 (by decide) (fun c4 => ?_) (fun c4 => ?_)
        · refine lv_iload (pc := 96) hx hb dL_act_96 (lv_at hl 2 rfl) ?_
          refine lv_iconst (pc := 98) (v := 4) hx hb dL_act_98 (by decide) ?_
          refine lv_ishr (pc := 99) hx hb dL_act_99 ?_
          refine lv_iload (pc := 100) hx hb dL_act_100 (lv_at hl 2 rfl) ?_
          refine lv_bipush (pc := 102) (v := 9) hx hb dL_act_102 (by decide) ?_
          refine lv_ishr (pc := 104) hx hb dL_act_104 ?_
          refine lv_iconst (pc := 105) (v := 1) hx hb dL_act_105 (by decide) ?_
          refine lv_iand (pc := 106) hx hb dL_act_106 ?_
          refine lv_if_ne (pc := 107) (tgt := 115) hx hb dL_act_107 (by decide) (fun c5 => ?_) (fun c5 => ?_)
          · have hf := (if_neg c5).symm.trans hf
            refine lv_sipush (pc := 115) (v := 3000) hx hb dL_act_115 (by decide) ?_
            refine ro_S (pc := 118) (As := [.int ((x1 >>> ((6 : Int32) &&& 31)) >>> ((4 : Int32) &&& 31)), .int 3000]) (rest := []) (st1 := [.int (lw ((x1 >>> ((6 : Int32) &&& 31)) >>> ((4 : Int32) &&& 31)) 3000)]) ⟨hx, hb, hml, hown, hts⟩ (c_L_low Z l ((x1 >>> ((6 : Int32) &&& 31)) >>> ((4 : Int32) &&& 31)) 3000 (by decide)) (va_cwS 2 hts gL_act_L_low rfl rfl rfl hs_L_low ⟨Nat.le_of_ble_eq_true rfl, Nat.le_of_ble_eq_true rfl⟩) hK hE (hP.sub (ws' := []) [] rfl) rfl hl.1 rfl (lv_room (Nat.le_of_ble_eq_true rfl)) dL_act_118 ⟨(show 0 ≤ 4 by omega), (show 0 ≤ 7200 by omega)⟩ rfl ?_
            refine lv_istore (pc := 121) (lv' := [(7, .int (lw ((x1 >>> ((6 : Int32) &&& 31)) >>> ((4 : Int32) &&& 31)) 3000)), (6, .int (lw ((x1 >>> ((6 : Int32) &&& 31)) >>> ((3 : Int32) &&& 31)) 16)), (5, .int (lw (x1 >>> ((6 : Int32) &&& 31)) 8)), (4, .int (x1 >>> ((6 : Int32) &&& 31))), (3, .int (lw x1 40)), (2, .int 0), (0, .ref (b 0 0)), (1, .int x1)]) hx hb dL_act_121 hl (by decide) rfl (fun ls hl => ?_)
            refine lv_iload_n (pc := 123) hx hb dL_act_123 rfl (lv_at hl 5 rfl) ?_
            refine lv_if_eq (pc := 124) (tgt := 142) hx hb dL_act_124 (by decide) (fun c6 => ?_) (fun c6 => ?_)
            · refine lv_iload (pc := 142) hx hb dL_act_142 (lv_at hl 3 rfl) ?_
              refine lv_bipush (pc := 144) (v := 7) hx hb dL_act_144 (by decide) ?_
              refine lv_ishr (pc := 146) hx hb dL_act_146 ?_
              refine lv_bipush (pc := 147) (v := 6) hx hb dL_act_147 (by decide) ?_
              refine ro_S (pc := 149) (As := [.int ((x1 >>> ((6 : Int32) &&& 31)) >>> ((7 : Int32) &&& 31)), .int 6]) (rest := []) (st1 := [.int (lw ((x1 >>> ((6 : Int32) &&& 31)) >>> ((7 : Int32) &&& 31)) 6)]) ⟨hx, hb, hml, hown, hts⟩ (c_L_low Z l ((x1 >>> ((6 : Int32) &&& 31)) >>> ((7 : Int32) &&& 31)) 6 (by decide)) (va_cwS 2 hts gL_act_L_low rfl rfl rfl hs_L_low ⟨Nat.le_of_ble_eq_true rfl, Nat.le_of_ble_eq_true rfl⟩) hK hE (hP.sub (ws' := []) [] rfl) rfl hl.1 rfl (lv_room (Nat.le_of_ble_eq_true rfl)) dL_act_149 ⟨(show 0 ≤ 4 by omega), (show 0 ≤ 7200 by omega)⟩ rfl ?_
              refine lv_istore (pc := 152) (lv' := [(8, .int (lw ((x1 >>> ((6 : Int32) &&& 31)) >>> ((7 : Int32) &&& 31)) 6)), (7, .int (lw ((x1 >>> ((6 : Int32) &&& 31)) >>> ((4 : Int32) &&& 31)) 3000)), (6, .int (lw ((x1 >>> ((6 : Int32) &&& 31)) >>> ((3 : Int32) &&& 31)) 16)), (5, .int (lw (x1 >>> ((6 : Int32) &&& 31)) 8)), (4, .int (x1 >>> ((6 : Int32) &&& 31))), (3, .int (lw x1 40)), (2, .int 0), (0, .ref (b 0 0)), (1, .int x1)]) hx hb dL_act_152 hl (by decide) rfl (fun ls hl => ?_)
              refine lv_iload_n (pc := 154) hx hb dL_act_154 rfl (lv_at hl 5 rfl) ?_
              refine lv_bipush (pc := 155) (v := 10) hx hb dL_act_155 (by decide) ?_
              refine lv_icmp_ge (pc := 157) (tgt := 481) hx hb dL_act_157 (by decide) (fun c7 => ?_) (fun c7 => ?_)
              · have hf := (if_pos c7).symm.trans hf
                refine lv_iload_n (pc := 481) hx hb dL_act_481 rfl (lv_at hl 5 rfl) ?_
                refine lv_bipush (pc := 482) (v := 18) hx hb dL_act_482 (by decide) ?_
                refine lv_icmp_ge (pc := 484) (tgt := 558) hx hb dL_act_484 (by decide) (fun c8 => ?_) (fun c8 => ?_)
                · have hf := (if_pos c8).symm.trans hf
                  refine lv_iload_n (pc := 558) hx hb dL_act_558 rfl (lv_at hl 5 rfl) ?_
                  refine lv_bipush (pc := 559) (v := 21) hx hb dL_act_559 (by decide) ?_
                  refine lv_icmp_ge (pc := 561) (tgt := 577) hx hb dL_act_561 (by decide) (fun c9 => ?_) (fun c9 => ?_)
                  · have hf := (if_pos c9).symm.trans hf
                    refine lv_iload_n (pc := 577) hx hb dL_act_577 rfl (lv_at hl 5 rfl) ?_
                    refine lv_bipush (pc := 578) (v := 23) hx hb dL_act_578 (by decide) ?_
                    refine lv_icmp_ge (pc := 580) (tgt := 598) hx hb dL_act_580 (by decide) (fun c10 => ?_) (fun c10 => ?_)
                    · have hf := (if_pos c10).symm.trans hf
                      refine lv_iload_n (pc := 598) hx hb dL_act_598 rfl (lv_at hl 5 rfl) ?_
                      refine lv_bipush (pc := 599) (v := 23) hx hb dL_act_599 (by decide) ?_
                      refine lv_icmp_ne (pc := 601) (tgt := 635) hx hb dL_act_601 (by decide) (fun c11 => ?_) (fun c11 => ?_)
                      · have hf := (if_neg c11).symm.trans hf
                        refine lv_aload_n (pc := 635) hx hb dL_act_635 rfl (lv_at hl 7 rfl) ?_
                        refine lv_bipush (pc := 636) (v := 10) hx hb dL_act_636 (by decide) ?_
                        refine lv_iload_n (pc := 638) hx hb dL_act_638 rfl (lv_at hl 6 rfl) ?_
                        refine lv_if_eq (pc := 639) (tgt := 652) hx hb dL_act_639 (by decide) (fun c12 => ?_) (fun c12 => ?_)
                        · refine lv_iconst (pc := 652) (v := 1) hx hb dL_act_652 (by decide) ?_
                          refine lv_iload (pc := 653) hx hb dL_act_653 (lv_at hl 4 rfl) ?_
                          refine lv_iconst (pc := 655) (v := 2) hx hb dL_act_655 (by decide) ?_
                          refine ro_S (pc := 656) (As := [.int (x1 >>> ((6 : Int32) &&& 31)), .int 2]) (rest := [.int 1, .int 10, .ref (b 0 0)]) (st1 := [.int (lw (x1 >>> ((6 : Int32) &&& 31)) 2), .int 1, .int 10, .ref (b 0 0)]) ⟨hx, hb, hml, hown, hts⟩ (c_L_low Z l (x1 >>> ((6 : Int32) &&& 31)) 2 (by decide)) (va_cwS 2 hts gL_act_L_low rfl rfl rfl hs_L_low ⟨Nat.le_of_ble_eq_true rfl, Nat.le_of_ble_eq_true rfl⟩) hK hE (hP.sub (ws' := []) [] rfl) rfl hl.1 rfl (lv_room (Nat.le_of_ble_eq_true rfl)) dL_act_656 ⟨(show 0 ≤ 4 by omega), (show 0 ≤ 7200 by omega)⟩ rfl ?_
                          refine lv_iadd (pc := 659) hx hb dL_act_659 ?_
                          refine lv_iconst (pc := 660) (v := 0) hx hb dL_act_660 (by decide) ?_
                          refine lv_iconst (pc := 661) (v := 0) hx hb dL_act_661 (by decide) ?_
                          refine lv_iconst (pc := 662) (v := 0) hx hb dL_act_662 (by decide) ?_
                          obtain ⟨r663, h_663, hf⟩ := bd hf
                          refine wr_S (pc := 663) (As := [.ref (b 0 0), .int 10, .int ((1 : Int32) + (lw (x1 >>> ((6 : Int32) &&& 31)) 2)), .int 0, .int 0, .int 0]) (rest := []) (st1 := [.int r663.1]) (wn := fun q => wH Z (bu b 7 (ad1 (b 7) q)) r663.2) ⟨hx, hb, hml, hown, hts⟩ (c_L_does_10 Z l hst b h ((1 : Int32) + (lw (x1 >>> ((6 : Int32) &&& 31)) 2)) 0 0 0 r663 h_663) (vx_cwSW 6 hts gL_act_L_does rfl rfl rfl hs_L_does ⟨Nat.le_of_ble_eq_true rfl, Nat.le_of_ble_eq_true rfl⟩) hK hE hP hD hS hA hZ [0, 1, 2, 3, 4, 5, 6, 7, 8, 9, 10, 11, 12, 13, 14, 15, 16, 17, 18, 19, 20, 21, 22, 23, 24, 25, 26, 27, 28, 29, 30, 31, 32, 33, 34, 35, 36, 37, 38, 39] [] [0, 1, 2, 3, 4, 5, 6, 7, 8, 9, 10, 11, 12, 13, 14, 15, 16, 17, 18, 19, 20, 21, 22, 23, 24, 25, 26, 27, 28, 29, 30, 31, 32, 33, 34, 35, 36, 37, 38, 39] (by decide +kernel) rfl rfl (fun _ => rfl) rfl hl.1 rfl (lv_room (Nat.le_of_ble_eq_true rfl)) dL_act_663 ⟨(show 0 + 1 ≤ 4 by omega), (show 0 + 7200 ≤ 7200 by omega)⟩ rfl (fun q663 H locs hP hD hS => ?_)
                          have hf := (Option.some.inj hf)
                          subst hf
                          refine W.widen (k := 4) (n := 7200) (by omega) (by omega) ?_
                          exact vx_ret (rw_i q663 hx hb hr hlk rfl hP hD hS dL_act_666)
                        · exact absurd c12 (by decide)
                      · have hf := (if_pos c11).symm.trans hf
                        refine lv_aload_n (pc := 604) hx hb dL_act_604 rfl (lv_at hl 7 rfl) ?_
                        refine lv_bipush (pc := 605) (v := 17) hx hb dL_act_605 (by decide) ?_
                        refine lv_iload (pc := 607) hx hb dL_act_607 (lv_at hl 3 rfl) ?_
                        refine lv_iload (pc := 609) hx hb dL_act_609 (lv_at hl 4 rfl) ?_
                        refine lv_iconst (pc := 611) (v := 2) hx hb dL_act_611 (by decide) ?_
                        refine lv_ishr (pc := 612) hx hb dL_act_612 ?_
                        refine lv_bipush (pc := 613) (v := 8) hx hb dL_act_613 (by decide) ?_
                        refine ro_S (pc := 615) (As := [.int ((x1 >>> ((6 : Int32) &&& 31)) >>> ((2 : Int32) &&& 31)), .int 8]) (rest := [.int (lw (x1 >>> ((6 : Int32) &&& 31)) 8), .int 17, .ref (b 0 0)]) (st1 := [.int (lw ((x1 >>> ((6 : Int32) &&& 31)) >>> ((2 : Int32) &&& 31)) 8), .int (lw (x1 >>> ((6 : Int32) &&& 31)) 8), .int 17, .ref (b 0 0)]) ⟨hx, hb, hml, hown, hts⟩ (c_L_low Z l ((x1 >>> ((6 : Int32) &&& 31)) >>> ((2 : Int32) &&& 31)) 8 (by decide)) (va_cwS 2 hts gL_act_L_low rfl rfl rfl hs_L_low ⟨Nat.le_of_ble_eq_true rfl, Nat.le_of_ble_eq_true rfl⟩) hK hE (hP.sub (ws' := []) [] rfl) rfl hl.1 rfl (lv_room (Nat.le_of_ble_eq_true rfl)) dL_act_615 ⟨(show 0 ≤ 4 by omega), (show 0 ≤ 7200 by omega)⟩ rfl ?_
                        refine lv_iload (pc := 618) hx hb dL_act_618 (lv_at hl 2 rfl) ?_
                        refine lv_iload (pc := 620) hx hb dL_act_620 (lv_at hl 4 rfl) ?_
                        refine lv_iconst (pc := 622) (v := 5) hx hb dL_act_622 (by decide) ?_
                        refine lv_ishr (pc := 623) hx hb dL_act_623 ?_
                        refine lv_bipush (pc := 624) (v := 16) hx hb dL_act_624 (by decide) ?_
                        refine ro_S (pc := 626) (As := [.int ((x1 >>> ((6 : Int32) &&& 31)) >>> ((5 : Int32) &&& 31)), .int 16]) (rest := [.int (lw ((x1 >>> ((6 : Int32) &&& 31)) >>> ((3 : Int32) &&& 31)) 16), .int (lw ((x1 >>> ((6 : Int32) &&& 31)) >>> ((2 : Int32) &&& 31)) 8), .int (lw (x1 >>> ((6 : Int32) &&& 31)) 8), .int 17, .ref (b 0 0)]) (st1 := [.int (lw ((x1 >>> ((6 : Int32) &&& 31)) >>> ((5 : Int32) &&& 31)) 16), .int (lw ((x1 >>> ((6 : Int32) &&& 31)) >>> ((3 : Int32) &&& 31)) 16), .int (lw ((x1 >>> ((6 : Int32) &&& 31)) >>> ((2 : Int32) &&& 31)) 8), .int (lw (x1 >>> ((6 : Int32) &&& 31)) 8), .int 17, .ref (b 0 0)]) ⟨hx, hb, hml, hown, hts⟩ (c_L_low Z l ((x1 >>> ((6 : Int32) &&& 31)) >>> ((5 : Int32) &&& 31)) 16 (by decide)) (va_cwS 2 hts gL_act_L_low rfl rfl rfl hs_L_low ⟨Nat.le_of_ble_eq_true rfl, Nat.le_of_ble_eq_true rfl⟩) hK hE (hP.sub (ws' := []) [] rfl) rfl hl.1 rfl (lv_room (Nat.le_of_ble_eq_true rfl)) dL_act_626 ⟨(show 0 ≤ 4 by omega), (show 0 ≤ 7200 by omega)⟩ rfl ?_
                        obtain ⟨r629, h_629, hf⟩ := bd hf
                        refine wr_S (pc := 629) (As := [.ref (b 0 0), .int 17, .int (lw (x1 >>> ((6 : Int32) &&& 31)) 8), .int (lw ((x1 >>> ((6 : Int32) &&& 31)) >>> ((2 : Int32) &&& 31)) 8), .int (lw ((x1 >>> ((6 : Int32) &&& 31)) >>> ((3 : Int32) &&& 31)) 16), .int (lw ((x1 >>> ((6 : Int32) &&& 31)) >>> ((5 : Int32) &&& 31)) 16)]) (rest := []) (st1 := [.int r629.1]) (wn := fun _ => wH Z b r629.2) ⟨hx, hb, hml, hown, hts⟩ (c_L_does_17 Z l hst b h (lw (x1 >>> ((6 : Int32) &&& 31)) 8) (lw ((x1 >>> ((6 : Int32) &&& 31)) >>> ((2 : Int32) &&& 31)) 8) (lw ((x1 >>> ((6 : Int32) &&& 31)) >>> ((3 : Int32) &&& 31)) 16) (lw ((x1 >>> ((6 : Int32) &&& 31)) >>> ((5 : Int32) &&& 31)) 16) r629 h_629) (vx_cwSW 6 hts gL_act_L_does rfl rfl rfl hs_L_does ⟨Nat.le_of_ble_eq_true rfl, Nat.le_of_ble_eq_true rfl⟩) hK hE hP hD hS hA hZ [0, 1, 2, 3, 4, 5, 6, 7, 8, 9, 10, 11, 12, 13, 14, 15, 16, 17, 18, 19, 20, 21, 22, 23, 24, 25, 26, 27, 28, 29, 30, 31, 32, 33, 34, 35, 36, 37, 38, 39] [] [0, 1, 2, 3, 4, 5, 6, 7, 8, 9, 10, 11, 12, 13, 14, 15, 16, 17, 18, 19, 20, 21, 22, 23, 24, 25, 26, 27, 28, 29, 30, 31, 32, 33, 34, 35, 36, 37, 38, 39] (by decide +kernel) rfl rfl (fun _ => rfl) rfl hl.1 rfl (lv_room (Nat.le_of_ble_eq_true rfl)) dL_act_629 ⟨(show 0 + 4 ≤ 4 by omega), (show 0 + 24 ≤ 7200 by omega)⟩ rfl (fun _ H locs hP hD hS => ?_)
                        refine lv_goto (pc := 632) (tgt := 666) hx hb dL_act_632 (by decide) ?_
                        have hf := (Option.some.inj hf)
                        subst hf
                        refine W.widen (k := 4) (n := 7200) (by omega) (by omega) ?_
                        exact vx_ret (rw_i (fun _ => b 7 1) hx hb hr hlk rfl hP hD hS dL_act_666)
                    · have hf := (if_neg c10).symm.trans hf
                      refine lv_aload_n (pc := 583) hx hb dL_act_583 rfl (lv_at hl 7 rfl) ?_
                      refine lv_bipush (pc := 584) (v := 16) hx hb dL_act_584 (by decide) ?_
                      refine lv_iload (pc := 586) hx hb dL_act_586 (lv_at hl 3 rfl) ?_
                      refine lv_iload (pc := 588) hx hb dL_act_588 (lv_at hl 2 rfl) ?_
                      refine lv_iconst (pc := 590) (v := 0) hx hb dL_act_590 (by decide) ?_
                      refine lv_iconst (pc := 591) (v := 0) hx hb dL_act_591 (by decide) ?_
                      obtain ⟨r592, h_592, hf⟩ := bd hf
                      refine wr_S (pc := 592) (As := [.ref (b 0 0), .int 16, .int (lw (x1 >>> ((6 : Int32) &&& 31)) 8), .int (lw ((x1 >>> ((6 : Int32) &&& 31)) >>> ((3 : Int32) &&& 31)) 16), .int 0, .int 0]) (rest := []) (st1 := [.int r592.1]) (wn := fun _ => wH Z b r592.2) ⟨hx, hb, hml, hown, hts⟩ (c_L_does_16 Z l hst b h (lw (x1 >>> ((6 : Int32) &&& 31)) 8) (lw ((x1 >>> ((6 : Int32) &&& 31)) >>> ((3 : Int32) &&& 31)) 16) 0 0 r592 h_592) (vx_cwSW 6 hts gL_act_L_does rfl rfl rfl hs_L_does ⟨Nat.le_of_ble_eq_true rfl, Nat.le_of_ble_eq_true rfl⟩) hK hE hP hD hS hA hZ [0, 1, 2, 3, 4, 5, 6, 7, 8, 9, 10, 11, 12, 13, 14, 15, 16, 17, 18, 19, 20, 21, 22, 23, 24, 25, 26, 27, 28, 29, 30, 31, 32, 33, 34, 35, 36, 37, 38, 39] [] [0, 1, 2, 3, 4, 5, 6, 7, 8, 9, 10, 11, 12, 13, 14, 15, 16, 17, 18, 19, 20, 21, 22, 23, 24, 25, 26, 27, 28, 29, 30, 31, 32, 33, 34, 35, 36, 37, 38, 39] (by decide +kernel) rfl rfl (fun _ => rfl) rfl hl.1 rfl (lv_room (Nat.le_of_ble_eq_true rfl)) dL_act_592 ⟨(show 0 + 2 ≤ 4 by omega), (show 0 + 12 ≤ 7200 by omega)⟩ rfl (fun _ H locs hP hD hS => ?_)
                      refine lv_goto (pc := 595) (tgt := 666) hx hb dL_act_595 (by decide) ?_
                      have hf := (Option.some.inj hf)
                      subst hf
                      refine W.widen (k := 4) (n := 7200) (by omega) (by omega) ?_
                      exact vx_ret (rw_i (fun _ => b 7 1) hx hb hr hlk rfl hP hD hS dL_act_666)
                  · have hf := (if_neg c9).symm.trans hf
                    refine lv_aload_n (pc := 564) hx hb dL_act_564 rfl (lv_at hl 7 rfl) ?_
                    refine lv_bipush (pc := 565) (v := 11) hx hb dL_act_565 (by decide) ?_
                    refine lv_iconst (pc := 567) (v := 0) hx hb dL_act_567 (by decide) ?_
                    refine lv_iconst (pc := 568) (v := 0) hx hb dL_act_568 (by decide) ?_
                    refine lv_iconst (pc := 569) (v := 0) hx hb dL_act_569 (by decide) ?_
                    refine lv_iconst (pc := 570) (v := 0) hx hb dL_act_570 (by decide) ?_
                    obtain ⟨r571, h_571, hf⟩ := bd hf
                    refine wr_S (pc := 571) (As := [.ref (b 0 0), .int 11, .int 0, .int 0, .int 0, .int 0]) (rest := []) (st1 := [.int r571.1]) (wn := fun _ => wH Z b r571.2) ⟨hx, hb, hml, hown, hts⟩ (c_L_does_11 Z l hst b h 0 0 0 0 r571 h_571) (vx_cwSW 6 hts gL_act_L_does rfl rfl rfl hs_L_does ⟨Nat.le_of_ble_eq_true rfl, Nat.le_of_ble_eq_true rfl⟩) hK hE hP hD hS hA hZ [0, 1, 2, 3, 4, 5, 6, 7, 8, 9, 10, 11, 12, 13, 14, 15, 16, 17, 18, 19, 20, 21, 22, 23, 24, 25, 26, 27, 28, 29, 30, 31, 32, 33, 34, 35, 36, 37, 38, 39] [] [0, 1, 2, 3, 4, 5, 6, 7, 8, 9, 10, 11, 12, 13, 14, 15, 16, 17, 18, 19, 20, 21, 22, 23, 24, 25, 26, 27, 28, 29, 30, 31, 32, 33, 34, 35, 36, 37, 38, 39] (by decide +kernel) rfl rfl (fun _ => rfl) rfl hl.1 rfl (lv_room (Nat.le_of_ble_eq_true rfl)) dL_act_571 ⟨(show 0 + 0 ≤ 4 by omega), (show 0 + 0 ≤ 7200 by omega)⟩ rfl (fun _ H locs hP hD hS => ?_)
                    refine lv_goto (pc := 574) (tgt := 666) hx hb dL_act_574 (by decide) ?_
                    have hf := (Option.some.inj hf)
                    subst hf
                    refine W.widen (k := 4) (n := 7200) (by omega) (by omega) ?_
                    exact vx_ret (rw_i (fun _ => b 7 1) hx hb hr hlk rfl hP hD hS dL_act_666)
                · have hf := (if_neg c8).symm.trans hf
                  refine lv_iload_n (pc := 487) hx hb dL_act_487 rfl (lv_at hl 5 rfl) ?_
                  refine lv_bipush (pc := 488) (v := 14) hx hb dL_act_488 (by decide) ?_
                  refine lv_icmp_ge (pc := 490) (tgt := 507) hx hb dL_act_490 (by decide) (fun c13 => ?_) (fun c13 => ?_)
                  · have hf := (if_pos c13).symm.trans hf
                    refine lv_iload_n (pc := 507) hx hb dL_act_507 rfl (lv_at hl 5 rfl) ?_
                    refine lv_bipush (pc := 508) (v := 17) hx hb dL_act_508 (by decide) ?_
                    refine lv_icmp_ge (pc := 510) (tgt := 546) hx hb dL_act_510 (by decide) (fun c14 => ?_) (fun c14 => ?_)
                    · have hf := (if_pos c14).symm.trans hf
                      refine lv_aload_n (pc := 546) hx hb dL_act_546 rfl (lv_at hl 7 rfl) ?_
                      refine lv_bipush (pc := 547) (v := 9) hx hb dL_act_547 (by decide) ?_
                      refine lv_iload (pc := 549) hx hb dL_act_549 (lv_at hl 3 rfl) ?_
                      refine lv_iconst (pc := 551) (v := 0) hx hb dL_act_551 (by decide) ?_
                      refine lv_iconst (pc := 552) (v := 0) hx hb dL_act_552 (by decide) ?_
                      refine lv_iconst (pc := 553) (v := 0) hx hb dL_act_553 (by decide) ?_
                      obtain ⟨r554, h_554, hf⟩ := bd hf
                      refine wr_S (pc := 554) (As := [.ref (b 0 0), .int 9, .int (lw (x1 >>> ((6 : Int32) &&& 31)) 8), .int 0, .int 0, .int 0]) (rest := []) (st1 := [.int r554.1]) (wn := fun _ => wH Z b r554.2) ⟨hx, hb, hml, hown, hts⟩ (c_L_does_9 Z l hst b h (lw (x1 >>> ((6 : Int32) &&& 31)) 8) 0 0 0 r554 h_554) (vx_cwSW 6 hts gL_act_L_does rfl rfl rfl hs_L_does ⟨Nat.le_of_ble_eq_true rfl, Nat.le_of_ble_eq_true rfl⟩) hK hE hP hD hS hA hZ [0, 1, 2, 3, 4, 5, 6, 7, 8, 9, 10, 11, 12, 13, 14, 15, 16, 17, 18, 19, 20, 21, 22, 23, 24, 25, 26, 27, 28, 29, 30, 31, 32, 33, 34, 35, 36, 37, 38, 39] [] [0, 1, 2, 3, 4, 5, 6, 7, 8, 9, 10, 11, 12, 13, 14, 15, 16, 17, 18, 19, 20, 21, 22, 23, 24, 25, 26, 27, 28, 29, 30, 31, 32, 33, 34, 35, 36, 37, 38, 39] (by decide +kernel) rfl rfl (fun _ => rfl) rfl hl.1 rfl (lv_room (Nat.le_of_ble_eq_true rfl)) dL_act_554 ⟨(show 0 + 1 ≤ 4 by omega), (show 0 + 6 ≤ 7200 by omega)⟩ rfl (fun _ H locs hP hD hS => ?_)
                      have hf := (Option.some.inj hf)
                      subst hf
                      refine W.widen (k := 4) (n := 7200) (by omega) (by omega) ?_
                      exact vx_ret (rw_i (fun _ => b 7 1) hx hb hr hlk rfl hP hD hS dL_act_557)
                    · have hf := (if_neg c14).symm.trans hf
                      refine lv_aload_n (pc := 513) hx hb dL_act_513 rfl (lv_at hl 7 rfl) ?_
                      refine lv_iconst (pc := 514) (v := 4) hx hb dL_act_514 (by decide) ?_
                      refine lv_iload (pc := 515) hx hb dL_act_515 (lv_at hl 4 rfl) ?_
                      refine lv_iconst (pc := 517) (v := 5) hx hb dL_act_517 (by decide) ?_
                      refine lv_ishr (pc := 518) hx hb dL_act_518 ?_
                      refine lv_iload_n (pc := 519) hx hb dL_act_519 rfl (lv_at hl 6 rfl) ?_
                      refine lv_if_eq (pc := 520) (tgt := 529) hx hb dL_act_520 (by decide) (fun c15 => ?_) (fun c15 => ?_)
                      · refine lv_sipush (pc := 529) (v := 130) hx hb dL_act_529 (by decide) ?_
                        refine ro_S (pc := 532) (As := [.int ((x1 >>> ((6 : Int32) &&& 31)) >>> ((5 : Int32) &&& 31)), .int 130]) (rest := [.int 4, .ref (b 0 0)]) (st1 := [.int (lw ((x1 >>> ((6 : Int32) &&& 31)) >>> ((5 : Int32) &&& 31)) 130), .int 4, .ref (b 0 0)]) ⟨hx, hb, hml, hown, hts⟩ (c_L_low Z l ((x1 >>> ((6 : Int32) &&& 31)) >>> ((5 : Int32) &&& 31)) 130 (by decide)) (va_cwS 2 hts gL_act_L_low rfl rfl rfl hs_L_low ⟨Nat.le_of_ble_eq_true rfl, Nat.le_of_ble_eq_true rfl⟩) hK hE (hP.sub (ws' := []) [] rfl) rfl hl.1 rfl (lv_room (Nat.le_of_ble_eq_true rfl)) dL_act_532 ⟨(show 0 ≤ 4 by omega), (show 0 ≤ 7200 by omega)⟩ rfl ?_
                        refine lv_iload (pc := 535) hx hb dL_act_535 (lv_at hl 3 rfl) ?_
                        refine lv_iload (pc := 537) hx hb dL_act_537 (lv_at hl 1 rfl) ?_
                        refine lv_iconst (pc := 539) (v := 0) hx hb dL_act_539 (by decide) ?_
                        obtain ⟨r540, h_540, hf⟩ := bd hf
                        refine wr_S (pc := 540) (As := [.ref (b 0 0), .int 4, .int (lw ((x1 >>> ((6 : Int32) &&& 31)) >>> ((5 : Int32) &&& 31)) 130), .int (lw (x1 >>> ((6 : Int32) &&& 31)) 8), .int (lw ((x1 >>> ((6 : Int32) &&& 31)) >>> ((4 : Int32) &&& 31)) 3000), .int 0]) (rest := []) (st1 := [.int r540.1]) (wn := fun _ => wH Z b r540.2) ⟨hx, hb, hml, hown, hts⟩ (c_L_does_4 Z l hst b h (lw ((x1 >>> ((6 : Int32) &&& 31)) >>> ((5 : Int32) &&& 31)) 130) (lw (x1 >>> ((6 : Int32) &&& 31)) 8) (lw ((x1 >>> ((6 : Int32) &&& 31)) >>> ((4 : Int32) &&& 31)) 3000) 0 r540 h_540) (vx_cwSW 6 hts gL_act_L_does rfl rfl rfl hs_L_does ⟨Nat.le_of_ble_eq_true rfl, Nat.le_of_ble_eq_true rfl⟩) hK hE hP hD hS hA hZ [0, 1, 2, 3, 4, 5, 6, 7, 8, 9, 10, 11, 12, 13, 14, 15, 16, 17, 18, 19, 20, 21, 22, 23, 24, 25, 26, 27, 28, 29, 30, 31, 32, 33, 34, 35, 36, 37, 38, 39] [] [0, 1, 2, 3, 4, 5, 6, 7, 8, 9, 10, 11, 12, 13, 14, 15, 16, 17, 18, 19, 20, 21, 22, 23, 24, 25, 26, 27, 28, 29, 30, 31, 32, 33, 34, 35, 36, 37, 38, 39] (by decide +kernel) rfl rfl (fun _ => rfl) rfl hl.1 rfl (lv_room (Nat.le_of_ble_eq_true rfl)) dL_act_540 ⟨(show 0 + 3 ≤ 4 by omega), (show 0 + 18 ≤ 7200 by omega)⟩ rfl (fun _ H locs hP hD hS => ?_)
                        refine lv_goto (pc := 543) (tgt := 557) hx hb dL_act_543 (by decide) ?_
                        have hf := (Option.some.inj hf)
                        subst hf
                        refine W.widen (k := 4) (n := 7200) (by omega) (by omega) ?_
                        exact vx_ret (rw_i (fun _ => b 7 1) hx hb hr hlk rfl hP hD hS dL_act_557)
                      · exact absurd c15 (by decide)
                  · have hf := (if_neg c13).symm.trans hf
                    refine lv_aload_n (pc := 493) hx hb dL_act_493 rfl (lv_at hl 7 rfl) ?_
                    refine lv_iconst (pc := 494) (v := 3) hx hb dL_act_494 (by decide) ?_
                    refine lv_iload (pc := 495) hx hb dL_act_495 (lv_at hl 3 rfl) ?_
                    refine lv_iload (pc := 497) hx hb dL_act_497 (lv_at hl 1 rfl) ?_
                    refine lv_iconst (pc := 499) (v := 0) hx hb dL_act_499 (by decide) ?_
                    refine lv_iconst (pc := 500) (v := 0) hx hb dL_act_500 (by decide) ?_
                    obtain ⟨r501, h_501, hf⟩ := bd hf
                    refine wr_S (pc := 501) (As := [.ref (b 0 0), .int 3, .int (lw (x1 >>> ((6 : Int32) &&& 31)) 8), .int (lw ((x1 >>> ((6 : Int32) &&& 31)) >>> ((4 : Int32) &&& 31)) 3000), .int 0, .int 0]) (rest := []) (st1 := [.int r501.1]) (wn := fun _ => wH Z b r501.2) ⟨hx, hb, hml, hown, hts⟩ (c_L_does_3 Z l hst b h (lw (x1 >>> ((6 : Int32) &&& 31)) 8) (lw ((x1 >>> ((6 : Int32) &&& 31)) >>> ((4 : Int32) &&& 31)) 3000) 0 0 r501 h_501) (vx_cwSW 6 hts gL_act_L_does rfl rfl rfl hs_L_does ⟨Nat.le_of_ble_eq_true rfl, Nat.le_of_ble_eq_true rfl⟩) hK hE hP hD hS hA hZ [0, 1, 2, 3, 4, 5, 6, 7, 8, 9, 10, 11, 12, 13, 14, 15, 16, 17, 18, 19, 20, 21, 22, 23, 24, 25, 26, 27, 28, 29, 30, 31, 32, 33, 34, 35, 36, 37, 38, 39] [] [0, 1, 2, 3, 4, 5, 6, 7, 8, 9, 10, 11, 12, 13, 14, 15, 16, 17, 18, 19, 20, 21, 22, 23, 24, 25, 26, 27, 28, 29, 30, 31, 32, 33, 34, 35, 36, 37, 38, 39] (by decide +kernel) rfl rfl (fun _ => rfl) rfl hl.1 rfl (lv_room (Nat.le_of_ble_eq_true rfl)) dL_act_501 ⟨(show 0 + 2 ≤ 4 by omega), (show 0 + 12 ≤ 7200 by omega)⟩ rfl (fun _ H locs hP hD hS => ?_)
                    refine lv_goto (pc := 504) (tgt := 557) hx hb dL_act_504 (by decide) ?_
                    have hf := (Option.some.inj hf)
                    subst hf
                    refine W.widen (k := 4) (n := 7200) (by omega) (by omega) ?_
                    exact vx_ret (rw_i (fun _ => b 7 1) hx hb hr hlk rfl hP hD hS dL_act_557)
              · have hf := (if_neg c7).symm.trans hf
                refine lv_iload (pc := 160) hx hb dL_act_160 (lv_at hl 4 rfl) ?_
                refine lv_bipush (pc := 162) (v := 7) hx hb dL_act_162 (by decide) ?_
                refine lv_ishr (pc := 164) hx hb dL_act_164 ?_
                refine lv_iconst (pc := 165) (v := 4) hx hb dL_act_165 (by decide) ?_
                refine ro_S (pc := 166) (As := [.int ((x1 >>> ((6 : Int32) &&& 31)) >>> ((7 : Int32) &&& 31)), .int 4]) (rest := []) (st1 := [.int (lw ((x1 >>> ((6 : Int32) &&& 31)) >>> ((7 : Int32) &&& 31)) 4)]) ⟨hx, hb, hml, hown, hts⟩ (c_L_low Z l ((x1 >>> ((6 : Int32) &&& 31)) >>> ((7 : Int32) &&& 31)) 4 (by decide)) (va_cwS 2 hts gL_act_L_low rfl rfl rfl hs_L_low ⟨Nat.le_of_ble_eq_true rfl, Nat.le_of_ble_eq_true rfl⟩) hK hE (hP.sub (ws' := []) [] rfl) rfl hl.1 rfl (lv_room (Nat.le_of_ble_eq_true rfl)) dL_act_166 ⟨(show 0 ≤ 4 by omega), (show 0 ≤ 7200 by omega)⟩ rfl ?_
                refine lv_if_ne (pc := 169) (tgt := 196) hx hb dL_act_169 (by decide) (fun c16 => ?_) (fun c16 => ?_)
                · have hf := (if_neg c16).symm.trans hf
                  refine lv_iload_n (pc := 196) hx hb dL_act_196 rfl (lv_at hl 6 rfl) ?_
                  refine lv_if_eq (pc := 197) (tgt := 215) hx hb dL_act_197 (by decide) (fun c17 => ?_) (fun c17 => ?_)
                  · refine lv_iload (pc := 215) hx hb dL_act_215 (lv_at hl 4 rfl) ?_
                    refine lv_bipush (pc := 217) (v := 6) hx hb dL_act_217 (by decide) ?_
                    refine lv_ishr (pc := 219) hx hb dL_act_219 ?_
                    refine lv_bipush (pc := 220) (v := 8) hx hb dL_act_220 (by decide) ?_
                    refine ro_S (pc := 222) (As := [.int ((x1 >>> ((6 : Int32) &&& 31)) >>> ((6 : Int32) &&& 31)), .int 8]) (rest := []) (st1 := [.int (lw ((x1 >>> ((6 : Int32) &&& 31)) >>> ((6 : Int32) &&& 31)) 8)]) ⟨hx, hb, hml, hown, hts⟩ (c_L_low Z l ((x1 >>> ((6 : Int32) &&& 31)) >>> ((6 : Int32) &&& 31)) 8 (by decide)) (va_cwS 2 hts gL_act_L_low rfl rfl rfl hs_L_low ⟨Nat.le_of_ble_eq_true rfl, Nat.le_of_ble_eq_true rfl⟩) hK hE (hP.sub (ws' := []) [] rfl) rfl hl.1 rfl (lv_room (Nat.le_of_ble_eq_true rfl)) dL_act_222 ⟨(show 0 ≤ 4 by omega), (show 0 ≤ 7200 by omega)⟩ rfl ?_
                    refine lv_istore (pc := 225) (lv' := [(9, .int (lw ((x1 >>> ((6 : Int32) &&& 31)) >>> ((6 : Int32) &&& 31)) 8)), (8, .int (lw ((x1 >>> ((6 : Int32) &&& 31)) >>> ((7 : Int32) &&& 31)) 6)), (7, .int (lw ((x1 >>> ((6 : Int32) &&& 31)) >>> ((4 : Int32) &&& 31)) 3000)), (6, .int (lw ((x1 >>> ((6 : Int32) &&& 31)) >>> ((3 : Int32) &&& 31)) 16)), (5, .int (lw (x1 >>> ((6 : Int32) &&& 31)) 8)), (4, .int (x1 >>> ((6 : Int32) &&& 31))), (3, .int (lw x1 40)), (2, .int 0), (0, .ref (b 0 0)), (1, .int x1)]) hx hb dL_act_225 hl (by decide) rfl (fun ls hl => ?_)
                    refine lv_iload_n (pc := 227) hx hb dL_act_227 rfl (lv_at hl 6 rfl) ?_
                    refine lv_iconst (pc := 228) (v := 5) hx hb dL_act_228 (by decide) ?_
                    refine lv_icmp_ge (pc := 229) (tgt := 325) hx hb dL_act_229 (by decide) (fun c18 => ?_) (fun c18 => ?_)
                    · have hf := (if_pos c18).symm.trans hf
                      refine lv_iload_n (pc := 325) hx hb dL_act_325 rfl (lv_at hl 6 rfl) ?_
                      refine lv_bipush (pc := 326) (v := 7) hx hb dL_act_326 (by decide) ?_
                      refine lv_icmp_ge (pc := 328) (tgt := 376) hx hb dL_act_328 (by decide) (fun c19 => ?_) (fun c19 => ?_)
                      · have hf := (if_pos c19).symm.trans hf
                        refine lv_iload_n (pc := 376) hx hb dL_act_376 rfl (lv_at hl 6 rfl) ?_
                        refine lv_bipush (pc := 377) (v := 9) hx hb dL_act_377 (by decide) ?_
                        refine lv_icmp_ge (pc := 379) (tgt := 430) hx hb dL_act_379 (by decide) (fun c20 => ?_) (fun c20 => ?_)
                        · have hf := (if_pos c20).symm.trans hf
                          refine lv_aload_n (pc := 430) hx hb dL_act_430 rfl (lv_at hl 8 rfl) ?_
                          refine lv_bipush (pc := 431) (v := 8) hx hb dL_act_431 (by decide) ?_
                          refine lv_iload (pc := 433) hx hb dL_act_433 (lv_at hl 1 rfl) ?_
                          refine lv_iload (pc := 435) hx hb dL_act_435 (lv_at hl 5 rfl) ?_
                          refine lv_iconst (pc := 437) (v := 4) hx hb dL_act_437 (by decide) ?_
                          refine lv_ishr (pc := 438) hx hb dL_act_438 ?_
                          refine lv_iload_n (pc := 439) hx hb dL_act_439 rfl (lv_at hl 7 rfl) ?_
                          refine lv_if_eq (pc := 440) (tgt := 449) hx hb dL_act_440 (by decide) (fun c21 => ?_) (fun c21 => ?_)
                          · refine lv_sipush (pc := 449) (v := 3001) hx hb dL_act_449 (by decide) ?_
                            refine ro_S (pc := 452) (As := [.int ((x1 >>> ((6 : Int32) &&& 31)) >>> ((4 : Int32) &&& 31)), .int 3001]) (rest := [.int (lw ((x1 >>> ((6 : Int32) &&& 31)) >>> ((7 : Int32) &&& 31)) 6), .int 8, .ref (b 0 0)]) (st1 := [.int (lw ((x1 >>> ((6 : Int32) &&& 31)) >>> ((4 : Int32) &&& 31)) 3001), .int (lw ((x1 >>> ((6 : Int32) &&& 31)) >>> ((7 : Int32) &&& 31)) 6), .int 8, .ref (b 0 0)]) ⟨hx, hb, hml, hown, hts⟩ (c_L_low Z l ((x1 >>> ((6 : Int32) &&& 31)) >>> ((4 : Int32) &&& 31)) 3001 (by decide)) (va_cwS 2 hts gL_act_L_low rfl rfl rfl hs_L_low ⟨Nat.le_of_ble_eq_true rfl, Nat.le_of_ble_eq_true rfl⟩) hK hE (hP.sub (ws' := []) [] rfl) rfl hl.1 rfl (lv_room (Nat.le_of_ble_eq_true rfl)) dL_act_452 ⟨(show 0 ≤ 4 by omega), (show 0 ≤ 7200 by omega)⟩ rfl ?_
                            refine lv_iload_n (pc := 455) hx hb dL_act_455 rfl (lv_at hl 7 rfl) ?_
                            refine lv_if_eq (pc := 456) (tgt := 466) hx hb dL_act_456 (by decide) (fun c22 => ?_) (fun c22 => ?_)
                            · refine lv_iload (pc := 466) hx hb dL_act_466 (lv_at hl 5 rfl) ?_
                              refine lv_iconst (pc := 468) (v := 5) hx hb dL_act_468 (by decide) ?_
                              refine lv_ishr (pc := 469) hx hb dL_act_469 ?_
                              refine lv_sipush (pc := 470) (v := 900) hx hb dL_act_470 (by decide) ?_
                              refine ro_S (pc := 473) (As := [.int ((x1 >>> ((6 : Int32) &&& 31)) >>> ((5 : Int32) &&& 31)), .int 900]) (rest := [.int (lw ((x1 >>> ((6 : Int32) &&& 31)) >>> ((4 : Int32) &&& 31)) 3001), .int (lw ((x1 >>> ((6 : Int32) &&& 31)) >>> ((7 : Int32) &&& 31)) 6), .int 8, .ref (b 0 0)]) (st1 := [.int (lw ((x1 >>> ((6 : Int32) &&& 31)) >>> ((5 : Int32) &&& 31)) 900), .int (lw ((x1 >>> ((6 : Int32) &&& 31)) >>> ((4 : Int32) &&& 31)) 3001), .int (lw ((x1 >>> ((6 : Int32) &&& 31)) >>> ((7 : Int32) &&& 31)) 6), .int 8, .ref (b 0 0)]) ⟨hx, hb, hml, hown, hts⟩ (c_L_low Z l ((x1 >>> ((6 : Int32) &&& 31)) >>> ((5 : Int32) &&& 31)) 900 (by decide)) (va_cwS 2 hts gL_act_L_low rfl rfl rfl hs_L_low ⟨Nat.le_of_ble_eq_true rfl, Nat.le_of_ble_eq_true rfl⟩) hK hE (hP.sub (ws' := []) [] rfl) rfl hl.1 rfl (lv_room (Nat.le_of_ble_eq_true rfl)) dL_act_473 ⟨(show 0 ≤ 4 by omega), (show 0 ≤ 7200 by omega)⟩ rfl ?_
                              refine lv_iconst (pc := 476) (v := 0) hx hb dL_act_476 (by decide) ?_
                              obtain ⟨r477, h_477, hf⟩ := bd hf
                              refine wr_S (pc := 477) (As := [.ref (b 0 0), .int 8, .int (lw ((x1 >>> ((6 : Int32) &&& 31)) >>> ((7 : Int32) &&& 31)) 6), .int (lw ((x1 >>> ((6 : Int32) &&& 31)) >>> ((4 : Int32) &&& 31)) 3001), .int (lw ((x1 >>> ((6 : Int32) &&& 31)) >>> ((5 : Int32) &&& 31)) 900), .int 0]) (rest := []) (st1 := [.int r477.1]) (wn := fun _ => wH Z b r477.2) ⟨hx, hb, hml, hown, hts⟩ (c_L_does_8 Z l hst b h (lw ((x1 >>> ((6 : Int32) &&& 31)) >>> ((7 : Int32) &&& 31)) 6) (lw ((x1 >>> ((6 : Int32) &&& 31)) >>> ((4 : Int32) &&& 31)) 3001) (lw ((x1 >>> ((6 : Int32) &&& 31)) >>> ((5 : Int32) &&& 31)) 900) 0 r477 h_477) (vx_cwSW 6 hts gL_act_L_does rfl rfl rfl hs_L_does ⟨Nat.le_of_ble_eq_true rfl, Nat.le_of_ble_eq_true rfl⟩) hK hE hP hD hS hA hZ [0, 1, 2, 3, 4, 5, 6, 7, 8, 9, 10, 11, 12, 13, 14, 15, 16, 17, 18, 19, 20, 21, 22, 23, 24, 25, 26, 27, 28, 29, 30, 31, 32, 33, 34, 35, 36, 37, 38, 39] [] [0, 1, 2, 3, 4, 5, 6, 7, 8, 9, 10, 11, 12, 13, 14, 15, 16, 17, 18, 19, 20, 21, 22, 23, 24, 25, 26, 27, 28, 29, 30, 31, 32, 33, 34, 35, 36, 37, 38, 39] (by decide +kernel) rfl rfl (fun _ => rfl) rfl hl.1 rfl (lv_room (Nat.le_of_ble_eq_true rfl)) dL_act_477 ⟨(show 0 + 2 ≤ 4 by omega), (show 0 + 12 ≤ 7200 by omega)⟩ rfl (fun _ H locs hP hD hS => ?_)
                              have hf := (Option.some.inj hf)
                              subst hf
                              refine W.widen (k := 4) (n := 7200) (by omega) (by omega) ?_
                              exact vx_ret (rw_i (fun _ => b 7 1) hx hb hr hlk rfl hP hD hS dL_act_480)
                            · exact absurd c22 (by decide)
                          · exact absurd c21 (by decide)
                        · have hf := (if_neg c20).symm.trans hf
                          refine lv_aload_n (pc := 382) hx hb dL_act_382 rfl (lv_at hl 8 rfl) ?_
                          refine lv_bipush (pc := 383) (v := 7) hx hb dL_act_383 (by decide) ?_
                          refine lv_iload (pc := 385) hx hb dL_act_385 (lv_at hl 1 rfl) ?_
                          refine lv_iload (pc := 387) hx hb dL_act_387 (lv_at hl 3 rfl) ?_
                          refine lv_iload (pc := 389) hx hb dL_act_389 (lv_at hl 5 rfl) ?_
                          refine lv_iconst (pc := 391) (v := 4) hx hb dL_act_391 (by decide) ?_
                          refine lv_ishr (pc := 392) hx hb dL_act_392 ?_
                          refine lv_iload_n (pc := 393) hx hb dL_act_393 rfl (lv_at hl 7 rfl) ?_
                          refine lv_if_eq (pc := 394) (tgt := 403) hx hb dL_act_394 (by decide) (fun c23 => ?_) (fun c23 => ?_)
                          · refine lv_sipush (pc := 403) (v := 301) hx hb dL_act_403 (by decide) ?_
                            refine ro_S (pc := 406) (As := [.int ((x1 >>> ((6 : Int32) &&& 31)) >>> ((4 : Int32) &&& 31)), .int 301]) (rest := [.int (lw ((x1 >>> ((6 : Int32) &&& 31)) >>> ((3 : Int32) &&& 31)) 16), .int (lw ((x1 >>> ((6 : Int32) &&& 31)) >>> ((7 : Int32) &&& 31)) 6), .int 7, .ref (b 0 0)]) (st1 := [.int (lw ((x1 >>> ((6 : Int32) &&& 31)) >>> ((4 : Int32) &&& 31)) 301), .int (lw ((x1 >>> ((6 : Int32) &&& 31)) >>> ((3 : Int32) &&& 31)) 16), .int (lw ((x1 >>> ((6 : Int32) &&& 31)) >>> ((7 : Int32) &&& 31)) 6), .int 7, .ref (b 0 0)]) ⟨hx, hb, hml, hown, hts⟩ (c_L_low Z l ((x1 >>> ((6 : Int32) &&& 31)) >>> ((4 : Int32) &&& 31)) 301 (by decide)) (va_cwS 2 hts gL_act_L_low rfl rfl rfl hs_L_low ⟨Nat.le_of_ble_eq_true rfl, Nat.le_of_ble_eq_true rfl⟩) hK hE (hP.sub (ws' := []) [] rfl) rfl hl.1 rfl (lv_room (Nat.le_of_ble_eq_true rfl)) dL_act_406 ⟨(show 0 ≤ 4 by omega), (show 0 ≤ 7200 by omega)⟩ rfl ?_
                            refine lv_iload_n (pc := 409) hx hb dL_act_409 rfl (lv_at hl 7 rfl) ?_
                            refine lv_if_eq (pc := 410) (tgt := 419) hx hb dL_act_410 (by decide) (fun c24 => ?_) (fun c24 => ?_)
                            · refine lv_sipush (pc := 419) (v := 150) hx hb dL_act_419 (by decide) ?_
                              refine lv_isub (pc := 422) hx hb dL_act_422 ?_
                              refine lv_iconst (pc := 423) (v := 0) hx hb dL_act_423 (by decide) ?_
                              obtain ⟨r424, h_424, hf⟩ := bd hf
                              refine wr_S (pc := 424) (As := [.ref (b 0 0), .int 7, .int (lw ((x1 >>> ((6 : Int32) &&& 31)) >>> ((7 : Int32) &&& 31)) 6), .int (lw ((x1 >>> ((6 : Int32) &&& 31)) >>> ((3 : Int32) &&& 31)) 16), .int ((lw ((x1 >>> ((6 : Int32) &&& 31)) >>> ((4 : Int32) &&& 31)) 301) - (150 : Int32)), .int 0]) (rest := []) (st1 := [.int r424.1]) (wn := fun _ => wH Z b r424.2) ⟨hx, hb, hml, hown, hts⟩ (c_L_does_7 Z l hst b h (lw ((x1 >>> ((6 : Int32) &&& 31)) >>> ((7 : Int32) &&& 31)) 6) (lw ((x1 >>> ((6 : Int32) &&& 31)) >>> ((3 : Int32) &&& 31)) 16) ((lw ((x1 >>> ((6 : Int32) &&& 31)) >>> ((4 : Int32) &&& 31)) 301) - (150 : Int32)) 0 r424 h_424) (vx_cwSW 6 hts gL_act_L_does rfl rfl rfl hs_L_does ⟨Nat.le_of_ble_eq_true rfl, Nat.le_of_ble_eq_true rfl⟩) hK hE hP hD hS hA hZ [0, 1, 2, 3, 4, 5, 6, 7, 8, 9, 10, 11, 12, 13, 14, 15, 16, 17, 18, 19, 20, 21, 22, 23, 24, 25, 26, 27, 28, 29, 30, 31, 32, 33, 34, 35, 36, 37, 38, 39] [] [0, 1, 2, 3, 4, 5, 6, 7, 8, 9, 10, 11, 12, 13, 14, 15, 16, 17, 18, 19, 20, 21, 22, 23, 24, 25, 26, 27, 28, 29, 30, 31, 32, 33, 34, 35, 36, 37, 38, 39] (by decide +kernel) rfl rfl (fun _ => rfl) rfl hl.1 rfl (lv_room (Nat.le_of_ble_eq_true rfl)) dL_act_424 ⟨(show 0 + 3 ≤ 4 by omega), (show 0 + 18 ≤ 7200 by omega)⟩ rfl (fun _ H locs hP hD hS => ?_)
                              refine lv_goto (pc := 427) (tgt := 480) hx hb dL_act_427 (by decide) ?_
                              have hf := (Option.some.inj hf)
                              subst hf
                              refine W.widen (k := 4) (n := 7200) (by omega) (by omega) ?_
                              exact vx_ret (rw_i (fun _ => b 7 1) hx hb hr hlk rfl hP hD hS dL_act_480)
                            · exact absurd c24 (by decide)
                          · exact absurd c23 (by decide)
                      · have hf := (if_neg c19).symm.trans hf
                        refine lv_aload_n (pc := 331) hx hb dL_act_331 rfl (lv_at hl 8 rfl) ?_
                        refine lv_bipush (pc := 332) (v := 6) hx hb dL_act_332 (by decide) ?_
                        refine lv_iload (pc := 334) hx hb dL_act_334 (lv_at hl 3 rfl) ?_
                        refine lv_iload (pc := 336) hx hb dL_act_336 (lv_at hl 5 rfl) ?_
                        refine lv_iconst (pc := 338) (v := 5) hx hb dL_act_338 (by decide) ?_
                        refine lv_ishr (pc := 339) hx hb dL_act_339 ?_
                        refine lv_iload_n (pc := 340) hx hb dL_act_340 rfl (lv_at hl 7 rfl) ?_
                        refine lv_if_eq (pc := 341) (tgt := 350) hx hb dL_act_341 (by decide) (fun c25 => ?_) (fun c25 => ?_)
                        · refine lv_sipush (pc := 350) (v := 300) hx hb dL_act_350 (by decide) ?_
                          refine ro_S (pc := 353) (As := [.int ((x1 >>> ((6 : Int32) &&& 31)) >>> ((5 : Int32) &&& 31)), .int 300]) (rest := [.int (lw ((x1 >>> ((6 : Int32) &&& 31)) >>> ((3 : Int32) &&& 31)) 16), .int 6, .ref (b 0 0)]) (st1 := [.int (lw ((x1 >>> ((6 : Int32) &&& 31)) >>> ((5 : Int32) &&& 31)) 300), .int (lw ((x1 >>> ((6 : Int32) &&& 31)) >>> ((3 : Int32) &&& 31)) 16), .int 6, .ref (b 0 0)]) ⟨hx, hb, hml, hown, hts⟩ (c_L_low Z l ((x1 >>> ((6 : Int32) &&& 31)) >>> ((5 : Int32) &&& 31)) 300 (by decide)) (va_cwS 2 hts gL_act_L_low rfl rfl rfl hs_L_low ⟨Nat.le_of_ble_eq_true rfl, Nat.le_of_ble_eq_true rfl⟩) hK hE (hP.sub (ws' := []) [] rfl) rfl hl.1 rfl (lv_room (Nat.le_of_ble_eq_true rfl)) dL_act_353 ⟨(show 0 ≤ 4 by omega), (show 0 ≤ 7200 by omega)⟩ rfl ?_
                          refine lv_iload (pc := 356) hx hb dL_act_356 (lv_at hl 0 rfl) ?_
                          refine lv_bipush (pc := 358) (v := 100) hx hb dL_act_358 (by decide) ?_
                          refine lv_icmp_le (pc := 360) (tgt := 367) hx hb dL_act_360 (by decide) (fun c26 => ?_) (fun c26 => ?_)
                          · have hf := (if_pos c26).symm.trans hf
                            refine lv_iload (pc := 367) hx hb dL_act_367 (lv_at hl 0 rfl) ?_
                            refine lv_iconst (pc := 369) (v := 0) hx hb dL_act_369 (by decide) ?_
                            obtain ⟨r370, h_370, hf⟩ := bd hf
                            refine wr_S (pc := 370) (As := [.ref (b 0 0), .int 6, .int (lw ((x1 >>> ((6 : Int32) &&& 31)) >>> ((3 : Int32) &&& 31)) 16), .int (lw ((x1 >>> ((6 : Int32) &&& 31)) >>> ((5 : Int32) &&& 31)) 300), .int (lw ((x1 >>> ((6 : Int32) &&& 31)) >>> ((6 : Int32) &&& 31)) 8), .int 0]) (rest := []) (st1 := [.int r370.1]) (wn := fun _ => wH Z b r370.2) ⟨hx, hb, hml, hown, hts⟩ (c_L_does_6 Z l hst b h (lw ((x1 >>> ((6 : Int32) &&& 31)) >>> ((3 : Int32) &&& 31)) 16) (lw ((x1 >>> ((6 : Int32) &&& 31)) >>> ((5 : Int32) &&& 31)) 300) (lw ((x1 >>> ((6 : Int32) &&& 31)) >>> ((6 : Int32) &&& 31)) 8) 0 r370 h_370) (vx_cwSW 6 hts gL_act_L_does rfl rfl rfl hs_L_does ⟨Nat.le_of_ble_eq_true rfl, Nat.le_of_ble_eq_true rfl⟩) hK hE hP hD hS hA hZ [0, 1, 2, 3, 4, 5, 6, 7, 8, 9, 10, 11, 12, 13, 14, 15, 16, 17, 18, 19, 20, 21, 22, 23, 24, 25, 26, 27, 28, 29, 30, 31, 32, 33, 34, 35, 36, 37, 38, 39] [] [0, 1, 2, 3, 4, 5, 6, 7, 8, 9, 10, 11, 12, 13, 14, 15, 16, 17, 18, 19, 20, 21, 22, 23, 24, 25, 26, 27, 28, 29, 30, 31, 32, 33, 34, 35, 36, 37, 38, 39] (by decide +kernel) rfl rfl (fun _ => rfl) rfl hl.1 rfl (lv_room (Nat.le_of_ble_eq_true rfl)) dL_act_370 ⟨(show 0 + 4 ≤ 4 by omega), (show 0 + 24 ≤ 7200 by omega)⟩ rfl (fun _ H locs hP hD hS => ?_)
                            refine lv_goto (pc := 373) (tgt := 480) hx hb dL_act_373 (by decide) ?_
                            have hf := (Option.some.inj hf)
                            subst hf
                            refine W.widen (k := 4) (n := 7200) (by omega) (by omega) ?_
                            exact vx_ret (rw_i (fun _ => b 7 1) hx hb hr hlk rfl hP hD hS dL_act_480)
                          · have hf := (if_neg c26).symm.trans hf
                            refine lv_iconst (pc := 363) (v := 0) hx hb dL_act_363 (by decide) ?_
                            refine lv_goto (pc := 364) (tgt := 369) hx hb dL_act_364 (by decide) ?_
                            refine lv_iconst (pc := 369) (v := 0) hx hb dL_act_369 (by decide) ?_
                            obtain ⟨r370, h_370, hf⟩ := bd hf
                            refine wr_S (pc := 370) (As := [.ref (b 0 0), .int 6, .int (lw ((x1 >>> ((6 : Int32) &&& 31)) >>> ((3 : Int32) &&& 31)) 16), .int (lw ((x1 >>> ((6 : Int32) &&& 31)) >>> ((5 : Int32) &&& 31)) 300), .int 0, .int 0]) (rest := []) (st1 := [.int r370.1]) (wn := fun _ => wH Z b r370.2) ⟨hx, hb, hml, hown, hts⟩ (c_L_does_6 Z l hst b h (lw ((x1 >>> ((6 : Int32) &&& 31)) >>> ((3 : Int32) &&& 31)) 16) (lw ((x1 >>> ((6 : Int32) &&& 31)) >>> ((5 : Int32) &&& 31)) 300) 0 0 r370 h_370) (vx_cwSW 6 hts gL_act_L_does rfl rfl rfl hs_L_does ⟨Nat.le_of_ble_eq_true rfl, Nat.le_of_ble_eq_true rfl⟩) hK hE hP hD hS hA hZ [0, 1, 2, 3, 4, 5, 6, 7, 8, 9, 10, 11, 12, 13, 14, 15, 16, 17, 18, 19, 20, 21, 22, 23, 24, 25, 26, 27, 28, 29, 30, 31, 32, 33, 34, 35, 36, 37, 38, 39] [] [0, 1, 2, 3, 4, 5, 6, 7, 8, 9, 10, 11, 12, 13, 14, 15, 16, 17, 18, 19, 20, 21, 22, 23, 24, 25, 26, 27, 28, 29, 30, 31, 32, 33, 34, 35, 36, 37, 38, 39] (by decide +kernel) rfl rfl (fun _ => rfl) rfl hl.1 rfl (lv_room (Nat.le_of_ble_eq_true rfl)) dL_act_370 ⟨(show 0 + 4 ≤ 4 by omega), (show 0 + 24 ≤ 7200 by omega)⟩ rfl (fun _ H locs hP hD hS => ?_)
                            refine lv_goto (pc := 373) (tgt := 480) hx hb dL_act_373 (by decide) ?_
                            have hf := (Option.some.inj hf)
                            subst hf
                            refine W.widen (k := 4) (n := 7200) (by omega) (by omega) ?_
                            exact vx_ret (rw_i (fun _ => b 7 1) hx hb hr hlk rfl hP hD hS dL_act_480)
                        · exact absurd c25 (by decide)
                    · have hf := (if_neg c18).symm.trans hf
                      refine lv_aload_n (pc := 232) hx hb dL_act_232 rfl (lv_at hl 8 rfl) ?_
                      refine lv_iconst (pc := 233) (v := 5) hx hb dL_act_233 (by decide) ?_
                      refine lv_sipush (pc := 234) (v := 10000) hx hb dL_act_234 (by decide) ?_
                      refine lv_iload (pc := 237) hx hb dL_act_237 (lv_at hl 5 rfl) ?_
                      refine lv_iconst (pc := 239) (v := 4) hx hb dL_act_239 (by decide) ?_
                      refine lv_ishr (pc := 240) hx hb dL_act_240 ?_
                      refine lv_iload_n (pc := 241) hx hb dL_act_241 rfl (lv_at hl 7 rfl) ?_
                      refine lv_if_eq (pc := 242) (tgt := 251) hx hb dL_act_242 (by decide) (fun c27 => ?_) (fun c27 => ?_)
                      · refine lv_sipush (pc := 251) (v := 3001) hx hb dL_act_251 (by decide) ?_
                        refine ro_S (pc := 254) (As := [.int ((x1 >>> ((6 : Int32) &&& 31)) >>> ((4 : Int32) &&& 31)), .int 3001]) (rest := [.int 10000, .int 5, .ref (b 0 0)]) (st1 := [.int (lw ((x1 >>> ((6 : Int32) &&& 31)) >>> ((4 : Int32) &&& 31)) 3001), .int 10000, .int 5, .ref (b 0 0)]) ⟨hx, hb, hml, hown, hts⟩ (c_L_low Z l ((x1 >>> ((6 : Int32) &&& 31)) >>> ((4 : Int32) &&& 31)) 3001 (by decide)) (va_cwS 2 hts gL_act_L_low rfl rfl rfl hs_L_low ⟨Nat.le_of_ble_eq_true rfl, Nat.le_of_ble_eq_true rfl⟩) hK hE (hP.sub (ws' := []) [] rfl) rfl hl.1 rfl (lv_room (Nat.le_of_ble_eq_true rfl)) dL_act_254 ⟨(show 0 ≤ 4 by omega), (show 0 ≤ 7200 by omega)⟩ rfl ?_
                        refine lv_imul (pc := 257) hx hb dL_act_257 ?_
                        refine lv_iload (pc := 258) hx hb dL_act_258 (lv_at hl 3 rfl) ?_
                        refine lv_if_ge (pc := 260) (tgt := 269) hx hb dL_act_260 (by decide) (fun c28 => ?_) (fun c28 => ?_)
                        · have hf := (if_pos c28).symm.trans hf
                          refine lv_iload (pc := 269) hx hb dL_act_269 (lv_at hl 3 rfl) ?_
                          refine lv_iadd (pc := 271) hx hb dL_act_271 ?_
                          refine lv_iload (pc := 272) hx hb dL_act_272 (lv_at hl 5 rfl) ?_
                          refine lv_iconst (pc := 274) (v := 5) hx hb dL_act_274 (by decide) ?_
                          refine lv_ishr (pc := 275) hx hb dL_act_275 ?_
                          refine lv_iload_n (pc := 276) hx hb dL_act_276 rfl (lv_at hl 7 rfl) ?_
                          refine lv_if_eq (pc := 277) (tgt := 286) hx hb dL_act_277 (by decide) (fun c29 => ?_) (fun c29 => ?_)
                          · refine lv_sipush (pc := 286) (v := 199) hx hb dL_act_286 (by decide) ?_
                            refine ro_S (pc := 289) (As := [.int ((x1 >>> ((6 : Int32) &&& 31)) >>> ((5 : Int32) &&& 31)), .int 199]) (rest := [.int (((10000 : Int32) * (lw ((x1 >>> ((6 : Int32) &&& 31)) >>> ((4 : Int32) &&& 31)) 3001)) + (lw ((x1 >>> ((6 : Int32) &&& 31)) >>> ((3 : Int32) &&& 31)) 16)), .int 5, .ref (b 0 0)]) (st1 := [.int (lw ((x1 >>> ((6 : Int32) &&& 31)) >>> ((5 : Int32) &&& 31)) 199), .int (((10000 : Int32) * (lw ((x1 >>> ((6 : Int32) &&& 31)) >>> ((4 : Int32) &&& 31)) 3001)) + (lw ((x1 >>> ((6 : Int32) &&& 31)) >>> ((3 : Int32) &&& 31)) 16)), .int 5, .ref (b 0 0)]) ⟨hx, hb, hml, hown, hts⟩ (c_L_low Z l ((x1 >>> ((6 : Int32) &&& 31)) >>> ((5 : Int32) &&& 31)) 199 (by decide)) (va_cwS 2 hts gL_act_L_low rfl rfl rfl hs_L_low ⟨Nat.le_of_ble_eq_true rfl, Nat.le_of_ble_eq_true rfl⟩) hK hE (hP.sub (ws' := []) [] rfl) rfl hl.1 rfl (lv_room (Nat.le_of_ble_eq_true rfl)) dL_act_289 ⟨(show 0 ≤ 4 by omega), (show 0 ≤ 7200 by omega)⟩ rfl ?_
                            refine lv_bipush (pc := 292) (v := 99) hx hb dL_act_292 (by decide) ?_
                            refine lv_isub (pc := 294) hx hb dL_act_294 ?_
                            refine lv_iload_n (pc := 295) hx hb dL_act_295 rfl (lv_at hl 7 rfl) ?_
                            refine lv_if_eq (pc := 296) (tgt := 306) hx hb dL_act_296 (by decide) (fun c30 => ?_) (fun c30 => ?_)
                            · refine lv_iload (pc := 306) hx hb dL_act_306 (lv_at hl 5 rfl) ?_
                              refine lv_bipush (pc := 308) (v := 6) hx hb dL_act_308 (by decide) ?_
                              refine lv_ishr (pc := 310) hx hb dL_act_310 ?_
                              refine lv_sipush (pc := 311) (v := 400) hx hb dL_act_311 (by decide) ?_
                              refine ro_S (pc := 314) (As := [.int ((x1 >>> ((6 : Int32) &&& 31)) >>> ((6 : Int32) &&& 31)), .int 400]) (rest := [.int ((lw ((x1 >>> ((6 : Int32) &&& 31)) >>> ((5 : Int32) &&& 31)) 199) - (99 : Int32)), .int (((10000 : Int32) * (lw ((x1 >>> ((6 : Int32) &&& 31)) >>> ((4 : Int32) &&& 31)) 3001)) + (lw ((x1 >>> ((6 : Int32) &&& 31)) >>> ((3 : Int32) &&& 31)) 16)), .int 5, .ref (b 0 0)]) (st1 := [.int (lw ((x1 >>> ((6 : Int32) &&& 31)) >>> ((6 : Int32) &&& 31)) 400), .int ((lw ((x1 >>> ((6 : Int32) &&& 31)) >>> ((5 : Int32) &&& 31)) 199) - (99 : Int32)), .int (((10000 : Int32) * (lw ((x1 >>> ((6 : Int32) &&& 31)) >>> ((4 : Int32) &&& 31)) 3001)) + (lw ((x1 >>> ((6 : Int32) &&& 31)) >>> ((3 : Int32) &&& 31)) 16)), .int 5, .ref (b 0 0)]) ⟨hx, hb, hml, hown, hts⟩ (c_L_low Z l ((x1 >>> ((6 : Int32) &&& 31)) >>> ((6 : Int32) &&& 31)) 400 (by decide)) (va_cwS 2 hts gL_act_L_low rfl rfl rfl hs_L_low ⟨Nat.le_of_ble_eq_true rfl, Nat.le_of_ble_eq_true rfl⟩) hK hE (hP.sub (ws' := []) [] rfl) rfl hl.1 rfl (lv_room (Nat.le_of_ble_eq_true rfl)) dL_act_314 ⟨(show 0 ≤ 4 by omega), (show 0 ≤ 7200 by omega)⟩ rfl ?_
                              refine lv_iload (pc := 317) hx hb dL_act_317 (lv_at hl 0 rfl) ?_
                              obtain ⟨r319, h_319, hf⟩ := bd hf
                              refine wr_S (pc := 319) (As := [.ref (b 0 0), .int 5, .int (((10000 : Int32) * (lw ((x1 >>> ((6 : Int32) &&& 31)) >>> ((4 : Int32) &&& 31)) 3001)) + (lw ((x1 >>> ((6 : Int32) &&& 31)) >>> ((3 : Int32) &&& 31)) 16)), .int ((lw ((x1 >>> ((6 : Int32) &&& 31)) >>> ((5 : Int32) &&& 31)) 199) - (99 : Int32)), .int (lw ((x1 >>> ((6 : Int32) &&& 31)) >>> ((6 : Int32) &&& 31)) 400), .int (lw ((x1 >>> ((6 : Int32) &&& 31)) >>> ((6 : Int32) &&& 31)) 8)]) (rest := []) (st1 := [.int r319.1]) (wn := fun _ => wH Z b r319.2) ⟨hx, hb, hml, hown, hts⟩ (c_L_does_5 Z l hst b h (((10000 : Int32) * (lw ((x1 >>> ((6 : Int32) &&& 31)) >>> ((4 : Int32) &&& 31)) 3001)) + (lw ((x1 >>> ((6 : Int32) &&& 31)) >>> ((3 : Int32) &&& 31)) 16)) ((lw ((x1 >>> ((6 : Int32) &&& 31)) >>> ((5 : Int32) &&& 31)) 199) - (99 : Int32)) (lw ((x1 >>> ((6 : Int32) &&& 31)) >>> ((6 : Int32) &&& 31)) 400) (lw ((x1 >>> ((6 : Int32) &&& 31)) >>> ((6 : Int32) &&& 31)) 8) r319 h_319) (vx_cwSW 6 hts gL_act_L_does rfl rfl rfl hs_L_does ⟨Nat.le_of_ble_eq_true rfl, Nat.le_of_ble_eq_true rfl⟩) hK hE hP hD hS hA hZ [0, 1, 2, 3, 4, 5, 6, 7, 8, 9, 10, 11, 12, 13, 14, 15, 16, 17, 18, 19, 20, 21, 22, 23, 24, 25, 26, 27, 28, 29, 30, 31, 32, 33, 34, 35, 36, 37, 38, 39] [] [0, 1, 2, 3, 4, 5, 6, 7, 8, 9, 10, 11, 12, 13, 14, 15, 16, 17, 18, 19, 20, 21, 22, 23, 24, 25, 26, 27, 28, 29, 30, 31, 32, 33, 34, 35, 36, 37, 38, 39] (by decide +kernel) rfl rfl (fun _ => rfl) rfl hl.1 rfl (lv_room (Nat.le_of_ble_eq_true rfl)) dL_act_319 ⟨(show 0 + 4 ≤ 4 by omega), (show 0 + 24 ≤ 7200 by omega)⟩ rfl (fun _ H locs hP hD hS => ?_)
                              refine lv_goto (pc := 322) (tgt := 480) hx hb dL_act_322 (by decide) ?_
                              have hf := (Option.some.inj hf)
                              subst hf
                              refine W.widen (k := 4) (n := 7200) (by omega) (by omega) ?_
                              exact vx_ret (rw_i (fun _ => b 7 1) hx hb hr hlk rfl hP hD hS dL_act_480)
                            · exact absurd c30 (by decide)
                          · exact absurd c29 (by decide)
                        · have hf := (if_neg c28).symm.trans hf
                          refine lv_sipush (pc := 263) (v := 9999) hx hb dL_act_263 (by decide) ?_
                          refine lv_goto (pc := 266) (tgt := 271) hx hb dL_act_266 (by decide) ?_
                          refine lv_iadd (pc := 271) hx hb dL_act_271 ?_
                          refine lv_iload (pc := 272) hx hb dL_act_272 (lv_at hl 5 rfl) ?_
                          refine lv_iconst (pc := 274) (v := 5) hx hb dL_act_274 (by decide) ?_
                          refine lv_ishr (pc := 275) hx hb dL_act_275 ?_
                          refine lv_iload_n (pc := 276) hx hb dL_act_276 rfl (lv_at hl 7 rfl) ?_
                          refine lv_if_eq (pc := 277) (tgt := 286) hx hb dL_act_277 (by decide) (fun c31 => ?_) (fun c31 => ?_)
                          · refine lv_sipush (pc := 286) (v := 199) hx hb dL_act_286 (by decide) ?_
                            refine ro_S (pc := 289) (As := [.int ((x1 >>> ((6 : Int32) &&& 31)) >>> ((5 : Int32) &&& 31)), .int 199]) (rest := [.int (((10000 : Int32) * (lw ((x1 >>> ((6 : Int32) &&& 31)) >>> ((4 : Int32) &&& 31)) 3001)) + (9999 : Int32)), .int 5, .ref (b 0 0)]) (st1 := [.int (lw ((x1 >>> ((6 : Int32) &&& 31)) >>> ((5 : Int32) &&& 31)) 199), .int (((10000 : Int32) * (lw ((x1 >>> ((6 : Int32) &&& 31)) >>> ((4 : Int32) &&& 31)) 3001)) + (9999 : Int32)), .int 5, .ref (b 0 0)]) ⟨hx, hb, hml, hown, hts⟩ (c_L_low Z l ((x1 >>> ((6 : Int32) &&& 31)) >>> ((5 : Int32) &&& 31)) 199 (by decide)) (va_cwS 2 hts gL_act_L_low rfl rfl rfl hs_L_low ⟨Nat.le_of_ble_eq_true rfl, Nat.le_of_ble_eq_true rfl⟩) hK hE (hP.sub (ws' := []) [] rfl) rfl hl.1 rfl (lv_room (Nat.le_of_ble_eq_true rfl)) dL_act_289 ⟨(show 0 ≤ 4 by omega), (show 0 ≤ 7200 by omega)⟩ rfl ?_
                            refine lv_bipush (pc := 292) (v := 99) hx hb dL_act_292 (by decide) ?_
                            refine lv_isub (pc := 294) hx hb dL_act_294 ?_
                            refine lv_iload_n (pc := 295) hx hb dL_act_295 rfl (lv_at hl 7 rfl) ?_
                            refine lv_if_eq (pc := 296) (tgt := 306) hx hb dL_act_296 (by decide) (fun c32 => ?_) (fun c32 => ?_)
                            · refine lv_iload (pc := 306) hx hb dL_act_306 (lv_at hl 5 rfl) ?_
                              refine lv_bipush (pc := 308) (v := 6) hx hb dL_act_308 (by decide) ?_
                              refine lv_ishr (pc := 310) hx hb dL_act_310 ?_
                              refine lv_sipush (pc := 311) (v := 400) hx hb dL_act_311 (by decide) ?_
                              refine ro_S (pc := 314) (As := [.int ((x1 >>> ((6 : Int32) &&& 31)) >>> ((6 : Int32) &&& 31)), .int 400]) (rest := [.int ((lw ((x1 >>> ((6 : Int32) &&& 31)) >>> ((5 : Int32) &&& 31)) 199) - (99 : Int32)), .int (((10000 : Int32) * (lw ((x1 >>> ((6 : Int32) &&& 31)) >>> ((4 : Int32) &&& 31)) 3001)) + (9999 : Int32)), .int 5, .ref (b 0 0)]) (st1 := [.int (lw ((x1 >>> ((6 : Int32) &&& 31)) >>> ((6 : Int32) &&& 31)) 400), .int ((lw ((x1 >>> ((6 : Int32) &&& 31)) >>> ((5 : Int32) &&& 31)) 199) - (99 : Int32)), .int (((10000 : Int32) * (lw ((x1 >>> ((6 : Int32) &&& 31)) >>> ((4 : Int32) &&& 31)) 3001)) + (9999 : Int32)), .int 5, .ref (b 0 0)]) ⟨hx, hb, hml, hown, hts⟩ (c_L_low Z l ((x1 >>> ((6 : Int32) &&& 31)) >>> ((6 : Int32) &&& 31)) 400 (by decide)) (va_cwS 2 hts gL_act_L_low rfl rfl rfl hs_L_low ⟨Nat.le_of_ble_eq_true rfl, Nat.le_of_ble_eq_true rfl⟩) hK hE (hP.sub (ws' := []) [] rfl) rfl hl.1 rfl (lv_room (Nat.le_of_ble_eq_true rfl)) dL_act_314 ⟨(show 0 ≤ 4 by omega), (show 0 ≤ 7200 by omega)⟩ rfl ?_
                              refine lv_iload (pc := 317) hx hb dL_act_317 (lv_at hl 0 rfl) ?_
                              obtain ⟨r319, h_319, hf⟩ := bd hf
                              refine wr_S (pc := 319) (As := [.ref (b 0 0), .int 5, .int (((10000 : Int32) * (lw ((x1 >>> ((6 : Int32) &&& 31)) >>> ((4 : Int32) &&& 31)) 3001)) + (9999 : Int32)), .int ((lw ((x1 >>> ((6 : Int32) &&& 31)) >>> ((5 : Int32) &&& 31)) 199) - (99 : Int32)), .int (lw ((x1 >>> ((6 : Int32) &&& 31)) >>> ((6 : Int32) &&& 31)) 400), .int (lw ((x1 >>> ((6 : Int32) &&& 31)) >>> ((6 : Int32) &&& 31)) 8)]) (rest := []) (st1 := [.int r319.1]) (wn := fun _ => wH Z b r319.2) ⟨hx, hb, hml, hown, hts⟩ (c_L_does_5 Z l hst b h (((10000 : Int32) * (lw ((x1 >>> ((6 : Int32) &&& 31)) >>> ((4 : Int32) &&& 31)) 3001)) + (9999 : Int32)) ((lw ((x1 >>> ((6 : Int32) &&& 31)) >>> ((5 : Int32) &&& 31)) 199) - (99 : Int32)) (lw ((x1 >>> ((6 : Int32) &&& 31)) >>> ((6 : Int32) &&& 31)) 400) (lw ((x1 >>> ((6 : Int32) &&& 31)) >>> ((6 : Int32) &&& 31)) 8) r319 h_319) (vx_cwSW 6 hts gL_act_L_does rfl rfl rfl hs_L_does ⟨Nat.le_of_ble_eq_true rfl, Nat.le_of_ble_eq_true rfl⟩) hK hE hP hD hS hA hZ [0, 1, 2, 3, 4, 5, 6, 7, 8, 9, 10, 11, 12, 13, 14, 15, 16, 17, 18, 19, 20, 21, 22, 23, 24, 25, 26, 27, 28, 29, 30, 31, 32, 33, 34, 35, 36, 37, 38, 39] [] [0, 1, 2, 3, 4, 5, 6, 7, 8, 9, 10, 11, 12, 13, 14, 15, 16, 17, 18, 19, 20, 21, 22, 23, 24, 25, 26, 27, 28, 29, 30, 31, 32, 33, 34, 35, 36, 37, 38, 39] (by decide +kernel) rfl rfl (fun _ => rfl) rfl hl.1 rfl (lv_room (Nat.le_of_ble_eq_true rfl)) dL_act_319 ⟨(show 0 + 4 ≤ 4 by omega), (show 0 + 24 ≤ 7200 by omega)⟩ rfl (fun _ H locs hP hD hS => ?_)
                              refine lv_goto (pc := 322) (tgt := 480) hx hb dL_act_322 (by decide) ?_
                              have hf := (Option.some.inj hf)
                              subst hf
                              refine W.widen (k := 4) (n := 7200) (by omega) (by omega) ?_
                              exact vx_ret (rw_i (fun _ => b 7 1) hx hb hr hlk rfl hP hD hS dL_act_480)
                            · exact absurd c32 (by decide)
                          · exact absurd c31 (by decide)
                      · exact absurd c27 (by decide)
                  · exact absurd c17 (by decide)
                · have hf := (if_pos c16).symm.trans hf
                  refine lv_bipush (pc := 172) (v := 101) hx hb dL_act_172 (by decide) ?_
                  refine lv_iload (pc := 174) hx hb dL_act_174 (lv_at hl 4 rfl) ?_
                  refine lv_iconst (pc := 176) (v := 5) hx hb dL_act_176 (by decide) ?_
                  refine lv_ishr (pc := 177) hx hb dL_act_177 ?_
                  refine lv_iload_n (pc := 178) hx hb dL_act_178 rfl (lv_at hl 6 rfl) ?_
                  refine lv_if_eq (pc := 179) (tgt := 187) hx hb dL_act_179 (by decide) (fun c33 => ?_) (fun c33 => ?_)
                  · refine lv_bipush (pc := 187) (v := 6) hx hb dL_act_187 (by decide) ?_
                    refine ro_S (pc := 189) (As := [.int ((x1 >>> ((6 : Int32) &&& 31)) >>> ((5 : Int32) &&& 31)), .int 6]) (rest := [.int 101]) (st1 := [.int (lw ((x1 >>> ((6 : Int32) &&& 31)) >>> ((5 : Int32) &&& 31)) 6), .int 101]) ⟨hx, hb, hml, hown, hts⟩ (c_L_low Z l ((x1 >>> ((6 : Int32) &&& 31)) >>> ((5 : Int32) &&& 31)) 6 (by decide)) (va_cwS 2 hts gL_act_L_low rfl rfl rfl hs_L_low ⟨Nat.le_of_ble_eq_true rfl, Nat.le_of_ble_eq_true rfl⟩) hK hE (hP.sub (ws' := []) [] rfl) rfl hl.1 rfl (lv_room (Nat.le_of_ble_eq_true rfl)) dL_act_189 ⟨(show 0 ≤ 4 by omega), (show 0 ≤ 7200 by omega)⟩ rfl ?_
                    refine lv_iadd (pc := 192) hx hb dL_act_192 ?_
                    refine lv_goto (pc := 193) (tgt := 225) hx hb dL_act_193 (by decide) ?_
                    refine lv_istore (pc := 225) (lv' := [(9, .int ((101 : Int32) + (lw ((x1 >>> ((6 : Int32) &&& 31)) >>> ((5 : Int32) &&& 31)) 6))), (8, .int (lw ((x1 >>> ((6 : Int32) &&& 31)) >>> ((7 : Int32) &&& 31)) 6)), (7, .int (lw ((x1 >>> ((6 : Int32) &&& 31)) >>> ((4 : Int32) &&& 31)) 3000)), (6, .int (lw ((x1 >>> ((6 : Int32) &&& 31)) >>> ((3 : Int32) &&& 31)) 16)), (5, .int (lw (x1 >>> ((6 : Int32) &&& 31)) 8)), (4, .int (x1 >>> ((6 : Int32) &&& 31))), (3, .int (lw x1 40)), (2, .int 0), (0, .ref (b 0 0)), (1, .int x1)]) hx hb dL_act_225 hl (by decide) rfl (fun ls hl => ?_)
                    refine lv_iload_n (pc := 227) hx hb dL_act_227 rfl (lv_at hl 6 rfl) ?_
                    refine lv_iconst (pc := 228) (v := 5) hx hb dL_act_228 (by decide) ?_
                    refine lv_icmp_ge (pc := 229) (tgt := 325) hx hb dL_act_229 (by decide) (fun c34 => ?_) (fun c34 => ?_)
                    · have hf := (if_pos c34).symm.trans hf
                      refine lv_iload_n (pc := 325) hx hb dL_act_325 rfl (lv_at hl 6 rfl) ?_
                      refine lv_bipush (pc := 326) (v := 7) hx hb dL_act_326 (by decide) ?_
                      refine lv_icmp_ge (pc := 328) (tgt := 376) hx hb dL_act_328 (by decide) (fun c35 => ?_) (fun c35 => ?_)
                      · have hf := (if_pos c35).symm.trans hf
                        refine lv_iload_n (pc := 376) hx hb dL_act_376 rfl (lv_at hl 6 rfl) ?_
                        refine lv_bipush (pc := 377) (v := 9) hx hb dL_act_377 (by decide) ?_
                        refine lv_icmp_ge (pc := 379) (tgt := 430) hx hb dL_act_379 (by decide) (fun c36 => ?_) (fun c36 => ?_)
                        · have hf := (if_pos c36).symm.trans hf
                          refine lv_aload_n (pc := 430) hx hb dL_act_430 rfl (lv_at hl 8 rfl) ?_
                          refine lv_bipush (pc := 431) (v := 8) hx hb dL_act_431 (by decide) ?_
                          refine lv_iload (pc := 433) hx hb dL_act_433 (lv_at hl 1 rfl) ?_
                          refine lv_iload (pc := 435) hx hb dL_act_435 (lv_at hl 5 rfl) ?_
                          refine lv_iconst (pc := 437) (v := 4) hx hb dL_act_437 (by decide) ?_
                          refine lv_ishr (pc := 438) hx hb dL_act_438 ?_
                          refine lv_iload_n (pc := 439) hx hb dL_act_439 rfl (lv_at hl 7 rfl) ?_
                          refine lv_if_eq (pc := 440) (tgt := 449) hx hb dL_act_440 (by decide) (fun c37 => ?_) (fun c37 => ?_)
                          · refine lv_sipush (pc := 449) (v := 3001) hx hb dL_act_449 (by decide) ?_
                            refine ro_S (pc := 452) (As := [.int ((x1 >>> ((6 : Int32) &&& 31)) >>> ((4 : Int32) &&& 31)), .int 3001]) (rest := [.int (lw ((x1 >>> ((6 : Int32) &&& 31)) >>> ((7 : Int32) &&& 31)) 6), .int 8, .ref (b 0 0)]) (st1 := [.int (lw ((x1 >>> ((6 : Int32) &&& 31)) >>> ((4 : Int32) &&& 31)) 3001), .int (lw ((x1 >>> ((6 : Int32) &&& 31)) >>> ((7 : Int32) &&& 31)) 6), .int 8, .ref (b 0 0)]) ⟨hx, hb, hml, hown, hts⟩ (c_L_low Z l ((x1 >>> ((6 : Int32) &&& 31)) >>> ((4 : Int32) &&& 31)) 3001 (by decide)) (va_cwS 2 hts gL_act_L_low rfl rfl rfl hs_L_low ⟨Nat.le_of_ble_eq_true rfl, Nat.le_of_ble_eq_true rfl⟩) hK hE (hP.sub (ws' := []) [] rfl) rfl hl.1 rfl (lv_room (Nat.le_of_ble_eq_true rfl)) dL_act_452 ⟨(show 0 ≤ 4 by omega), (show 0 ≤ 7200 by omega)⟩ rfl ?_
                            refine lv_iload_n (pc := 455) hx hb dL_act_455 rfl (lv_at hl 7 rfl) ?_
                            refine lv_if_eq (pc := 456) (tgt := 466) hx hb dL_act_456 (by decide) (fun c38 => ?_) (fun c38 => ?_)
                            · refine lv_iload (pc := 466) hx hb dL_act_466 (lv_at hl 5 rfl) ?_
                              refine lv_iconst (pc := 468) (v := 5) hx hb dL_act_468 (by decide) ?_
                              refine lv_ishr (pc := 469) hx hb dL_act_469 ?_
                              refine lv_sipush (pc := 470) (v := 900) hx hb dL_act_470 (by decide) ?_
                              refine ro_S (pc := 473) (As := [.int ((x1 >>> ((6 : Int32) &&& 31)) >>> ((5 : Int32) &&& 31)), .int 900]) (rest := [.int (lw ((x1 >>> ((6 : Int32) &&& 31)) >>> ((4 : Int32) &&& 31)) 3001), .int (lw ((x1 >>> ((6 : Int32) &&& 31)) >>> ((7 : Int32) &&& 31)) 6), .int 8, .ref (b 0 0)]) (st1 := [.int (lw ((x1 >>> ((6 : Int32) &&& 31)) >>> ((5 : Int32) &&& 31)) 900), .int (lw ((x1 >>> ((6 : Int32) &&& 31)) >>> ((4 : Int32) &&& 31)) 3001), .int (lw ((x1 >>> ((6 : Int32) &&& 31)) >>> ((7 : Int32) &&& 31)) 6), .int 8, .ref (b 0 0)]) ⟨hx, hb, hml, hown, hts⟩ (c_L_low Z l ((x1 >>> ((6 : Int32) &&& 31)) >>> ((5 : Int32) &&& 31)) 900 (by decide)) (va_cwS 2 hts gL_act_L_low rfl rfl rfl hs_L_low ⟨Nat.le_of_ble_eq_true rfl, Nat.le_of_ble_eq_true rfl⟩) hK hE (hP.sub (ws' := []) [] rfl) rfl hl.1 rfl (lv_room (Nat.le_of_ble_eq_true rfl)) dL_act_473 ⟨(show 0 ≤ 4 by omega), (show 0 ≤ 7200 by omega)⟩ rfl ?_
                              refine lv_iconst (pc := 476) (v := 0) hx hb dL_act_476 (by decide) ?_
                              obtain ⟨r477, h_477, hf⟩ := bd hf
                              refine wr_S (pc := 477) (As := [.ref (b 0 0), .int 8, .int (lw ((x1 >>> ((6 : Int32) &&& 31)) >>> ((7 : Int32) &&& 31)) 6), .int (lw ((x1 >>> ((6 : Int32) &&& 31)) >>> ((4 : Int32) &&& 31)) 3001), .int (lw ((x1 >>> ((6 : Int32) &&& 31)) >>> ((5 : Int32) &&& 31)) 900), .int 0]) (rest := []) (st1 := [.int r477.1]) (wn := fun _ => wH Z b r477.2) ⟨hx, hb, hml, hown, hts⟩ (c_L_does_8 Z l hst b h (lw ((x1 >>> ((6 : Int32) &&& 31)) >>> ((7 : Int32) &&& 31)) 6) (lw ((x1 >>> ((6 : Int32) &&& 31)) >>> ((4 : Int32) &&& 31)) 3001) (lw ((x1 >>> ((6 : Int32) &&& 31)) >>> ((5 : Int32) &&& 31)) 900) 0 r477 h_477) (vx_cwSW 6 hts gL_act_L_does rfl rfl rfl hs_L_does ⟨Nat.le_of_ble_eq_true rfl, Nat.le_of_ble_eq_true rfl⟩) hK hE hP hD hS hA hZ [0, 1, 2, 3, 4, 5, 6, 7, 8, 9, 10, 11, 12, 13, 14, 15, 16, 17, 18, 19, 20, 21, 22, 23, 24, 25, 26, 27, 28, 29, 30, 31, 32, 33, 34, 35, 36, 37, 38, 39] [] [0, 1, 2, 3, 4, 5, 6, 7, 8, 9, 10, 11, 12, 13, 14, 15, 16, 17, 18, 19, 20, 21, 22, 23, 24, 25, 26, 27, 28, 29, 30, 31, 32, 33, 34, 35, 36, 37, 38, 39] (by decide +kernel) rfl rfl (fun _ => rfl) rfl hl.1 rfl (lv_room (Nat.le_of_ble_eq_true rfl)) dL_act_477 ⟨(show 0 + 2 ≤ 4 by omega), (show 0 + 12 ≤ 7200 by omega)⟩ rfl (fun _ H locs hP hD hS => ?_)
                              have hf := (Option.some.inj hf)
                              subst hf
                              refine W.widen (k := 4) (n := 7200) (by omega) (by omega) ?_
                              exact vx_ret (rw_i (fun _ => b 7 1) hx hb hr hlk rfl hP hD hS dL_act_480)
                            · exact absurd c38 (by decide)
                          · exact absurd c37 (by decide)
                        · have hf := (if_neg c36).symm.trans hf
                          refine lv_aload_n (pc := 382) hx hb dL_act_382 rfl (lv_at hl 8 rfl) ?_
                          refine lv_bipush (pc := 383) (v := 7) hx hb dL_act_383 (by decide) ?_
                          refine lv_iload (pc := 385) hx hb dL_act_385 (lv_at hl 1 rfl) ?_
                          refine lv_iload (pc := 387) hx hb dL_act_387 (lv_at hl 3 rfl) ?_
                          refine lv_iload (pc := 389) hx hb dL_act_389 (lv_at hl 5 rfl) ?_
                          refine lv_iconst (pc := 391) (v := 4) hx hb dL_act_391 (by decide) ?_
                          refine lv_ishr (pc := 392) hx hb dL_act_392 ?_
                          refine lv_iload_n (pc := 393) hx hb dL_act_393 rfl (lv_at hl 7 rfl) ?_
                          refine lv_if_eq (pc := 394) (tgt := 403) hx hb dL_act_394 (by decide) (fun c39 => ?_) (fun c39 => ?_)
                          · refine lv_sipush (pc := 403) (v := 301) hx hb dL_act_403 (by decide) ?_
                            refine ro_S (pc := 406) (As := [.int ((x1 >>> ((6 : Int32) &&& 31)) >>> ((4 : Int32) &&& 31)), .int 301]) (rest := [.int (lw ((x1 >>> ((6 : Int32) &&& 31)) >>> ((3 : Int32) &&& 31)) 16), .int (lw ((x1 >>> ((6 : Int32) &&& 31)) >>> ((7 : Int32) &&& 31)) 6), .int 7, .ref (b 0 0)]) (st1 := [.int (lw ((x1 >>> ((6 : Int32) &&& 31)) >>> ((4 : Int32) &&& 31)) 301), .int (lw ((x1 >>> ((6 : Int32) &&& 31)) >>> ((3 : Int32) &&& 31)) 16), .int (lw ((x1 >>> ((6 : Int32) &&& 31)) >>> ((7 : Int32) &&& 31)) 6), .int 7, .ref (b 0 0)]) ⟨hx, hb, hml, hown, hts⟩ (c_L_low Z l ((x1 >>> ((6 : Int32) &&& 31)) >>> ((4 : Int32) &&& 31)) 301 (by decide)) (va_cwS 2 hts gL_act_L_low rfl rfl rfl hs_L_low ⟨Nat.le_of_ble_eq_true rfl, Nat.le_of_ble_eq_true rfl⟩) hK hE (hP.sub (ws' := []) [] rfl) rfl hl.1 rfl (lv_room (Nat.le_of_ble_eq_true rfl)) dL_act_406 ⟨(show 0 ≤ 4 by omega), (show 0 ≤ 7200 by omega)⟩ rfl ?_
                            refine lv_iload_n (pc := 409) hx hb dL_act_409 rfl (lv_at hl 7 rfl) ?_
                            refine lv_if_eq (pc := 410) (tgt := 419) hx hb dL_act_410 (by decide) (fun c40 => ?_) (fun c40 => ?_)
                            · refine lv_sipush (pc := 419) (v := 150) hx hb dL_act_419 (by decide) ?_
                              refine lv_isub (pc := 422) hx hb dL_act_422 ?_
                              refine lv_iconst (pc := 423) (v := 0) hx hb dL_act_423 (by decide) ?_
                              obtain ⟨r424, h_424, hf⟩ := bd hf
                              refine wr_S (pc := 424) (As := [.ref (b 0 0), .int 7, .int (lw ((x1 >>> ((6 : Int32) &&& 31)) >>> ((7 : Int32) &&& 31)) 6), .int (lw ((x1 >>> ((6 : Int32) &&& 31)) >>> ((3 : Int32) &&& 31)) 16), .int ((lw ((x1 >>> ((6 : Int32) &&& 31)) >>> ((4 : Int32) &&& 31)) 301) - (150 : Int32)), .int 0]) (rest := []) (st1 := [.int r424.1]) (wn := fun _ => wH Z b r424.2) ⟨hx, hb, hml, hown, hts⟩ (c_L_does_7 Z l hst b h (lw ((x1 >>> ((6 : Int32) &&& 31)) >>> ((7 : Int32) &&& 31)) 6) (lw ((x1 >>> ((6 : Int32) &&& 31)) >>> ((3 : Int32) &&& 31)) 16) ((lw ((x1 >>> ((6 : Int32) &&& 31)) >>> ((4 : Int32) &&& 31)) 301) - (150 : Int32)) 0 r424 h_424) (vx_cwSW 6 hts gL_act_L_does rfl rfl rfl hs_L_does ⟨Nat.le_of_ble_eq_true rfl, Nat.le_of_ble_eq_true rfl⟩) hK hE hP hD hS hA hZ [0, 1, 2, 3, 4, 5, 6, 7, 8, 9, 10, 11, 12, 13, 14, 15, 16, 17, 18, 19, 20, 21, 22, 23, 24, 25, 26, 27, 28, 29, 30, 31, 32, 33, 34, 35, 36, 37, 38, 39] [] [0, 1, 2, 3, 4, 5, 6, 7, 8, 9, 10, 11, 12, 13, 14, 15, 16, 17, 18, 19, 20, 21, 22, 23, 24, 25, 26, 27, 28, 29, 30, 31, 32, 33, 34, 35, 36, 37, 38, 39] (by decide +kernel) rfl rfl (fun _ => rfl) rfl hl.1 rfl (lv_room (Nat.le_of_ble_eq_true rfl)) dL_act_424 ⟨(show 0 + 3 ≤ 4 by omega), (show 0 + 18 ≤ 7200 by omega)⟩ rfl (fun _ H locs hP hD hS => ?_)
                              refine lv_goto (pc := 427) (tgt := 480) hx hb dL_act_427 (by decide) ?_
                              have hf := (Option.some.inj hf)
                              subst hf
                              refine W.widen (k := 4) (n := 7200) (by omega) (by omega) ?_
                              exact vx_ret (rw_i (fun _ => b 7 1) hx hb hr hlk rfl hP hD hS dL_act_480)
                            · exact absurd c40 (by decide)
                          · exact absurd c39 (by decide)
                      · have hf := (if_neg c35).symm.trans hf
                        refine lv_aload_n (pc := 331) hx hb dL_act_331 rfl (lv_at hl 8 rfl) ?_
                        refine lv_bipush (pc := 332) (v := 6) hx hb dL_act_332 (by decide) ?_
                        refine lv_iload (pc := 334) hx hb dL_act_334 (lv_at hl 3 rfl) ?_
                        refine lv_iload (pc := 336) hx hb dL_act_336 (lv_at hl 5 rfl) ?_
                        refine lv_iconst (pc := 338) (v := 5) hx hb dL_act_338 (by decide) ?_
                        refine lv_ishr (pc := 339) hx hb dL_act_339 ?_
                        refine lv_iload_n (pc := 340) hx hb dL_act_340 rfl (lv_at hl 7 rfl) ?_
                        refine lv_if_eq (pc := 341) (tgt := 350) hx hb dL_act_341 (by decide) (fun c41 => ?_) (fun c41 => ?_)
                        · refine lv_sipush (pc := 350) (v := 300) hx hb dL_act_350 (by decide) ?_
                          refine ro_S (pc := 353) (As := [.int ((x1 >>> ((6 : Int32) &&& 31)) >>> ((5 : Int32) &&& 31)), .int 300]) (rest := [.int (lw ((x1 >>> ((6 : Int32) &&& 31)) >>> ((3 : Int32) &&& 31)) 16), .int 6, .ref (b 0 0)]) (st1 := [.int (lw ((x1 >>> ((6 : Int32) &&& 31)) >>> ((5 : Int32) &&& 31)) 300), .int (lw ((x1 >>> ((6 : Int32) &&& 31)) >>> ((3 : Int32) &&& 31)) 16), .int 6, .ref (b 0 0)]) ⟨hx, hb, hml, hown, hts⟩ (c_L_low Z l ((x1 >>> ((6 : Int32) &&& 31)) >>> ((5 : Int32) &&& 31)) 300 (by decide)) (va_cwS 2 hts gL_act_L_low rfl rfl rfl hs_L_low ⟨Nat.le_of_ble_eq_true rfl, Nat.le_of_ble_eq_true rfl⟩) hK hE (hP.sub (ws' := []) [] rfl) rfl hl.1 rfl (lv_room (Nat.le_of_ble_eq_true rfl)) dL_act_353 ⟨(show 0 ≤ 4 by omega), (show 0 ≤ 7200 by omega)⟩ rfl ?_
                          refine lv_iload (pc := 356) hx hb dL_act_356 (lv_at hl 0 rfl) ?_
                          refine lv_bipush (pc := 358) (v := 100) hx hb dL_act_358 (by decide) ?_
                          refine lv_icmp_le (pc := 360) (tgt := 367) hx hb dL_act_360 (by decide) (fun c42 => ?_) (fun c42 => ?_)
                          · have hf := (if_pos c42).symm.trans hf
                            refine lv_iload (pc := 367) hx hb dL_act_367 (lv_at hl 0 rfl) ?_
                            refine lv_iconst (pc := 369) (v := 0) hx hb dL_act_369 (by decide) ?_
                            obtain ⟨r370, h_370, hf⟩ := bd hf
                            refine wr_S (pc := 370) (As := [.ref (b 0 0), .int 6, .int (lw ((x1 >>> ((6 : Int32) &&& 31)) >>> ((3 : Int32) &&& 31)) 16), .int (lw ((x1 >>> ((6 : Int32) &&& 31)) >>> ((5 : Int32) &&& 31)) 300), .int ((101 : Int32) + (lw ((x1 >>> ((6 : Int32) &&& 31)) >>> ((5 : Int32) &&& 31)) 6)), .int 0]) (rest := []) (st1 := [.int r370.1]) (wn := fun _ => wH Z b r370.2) ⟨hx, hb, hml, hown, hts⟩ (c_L_does_6 Z l hst b h (lw ((x1 >>> ((6 : Int32) &&& 31)) >>> ((3 : Int32) &&& 31)) 16) (lw ((x1 >>> ((6 : Int32) &&& 31)) >>> ((5 : Int32) &&& 31)) 300) ((101 : Int32) + (lw ((x1 >>> ((6 : Int32) &&& 31)) >>> ((5 : Int32) &&& 31)) 6)) 0 r370 h_370) (vx_cwSW 6 hts gL_act_L_does rfl rfl rfl hs_L_does ⟨Nat.le_of_ble_eq_true rfl, Nat.le_of_ble_eq_true rfl⟩) hK hE hP hD hS hA hZ [0, 1, 2, 3, 4, 5, 6, 7, 8, 9, 10, 11, 12, 13, 14, 15, 16, 17, 18, 19, 20, 21, 22, 23, 24, 25, 26, 27, 28, 29, 30, 31, 32, 33, 34, 35, 36, 37, 38, 39] [] [0, 1, 2, 3, 4, 5, 6, 7, 8, 9, 10, 11, 12, 13, 14, 15, 16, 17, 18, 19, 20, 21, 22, 23, 24, 25, 26, 27, 28, 29, 30, 31, 32, 33, 34, 35, 36, 37, 38, 39] (by decide +kernel) rfl rfl (fun _ => rfl) rfl hl.1 rfl (lv_room (Nat.le_of_ble_eq_true rfl)) dL_act_370 ⟨(show 0 + 4 ≤ 4 by omega), (show 0 + 24 ≤ 7200 by omega)⟩ rfl (fun _ H locs hP hD hS => ?_)
                            refine lv_goto (pc := 373) (tgt := 480) hx hb dL_act_373 (by decide) ?_
                            have hf := (Option.some.inj hf)
                            subst hf
                            refine W.widen (k := 4) (n := 7200) (by omega) (by omega) ?_
                            exact vx_ret (rw_i (fun _ => b 7 1) hx hb hr hlk rfl hP hD hS dL_act_480)
                          · have hf := (if_neg c42).symm.trans hf
                            refine lv_iconst (pc := 363) (v := 0) hx hb dL_act_363 (by decide) ?_
                            refine lv_goto (pc := 364) (tgt := 369) hx hb dL_act_364 (by decide) ?_
                            refine lv_iconst (pc := 369) (v := 0) hx hb dL_act_369 (by decide) ?_
                            obtain ⟨r370, h_370, hf⟩ := bd hf
                            refine wr_S (pc := 370) (As := [.ref (b 0 0), .int 6, .int (lw ((x1 >>> ((6 : Int32) &&& 31)) >>> ((3 : Int32) &&& 31)) 16), .int (lw ((x1 >>> ((6 : Int32) &&& 31)) >>> ((5 : Int32) &&& 31)) 300), .int 0, .int 0]) (rest := []) (st1 := [.int r370.1]) (wn := fun _ => wH Z b r370.2) ⟨hx, hb, hml, hown, hts⟩ (c_L_does_6 Z l hst b h (lw ((x1 >>> ((6 : Int32) &&& 31)) >>> ((3 : Int32) &&& 31)) 16) (lw ((x1 >>> ((6 : Int32) &&& 31)) >>> ((5 : Int32) &&& 31)) 300) 0 0 r370 h_370) (vx_cwSW 6 hts gL_act_L_does rfl rfl rfl hs_L_does ⟨Nat.le_of_ble_eq_true rfl, Nat.le_of_ble_eq_true rfl⟩) hK hE hP hD hS hA hZ [0, 1, 2, 3, 4, 5, 6, 7, 8, 9, 10, 11, 12, 13, 14, 15, 16, 17, 18, 19, 20, 21, 22, 23, 24, 25, 26, 27, 28, 29, 30, 31, 32, 33, 34, 35, 36, 37, 38, 39] [] [0, 1, 2, 3, 4, 5, 6, 7, 8, 9, 10, 11, 12, 13, 14, 15, 16, 17, 18, 19, 20, 21, 22, 23, 24, 25, 26, 27, 28, 29, 30, 31, 32, 33, 34, 35, 36, 37, 38, 39] (by decide +kernel) rfl rfl (fun _ => rfl) rfl hl.1 rfl (lv_room (Nat.le_of_ble_eq_true rfl)) dL_act_370 ⟨(show 0 + 4 ≤ 4 by omega), (show 0 + 24 ≤ 7200 by omega)⟩ rfl (fun _ H locs hP hD hS => ?_)
                            refine lv_goto (pc := 373) (tgt := 480) hx hb dL_act_373 (by decide) ?_
                            have hf := (Option.some.inj hf)
                            subst hf
                            refine W.widen (k := 4) (n := 7200) (by omega) (by omega) ?_
                            exact vx_ret (rw_i (fun _ => b 7 1) hx hb hr hlk rfl hP hD hS dL_act_480)
                        · exact absurd c41 (by decide)
                    · have hf := (if_neg c34).symm.trans hf
                      refine lv_aload_n (pc := 232) hx hb dL_act_232 rfl (lv_at hl 8 rfl) ?_
                      refine lv_iconst (pc := 233) (v := 5) hx hb dL_act_233 (by decide) ?_
                      refine lv_sipush (pc := 234) (v := 10000) hx hb dL_act_234 (by decide) ?_
                      refine lv_iload (pc := 237) hx hb dL_act_237 (lv_at hl 5 rfl) ?_
                      refine lv_iconst (pc := 239) (v := 4) hx hb dL_act_239 (by decide) ?_
                      refine lv_ishr (pc := 240) hx hb dL_act_240 ?_
                      refine lv_iload_n (pc := 241) hx hb dL_act_241 rfl (lv_at hl 7 rfl) ?_
                      refine lv_if_eq (pc := 242) (tgt := 251) hx hb dL_act_242 (by decide) (fun c43 => ?_) (fun c43 => ?_)
                      · refine lv_sipush (pc := 251) (v := 3001) hx hb dL_act_251 (by decide) ?_
                        refine ro_S (pc := 254) (As := [.int ((x1 >>> ((6 : Int32) &&& 31)) >>> ((4 : Int32) &&& 31)), .int 3001]) (rest := [.int 10000, .int 5, .ref (b 0 0)]) (st1 := [.int (lw ((x1 >>> ((6 : Int32) &&& 31)) >>> ((4 : Int32) &&& 31)) 3001), .int 10000, .int 5, .ref (b 0 0)]) ⟨hx, hb, hml, hown, hts⟩ (c_L_low Z l ((x1 >>> ((6 : Int32) &&& 31)) >>> ((4 : Int32) &&& 31)) 3001 (by decide)) (va_cwS 2 hts gL_act_L_low rfl rfl rfl hs_L_low ⟨Nat.le_of_ble_eq_true rfl, Nat.le_of_ble_eq_true rfl⟩) hK hE (hP.sub (ws' := []) [] rfl) rfl hl.1 rfl (lv_room (Nat.le_of_ble_eq_true rfl)) dL_act_254 ⟨(show 0 ≤ 4 by omega), (show 0 ≤ 7200 by omega)⟩ rfl ?_
                        refine lv_imul (pc := 257) hx hb dL_act_257 ?_
                        refine lv_iload (pc := 258) hx hb dL_act_258 (lv_at hl 3 rfl) ?_
                        refine lv_if_ge (pc := 260) (tgt := 269) hx hb dL_act_260 (by decide) (fun c44 => ?_) (fun c44 => ?_)
                        · have hf := (if_pos c44).symm.trans hf
                          refine lv_iload (pc := 269) hx hb dL_act_269 (lv_at hl 3 rfl) ?_
                          refine lv_iadd (pc := 271) hx hb dL_act_271 ?_
                          refine lv_iload (pc := 272) hx hb dL_act_272 (lv_at hl 5 rfl) ?_
                          refine lv_iconst (pc := 274) (v := 5) hx hb dL_act_274 (by decide) ?_
                          refine lv_ishr (pc := 275) hx hb dL_act_275 ?_
                          refine lv_iload_n (pc := 276) hx hb dL_act_276 rfl (lv_at hl 7 rfl) ?_
                          refine lv_if_eq (pc := 277) (tgt := 286) hx hb dL_act_277 (by decide) (fun c45 => ?_) (fun c45 => ?_)
                          · refine lv_sipush (pc := 286) (v := 199) hx hb dL_act_286 (by decide) ?_
                            refine ro_S (pc := 289) (As := [.int ((x1 >>> ((6 : Int32) &&& 31)) >>> ((5 : Int32) &&& 31)), .int 199]) (rest := [.int (((10000 : Int32) * (lw ((x1 >>> ((6 : Int32) &&& 31)) >>> ((4 : Int32) &&& 31)) 3001)) + (lw ((x1 >>> ((6 : Int32) &&& 31)) >>> ((3 : Int32) &&& 31)) 16)), .int 5, .ref (b 0 0)]) (st1 := [.int (lw ((x1 >>> ((6 : Int32) &&& 31)) >>> ((5 : Int32) &&& 31)) 199), .int (((10000 : Int32) * (lw ((x1 >>> ((6 : Int32) &&& 31)) >>> ((4 : Int32) &&& 31)) 3001)) + (lw ((x1 >>> ((6 : Int32) &&& 31)) >>> ((3 : Int32) &&& 31)) 16)), .int 5, .ref (b 0 0)]) ⟨hx, hb, hml, hown, hts⟩ (c_L_low Z l ((x1 >>> ((6 : Int32) &&& 31)) >>> ((5 : Int32) &&& 31)) 199 (by decide)) (va_cwS 2 hts gL_act_L_low rfl rfl rfl hs_L_low ⟨Nat.le_of_ble_eq_true rfl, Nat.le_of_ble_eq_true rfl⟩) hK hE (hP.sub (ws' := []) [] rfl) rfl hl.1 rfl (lv_room (Nat.le_of_ble_eq_true rfl)) dL_act_289 ⟨(show 0 ≤ 4 by omega), (show 0 ≤ 7200 by omega)⟩ rfl ?_
                            refine lv_bipush (pc := 292) (v := 99) hx hb dL_act_292 (by decide) ?_
                            refine lv_isub (pc := 294) hx hb dL_act_294 ?_
                            refine lv_iload_n (pc := 295) hx hb dL_act_295 rfl (lv_at hl 7 rfl) ?_
                            refine lv_if_eq (pc := 296) (tgt := 306) hx hb dL_act_296 (by decide) (fun c46 => ?_) (fun c46 => ?_)
                            · refine lv_iload (pc := 306) hx hb dL_act_306 (lv_at hl 5 rfl) ?_
                              refine lv_bipush (pc := 308) (v := 6) hx hb dL_act_308 (by decide) ?_
                              refine lv_ishr (pc := 310) hx hb dL_act_310 ?_
                              refine lv_sipush (pc := 311) (v := 400) hx hb dL_act_311 (by decide) ?_
                              refine ro_S (pc := 314) (As := [.int ((x1 >>> ((6 : Int32) &&& 31)) >>> ((6 : Int32) &&& 31)), .int 400]) (rest := [.int ((lw ((x1 >>> ((6 : Int32) &&& 31)) >>> ((5 : Int32) &&& 31)) 199) - (99 : Int32)), .int (((10000 : Int32) * (lw ((x1 >>> ((6 : Int32) &&& 31)) >>> ((4 : Int32) &&& 31)) 3001)) + (lw ((x1 >>> ((6 : Int32) &&& 31)) >>> ((3 : Int32) &&& 31)) 16)), .int 5, .ref (b 0 0)]) (st1 := [.int (lw ((x1 >>> ((6 : Int32) &&& 31)) >>> ((6 : Int32) &&& 31)) 400), .int ((lw ((x1 >>> ((6 : Int32) &&& 31)) >>> ((5 : Int32) &&& 31)) 199) - (99 : Int32)), .int (((10000 : Int32) * (lw ((x1 >>> ((6 : Int32) &&& 31)) >>> ((4 : Int32) &&& 31)) 3001)) + (lw ((x1 >>> ((6 : Int32) &&& 31)) >>> ((3 : Int32) &&& 31)) 16)), .int 5, .ref (b 0 0)]) ⟨hx, hb, hml, hown, hts⟩ (c_L_low Z l ((x1 >>> ((6 : Int32) &&& 31)) >>> ((6 : Int32) &&& 31)) 400 (by decide)) (va_cwS 2 hts gL_act_L_low rfl rfl rfl hs_L_low ⟨Nat.le_of_ble_eq_true rfl, Nat.le_of_ble_eq_true rfl⟩) hK hE (hP.sub (ws' := []) [] rfl) rfl hl.1 rfl (lv_room (Nat.le_of_ble_eq_true rfl)) dL_act_314 ⟨(show 0 ≤ 4 by omega), (show 0 ≤ 7200 by omega)⟩ rfl ?_
                              refine lv_iload (pc := 317) hx hb dL_act_317 (lv_at hl 0 rfl) ?_
                              obtain ⟨r319, h_319, hf⟩ := bd hf
                              refine wr_S (pc := 319) (As := [.ref (b 0 0), .int 5, .int (((10000 : Int32) * (lw ((x1 >>> ((6 : Int32) &&& 31)) >>> ((4 : Int32) &&& 31)) 3001)) + (lw ((x1 >>> ((6 : Int32) &&& 31)) >>> ((3 : Int32) &&& 31)) 16)), .int ((lw ((x1 >>> ((6 : Int32) &&& 31)) >>> ((5 : Int32) &&& 31)) 199) - (99 : Int32)), .int (lw ((x1 >>> ((6 : Int32) &&& 31)) >>> ((6 : Int32) &&& 31)) 400), .int ((101 : Int32) + (lw ((x1 >>> ((6 : Int32) &&& 31)) >>> ((5 : Int32) &&& 31)) 6))]) (rest := []) (st1 := [.int r319.1]) (wn := fun _ => wH Z b r319.2) ⟨hx, hb, hml, hown, hts⟩ (c_L_does_5 Z l hst b h (((10000 : Int32) * (lw ((x1 >>> ((6 : Int32) &&& 31)) >>> ((4 : Int32) &&& 31)) 3001)) + (lw ((x1 >>> ((6 : Int32) &&& 31)) >>> ((3 : Int32) &&& 31)) 16)) ((lw ((x1 >>> ((6 : Int32) &&& 31)) >>> ((5 : Int32) &&& 31)) 199) - (99 : Int32)) (lw ((x1 >>> ((6 : Int32) &&& 31)) >>> ((6 : Int32) &&& 31)) 400) ((101 : Int32) + (lw ((x1 >>> ((6 : Int32) &&& 31)) >>> ((5 : Int32) &&& 31)) 6)) r319 h_319) (vx_cwSW 6 hts gL_act_L_does rfl rfl rfl hs_L_does ⟨Nat.le_of_ble_eq_true rfl, Nat.le_of_ble_eq_true rfl⟩) hK hE hP hD hS hA hZ [0, 1, 2, 3, 4, 5, 6, 7, 8, 9, 10, 11, 12, 13, 14, 15, 16, 17, 18, 19, 20, 21, 22, 23, 24, 25, 26, 27, 28, 29, 30, 31, 32, 33, 34, 35, 36, 37, 38, 39] [] [0, 1, 2, 3, 4, 5, 6, 7, 8, 9, 10, 11, 12, 13, 14, 15, 16, 17, 18, 19, 20, 21, 22, 23, 24, 25, 26, 27, 28, 29, 30, 31, 32, 33, 34, 35, 36, 37, 38, 39] (by decide +kernel) rfl rfl (fun _ => rfl) rfl hl.1 rfl (lv_room (Nat.le_of_ble_eq_true rfl)) dL_act_319 ⟨(show 0 + 4 ≤ 4 by omega), (show 0 + 24 ≤ 7200 by omega)⟩ rfl (fun _ H locs hP hD hS => ?_)
                              refine lv_goto (pc := 322) (tgt := 480) hx hb dL_act_322 (by decide) ?_
                              have hf := (Option.some.inj hf)
                              subst hf
                              refine W.widen (k := 4) (n := 7200) (by omega) (by omega) ?_
                              exact vx_ret (rw_i (fun _ => b 7 1) hx hb hr hlk rfl hP hD hS dL_act_480)
                            · exact absurd c46 (by decide)
                          · exact absurd c45 (by decide)
                        · have hf := (if_neg c44).symm.trans hf
                          refine lv_sipush (pc := 263) (v := 9999) hx hb dL_act_263 (by decide) ?_
                          refine lv_goto (pc := 266) (tgt := 271) hx hb dL_act_266 (by decide) ?_
                          refine lv_iadd (pc := 271) hx hb dL_act_271 ?_
                          refine lv_iload (pc := 272) hx hb dL_act_272 (lv_at hl 5 rfl) ?_
                          refine lv_iconst (pc := 274) (v := 5) hx hb dL_act_274 (by decide) ?_
                          refine lv_ishr (pc := 275) hx hb dL_act_275 ?_
                          refine lv_iload_n (pc := 276) hx hb dL_act_276 rfl (lv_at hl 7 rfl) ?_
                          refine lv_if_eq (pc := 277) (tgt := 286) hx hb dL_act_277 (by decide) (fun c47 => ?_) (fun c47 => ?_)
                          · refine lv_sipush (pc := 286) (v := 199) hx hb dL_act_286 (by decide) ?_
                            refine ro_S (pc := 289) (As := [.int ((x1 >>> ((6 : Int32) &&& 31)) >>> ((5 : Int32) &&& 31)), .int 199]) (rest := [.int (((10000 : Int32) * (lw ((x1 >>> ((6 : Int32) &&& 31)) >>> ((4 : Int32) &&& 31)) 3001)) + (9999 : Int32)), .int 5, .ref (b 0 0)]) (st1 := [.int (lw ((x1 >>> ((6 : Int32) &&& 31)) >>> ((5 : Int32) &&& 31)) 199), .int (((10000 : Int32) * (lw ((x1 >>> ((6 : Int32) &&& 31)) >>> ((4 : Int32) &&& 31)) 3001)) + (9999 : Int32)), .int 5, .ref (b 0 0)]) ⟨hx, hb, hml, hown, hts⟩ (c_L_low Z l ((x1 >>> ((6 : Int32) &&& 31)) >>> ((5 : Int32) &&& 31)) 199 (by decide)) (va_cwS 2 hts gL_act_L_low rfl rfl rfl hs_L_low ⟨Nat.le_of_ble_eq_true rfl, Nat.le_of_ble_eq_true rfl⟩) hK hE (hP.sub (ws' := []) [] rfl) rfl hl.1 rfl (lv_room (Nat.le_of_ble_eq_true rfl)) dL_act_289 ⟨(show 0 ≤ 4 by omega), (show 0 ≤ 7200 by omega)⟩ rfl ?_
                            refine lv_bipush (pc := 292) (v := 99) hx hb dL_act_292 (by decide) ?_
                            refine lv_isub (pc := 294) hx hb dL_act_294 ?_
                            refine lv_iload_n (pc := 295) hx hb dL_act_295 rfl (lv_at hl 7 rfl) ?_
                            refine lv_if_eq (pc := 296) (tgt := 306) hx hb dL_act_296 (by decide) (fun c48 => ?_) (fun c48 => ?_)
                            · refine lv_iload (pc := 306) hx hb dL_act_306 (lv_at hl 5 rfl) ?_
                              refine lv_bipush (pc := 308) (v := 6) hx hb dL_act_308 (by decide) ?_
                              refine lv_ishr (pc := 310) hx hb dL_act_310 ?_
                              refine lv_sipush (pc := 311) (v := 400) hx hb dL_act_311 (by decide) ?_
                              refine ro_S (pc := 314) (As := [.int ((x1 >>> ((6 : Int32) &&& 31)) >>> ((6 : Int32) &&& 31)), .int 400]) (rest := [.int ((lw ((x1 >>> ((6 : Int32) &&& 31)) >>> ((5 : Int32) &&& 31)) 199) - (99 : Int32)), .int (((10000 : Int32) * (lw ((x1 >>> ((6 : Int32) &&& 31)) >>> ((4 : Int32) &&& 31)) 3001)) + (9999 : Int32)), .int 5, .ref (b 0 0)]) (st1 := [.int (lw ((x1 >>> ((6 : Int32) &&& 31)) >>> ((6 : Int32) &&& 31)) 400), .int ((lw ((x1 >>> ((6 : Int32) &&& 31)) >>> ((5 : Int32) &&& 31)) 199) - (99 : Int32)), .int (((10000 : Int32) * (lw ((x1 >>> ((6 : Int32) &&& 31)) >>> ((4 : Int32) &&& 31)) 3001)) + (9999 : Int32)), .int 5, .ref (b 0 0)]) ⟨hx, hb, hml, hown, hts⟩ (c_L_low Z l ((x1 >>> ((6 : Int32) &&& 31)) >>> ((6 : Int32) &&& 31)) 400 (by decide)) (va_cwS 2 hts gL_act_L_low rfl rfl rfl hs_L_low ⟨Nat.le_of_ble_eq_true rfl, Nat.le_of_ble_eq_true rfl⟩) hK hE (hP.sub (ws' := []) [] rfl) rfl hl.1 rfl (lv_room (Nat.le_of_ble_eq_true rfl)) dL_act_314 ⟨(show 0 ≤ 4 by omega), (show 0 ≤ 7200 by omega)⟩ rfl ?_
                              refine lv_iload (pc := 317) hx hb dL_act_317 (lv_at hl 0 rfl) ?_
                              obtain ⟨r319, h_319, hf⟩ := bd hf
                              refine wr_S (pc := 319) (As := [.ref (b 0 0), .int 5, .int (((10000 : Int32) * (lw ((x1 >>> ((6 : Int32) &&& 31)) >>> ((4 : Int32) &&& 31)) 3001)) + (9999 : Int32)), .int ((lw ((x1 >>> ((6 : Int32) &&& 31)) >>> ((5 : Int32) &&& 31)) 199) - (99 : Int32)), .int (lw ((x1 >>> ((6 : Int32) &&& 31)) >>> ((6 : Int32) &&& 31)) 400), .int ((101 : Int32) + (lw ((x1 >>> ((6 : Int32) &&& 31)) >>> ((5 : Int32) &&& 31)) 6))]) (rest := []) (st1 := [.int r319.1]) (wn := fun _ => wH Z b r319.2) ⟨hx, hb, hml, hown, hts⟩ (c_L_does_5 Z l hst b h (((10000 : Int32) * (lw ((x1 >>> ((6 : Int32) &&& 31)) >>> ((4 : Int32) &&& 31)) 3001)) + (9999 : Int32)) ((lw ((x1 >>> ((6 : Int32) &&& 31)) >>> ((5 : Int32) &&& 31)) 199) - (99 : Int32)) (lw ((x1 >>> ((6 : Int32) &&& 31)) >>> ((6 : Int32) &&& 31)) 400) ((101 : Int32) + (lw ((x1 >>> ((6 : Int32) &&& 31)) >>> ((5 : Int32) &&& 31)) 6)) r319 h_319) (vx_cwSW 6 hts gL_act_L_does rfl rfl rfl hs_L_does ⟨Nat.le_of_ble_eq_true rfl, Nat.le_of_ble_eq_true rfl⟩) hK hE hP hD hS hA hZ [0, 1, 2, 3, 4, 5, 6, 7, 8, 9, 10, 11, 12, 13, 14, 15, 16, 17, 18, 19, 20, 21, 22, 23, 24, 25, 26, 27, 28, 29, 30, 31, 32, 33, 34, 35, 36, 37, 38, 39] [] [0, 1, 2, 3, 4, 5, 6, 7, 8, 9, 10, 11, 12, 13, 14, 15, 16, 17, 18, 19, 20, 21, 22, 23, 24, 25, 26, 27, 28, 29, 30, 31, 32, 33, 34, 35, 36, 37, 38, 39] (by decide +kernel) rfl rfl (fun _ => rfl) rfl hl.1 rfl (lv_room (Nat.le_of_ble_eq_true rfl)) dL_act_319 ⟨(show 0 + 4 ≤ 4 by omega), (show 0 + 24 ≤ 7200 by omega)⟩ rfl (fun _ H locs hP hD hS => ?_)
                              refine lv_goto (pc := 322) (tgt := 480) hx hb dL_act_322 (by decide) ?_
                              have hf := (Option.some.inj hf)
                              subst hf
                              refine W.widen (k := 4) (n := 7200) (by omega) (by omega) ?_
                              exact vx_ret (rw_i (fun _ => b 7 1) hx hb hr hlk rfl hP hD hS dL_act_480)
                            · exact absurd c48 (by decide)
                          · exact absurd c47 (by decide)
                      · exact absurd c43 (by decide)
                  · exact absurd c33 (by decide)
            · exact absurd c6 (by decide)
          · have hf := (if_pos c5).symm.trans hf
            refine lv_bipush (pc := 110) (v := 101) hx hb dL_act_110 (by decide) ?_
            refine lv_goto (pc := 112) (tgt := 118) hx hb dL_act_112 (by decide) ?_
            refine ro_S (pc := 118) (As := [.int ((x1 >>> ((6 : Int32) &&& 31)) >>> ((4 : Int32) &&& 31)), .int 101]) (rest := []) (st1 := [.int (lw ((x1 >>> ((6 : Int32) &&& 31)) >>> ((4 : Int32) &&& 31)) 101)]) ⟨hx, hb, hml, hown, hts⟩ (c_L_low Z l ((x1 >>> ((6 : Int32) &&& 31)) >>> ((4 : Int32) &&& 31)) 101 (by decide)) (va_cwS 2 hts gL_act_L_low rfl rfl rfl hs_L_low ⟨Nat.le_of_ble_eq_true rfl, Nat.le_of_ble_eq_true rfl⟩) hK hE (hP.sub (ws' := []) [] rfl) rfl hl.1 rfl (lv_room (Nat.le_of_ble_eq_true rfl)) dL_act_118 ⟨(show 0 ≤ 4 by omega), (show 0 ≤ 7200 by omega)⟩ rfl ?_
            refine lv_istore (pc := 121) (lv' := [(7, .int (lw ((x1 >>> ((6 : Int32) &&& 31)) >>> ((4 : Int32) &&& 31)) 101)), (6, .int (lw ((x1 >>> ((6 : Int32) &&& 31)) >>> ((3 : Int32) &&& 31)) 16)), (5, .int (lw (x1 >>> ((6 : Int32) &&& 31)) 8)), (4, .int (x1 >>> ((6 : Int32) &&& 31))), (3, .int (lw x1 40)), (2, .int 0), (0, .ref (b 0 0)), (1, .int x1)]) hx hb dL_act_121 hl (by decide) rfl (fun ls hl => ?_)
            refine lv_iload_n (pc := 123) hx hb dL_act_123 rfl (lv_at hl 5 rfl) ?_
            refine lv_if_eq (pc := 124) (tgt := 142) hx hb dL_act_124 (by decide) (fun c49 => ?_) (fun c49 => ?_)
            · refine lv_iload (pc := 142) hx hb dL_act_142 (lv_at hl 3 rfl) ?_
              refine lv_bipush (pc := 144) (v := 7) hx hb dL_act_144 (by decide) ?_
              refine lv_ishr (pc := 146) hx hb dL_act_146 ?_
              refine lv_bipush (pc := 147) (v := 6) hx hb dL_act_147 (by decide) ?_
              refine ro_S (pc := 149) (As := [.int ((x1 >>> ((6 : Int32) &&& 31)) >>> ((7 : Int32) &&& 31)), .int 6]) (rest := []) (st1 := [.int (lw ((x1 >>> ((6 : Int32) &&& 31)) >>> ((7 : Int32) &&& 31)) 6)]) ⟨hx, hb, hml, hown, hts⟩ (c_L_low Z l ((x1 >>> ((6 : Int32) &&& 31)) >>> ((7 : Int32) &&& 31)) 6 (by decide)) (va_cwS 2 hts gL_act_L_low rfl rfl rfl hs_L_low ⟨Nat.le_of_ble_eq_true rfl, Nat.le_of_ble_eq_true rfl⟩) hK hE (hP.sub (ws' := []) [] rfl) rfl hl.1 rfl (lv_room (Nat.le_of_ble_eq_true rfl)) dL_act_149 ⟨(show 0 ≤ 4 by omega), (show 0 ≤ 7200 by omega)⟩ rfl ?_
              refine lv_istore (pc := 152) (lv' := [(8, .int (lw ((x1 >>> ((6 : Int32) &&& 31)) >>> ((7 : Int32) &&& 31)) 6)), (7, .int (lw ((x1 >>> ((6 : Int32) &&& 31)) >>> ((4 : Int32) &&& 31)) 101)), (6, .int (lw ((x1 >>> ((6 : Int32) &&& 31)) >>> ((3 : Int32) &&& 31)) 16)), (5, .int (lw (x1 >>> ((6 : Int32) &&& 31)) 8)), (4, .int (x1 >>> ((6 : Int32) &&& 31))), (3, .int (lw x1 40)), (2, .int 0), (0, .ref (b 0 0)), (1, .int x1)]) hx hb dL_act_152 hl (by decide) rfl (fun ls hl => ?_)
              refine lv_iload_n (pc := 154) hx hb dL_act_154 rfl (lv_at hl 5 rfl) ?_
              refine lv_bipush (pc := 155) (v := 10) hx hb dL_act_155 (by decide) ?_
              refine lv_icmp_ge (pc := 157) (tgt := 481) hx hb dL_act_157 (by decide) (fun c50 => ?_) (fun c50 => ?_)
              · have hf := (if_pos c50).symm.trans hf
                refine lv_iload_n (pc := 481) hx hb dL_act_481 rfl (lv_at hl 5 rfl) ?_
                refine lv_bipush (pc := 482) (v := 18) hx hb dL_act_482 (by decide) ?_
                refine lv_icmp_ge (pc := 484) (tgt := 558) hx hb dL_act_484 (by decide) (fun c51 => ?_) (fun c51 => ?_)
                · have hf := (if_pos c51).symm.trans hf
                  refine lv_iload_n (pc := 558) hx hb dL_act_558 rfl (lv_at hl 5 rfl) ?_
                  refine lv_bipush (pc := 559) (v := 21) hx hb dL_act_559 (by decide) ?_
                  refine lv_icmp_ge (pc := 561) (tgt := 577) hx hb dL_act_561 (by decide) (fun c52 => ?_) (fun c52 => ?_)
                  · have hf := (if_pos c52).symm.trans hf
                    refine lv_iload_n (pc := 577) hx hb dL_act_577 rfl (lv_at hl 5 rfl) ?_
                    refine lv_bipush (pc := 578) (v := 23) hx hb dL_act_578 (by decide) ?_
                    refine lv_icmp_ge (pc := 580) (tgt := 598) hx hb dL_act_580 (by decide) (fun c53 => ?_) (fun c53 => ?_)
                    · have hf := (if_pos c53).symm.trans hf
                      refine lv_iload_n (pc := 598) hx hb dL_act_598 rfl (lv_at hl 5 rfl) ?_
                      refine lv_bipush (pc := 599) (v := 23) hx hb dL_act_599 (by decide) ?_
                      refine lv_icmp_ne (pc := 601) (tgt := 635) hx hb dL_act_601 (by decide) (fun c54 => ?_) (fun c54 => ?_)
                      · have hf := (if_neg c54).symm.trans hf
                        refine lv_aload_n (pc := 635) hx hb dL_act_635 rfl (lv_at hl 7 rfl) ?_
                        refine lv_bipush (pc := 636) (v := 10) hx hb dL_act_636 (by decide) ?_
                        refine lv_iload_n (pc := 638) hx hb dL_act_638 rfl (lv_at hl 6 rfl) ?_
                        refine lv_if_eq (pc := 639) (tgt := 652) hx hb dL_act_639 (by decide) (fun c55 => ?_) (fun c55 => ?_)
                        · refine lv_iconst (pc := 652) (v := 1) hx hb dL_act_652 (by decide) ?_
                          refine lv_iload (pc := 653) hx hb dL_act_653 (lv_at hl 4 rfl) ?_
                          refine lv_iconst (pc := 655) (v := 2) hx hb dL_act_655 (by decide) ?_
                          refine ro_S (pc := 656) (As := [.int (x1 >>> ((6 : Int32) &&& 31)), .int 2]) (rest := [.int 1, .int 10, .ref (b 0 0)]) (st1 := [.int (lw (x1 >>> ((6 : Int32) &&& 31)) 2), .int 1, .int 10, .ref (b 0 0)]) ⟨hx, hb, hml, hown, hts⟩ (c_L_low Z l (x1 >>> ((6 : Int32) &&& 31)) 2 (by decide)) (va_cwS 2 hts gL_act_L_low rfl rfl rfl hs_L_low ⟨Nat.le_of_ble_eq_true rfl, Nat.le_of_ble_eq_true rfl⟩) hK hE (hP.sub (ws' := []) [] rfl) rfl hl.1 rfl (lv_room (Nat.le_of_ble_eq_true rfl)) dL_act_656 ⟨(show 0 ≤ 4 by omega), (show 0 ≤ 7200 by omega)⟩ rfl ?_
                          refine lv_iadd (pc := 659) hx hb dL_act_659 ?_
                          refine lv_iconst (pc := 660) (v := 0) hx hb dL_act_660 (by decide) ?_
                          refine lv_iconst (pc := 661) (v := 0) hx hb dL_act_661 (by decide) ?_
                          refine lv_iconst (pc := 662) (v := 0) hx hb dL_act_662 (by decide) ?_
                          obtain ⟨r663, h_663, hf⟩ := bd hf
                          refine wr_S (pc := 663) (As := [.ref (b 0 0), .int 10, .int ((1 : Int32) + (lw (x1 >>> ((6 : Int32) &&& 31)) 2)), .int 0, .int 0, .int 0]) (rest := []) (st1 := [.int r663.1]) (wn := fun q => wH Z (bu b 7 (ad1 (b 7) q)) r663.2) ⟨hx, hb, hml, hown, hts⟩ (c_L_does_10 Z l hst b h ((1 : Int32) + (lw (x1 >>> ((6 : Int32) &&& 31)) 2)) 0 0 0 r663 h_663) (vx_cwSW 6 hts gL_act_L_does rfl rfl rfl hs_L_does ⟨Nat.le_of_ble_eq_true rfl, Nat.le_of_ble_eq_true rfl⟩) hK hE hP hD hS hA hZ [0, 1, 2, 3, 4, 5, 6, 7, 8, 9, 10, 11, 12, 13, 14, 15, 16, 17, 18, 19, 20, 21, 22, 23, 24, 25, 26, 27, 28, 29, 30, 31, 32, 33, 34, 35, 36, 37, 38, 39] [] [0, 1, 2, 3, 4, 5, 6, 7, 8, 9, 10, 11, 12, 13, 14, 15, 16, 17, 18, 19, 20, 21, 22, 23, 24, 25, 26, 27, 28, 29, 30, 31, 32, 33, 34, 35, 36, 37, 38, 39] (by decide +kernel) rfl rfl (fun _ => rfl) rfl hl.1 rfl (lv_room (Nat.le_of_ble_eq_true rfl)) dL_act_663 ⟨(show 0 + 1 ≤ 4 by omega), (show 0 + 7200 ≤ 7200 by omega)⟩ rfl (fun q663 H locs hP hD hS => ?_)
                          have hf := (Option.some.inj hf)
                          subst hf
                          refine W.widen (k := 4) (n := 7200) (by omega) (by omega) ?_
                          exact vx_ret (rw_i q663 hx hb hr hlk rfl hP hD hS dL_act_666)
                        · exact absurd c55 (by decide)
                      · have hf := (if_pos c54).symm.trans hf
                        refine lv_aload_n (pc := 604) hx hb dL_act_604 rfl (lv_at hl 7 rfl) ?_
                        refine lv_bipush (pc := 605) (v := 17) hx hb dL_act_605 (by decide) ?_
                        refine lv_iload (pc := 607) hx hb dL_act_607 (lv_at hl 3 rfl) ?_
                        refine lv_iload (pc := 609) hx hb dL_act_609 (lv_at hl 4 rfl) ?_
                        refine lv_iconst (pc := 611) (v := 2) hx hb dL_act_611 (by decide) ?_
                        refine lv_ishr (pc := 612) hx hb dL_act_612 ?_
                        refine lv_bipush (pc := 613) (v := 8) hx hb dL_act_613 (by decide) ?_
                        refine ro_S (pc := 615) (As := [.int ((x1 >>> ((6 : Int32) &&& 31)) >>> ((2 : Int32) &&& 31)), .int 8]) (rest := [.int (lw (x1 >>> ((6 : Int32) &&& 31)) 8), .int 17, .ref (b 0 0)]) (st1 := [.int (lw ((x1 >>> ((6 : Int32) &&& 31)) >>> ((2 : Int32) &&& 31)) 8), .int (lw (x1 >>> ((6 : Int32) &&& 31)) 8), .int 17, .ref (b 0 0)]) ⟨hx, hb, hml, hown, hts⟩ (c_L_low Z l ((x1 >>> ((6 : Int32) &&& 31)) >>> ((2 : Int32) &&& 31)) 8 (by decide)) (va_cwS 2 hts gL_act_L_low rfl rfl rfl hs_L_low ⟨Nat.le_of_ble_eq_true rfl, Nat.le_of_ble_eq_true rfl⟩) hK hE (hP.sub (ws' := []) [] rfl) rfl hl.1 rfl (lv_room (Nat.le_of_ble_eq_true rfl)) dL_act_615 ⟨(show 0 ≤ 4 by omega), (show 0 ≤ 7200 by omega)⟩ rfl ?_
                        refine lv_iload (pc := 618) hx hb dL_act_618 (lv_at hl 2 rfl) ?_
                        refine lv_iload (pc := 620) hx hb dL_act_620 (lv_at hl 4 rfl) ?_
                        refine lv_iconst (pc := 622) (v := 5) hx hb dL_act_622 (by decide) ?_
                        refine lv_ishr (pc := 623) hx hb dL_act_623 ?_
                        refine lv_bipush (pc := 624) (v := 16) hx hb dL_act_624 (by decide) ?_
                        refine ro_S (pc := 626) (As := [.int ((x1 >>> ((6 : Int32) &&& 31)) >>> ((5 : Int32) &&& 31)), .int 16]) (rest := [.int (lw ((x1 >>> ((6 : Int32) &&& 31)) >>> ((3 : Int32) &&& 31)) 16), .int (lw ((x1 >>> ((6 : Int32) &&& 31)) >>> ((2 : Int32) &&& 31)) 8), .int (lw (x1 >>> ((6 : Int32) &&& 31)) 8), .int 17, .ref (b 0 0)]) (st1 := [.int (lw ((x1 >>> ((6 : Int32) &&& 31)) >>> ((5 : Int32) &&& 31)) 16), .int (lw ((x1 >>> ((6 : Int32) &&& 31)) >>> ((3 : Int32) &&& 31)) 16), .int (lw ((x1 >>> ((6 : Int32) &&& 31)) >>> ((2 : Int32) &&& 31)) 8), .int (lw (x1 >>> ((6 : Int32) &&& 31)) 8), .int 17, .ref (b 0 0)]) ⟨hx, hb, hml, hown, hts⟩ (c_L_low Z l ((x1 >>> ((6 : Int32) &&& 31)) >>> ((5 : Int32) &&& 31)) 16 (by decide)) (va_cwS 2 hts gL_act_L_low rfl rfl rfl hs_L_low ⟨Nat.le_of_ble_eq_true rfl, Nat.le_of_ble_eq_true rfl⟩) hK hE (hP.sub (ws' := []) [] rfl) rfl hl.1 rfl (lv_room (Nat.le_of_ble_eq_true rfl)) dL_act_626 ⟨(show 0 ≤ 4 by omega), (show 0 ≤ 7200 by omega)⟩ rfl ?_
                        obtain ⟨r629, h_629, hf⟩ := bd hf
                        refine wr_S (pc := 629) (As := [.ref (b 0 0), .int 17, .int (lw (x1 >>> ((6 : Int32) &&& 31)) 8), .int (lw ((x1 >>> ((6 : Int32) &&& 31)) >>> ((2 : Int32) &&& 31)) 8), .int (lw ((x1 >>> ((6 : Int32) &&& 31)) >>> ((3 : Int32) &&& 31)) 16), .int (lw ((x1 >>> ((6 : Int32) &&& 31)) >>> ((5 : Int32) &&& 31)) 16)]) (rest := []) (st1 := [.int r629.1]) (wn := fun _ => wH Z b r629.2) ⟨hx, hb, hml, hown, hts⟩ (c_L_does_17 Z l hst b h (lw (x1 >>> ((6 : Int32) &&& 31)) 8) (lw ((x1 >>> ((6 : Int32) &&& 31)) >>> ((2 : Int32) &&& 31)) 8) (lw ((x1 >>> ((6 : Int32) &&& 31)) >>> ((3 : Int32) &&& 31)) 16) (lw ((x1 >>> ((6 : Int32) &&& 31)) >>> ((5 : Int32) &&& 31)) 16) r629 h_629) (vx_cwSW 6 hts gL_act_L_does rfl rfl rfl hs_L_does ⟨Nat.le_of_ble_eq_true rfl, Nat.le_of_ble_eq_true rfl⟩) hK hE hP hD hS hA hZ [0, 1, 2, 3, 4, 5, 6, 7, 8, 9, 10, 11, 12, 13, 14, 15, 16, 17, 18, 19, 20, 21, 22, 23, 24, 25, 26, 27, 28, 29, 30, 31, 32, 33, 34, 35, 36, 37, 38, 39] [] [0, 1, 2, 3, 4, 5, 6, 7, 8, 9, 10, 11, 12, 13, 14, 15, 16, 17, 18, 19, 20, 21, 22, 23, 24, 25, 26, 27, 28, 29, 30, 31, 32, 33, 34, 35, 36, 37, 38, 39] (by decide +kernel) rfl rfl (fun _ => rfl) rfl hl.1 rfl (lv_room (Nat.le_of_ble_eq_true rfl)) dL_act_629 ⟨(show 0 + 4 ≤ 4 by omega), (show 0 + 24 ≤ 7200 by omega)⟩ rfl (fun _ H locs hP hD hS => ?_)
                        refine lv_goto (pc := 632) (tgt := 666) hx hb dL_act_632 (by decide) ?_
                        have hf := (Option.some.inj hf)
                        subst hf
                        refine W.widen (k := 4) (n := 7200) (by omega) (by omega) ?_
                        exact vx_ret (rw_i (fun _ => b 7 1) hx hb hr hlk rfl hP hD hS dL_act_666)
                    · have hf := (if_neg c53).symm.trans hf
                      refine lv_aload_n (pc := 583) hx hb dL_act_583 rfl (lv_at hl 7 rfl) ?_
                      refine lv_bipush (pc := 584) (v := 16) hx hb dL_act_584 (by decide) ?_
                      refine lv_iload (pc := 586) hx hb dL_act_586 (lv_at hl 3 rfl) ?_
                      refine lv_iload (pc := 588) hx hb dL_act_588 (lv_at hl 2 rfl) ?_
                      refine lv_iconst (pc := 590) (v := 0) hx hb dL_act_590 (by decide) ?_
                      refine lv_iconst (pc := 591) (v := 0) hx hb dL_act_591 (by decide) ?_
                      obtain ⟨r592, h_592, hf⟩ := bd hf
                      refine wr_S (pc := 592) (As := [.ref (b 0 0), .int 16, .int (lw (x1 >>> ((6 : Int32) &&& 31)) 8), .int (lw ((x1 >>> ((6 : Int32) &&& 31)) >>> ((3 : Int32) &&& 31)) 16), .int 0, .int 0]) (rest := []) (st1 := [.int r592.1]) (wn := fun _ => wH Z b r592.2) ⟨hx, hb, hml, hown, hts⟩ (c_L_does_16 Z l hst b h (lw (x1 >>> ((6 : Int32) &&& 31)) 8) (lw ((x1 >>> ((6 : Int32) &&& 31)) >>> ((3 : Int32) &&& 31)) 16) 0 0 r592 h_592) (vx_cwSW 6 hts gL_act_L_does rfl rfl rfl hs_L_does ⟨Nat.le_of_ble_eq_true rfl, Nat.le_of_ble_eq_true rfl⟩) hK hE hP hD hS hA hZ [0, 1, 2, 3, 4, 5, 6, 7, 8, 9, 10, 11, 12, 13, 14, 15, 16, 17, 18, 19, 20, 21, 22, 23, 24, 25, 26, 27, 28, 29, 30, 31, 32, 33, 34, 35, 36, 37, 38, 39] [] [0, 1, 2, 3, 4, 5, 6, 7, 8, 9, 10, 11, 12, 13, 14, 15, 16, 17, 18, 19, 20, 21, 22, 23, 24, 25, 26, 27, 28, 29, 30, 31, 32, 33, 34, 35, 36, 37, 38, 39] (by decide +kernel) rfl rfl (fun _ => rfl) rfl hl.1 rfl (lv_room (Nat.le_of_ble_eq_true rfl)) dL_act_592 ⟨(show 0 + 2 ≤ 4 by omega), (show 0 + 12 ≤ 7200 by omega)⟩ rfl (fun _ H locs hP hD hS => ?_)
                      refine lv_goto (pc := 595) (tgt := 666) hx hb dL_act_595 (by decide) ?_
                      have hf := (Option.some.inj hf)
                      subst hf
                      refine W.widen (k := 4) (n := 7200) (by omega) (by omega) ?_
                      exact vx_ret (rw_i (fun _ => b 7 1) hx hb hr hlk rfl hP hD hS dL_act_666)
                  · have hf := (if_neg c52).symm.trans hf
                    refine lv_aload_n (pc := 564) hx hb dL_act_564 rfl (lv_at hl 7 rfl) ?_
                    refine lv_bipush (pc := 565) (v := 11) hx hb dL_act_565 (by decide) ?_
                    refine lv_iconst (pc := 567) (v := 0) hx hb dL_act_567 (by decide) ?_
                    refine lv_iconst (pc := 568) (v := 0) hx hb dL_act_568 (by decide) ?_
                    refine lv_iconst (pc := 569) (v := 0) hx hb dL_act_569 (by decide) ?_
                    refine lv_iconst (pc := 570) (v := 0) hx hb dL_act_570 (by decide) ?_
                    obtain ⟨r571, h_571, hf⟩ := bd hf
                    refine wr_S (pc := 571) (As := [.ref (b 0 0), .int 11, .int 0, .int 0, .int 0, .int 0]) (rest := []) (st1 := [.int r571.1]) (wn := fun _ => wH Z b r571.2) ⟨hx, hb, hml, hown, hts⟩ (c_L_does_11 Z l hst b h 0 0 0 0 r571 h_571) (vx_cwSW 6 hts gL_act_L_does rfl rfl rfl hs_L_does ⟨Nat.le_of_ble_eq_true rfl, Nat.le_of_ble_eq_true rfl⟩) hK hE hP hD hS hA hZ [0, 1, 2, 3, 4, 5, 6, 7, 8, 9, 10, 11, 12, 13, 14, 15, 16, 17, 18, 19, 20, 21, 22, 23, 24, 25, 26, 27, 28, 29, 30, 31, 32, 33, 34, 35, 36, 37, 38, 39] [] [0, 1, 2, 3, 4, 5, 6, 7, 8, 9, 10, 11, 12, 13, 14, 15, 16, 17, 18, 19, 20, 21, 22, 23, 24, 25, 26, 27, 28, 29, 30, 31, 32, 33, 34, 35, 36, 37, 38, 39] (by decide +kernel) rfl rfl (fun _ => rfl) rfl hl.1 rfl (lv_room (Nat.le_of_ble_eq_true rfl)) dL_act_571 ⟨(show 0 + 0 ≤ 4 by omega), (show 0 + 0 ≤ 7200 by omega)⟩ rfl (fun _ H locs hP hD hS => ?_)
                    refine lv_goto (pc := 574) (tgt := 666) hx hb dL_act_574 (by decide) ?_
                    have hf := (Option.some.inj hf)
                    subst hf
                    refine W.widen (k := 4) (n := 7200) (by omega) (by omega) ?_
                    exact vx_ret (rw_i (fun _ => b 7 1) hx hb hr hlk rfl hP hD hS dL_act_666)
                · have hf := (if_neg c51).symm.trans hf
                  refine lv_iload_n (pc := 487) hx hb dL_act_487 rfl (lv_at hl 5 rfl) ?_
                  refine lv_bipush (pc := 488) (v := 14) hx hb dL_act_488 (by decide) ?_
                  refine lv_icmp_ge (pc := 490) (tgt := 507) hx hb dL_act_490 (by decide) (fun c56 => ?_) (fun c56 => ?_)
                  · have hf := (if_pos c56).symm.trans hf
                    refine lv_iload_n (pc := 507) hx hb dL_act_507 rfl (lv_at hl 5 rfl) ?_
                    refine lv_bipush (pc := 508) (v := 17) hx hb dL_act_508 (by decide) ?_
                    refine lv_icmp_ge (pc := 510) (tgt := 546) hx hb dL_act_510 (by decide) (fun c57 => ?_) (fun c57 => ?_)
                    · have hf := (if_pos c57).symm.trans hf
                      refine lv_aload_n (pc := 546) hx hb dL_act_546 rfl (lv_at hl 7 rfl) ?_
                      refine lv_bipush (pc := 547) (v := 9) hx hb dL_act_547 (by decide) ?_
                      refine lv_iload (pc := 549) hx hb dL_act_549 (lv_at hl 3 rfl) ?_
                      refine lv_iconst (pc := 551) (v := 0) hx hb dL_act_551 (by decide) ?_
                      refine lv_iconst (pc := 552) (v := 0) hx hb dL_act_552 (by decide) ?_
                      refine lv_iconst (pc := 553) (v := 0) hx hb dL_act_553 (by decide) ?_
                      obtain ⟨r554, h_554, hf⟩ := bd hf
                      refine wr_S (pc := 554) (As := [.ref (b 0 0), .int 9, .int (lw (x1 >>> ((6 : Int32) &&& 31)) 8), .int 0, .int 0, .int 0]) (rest := []) (st1 := [.int r554.1]) (wn := fun _ => wH Z b r554.2) ⟨hx, hb, hml, hown, hts⟩ (c_L_does_9 Z l hst b h (lw (x1 >>> ((6 : Int32) &&& 31)) 8) 0 0 0 r554 h_554) (vx_cwSW 6 hts gL_act_L_does rfl rfl rfl hs_L_does ⟨Nat.le_of_ble_eq_true rfl, Nat.le_of_ble_eq_true rfl⟩) hK hE hP hD hS hA hZ [0, 1, 2, 3, 4, 5, 6, 7, 8, 9, 10, 11, 12, 13, 14, 15, 16, 17, 18, 19, 20, 21, 22, 23, 24, 25, 26, 27, 28, 29, 30, 31, 32, 33, 34, 35, 36, 37, 38, 39] [] [0, 1, 2, 3, 4, 5, 6, 7, 8, 9, 10, 11, 12, 13, 14, 15, 16, 17, 18, 19, 20, 21, 22, 23, 24, 25, 26, 27, 28, 29, 30, 31, 32, 33, 34, 35, 36, 37, 38, 39] (by decide +kernel) rfl rfl (fun _ => rfl) rfl hl.1 rfl (lv_room (Nat.le_of_ble_eq_true rfl)) dL_act_554 ⟨(show 0 + 1 ≤ 4 by omega), (show 0 + 6 ≤ 7200 by omega)⟩ rfl (fun _ H locs hP hD hS => ?_)
                      have hf := (Option.some.inj hf)
                      subst hf
                      refine W.widen (k := 4) (n := 7200) (by omega) (by omega) ?_
                      exact vx_ret (rw_i (fun _ => b 7 1) hx hb hr hlk rfl hP hD hS dL_act_557)
                    · have hf := (if_neg c57).symm.trans hf
                      refine lv_aload_n (pc := 513) hx hb dL_act_513 rfl (lv_at hl 7 rfl) ?_
                      refine lv_iconst (pc := 514) (v := 4) hx hb dL_act_514 (by decide) ?_
                      refine lv_iload (pc := 515) hx hb dL_act_515 (lv_at hl 4 rfl) ?_
                      refine lv_iconst (pc := 517) (v := 5) hx hb dL_act_517 (by decide) ?_
                      refine lv_ishr (pc := 518) hx hb dL_act_518 ?_
                      refine lv_iload_n (pc := 519) hx hb dL_act_519 rfl (lv_at hl 6 rfl) ?_
                      refine lv_if_eq (pc := 520) (tgt := 529) hx hb dL_act_520 (by decide) (fun c58 => ?_) (fun c58 => ?_)
                      · refine lv_sipush (pc := 529) (v := 130) hx hb dL_act_529 (by decide) ?_
                        refine ro_S (pc := 532) (As := [.int ((x1 >>> ((6 : Int32) &&& 31)) >>> ((5 : Int32) &&& 31)), .int 130]) (rest := [.int 4, .ref (b 0 0)]) (st1 := [.int (lw ((x1 >>> ((6 : Int32) &&& 31)) >>> ((5 : Int32) &&& 31)) 130), .int 4, .ref (b 0 0)]) ⟨hx, hb, hml, hown, hts⟩ (c_L_low Z l ((x1 >>> ((6 : Int32) &&& 31)) >>> ((5 : Int32) &&& 31)) 130 (by decide)) (va_cwS 2 hts gL_act_L_low rfl rfl rfl hs_L_low ⟨Nat.le_of_ble_eq_true rfl, Nat.le_of_ble_eq_true rfl⟩) hK hE (hP.sub (ws' := []) [] rfl) rfl hl.1 rfl (lv_room (Nat.le_of_ble_eq_true rfl)) dL_act_532 ⟨(show 0 ≤ 4 by omega), (show 0 ≤ 7200 by omega)⟩ rfl ?_
                        refine lv_iload (pc := 535) hx hb dL_act_535 (lv_at hl 3 rfl) ?_
                        refine lv_iload (pc := 537) hx hb dL_act_537 (lv_at hl 1 rfl) ?_
                        refine lv_iconst (pc := 539) (v := 0) hx hb dL_act_539 (by decide) ?_
                        obtain ⟨r540, h_540, hf⟩ := bd hf
                        refine wr_S (pc := 540) (As := [.ref (b 0 0), .int 4, .int (lw ((x1 >>> ((6 : Int32) &&& 31)) >>> ((5 : Int32) &&& 31)) 130), .int (lw (x1 >>> ((6 : Int32) &&& 31)) 8), .int (lw ((x1 >>> ((6 : Int32) &&& 31)) >>> ((4 : Int32) &&& 31)) 101), .int 0]) (rest := []) (st1 := [.int r540.1]) (wn := fun _ => wH Z b r540.2) ⟨hx, hb, hml, hown, hts⟩ (c_L_does_4 Z l hst b h (lw ((x1 >>> ((6 : Int32) &&& 31)) >>> ((5 : Int32) &&& 31)) 130) (lw (x1 >>> ((6 : Int32) &&& 31)) 8) (lw ((x1 >>> ((6 : Int32) &&& 31)) >>> ((4 : Int32) &&& 31)) 101) 0 r540 h_540) (vx_cwSW 6 hts gL_act_L_does rfl rfl rfl hs_L_does ⟨Nat.le_of_ble_eq_true rfl, Nat.le_of_ble_eq_true rfl⟩) hK hE hP hD hS hA hZ [0, 1, 2, 3, 4, 5, 6, 7, 8, 9, 10, 11, 12, 13, 14, 15, 16, 17, 18, 19, 20, 21, 22, 23, 24, 25, 26, 27, 28, 29, 30, 31, 32, 33, 34, 35, 36, 37, 38, 39] [] [0, 1, 2, 3, 4, 5, 6, 7, 8, 9, 10, 11, 12, 13, 14, 15, 16, 17, 18, 19, 20, 21, 22, 23, 24, 25, 26, 27, 28, 29, 30, 31, 32, 33, 34, 35, 36, 37, 38, 39] (by decide +kernel) rfl rfl (fun _ => rfl) rfl hl.1 rfl (lv_room (Nat.le_of_ble_eq_true rfl)) dL_act_540 ⟨(show 0 + 3 ≤ 4 by omega), (show 0 + 18 ≤ 7200 by omega)⟩ rfl (fun _ H locs hP hD hS => ?_)
                        refine lv_goto (pc := 543) (tgt := 557) hx hb dL_act_543 (by decide) ?_
                        have hf := (Option.some.inj hf)
                        subst hf
                        refine W.widen (k := 4) (n := 7200) (by omega) (by omega) ?_
                        exact vx_ret (rw_i (fun _ => b 7 1) hx hb hr hlk rfl hP hD hS dL_act_557)
                      · exact absurd c58 (by decide)
                  · have hf := (if_neg c56).symm.trans hf
                    refine lv_aload_n (pc := 493) hx hb dL_act_493 rfl (lv_at hl 7 rfl) ?_
                    refine lv_iconst (pc := 494) (v := 3) hx hb dL_act_494 (by decide) ?_
                    refine lv_iload (pc := 495) hx hb dL_act_495 (lv_at hl 3 rfl) ?_
                    refine lv_iload (pc := 497) hx hb dL_act_497 (lv_at hl 1 rfl) ?_
                    refine lv_iconst (pc := 499) (v := 0) hx hb dL_act_499 (by decide) ?_
                    refine lv_iconst (pc := 500) (v := 0) hx hb dL_act_500 (by decide) ?_
                    obtain ⟨r501, h_501, hf⟩ := bd hf
                    refine wr_S (pc := 501) (As := [.ref (b 0 0), .int 3, .int (lw (x1 >>> ((6 : Int32) &&& 31)) 8), .int (lw ((x1 >>> ((6 : Int32) &&& 31)) >>> ((4 : Int32) &&& 31)) 101), .int 0, .int 0]) (rest := []) (st1 := [.int r501.1]) (wn := fun _ => wH Z b r501.2) ⟨hx, hb, hml, hown, hts⟩ (c_L_does_3 Z l hst b h (lw (x1 >>> ((6 : Int32) &&& 31)) 8) (lw ((x1 >>> ((6 : Int32) &&& 31)) >>> ((4 : Int32) &&& 31)) 101) 0 0 r501 h_501) (vx_cwSW 6 hts gL_act_L_does rfl rfl rfl hs_L_does ⟨Nat.le_of_ble_eq_true rfl, Nat.le_of_ble_eq_true rfl⟩) hK hE hP hD hS hA hZ [0, 1, 2, 3, 4, 5, 6, 7, 8, 9, 10, 11, 12, 13, 14, 15, 16, 17, 18, 19, 20, 21, 22, 23, 24, 25, 26, 27, 28, 29, 30, 31, 32, 33, 34, 35, 36, 37, 38, 39] [] [0, 1, 2, 3, 4, 5, 6, 7, 8, 9, 10, 11, 12, 13, 14, 15, 16, 17, 18, 19, 20, 21, 22, 23, 24, 25, 26, 27, 28, 29, 30, 31, 32, 33, 34, 35, 36, 37, 38, 39] (by decide +kernel) rfl rfl (fun _ => rfl) rfl hl.1 rfl (lv_room (Nat.le_of_ble_eq_true rfl)) dL_act_501 ⟨(show 0 + 2 ≤ 4 by omega), (show 0 + 12 ≤ 7200 by omega)⟩ rfl (fun _ H locs hP hD hS => ?_)
                    refine lv_goto (pc := 504) (tgt := 557) hx hb dL_act_504 (by decide) ?_
                    have hf := (Option.some.inj hf)
                    subst hf
                    refine W.widen (k := 4) (n := 7200) (by omega) (by omega) ?_
                    exact vx_ret (rw_i (fun _ => b 7 1) hx hb hr hlk rfl hP hD hS dL_act_557)
              · have hf := (if_neg c50).symm.trans hf
                refine lv_iload (pc := 160) hx hb dL_act_160 (lv_at hl 4 rfl) ?_
                refine lv_bipush (pc := 162) (v := 7) hx hb dL_act_162 (by decide) ?_
                refine lv_ishr (pc := 164) hx hb dL_act_164 ?_
                refine lv_iconst (pc := 165) (v := 4) hx hb dL_act_165 (by decide) ?_
                refine ro_S (pc := 166) (As := [.int ((x1 >>> ((6 : Int32) &&& 31)) >>> ((7 : Int32) &&& 31)), .int 4]) (rest := []) (st1 := [.int (lw ((x1 >>> ((6 : Int32) &&& 31)) >>> ((7 : Int32) &&& 31)) 4)]) ⟨hx, hb, hml, hown, hts⟩ (c_L_low Z l ((x1 >>> ((6 : Int32) &&& 31)) >>> ((7 : Int32) &&& 31)) 4 (by decide)) (va_cwS 2 hts gL_act_L_low rfl rfl rfl hs_L_low ⟨Nat.le_of_ble_eq_true rfl, Nat.le_of_ble_eq_true rfl⟩) hK hE (hP.sub (ws' := []) [] rfl) rfl hl.1 rfl (lv_room (Nat.le_of_ble_eq_true rfl)) dL_act_166 ⟨(show 0 ≤ 4 by omega), (show 0 ≤ 7200 by omega)⟩ rfl ?_
                refine lv_if_ne (pc := 169) (tgt := 196) hx hb dL_act_169 (by decide) (fun c59 => ?_) (fun c59 => ?_)
                · have hf := (if_neg c59).symm.trans hf
                  refine lv_iload_n (pc := 196) hx hb dL_act_196 rfl (lv_at hl 6 rfl) ?_
                  refine lv_if_eq (pc := 197) (tgt := 215) hx hb dL_act_197 (by decide) (fun c60 => ?_) (fun c60 => ?_)
                  · refine lv_iload (pc := 215) hx hb dL_act_215 (lv_at hl 4 rfl) ?_
                    refine lv_bipush (pc := 217) (v := 6) hx hb dL_act_217 (by decide) ?_
                    refine lv_ishr (pc := 219) hx hb dL_act_219 ?_
                    refine lv_bipush (pc := 220) (v := 8) hx hb dL_act_220 (by decide) ?_
                    refine ro_S (pc := 222) (As := [.int ((x1 >>> ((6 : Int32) &&& 31)) >>> ((6 : Int32) &&& 31)), .int 8]) (rest := []) (st1 := [.int (lw ((x1 >>> ((6 : Int32) &&& 31)) >>> ((6 : Int32) &&& 31)) 8)]) ⟨hx, hb, hml, hown, hts⟩ (c_L_low Z l ((x1 >>> ((6 : Int32) &&& 31)) >>> ((6 : Int32) &&& 31)) 8 (by decide)) (va_cwS 2 hts gL_act_L_low rfl rfl rfl hs_L_low ⟨Nat.le_of_ble_eq_true rfl, Nat.le_of_ble_eq_true rfl⟩) hK hE (hP.sub (ws' := []) [] rfl) rfl hl.1 rfl (lv_room (Nat.le_of_ble_eq_true rfl)) dL_act_222 ⟨(show 0 ≤ 4 by omega), (show 0 ≤ 7200 by omega)⟩ rfl ?_
                    refine lv_istore (pc := 225) (lv' := [(9, .int (lw ((x1 >>> ((6 : Int32) &&& 31)) >>> ((6 : Int32) &&& 31)) 8)), (8, .int (lw ((x1 >>> ((6 : Int32) &&& 31)) >>> ((7 : Int32) &&& 31)) 6)), (7, .int (lw ((x1 >>> ((6 : Int32) &&& 31)) >>> ((4 : Int32) &&& 31)) 101)), (6, .int (lw ((x1 >>> ((6 : Int32) &&& 31)) >>> ((3 : Int32) &&& 31)) 16)), (5, .int (lw (x1 >>> ((6 : Int32) &&& 31)) 8)), (4, .int (x1 >>> ((6 : Int32) &&& 31))), (3, .int (lw x1 40)), (2, .int 0), (0, .ref (b 0 0)), (1, .int x1)]) hx hb dL_act_225 hl (by decide) rfl (fun ls hl => ?_)
                    refine lv_iload_n (pc := 227) hx hb dL_act_227 rfl (lv_at hl 6 rfl) ?_
                    refine lv_iconst (pc := 228) (v := 5) hx hb dL_act_228 (by decide) ?_
                    refine lv_icmp_ge (pc := 229) (tgt := 325) hx hb dL_act_229 (by decide) (fun c61 => ?_) (fun c61 => ?_)
                    · have hf := (if_pos c61).symm.trans hf
                      refine lv_iload_n (pc := 325) hx hb dL_act_325 rfl (lv_at hl 6 rfl) ?_
                      refine lv_bipush (pc := 326) (v := 7) hx hb dL_act_326 (by decide) ?_
                      refine lv_icmp_ge (pc := 328) (tgt := 376) hx hb dL_act_328 (by decide) (fun c62 => ?_) (fun c62 => ?_)
                      · have hf := (if_pos c62).symm.trans hf
                        refine lv_iload_n (pc := 376) hx hb dL_act_376 rfl (lv_at hl 6 rfl) ?_
                        refine lv_bipush (pc := 377) (v := 9) hx hb dL_act_377 (by decide) ?_
                        refine lv_icmp_ge (pc := 379) (tgt := 430) hx hb dL_act_379 (by decide) (fun c63 => ?_) (fun c63 => ?_)
                        · have hf := (if_pos c63).symm.trans hf
                          refine lv_aload_n (pc := 430) hx hb dL_act_430 rfl (lv_at hl 8 rfl) ?_
                          refine lv_bipush (pc := 431) (v := 8) hx hb dL_act_431 (by decide) ?_
                          refine lv_iload (pc := 433) hx hb dL_act_433 (lv_at hl 1 rfl) ?_
                          refine lv_iload (pc := 435) hx hb dL_act_435 (lv_at hl 5 rfl) ?_
                          refine lv_iconst (pc := 437) (v := 4) hx hb dL_act_437 (by decide) ?_
                          refine lv_ishr (pc := 438) hx hb dL_act_438 ?_
                          refine lv_iload_n (pc := 439) hx hb dL_act_439 rfl (lv_at hl 7 rfl) ?_
                          refine lv_if_eq (pc := 440) (tgt := 449) hx hb dL_act_440 (by decide) (fun c64 => ?_) (fun c64 => ?_)
                          · refine lv_sipush (pc := 449) (v := 3001) hx hb dL_act_449 (by decide) ?_
                            refine ro_S (pc := 452) (As := [.int ((x1 >>> ((6 : Int32) &&& 31)) >>> ((4 : Int32) &&& 31)), .int 3001]) (rest := [.int (lw ((x1 >>> ((6 : Int32) &&& 31)) >>> ((7 : Int32) &&& 31)) 6), .int 8, .ref (b 0 0)]) (st1 := [.int (lw ((x1 >>> ((6 : Int32) &&& 31)) >>> ((4 : Int32) &&& 31)) 3001), .int (lw ((x1 >>> ((6 : Int32) &&& 31)) >>> ((7 : Int32) &&& 31)) 6), .int 8, .ref (b 0 0)]) ⟨hx, hb, hml, hown, hts⟩ (c_L_low Z l ((x1 >>> ((6 : Int32) &&& 31)) >>> ((4 : Int32) &&& 31)) 3001 (by decide)) (va_cwS 2 hts gL_act_L_low rfl rfl rfl hs_L_low ⟨Nat.le_of_ble_eq_true rfl, Nat.le_of_ble_eq_true rfl⟩) hK hE (hP.sub (ws' := []) [] rfl) rfl hl.1 rfl (lv_room (Nat.le_of_ble_eq_true rfl)) dL_act_452 ⟨(show 0 ≤ 4 by omega), (show 0 ≤ 7200 by omega)⟩ rfl ?_
                            refine lv_iload_n (pc := 455) hx hb dL_act_455 rfl (lv_at hl 7 rfl) ?_
                            refine lv_if_eq (pc := 456) (tgt := 466) hx hb dL_act_456 (by decide) (fun c65 => ?_) (fun c65 => ?_)
                            · refine lv_iload (pc := 466) hx hb dL_act_466 (lv_at hl 5 rfl) ?_
                              refine lv_iconst (pc := 468) (v := 5) hx hb dL_act_468 (by decide) ?_
                              refine lv_ishr (pc := 469) hx hb dL_act_469 ?_
                              refine lv_sipush (pc := 470) (v := 900) hx hb dL_act_470 (by decide) ?_
                              refine ro_S (pc := 473) (As := [.int ((x1 >>> ((6 : Int32) &&& 31)) >>> ((5 : Int32) &&& 31)), .int 900]) (rest := [.int (lw ((x1 >>> ((6 : Int32) &&& 31)) >>> ((4 : Int32) &&& 31)) 3001), .int (lw ((x1 >>> ((6 : Int32) &&& 31)) >>> ((7 : Int32) &&& 31)) 6), .int 8, .ref (b 0 0)]) (st1 := [.int (lw ((x1 >>> ((6 : Int32) &&& 31)) >>> ((5 : Int32) &&& 31)) 900), .int (lw ((x1 >>> ((6 : Int32) &&& 31)) >>> ((4 : Int32) &&& 31)) 3001), .int (lw ((x1 >>> ((6 : Int32) &&& 31)) >>> ((7 : Int32) &&& 31)) 6), .int 8, .ref (b 0 0)]) ⟨hx, hb, hml, hown, hts⟩ (c_L_low Z l ((x1 >>> ((6 : Int32) &&& 31)) >>> ((5 : Int32) &&& 31)) 900 (by decide)) (va_cwS 2 hts gL_act_L_low rfl rfl rfl hs_L_low ⟨Nat.le_of_ble_eq_true rfl, Nat.le_of_ble_eq_true rfl⟩) hK hE (hP.sub (ws' := []) [] rfl) rfl hl.1 rfl (lv_room (Nat.le_of_ble_eq_true rfl)) dL_act_473 ⟨(show 0 ≤ 4 by omega), (show 0 ≤ 7200 by omega)⟩ rfl ?_
                              refine lv_iconst (pc := 476) (v := 0) hx hb dL_act_476 (by decide) ?_
                              obtain ⟨r477, h_477, hf⟩ := bd hf
                              refine wr_S (pc := 477) (As := [.ref (b 0 0), .int 8, .int (lw ((x1 >>> ((6 : Int32) &&& 31)) >>> ((7 : Int32) &&& 31)) 6), .int (lw ((x1 >>> ((6 : Int32) &&& 31)) >>> ((4 : Int32) &&& 31)) 3001), .int (lw ((x1 >>> ((6 : Int32) &&& 31)) >>> ((5 : Int32) &&& 31)) 900), .int 0]) (rest := []) (st1 := [.int r477.1]) (wn := fun _ => wH Z b r477.2) ⟨hx, hb, hml, hown, hts⟩ (c_L_does_8 Z l hst b h (lw ((x1 >>> ((6 : Int32) &&& 31)) >>> ((7 : Int32) &&& 31)) 6) (lw ((x1 >>> ((6 : Int32) &&& 31)) >>> ((4 : Int32) &&& 31)) 3001) (lw ((x1 >>> ((6 : Int32) &&& 31)) >>> ((5 : Int32) &&& 31)) 900) 0 r477 h_477) (vx_cwSW 6 hts gL_act_L_does rfl rfl rfl hs_L_does ⟨Nat.le_of_ble_eq_true rfl, Nat.le_of_ble_eq_true rfl⟩) hK hE hP hD hS hA hZ [0, 1, 2, 3, 4, 5, 6, 7, 8, 9, 10, 11, 12, 13, 14, 15, 16, 17, 18, 19, 20, 21, 22, 23, 24, 25, 26, 27, 28, 29, 30, 31, 32, 33, 34, 35, 36, 37, 38, 39] [] [0, 1, 2, 3, 4, 5, 6, 7, 8, 9, 10, 11, 12, 13, 14, 15, 16, 17, 18, 19, 20, 21, 22, 23, 24, 25, 26, 27, 28, 29, 30, 31, 32, 33, 34, 35, 36, 37, 38, 39] (by decide +kernel) rfl rfl (fun _ => rfl) rfl hl.1 rfl (lv_room (Nat.le_of_ble_eq_true rfl)) dL_act_477 ⟨(show 0 + 2 ≤ 4 by omega), (show 0 + 12 ≤ 7200 by omega)⟩ rfl (fun _ H locs hP hD hS => ?_)
                              have hf := (Option.some.inj hf)
                              subst hf
                              refine W.widen (k := 4) (n := 7200) (by omega) (by omega) ?_
                              exact vx_ret (rw_i (fun _ => b 7 1) hx hb hr hlk rfl hP hD hS dL_act_480)
                            · exact absurd c65 (by decide)
                          · exact absurd c64 (by decide)
                        · have hf := (if_neg c63).symm.trans hf
                          refine lv_aload_n (pc := 382) hx hb dL_act_382 rfl (lv_at hl 8 rfl) ?_
                          refine lv_bipush (pc := 383) (v := 7) hx hb dL_act_383 (by decide) ?_
                          refine lv_iload (pc := 385) hx hb dL_act_385 (lv_at hl 1 rfl) ?_
                          refine lv_iload (pc := 387) hx hb dL_act_387 (lv_at hl 3 rfl) ?_
                          refine lv_iload (pc := 389) hx hb dL_act_389 (lv_at hl 5 rfl) ?_
                          refine lv_iconst (pc := 391) (v := 4) hx hb dL_act_391 (by decide) ?_
                          refine lv_ishr (pc := 392) hx hb dL_act_392 ?_
                          refine lv_iload_n (pc := 393) hx hb dL_act_393 rfl (lv_at hl 7 rfl) ?_
                          refine lv_if_eq (pc := 394) (tgt := 403) hx hb dL_act_394 (by decide) (fun c66 => ?_) (fun c66 => ?_)
                          · refine lv_sipush (pc := 403) (v := 301) hx hb dL_act_403 (by decide) ?_
                            refine ro_S (pc := 406) (As := [.int ((x1 >>> ((6 : Int32) &&& 31)) >>> ((4 : Int32) &&& 31)), .int 301]) (rest := [.int (lw ((x1 >>> ((6 : Int32) &&& 31)) >>> ((3 : Int32) &&& 31)) 16), .int (lw ((x1 >>> ((6 : Int32) &&& 31)) >>> ((7 : Int32) &&& 31)) 6), .int 7, .ref (b 0 0)]) (st1 := [.int (lw ((x1 >>> ((6 : Int32) &&& 31)) >>> ((4 : Int32) &&& 31)) 301), .int (lw ((x1 >>> ((6 : Int32) &&& 31)) >>> ((3 : Int32) &&& 31)) 16), .int (lw ((x1 >>> ((6 : Int32) &&& 31)) >>> ((7 : Int32) &&& 31)) 6), .int 7, .ref (b 0 0)]) ⟨hx, hb, hml, hown, hts⟩ (c_L_low Z l ((x1 >>> ((6 : Int32) &&& 31)) >>> ((4 : Int32) &&& 31)) 301 (by decide)) (va_cwS 2 hts gL_act_L_low rfl rfl rfl hs_L_low ⟨Nat.le_of_ble_eq_true rfl, Nat.le_of_ble_eq_true rfl⟩) hK hE (hP.sub (ws' := []) [] rfl) rfl hl.1 rfl (lv_room (Nat.le_of_ble_eq_true rfl)) dL_act_406 ⟨(show 0 ≤ 4 by omega), (show 0 ≤ 7200 by omega)⟩ rfl ?_
                            refine lv_iload_n (pc := 409) hx hb dL_act_409 rfl (lv_at hl 7 rfl) ?_
                            refine lv_if_eq (pc := 410) (tgt := 419) hx hb dL_act_410 (by decide) (fun c67 => ?_) (fun c67 => ?_)
                            · refine lv_sipush (pc := 419) (v := 150) hx hb dL_act_419 (by decide) ?_
                              refine lv_isub (pc := 422) hx hb dL_act_422 ?_
                              refine lv_iconst (pc := 423) (v := 0) hx hb dL_act_423 (by decide) ?_
                              obtain ⟨r424, h_424, hf⟩ := bd hf
                              refine wr_S (pc := 424) (As := [.ref (b 0 0), .int 7, .int (lw ((x1 >>> ((6 : Int32) &&& 31)) >>> ((7 : Int32) &&& 31)) 6), .int (lw ((x1 >>> ((6 : Int32) &&& 31)) >>> ((3 : Int32) &&& 31)) 16), .int ((lw ((x1 >>> ((6 : Int32) &&& 31)) >>> ((4 : Int32) &&& 31)) 301) - (150 : Int32)), .int 0]) (rest := []) (st1 := [.int r424.1]) (wn := fun _ => wH Z b r424.2) ⟨hx, hb, hml, hown, hts⟩ (c_L_does_7 Z l hst b h (lw ((x1 >>> ((6 : Int32) &&& 31)) >>> ((7 : Int32) &&& 31)) 6) (lw ((x1 >>> ((6 : Int32) &&& 31)) >>> ((3 : Int32) &&& 31)) 16) ((lw ((x1 >>> ((6 : Int32) &&& 31)) >>> ((4 : Int32) &&& 31)) 301) - (150 : Int32)) 0 r424 h_424) (vx_cwSW 6 hts gL_act_L_does rfl rfl rfl hs_L_does ⟨Nat.le_of_ble_eq_true rfl, Nat.le_of_ble_eq_true rfl⟩) hK hE hP hD hS hA hZ [0, 1, 2, 3, 4, 5, 6, 7, 8, 9, 10, 11, 12, 13, 14, 15, 16, 17, 18, 19, 20, 21, 22, 23, 24, 25, 26, 27, 28, 29, 30, 31, 32, 33, 34, 35, 36, 37, 38, 39] [] [0, 1, 2, 3, 4, 5, 6, 7, 8, 9, 10, 11, 12, 13, 14, 15, 16, 17, 18, 19, 20, 21, 22, 23, 24, 25, 26, 27, 28, 29, 30, 31, 32, 33, 34, 35, 36, 37, 38, 39] (by decide +kernel) rfl rfl (fun _ => rfl) rfl hl.1 rfl (lv_room (Nat.le_of_ble_eq_true rfl)) dL_act_424 ⟨(show 0 + 3 ≤ 4 by omega), (show 0 + 18 ≤ 7200 by omega)⟩ rfl (fun _ H locs hP hD hS => ?_)
                              refine lv_goto (pc := 427) (tgt := 480) hx hb dL_act_427 (by decide) ?_
                              have hf := (Option.some.inj hf)
                              subst hf
                              refine W.widen (k := 4) (n := 7200) (by omega) (by omega) ?_
                              exact vx_ret (rw_i (fun _ => b 7 1) hx hb hr hlk rfl hP hD hS dL_act_480)
                            · exact absurd c67 (by decide)
                          · exact absurd c66 (by decide)
                      · have hf := (if_neg c62).symm.trans hf
                        refine lv_aload_n (pc := 331) hx hb dL_act_331 rfl (lv_at hl 8 rfl) ?_
                        refine lv_bipush (pc := 332) (v := 6) hx hb dL_act_332 (by decide) ?_
                        refine lv_iload (pc := 334) hx hb dL_act_334 (lv_at hl 3 rfl) ?_
                        refine lv_iload (pc := 336) hx hb dL_act_336 (lv_at hl 5 rfl) ?_
                        refine lv_iconst (pc := 338) (v := 5) hx hb dL_act_338 (by decide) ?_
                        refine lv_ishr (pc := 339) hx hb dL_act_339 ?_
                        refine lv_iload_n (pc := 340) hx hb dL_act_340 rfl (lv_at hl 7 rfl) ?_
                        refine lv_if_eq (pc := 341) (tgt := 350) hx hb dL_act_341 (by decide) (fun c68 => ?_) (fun c68 => ?_)
                        · refine lv_sipush (pc := 350) (v := 300) hx hb dL_act_350 (by decide) ?_
                          refine ro_S (pc := 353) (As := [.int ((x1 >>> ((6 : Int32) &&& 31)) >>> ((5 : Int32) &&& 31)), .int 300]) (rest := [.int (lw ((x1 >>> ((6 : Int32) &&& 31)) >>> ((3 : Int32) &&& 31)) 16), .int 6, .ref (b 0 0)]) (st1 := [.int (lw ((x1 >>> ((6 : Int32) &&& 31)) >>> ((5 : Int32) &&& 31)) 300), .int (lw ((x1 >>> ((6 : Int32) &&& 31)) >>> ((3 : Int32) &&& 31)) 16), .int 6, .ref (b 0 0)]) ⟨hx, hb, hml, hown, hts⟩ (c_L_low Z l ((x1 >>> ((6 : Int32) &&& 31)) >>> ((5 : Int32) &&& 31)) 300 (by decide)) (va_cwS 2 hts gL_act_L_low rfl rfl rfl hs_L_low ⟨Nat.le_of_ble_eq_true rfl, Nat.le_of_ble_eq_true rfl⟩) hK hE (hP.sub (ws' := []) [] rfl) rfl hl.1 rfl (lv_room (Nat.le_of_ble_eq_true rfl)) dL_act_353 ⟨(show 0 ≤ 4 by omega), (show 0 ≤ 7200 by omega)⟩ rfl ?_
                          refine lv_iload (pc := 356) hx hb dL_act_356 (lv_at hl 0 rfl) ?_
                          refine lv_bipush (pc := 358) (v := 100) hx hb dL_act_358 (by decide) ?_
                          refine lv_icmp_le (pc := 360) (tgt := 367) hx hb dL_act_360 (by decide) (fun c69 => ?_) (fun c69 => ?_)
                          · have hf := (if_pos c69).symm.trans hf
                            refine lv_iload (pc := 367) hx hb dL_act_367 (lv_at hl 0 rfl) ?_
                            refine lv_iconst (pc := 369) (v := 0) hx hb dL_act_369 (by decide) ?_
                            obtain ⟨r370, h_370, hf⟩ := bd hf
                            refine wr_S (pc := 370) (As := [.ref (b 0 0), .int 6, .int (lw ((x1 >>> ((6 : Int32) &&& 31)) >>> ((3 : Int32) &&& 31)) 16), .int (lw ((x1 >>> ((6 : Int32) &&& 31)) >>> ((5 : Int32) &&& 31)) 300), .int (lw ((x1 >>> ((6 : Int32) &&& 31)) >>> ((6 : Int32) &&& 31)) 8), .int 0]) (rest := []) (st1 := [.int r370.1]) (wn := fun _ => wH Z b r370.2) ⟨hx, hb, hml, hown, hts⟩ (c_L_does_6 Z l hst b h (lw ((x1 >>> ((6 : Int32) &&& 31)) >>> ((3 : Int32) &&& 31)) 16) (lw ((x1 >>> ((6 : Int32) &&& 31)) >>> ((5 : Int32) &&& 31)) 300) (lw ((x1 >>> ((6 : Int32) &&& 31)) >>> ((6 : Int32) &&& 31)) 8) 0 r370 h_370) (vx_cwSW 6 hts gL_act_L_does rfl rfl rfl hs_L_does ⟨Nat.le_of_ble_eq_true rfl, Nat.le_of_ble_eq_true rfl⟩) hK hE hP hD hS hA hZ [0, 1, 2, 3, 4, 5, 6, 7, 8, 9, 10, 11, 12, 13, 14, 15, 16, 17, 18, 19, 20, 21, 22, 23, 24, 25, 26, 27, 28, 29, 30, 31, 32, 33, 34, 35, 36, 37, 38, 39] [] [0, 1, 2, 3, 4, 5, 6, 7, 8, 9, 10, 11, 12, 13, 14, 15, 16, 17, 18, 19, 20, 21, 22, 23, 24, 25, 26, 27, 28, 29, 30, 31, 32, 33, 34, 35, 36, 37, 38, 39] (by decide +kernel) rfl rfl (fun _ => rfl) rfl hl.1 rfl (lv_room (Nat.le_of_ble_eq_true rfl)) dL_act_370 ⟨(show 0 + 4 ≤ 4 by omega), (show 0 + 24 ≤ 7200 by omega)⟩ rfl (fun _ H locs hP hD hS => ?_)
                            refine lv_goto (pc := 373) (tgt := 480) hx hb dL_act_373 (by decide) ?_
                            have hf := (Option.some.inj hf)
                            subst hf
                            refine W.widen (k := 4) (n := 7200) (by omega) (by omega) ?_
                            exact vx_ret (rw_i (fun _ => b 7 1) hx hb hr hlk rfl hP hD hS dL_act_480)
                          · have hf := (if_neg c69).symm.trans hf
                            refine lv_iconst (pc := 363) (v := 0) hx hb dL_act_363 (by decide) ?_
                            refine lv_goto (pc := 364) (tgt := 369) hx hb dL_act_364 (by decide) ?_
                            refine lv_iconst (pc := 369) (v := 0) hx hb dL_act_369 (by decide) ?_
                            obtain ⟨r370, h_370, hf⟩ := bd hf
                            refine wr_S (pc := 370) (As := [.ref (b 0 0), .int 6, .int (lw ((x1 >>> ((6 : Int32) &&& 31)) >>> ((3 : Int32) &&& 31)) 16), .int (lw ((x1 >>> ((6 : Int32) &&& 31)) >>> ((5 : Int32) &&& 31)) 300), .int 0, .int 0]) (rest := []) (st1 := [.int r370.1]) (wn := fun _ => wH Z b r370.2) ⟨hx, hb, hml, hown, hts⟩ (c_L_does_6 Z l hst b h (lw ((x1 >>> ((6 : Int32) &&& 31)) >>> ((3 : Int32) &&& 31)) 16) (lw ((x1 >>> ((6 : Int32) &&& 31)) >>> ((5 : Int32) &&& 31)) 300) 0 0 r370 h_370) (vx_cwSW 6 hts gL_act_L_does rfl rfl rfl hs_L_does ⟨Nat.le_of_ble_eq_true rfl, Nat.le_of_ble_eq_true rfl⟩) hK hE hP hD hS hA hZ [0, 1, 2, 3, 4, 5, 6, 7, 8, 9, 10, 11, 12, 13, 14, 15, 16, 17, 18, 19, 20, 21, 22, 23, 24, 25, 26, 27, 28, 29, 30, 31, 32, 33, 34, 35, 36, 37, 38, 39] [] [0, 1, 2, 3, 4, 5, 6, 7, 8, 9, 10, 11, 12, 13, 14, 15, 16, 17, 18, 19, 20, 21, 22, 23, 24, 25, 26, 27, 28, 29, 30, 31, 32, 33, 34, 35, 36, 37, 38, 39] (by decide +kernel) rfl rfl (fun _ => rfl) rfl hl.1 rfl (lv_room (Nat.le_of_ble_eq_true rfl)) dL_act_370 ⟨(show 0 + 4 ≤ 4 by omega), (show 0 + 24 ≤ 7200 by omega)⟩ rfl (fun _ H locs hP hD hS => ?_)
                            refine lv_goto (pc := 373) (tgt := 480) hx hb dL_act_373 (by decide) ?_
                            have hf := (Option.some.inj hf)
                            subst hf
                            refine W.widen (k := 4) (n := 7200) (by omega) (by omega) ?_
                            exact vx_ret (rw_i (fun _ => b 7 1) hx hb hr hlk rfl hP hD hS dL_act_480)
                        · exact absurd c68 (by decide)
                    · have hf := (if_neg c61).symm.trans hf
                      refine lv_aload_n (pc := 232) hx hb dL_act_232 rfl (lv_at hl 8 rfl) ?_
                      refine lv_iconst (pc := 233) (v := 5) hx hb dL_act_233 (by decide) ?_
                      refine lv_sipush (pc := 234) (v := 10000) hx hb dL_act_234 (by decide) ?_
                      refine lv_iload (pc := 237) hx hb dL_act_237 (lv_at hl 5 rfl) ?_
                      refine lv_iconst (pc := 239) (v := 4) hx hb dL_act_239 (by decide) ?_
                      refine lv_ishr (pc := 240) hx hb dL_act_240 ?_
                      refine lv_iload_n (pc := 241) hx hb dL_act_241 rfl (lv_at hl 7 rfl) ?_
                      refine lv_if_eq (pc := 242) (tgt := 251) hx hb dL_act_242 (by decide) (fun c70 => ?_) (fun c70 => ?_)
                      · refine lv_sipush (pc := 251) (v := 3001) hx hb dL_act_251 (by decide) ?_
                        refine ro_S (pc := 254) (As := [.int ((x1 >>> ((6 : Int32) &&& 31)) >>> ((4 : Int32) &&& 31)), .int 3001]) (rest := [.int 10000, .int 5, .ref (b 0 0)]) (st1 := [.int (lw ((x1 >>> ((6 : Int32) &&& 31)) >>> ((4 : Int32) &&& 31)) 3001), .int 10000, .int 5, .ref (b 0 0)]) ⟨hx, hb, hml, hown, hts⟩ (c_L_low Z l ((x1 >>> ((6 : Int32) &&& 31)) >>> ((4 : Int32) &&& 31)) 3001 (by decide)) (va_cwS 2 hts gL_act_L_low rfl rfl rfl hs_L_low ⟨Nat.le_of_ble_eq_true rfl, Nat.le_of_ble_eq_true rfl⟩) hK hE (hP.sub (ws' := []) [] rfl) rfl hl.1 rfl (lv_room (Nat.le_of_ble_eq_true rfl)) dL_act_254 ⟨(show 0 ≤ 4 by omega), (show 0 ≤ 7200 by omega)⟩ rfl ?_
                        refine lv_imul (pc := 257) hx hb dL_act_257 ?_
                        refine lv_iload (pc := 258) hx hb dL_act_258 (lv_at hl 3 rfl) ?_
                        refine lv_if_ge (pc := 260) (tgt := 269) hx hb dL_act_260 (by decide) (fun c71 => ?_) (fun c71 => ?_)
                        · have hf := (if_pos c71).symm.trans hf
                          refine lv_iload (pc := 269) hx hb dL_act_269 (lv_at hl 3 rfl) ?_
                          refine lv_iadd (pc := 271) hx hb dL_act_271 ?_
                          refine lv_iload (pc := 272) hx hb dL_act_272 (lv_at hl 5 rfl) ?_
                          refine lv_iconst (pc := 274) (v := 5) hx hb dL_act_274 (by decide) ?_
                          refine lv_ishr (pc := 275) hx hb dL_act_275 ?_
                          refine lv_iload_n (pc := 276) hx hb dL_act_276 rfl (lv_at hl 7 rfl) ?_
                          refine lv_if_eq (pc := 277) (tgt := 286) hx hb dL_act_277 (by decide) (fun c72 => ?_) (fun c72 => ?_)
                          · refine lv_sipush (pc := 286) (v := 199) hx hb dL_act_286 (by decide) ?_
                            refine ro_S (pc := 289) (As := [.int ((x1 >>> ((6 : Int32) &&& 31)) >>> ((5 : Int32) &&& 31)), .int 199]) (rest := [.int (((10000 : Int32) * (lw ((x1 >>> ((6 : Int32) &&& 31)) >>> ((4 : Int32) &&& 31)) 3001)) + (lw ((x1 >>> ((6 : Int32) &&& 31)) >>> ((3 : Int32) &&& 31)) 16)), .int 5, .ref (b 0 0)]) (st1 := [.int (lw ((x1 >>> ((6 : Int32) &&& 31)) >>> ((5 : Int32) &&& 31)) 199), .int (((10000 : Int32) * (lw ((x1 >>> ((6 : Int32) &&& 31)) >>> ((4 : Int32) &&& 31)) 3001)) + (lw ((x1 >>> ((6 : Int32) &&& 31)) >>> ((3 : Int32) &&& 31)) 16)), .int 5, .ref (b 0 0)]) ⟨hx, hb, hml, hown, hts⟩ (c_L_low Z l ((x1 >>> ((6 : Int32) &&& 31)) >>> ((5 : Int32) &&& 31)) 199 (by decide)) (va_cwS 2 hts gL_act_L_low rfl rfl rfl hs_L_low ⟨Nat.le_of_ble_eq_true rfl, Nat.le_of_ble_eq_true rfl⟩) hK hE (hP.sub (ws' := []) [] rfl) rfl hl.1 rfl (lv_room (Nat.le_of_ble_eq_true rfl)) dL_act_289 ⟨(show 0 ≤ 4 by omega), (show 0 ≤ 7200 by omega)⟩ rfl ?_
                            refine lv_bipush (pc := 292) (v := 99) hx hb dL_act_292 (by decide) ?_
                            refine lv_isub (pc := 294) hx hb dL_act_294 ?_
                            refine lv_iload_n (pc := 295) hx hb dL_act_295 rfl (lv_at hl 7 rfl) ?_
                            refine lv_if_eq (pc := 296) (tgt := 306) hx hb dL_act_296 (by decide) (fun c73 => ?_) (fun c73 => ?_)
                            · refine lv_iload (pc := 306) hx hb dL_act_306 (lv_at hl 5 rfl) ?_
                              refine lv_bipush (pc := 308) (v := 6) hx hb dL_act_308 (by decide) ?_
                              refine lv_ishr (pc := 310) hx hb dL_act_310 ?_
                              refine lv_sipush (pc := 311) (v := 400) hx hb dL_act_311 (by decide) ?_
                              refine ro_S (pc := 314) (As := [.int ((x1 >>> ((6 : Int32) &&& 31)) >>> ((6 : Int32) &&& 31)), .int 400]) (rest := [.int ((lw ((x1 >>> ((6 : Int32) &&& 31)) >>> ((5 : Int32) &&& 31)) 199) - (99 : Int32)), .int (((10000 : Int32) * (lw ((x1 >>> ((6 : Int32) &&& 31)) >>> ((4 : Int32) &&& 31)) 3001)) + (lw ((x1 >>> ((6 : Int32) &&& 31)) >>> ((3 : Int32) &&& 31)) 16)), .int 5, .ref (b 0 0)]) (st1 := [.int (lw ((x1 >>> ((6 : Int32) &&& 31)) >>> ((6 : Int32) &&& 31)) 400), .int ((lw ((x1 >>> ((6 : Int32) &&& 31)) >>> ((5 : Int32) &&& 31)) 199) - (99 : Int32)), .int (((10000 : Int32) * (lw ((x1 >>> ((6 : Int32) &&& 31)) >>> ((4 : Int32) &&& 31)) 3001)) + (lw ((x1 >>> ((6 : Int32) &&& 31)) >>> ((3 : Int32) &&& 31)) 16)), .int 5, .ref (b 0 0)]) ⟨hx, hb, hml, hown, hts⟩ (c_L_low Z l ((x1 >>> ((6 : Int32) &&& 31)) >>> ((6 : Int32) &&& 31)) 400 (by decide)) (va_cwS 2 hts gL_act_L_low rfl rfl rfl hs_L_low ⟨Nat.le_of_ble_eq_true rfl, Nat.le_of_ble_eq_true rfl⟩) hK hE (hP.sub (ws' := []) [] rfl) rfl hl.1 rfl (lv_room (Nat.le_of_ble_eq_true rfl)) dL_act_314 ⟨(show 0 ≤ 4 by omega), (show 0 ≤ 7200 by omega)⟩ rfl ?_
                              refine lv_iload (pc := 317) hx hb dL_act_317 (lv_at hl 0 rfl) ?_
                              obtain ⟨r319, h_319, hf⟩ := bd hf
                              refine wr_S (pc := 319) (As := [.ref (b 0 0), .int 5, .int (((10000 : Int32) * (lw ((x1 >>> ((6 : Int32) &&& 31)) >>> ((4 : Int32) &&& 31)) 3001)) + (lw ((x1 >>> ((6 : Int32) &&& 31)) >>> ((3 : Int32) &&& 31)) 16)), .int ((lw ((x1 >>> ((6 : Int32) &&& 31)) >>> ((5 : Int32) &&& 31)) 199) - (99 : Int32)), .int (lw ((x1 >>> ((6 : Int32) &&& 31)) >>> ((6 : Int32) &&& 31)) 400), .int (lw ((x1 >>> ((6 : Int32) &&& 31)) >>> ((6 : Int32) &&& 31)) 8)]) (rest := []) (st1 := [.int r319.1]) (wn := fun _ => wH Z b r319.2) ⟨hx, hb, hml, hown, hts⟩ (c_L_does_5 Z l hst b h (((10000 : Int32) * (lw ((x1 >>> ((6 : Int32) &&& 31)) >>> ((4 : Int32) &&& 31)) 3001)) + (lw ((x1 >>> ((6 : Int32) &&& 31)) >>> ((3 : Int32) &&& 31)) 16)) ((lw ((x1 >>> ((6 : Int32) &&& 31)) >>> ((5 : Int32) &&& 31)) 199) - (99 : Int32)) (lw ((x1 >>> ((6 : Int32) &&& 31)) >>> ((6 : Int32) &&& 31)) 400) (lw ((x1 >>> ((6 : Int32) &&& 31)) >>> ((6 : Int32) &&& 31)) 8) r319 h_319) (vx_cwSW 6 hts gL_act_L_does rfl rfl rfl hs_L_does ⟨Nat.le_of_ble_eq_true rfl, Nat.le_of_ble_eq_true rfl⟩) hK hE hP hD hS hA hZ [0, 1, 2, 3, 4, 5, 6, 7, 8, 9, 10, 11, 12, 13, 14, 15, 16, 17, 18, 19, 20, 21, 22, 23, 24, 25, 26, 27, 28, 29, 30, 31, 32, 33, 34, 35, 36, 37, 38, 39] [] [0, 1, 2, 3, 4, 5, 6, 7, 8, 9, 10, 11, 12, 13, 14, 15, 16, 17, 18, 19, 20, 21, 22, 23, 24, 25, 26, 27, 28, 29, 30, 31, 32, 33, 34, 35, 36, 37, 38, 39] (by decide +kernel) rfl rfl (fun _ => rfl) rfl hl.1 rfl (lv_room (Nat.le_of_ble_eq_true rfl)) dL_act_319 ⟨(show 0 + 4 ≤ 4 by omega), (show 0 + 24 ≤ 7200 by omega)⟩ rfl (fun _ H locs hP hD hS => ?_)
                              refine lv_goto (pc := 322) (tgt := 480) hx hb dL_act_322 (by decide) ?_
                              have hf := (Option.some.inj hf)
                              subst hf
                              refine W.widen (k := 4) (n := 7200) (by omega) (by omega) ?_
                              exact vx_ret (rw_i (fun _ => b 7 1) hx hb hr hlk rfl hP hD hS dL_act_480)
                            · exact absurd c73 (by decide)
                          · exact absurd c72 (by decide)
                        · have hf := (if_neg c71).symm.trans hf
                          refine lv_sipush (pc := 263) (v := 9999) hx hb dL_act_263 (by decide) ?_
                          refine lv_goto (pc := 266) (tgt := 271) hx hb dL_act_266 (by decide) ?_
                          refine lv_iadd (pc := 271) hx hb dL_act_271 ?_
                          refine lv_iload (pc := 272) hx hb dL_act_272 (lv_at hl 5 rfl) ?_
                          refine lv_iconst (pc := 274) (v := 5) hx hb dL_act_274 (by decide) ?_
                          refine lv_ishr (pc := 275) hx hb dL_act_275 ?_
                          refine lv_iload_n (pc := 276) hx hb dL_act_276 rfl (lv_at hl 7 rfl) ?_
                          refine lv_if_eq (pc := 277) (tgt := 286) hx hb dL_act_277 (by decide) (fun c74 => ?_) (fun c74 => ?_)
                          · refine lv_sipush (pc := 286) (v := 199) hx hb dL_act_286 (by decide) ?_
                            refine ro_S (pc := 289) (As := [.int ((x1 >>> ((6 : Int32) &&& 31)) >>> ((5 : Int32) &&& 31)), .int 199]) (rest := [.int (((10000 : Int32) * (lw ((x1 >>> ((6 : Int32) &&& 31)) >>> ((4 : Int32) &&& 31)) 3001)) + (9999 : Int32)), .int 5, .ref (b 0 0)]) (st1 := [.int (lw ((x1 >>> ((6 : Int32) &&& 31)) >>> ((5 : Int32) &&& 31)) 199), .int (((10000 : Int32) * (lw ((x1 >>> ((6 : Int32) &&& 31)) >>> ((4 : Int32) &&& 31)) 3001)) + (9999 : Int32)), .int 5, .ref (b 0 0)]) ⟨hx, hb, hml, hown, hts⟩ (c_L_low Z l ((x1 >>> ((6 : Int32) &&& 31)) >>> ((5 : Int32) &&& 31)) 199 (by decide)) (va_cwS 2 hts gL_act_L_low rfl rfl rfl hs_L_low ⟨Nat.le_of_ble_eq_true rfl, Nat.le_of_ble_eq_true rfl⟩) hK hE (hP.sub (ws' := []) [] rfl) rfl hl.1 rfl (lv_room (Nat.le_of_ble_eq_true rfl)) dL_act_289 ⟨(show 0 ≤ 4 by omega), (show 0 ≤ 7200 by omega)⟩ rfl ?_
                            refine lv_bipush (pc := 292) (v := 99) hx hb dL_act_292 (by decide) ?_
                            refine lv_isub (pc := 294) hx hb dL_act_294 ?_
                            refine lv_iload_n (pc := 295) hx hb dL_act_295 rfl (lv_at hl 7 rfl) ?_
                            refine lv_if_eq (pc := 296) (tgt := 306) hx hb dL_act_296 (by decide) (fun c75 => ?_) (fun c75 => ?_)
                            · refine lv_iload (pc := 306) hx hb dL_act_306 (lv_at hl 5 rfl) ?_
                              refine lv_bipush (pc := 308) (v := 6) hx hb dL_act_308 (by decide) ?_
                              refine lv_ishr (pc := 310) hx hb dL_act_310 ?_
                              refine lv_sipush (pc := 311) (v := 400) hx hb dL_act_311 (by decide) ?_
                              refine ro_S (pc := 314) (As := [.int ((x1 >>> ((6 : Int32) &&& 31)) >>> ((6 : Int32) &&& 31)), .int 400]) (rest := [.int ((lw ((x1 >>> ((6 : Int32) &&& 31)) >>> ((5 : Int32) &&& 31)) 199) - (99 : Int32)), .int (((10000 : Int32) * (lw ((x1 >>> ((6 : Int32) &&& 31)) >>> ((4 : Int32) &&& 31)) 3001)) + (9999 : Int32)), .int 5, .ref (b 0 0)]) (st1 := [.int (lw ((x1 >>> ((6 : Int32) &&& 31)) >>> ((6 : Int32) &&& 31)) 400), .int ((lw ((x1 >>> ((6 : Int32) &&& 31)) >>> ((5 : Int32) &&& 31)) 199) - (99 : Int32)), .int (((10000 : Int32) * (lw ((x1 >>> ((6 : Int32) &&& 31)) >>> ((4 : Int32) &&& 31)) 3001)) + (9999 : Int32)), .int 5, .ref (b 0 0)]) ⟨hx, hb, hml, hown, hts⟩ (c_L_low Z l ((x1 >>> ((6 : Int32) &&& 31)) >>> ((6 : Int32) &&& 31)) 400 (by decide)) (va_cwS 2 hts gL_act_L_low rfl rfl rfl hs_L_low ⟨Nat.le_of_ble_eq_true rfl, Nat.le_of_ble_eq_true rfl⟩) hK hE (hP.sub (ws' := []) [] rfl) rfl hl.1 rfl (lv_room (Nat.le_of_ble_eq_true rfl)) dL_act_314 ⟨(show 0 ≤ 4 by omega), (show 0 ≤ 7200 by omega)⟩ rfl ?_
                              refine lv_iload (pc := 317) hx hb dL_act_317 (lv_at hl 0 rfl) ?_
                              obtain ⟨r319, h_319, hf⟩ := bd hf
                              refine wr_S (pc := 319) (As := [.ref (b 0 0), .int 5, .int (((10000 : Int32) * (lw ((x1 >>> ((6 : Int32) &&& 31)) >>> ((4 : Int32) &&& 31)) 3001)) + (9999 : Int32)), .int ((lw ((x1 >>> ((6 : Int32) &&& 31)) >>> ((5 : Int32) &&& 31)) 199) - (99 : Int32)), .int (lw ((x1 >>> ((6 : Int32) &&& 31)) >>> ((6 : Int32) &&& 31)) 400), .int (lw ((x1 >>> ((6 : Int32) &&& 31)) >>> ((6 : Int32) &&& 31)) 8)]) (rest := []) (st1 := [.int r319.1]) (wn := fun _ => wH Z b r319.2) ⟨hx, hb, hml, hown, hts⟩ (c_L_does_5 Z l hst b h (((10000 : Int32) * (lw ((x1 >>> ((6 : Int32) &&& 31)) >>> ((4 : Int32) &&& 31)) 3001)) + (9999 : Int32)) ((lw ((x1 >>> ((6 : Int32) &&& 31)) >>> ((5 : Int32) &&& 31)) 199) - (99 : Int32)) (lw ((x1 >>> ((6 : Int32) &&& 31)) >>> ((6 : Int32) &&& 31)) 400) (lw ((x1 >>> ((6 : Int32) &&& 31)) >>> ((6 : Int32) &&& 31)) 8) r319 h_319) (vx_cwSW 6 hts gL_act_L_does rfl rfl rfl hs_L_does ⟨Nat.le_of_ble_eq_true rfl, Nat.le_of_ble_eq_true rfl⟩) hK hE hP hD hS hA hZ [0, 1, 2, 3, 4, 5, 6, 7, 8, 9, 10, 11, 12, 13, 14, 15, 16, 17, 18, 19, 20, 21, 22, 23, 24, 25, 26, 27, 28, 29, 30, 31, 32, 33, 34, 35, 36, 37, 38, 39] [] [0, 1, 2, 3, 4, 5, 6, 7, 8, 9, 10, 11, 12, 13, 14, 15, 16, 17, 18, 19, 20, 21, 22, 23, 24, 25, 26, 27, 28, 29, 30, 31, 32, 33, 34, 35, 36, 37, 38, 39] (by decide +kernel) rfl rfl (fun _ => rfl) rfl hl.1 rfl (lv_room (Nat.le_of_ble_eq_true rfl)) dL_act_319 ⟨(show 0 + 4 ≤ 4 by omega), (show 0 + 24 ≤ 7200 by omega)⟩ rfl (fun _ H locs hP hD hS => ?_)
                              refine lv_goto (pc := 322) (tgt := 480) hx hb dL_act_322 (by decide) ?_
                              have hf := (Option.some.inj hf)
                              subst hf
                              refine W.widen (k := 4) (n := 7200) (by omega) (by omega) ?_
                              exact vx_ret (rw_i (fun _ => b 7 1) hx hb hr hlk rfl hP hD hS dL_act_480)
                            · exact absurd c75 (by decide)
                          · exact absurd c74 (by decide)
                      · exact absurd c70 (by decide)
                  · exact absurd c60 (by decide)
                · have hf := (if_pos c59).symm.trans hf
                  refine lv_bipush (pc := 172) (v := 101) hx hb dL_act_172 (by decide) ?_
                  refine lv_iload (pc := 174) hx hb dL_act_174 (lv_at hl 4 rfl) ?_
                  refine lv_iconst (pc := 176) (v := 5) hx hb dL_act_176 (by decide) ?_
                  refine lv_ishr (pc := 177) hx hb dL_act_177 ?_
                  refine lv_iload_n (pc := 178) hx hb dL_act_178 rfl (lv_at hl 6 rfl) ?_
                  refine lv_if_eq (pc := 179) (tgt := 187) hx hb dL_act_179 (by decide) (fun c76 => ?_) (fun c76 => ?_)
                  · refine lv_bipush (pc := 187) (v := 6) hx hb dL_act_187 (by decide) ?_
                    refine ro_S (pc := 189) (As := [.int ((x1 >>> ((6 : Int32) &&& 31)) >>> ((5 : Int32) &&& 31)), .int 6]) (rest := [.int 101]) (st1 := [.int (lw ((x1 >>> ((6 : Int32) &&& 31)) >>> ((5 : Int32) &&& 31)) 6), .int 101]) ⟨hx, hb, hml, hown, hts⟩ (c_L_low Z l ((x1 >>> ((6 : Int32) &&& 31)) >>> ((5 : Int32) &&& 31)) 6 (by decide)) (va_cwS 2 hts gL_act_L_low rfl rfl rfl hs_L_low ⟨Nat.le_of_ble_eq_true rfl, Nat.le_of_ble_eq_true rfl⟩) hK hE (hP.sub (ws' := []) [] rfl) rfl hl.1 rfl (lv_room (Nat.le_of_ble_eq_true rfl)) dL_act_189 ⟨(show 0 ≤ 4 by omega), (show 0 ≤ 7200 by omega)⟩ rfl ?_
                    refine lv_iadd (pc := 192) hx hb dL_act_192 ?_
                    refine lv_goto (pc := 193) (tgt := 225) hx hb dL_act_193 (by decide) ?_
                    refine lv_istore (pc := 225) (lv' := [(9, .int ((101 : Int32) + (lw ((x1 >>> ((6 : Int32) &&& 31)) >>> ((5 : Int32) &&& 31)) 6))), (8, .int (lw ((x1 >>> ((6 : Int32) &&& 31)) >>> ((7 : Int32) &&& 31)) 6)), (7, .int (lw ((x1 >>> ((6 : Int32) &&& 31)) >>> ((4 : Int32) &&& 31)) 101)), (6, .int (lw ((x1 >>> ((6 : Int32) &&& 31)) >>> ((3 : Int32) &&& 31)) 16)), (5, .int (lw (x1 >>> ((6 : Int32) &&& 31)) 8)), (4, .int (x1 >>> ((6 : Int32) &&& 31))), (3, .int (lw x1 40)), (2, .int 0), (0, .ref (b 0 0)), (1, .int x1)]) hx hb dL_act_225 hl (by decide) rfl (fun ls hl => ?_)
                    refine lv_iload_n (pc := 227) hx hb dL_act_227 rfl (lv_at hl 6 rfl) ?_
                    refine lv_iconst (pc := 228) (v := 5) hx hb dL_act_228 (by decide) ?_
                    refine lv_icmp_ge (pc := 229) (tgt := 325) hx hb dL_act_229 (by decide) (fun c77 => ?_) (fun c77 => ?_)
                    · have hf := (if_pos c77).symm.trans hf
                      refine lv_iload_n (pc := 325) hx hb dL_act_325 rfl (lv_at hl 6 rfl) ?_
                      refine lv_bipush (pc := 326) (v := 7) hx hb dL_act_326 (by decide) ?_
                      refine lv_icmp_ge (pc := 328) (tgt := 376) hx hb dL_act_328 (by decide) (fun c78 => ?_) (fun c78 => ?_)
                      · have hf := (if_pos c78).symm.trans hf
                        refine lv_iload_n (pc := 376) hx hb dL_act_376 rfl (lv_at hl 6 rfl) ?_
                        refine lv_bipush (pc := 377) (v := 9) hx hb dL_act_377 (by decide) ?_
                        refine lv_icmp_ge (pc := 379) (tgt := 430) hx hb dL_act_379 (by decide) (fun c79 => ?_) (fun c79 => ?_)
                        · have hf := (if_pos c79).symm.trans hf
                          refine lv_aload_n (pc := 430) hx hb dL_act_430 rfl (lv_at hl 8 rfl) ?_
                          refine lv_bipush (pc := 431) (v := 8) hx hb dL_act_431 (by decide) ?_
                          refine lv_iload (pc := 433) hx hb dL_act_433 (lv_at hl 1 rfl) ?_
                          refine lv_iload (pc := 435) hx hb dL_act_435 (lv_at hl 5 rfl) ?_
                          refine lv_iconst (pc := 437) (v := 4) hx hb dL_act_437 (by decide) ?_
                          refine lv_ishr (pc := 438) hx hb dL_act_438 ?_
                          refine lv_iload_n (pc := 439) hx hb dL_act_439 rfl (lv_at hl 7 rfl) ?_
                          refine lv_if_eq (pc := 440) (tgt := 449) hx hb dL_act_440 (by decide) (fun c80 => ?_) (fun c80 => ?_)
                          · refine lv_sipush (pc := 449) (v := 3001) hx hb dL_act_449 (by decide) ?_
                            refine ro_S (pc := 452) (As := [.int ((x1 >>> ((6 : Int32) &&& 31)) >>> ((4 : Int32) &&& 31)), .int 3001]) (rest := [.int (lw ((x1 >>> ((6 : Int32) &&& 31)) >>> ((7 : Int32) &&& 31)) 6), .int 8, .ref (b 0 0)]) (st1 := [.int (lw ((x1 >>> ((6 : Int32) &&& 31)) >>> ((4 : Int32) &&& 31)) 3001), .int (lw ((x1 >>> ((6 : Int32) &&& 31)) >>> ((7 : Int32) &&& 31)) 6), .int 8, .ref (b 0 0)]) ⟨hx, hb, hml, hown, hts⟩ (c_L_low Z l ((x1 >>> ((6 : Int32) &&& 31)) >>> ((4 : Int32) &&& 31)) 3001 (by decide)) (va_cwS 2 hts gL_act_L_low rfl rfl rfl hs_L_low ⟨Nat.le_of_ble_eq_true rfl, Nat.le_of_ble_eq_true rfl⟩) hK hE (hP.sub (ws' := []) [] rfl) rfl hl.1 rfl (lv_room (Nat.le_of_ble_eq_true rfl)) dL_act_452 ⟨(show 0 ≤ 4 by omega), (show 0 ≤ 7200 by omega)⟩ rfl ?_
                            refine lv_iload_n (pc := 455) hx hb dL_act_455 rfl (lv_at hl 7 rfl) ?_
                            refine lv_if_eq (pc := 456) (tgt := 466) hx hb dL_act_456 (by decide) (fun c81 => ?_) (fun c81 => ?_)
                            · refine lv_iload (pc := 466) hx hb dL_act_466 (lv_at hl 5 rfl) ?_
                              refine lv_iconst (pc := 468) (v := 5) hx hb dL_act_468 (by decide) ?_
                              refine lv_ishr (pc := 469) hx hb dL_act_469 ?_
                              refine lv_sipush (pc := 470) (v := 900) hx hb dL_act_470 (by decide) ?_
                              refine ro_S (pc := 473) (As := [.int ((x1 >>> ((6 : Int32) &&& 31)) >>> ((5 : Int32) &&& 31)), .int 900]) (rest := [.int (lw ((x1 >>> ((6 : Int32) &&& 31)) >>> ((4 : Int32) &&& 31)) 3001), .int (lw ((x1 >>> ((6 : Int32) &&& 31)) >>> ((7 : Int32) &&& 31)) 6), .int 8, .ref (b 0 0)]) (st1 := [.int (lw ((x1 >>> ((6 : Int32) &&& 31)) >>> ((5 : Int32) &&& 31)) 900), .int (lw ((x1 >>> ((6 : Int32) &&& 31)) >>> ((4 : Int32) &&& 31)) 3001), .int (lw ((x1 >>> ((6 : Int32) &&& 31)) >>> ((7 : Int32) &&& 31)) 6), .int 8, .ref (b 0 0)]) ⟨hx, hb, hml, hown, hts⟩ (c_L_low Z l ((x1 >>> ((6 : Int32) &&& 31)) >>> ((5 : Int32) &&& 31)) 900 (by decide)) (va_cwS 2 hts gL_act_L_low rfl rfl rfl hs_L_low ⟨Nat.le_of_ble_eq_true rfl, Nat.le_of_ble_eq_true rfl⟩) hK hE (hP.sub (ws' := []) [] rfl) rfl hl.1 rfl (lv_room (Nat.le_of_ble_eq_true rfl)) dL_act_473 ⟨(show 0 ≤ 4 by omega), (show 0 ≤ 7200 by omega)⟩ rfl ?_
                              refine lv_iconst (pc := 476) (v := 0) hx hb dL_act_476 (by decide) ?_
                              obtain ⟨r477, h_477, hf⟩ := bd hf
                              refine wr_S (pc := 477) (As := [.ref (b 0 0), .int 8, .int (lw ((x1 >>> ((6 : Int32) &&& 31)) >>> ((7 : Int32) &&& 31)) 6), .int (lw ((x1 >>> ((6 : Int32) &&& 31)) >>> ((4 : Int32) &&& 31)) 3001), .int (lw ((x1 >>> ((6 : Int32) &&& 31)) >>> ((5 : Int32) &&& 31)) 900), .int 0]) (rest := []) (st1 := [.int r477.1]) (wn := fun _ => wH Z b r477.2) ⟨hx, hb, hml, hown, hts⟩ (c_L_does_8 Z l hst b h (lw ((x1 >>> ((6 : Int32) &&& 31)) >>> ((7 : Int32) &&& 31)) 6) (lw ((x1 >>> ((6 : Int32) &&& 31)) >>> ((4 : Int32) &&& 31)) 3001) (lw ((x1 >>> ((6 : Int32) &&& 31)) >>> ((5 : Int32) &&& 31)) 900) 0 r477 h_477) (vx_cwSW 6 hts gL_act_L_does rfl rfl rfl hs_L_does ⟨Nat.le_of_ble_eq_true rfl, Nat.le_of_ble_eq_true rfl⟩) hK hE hP hD hS hA hZ [0, 1, 2, 3, 4, 5, 6, 7, 8, 9, 10, 11, 12, 13, 14, 15, 16, 17, 18, 19, 20, 21, 22, 23, 24, 25, 26, 27, 28, 29, 30, 31, 32, 33, 34, 35, 36, 37, 38, 39] [] [0, 1, 2, 3, 4, 5, 6, 7, 8, 9, 10, 11, 12, 13, 14, 15, 16, 17, 18, 19, 20, 21, 22, 23, 24, 25, 26, 27, 28, 29, 30, 31, 32, 33, 34, 35, 36, 37, 38, 39] (by decide +kernel) rfl rfl (fun _ => rfl) rfl hl.1 rfl (lv_room (Nat.le_of_ble_eq_true rfl)) dL_act_477 ⟨(show 0 + 2 ≤ 4 by omega), (show 0 + 12 ≤ 7200 by omega)⟩ rfl (fun _ H locs hP hD hS => ?_)
                              have hf := (Option.some.inj hf)
                              subst hf
                              refine W.widen (k := 4) (n := 7200) (by omega) (by omega) ?_
                              exact vx_ret (rw_i (fun _ => b 7 1) hx hb hr hlk rfl hP hD hS dL_act_480)
                            · exact absurd c81 (by decide)
                          · exact absurd c80 (by decide)
                        · have hf := (if_neg c79).symm.trans hf
                          refine lv_aload_n (pc := 382) hx hb dL_act_382 rfl (lv_at hl 8 rfl) ?_
                          refine lv_bipush (pc := 383) (v := 7) hx hb dL_act_383 (by decide) ?_
                          refine lv_iload (pc := 385) hx hb dL_act_385 (lv_at hl 1 rfl) ?_
                          refine lv_iload (pc := 387) hx hb dL_act_387 (lv_at hl 3 rfl) ?_
                          refine lv_iload (pc := 389) hx hb dL_act_389 (lv_at hl 5 rfl) ?_
                          refine lv_iconst (pc := 391) (v := 4) hx hb dL_act_391 (by decide) ?_
                          refine lv_ishr (pc := 392) hx hb dL_act_392 ?_
                          refine lv_iload_n (pc := 393) hx hb dL_act_393 rfl (lv_at hl 7 rfl) ?_
                          refine lv_if_eq (pc := 394) (tgt := 403) hx hb dL_act_394 (by decide) (fun c82 => ?_) (fun c82 => ?_)
                          · refine lv_sipush (pc := 403) (v := 301) hx hb dL_act_403 (by decide) ?_
                            refine ro_S (pc := 406) (As := [.int ((x1 >>> ((6 : Int32) &&& 31)) >>> ((4 : Int32) &&& 31)), .int 301]) (rest := [.int (lw ((x1 >>> ((6 : Int32) &&& 31)) >>> ((3 : Int32) &&& 31)) 16), .int (lw ((x1 >>> ((6 : Int32) &&& 31)) >>> ((7 : Int32) &&& 31)) 6), .int 7, .ref (b 0 0)]) (st1 := [.int (lw ((x1 >>> ((6 : Int32) &&& 31)) >>> ((4 : Int32) &&& 31)) 301), .int (lw ((x1 >>> ((6 : Int32) &&& 31)) >>> ((3 : Int32) &&& 31)) 16), .int (lw ((x1 >>> ((6 : Int32) &&& 31)) >>> ((7 : Int32) &&& 31)) 6), .int 7, .ref (b 0 0)]) ⟨hx, hb, hml, hown, hts⟩ (c_L_low Z l ((x1 >>> ((6 : Int32) &&& 31)) >>> ((4 : Int32) &&& 31)) 301 (by decide)) (va_cwS 2 hts gL_act_L_low rfl rfl rfl hs_L_low ⟨Nat.le_of_ble_eq_true rfl, Nat.le_of_ble_eq_true rfl⟩) hK hE (hP.sub (ws' := []) [] rfl) rfl hl.1 rfl (lv_room (Nat.le_of_ble_eq_true rfl)) dL_act_406 ⟨(show 0 ≤ 4 by omega), (show 0 ≤ 7200 by omega)⟩ rfl ?_
                            refine lv_iload_n (pc := 409) hx hb dL_act_409 rfl (lv_at hl 7 rfl) ?_
                            refine lv_if_eq (pc := 410) (tgt := 419) hx hb dL_act_410 (by decide) (fun c83 => ?_) (fun c83 => ?_)
                            · refine lv_sipush (pc := 419) (v := 150) hx hb dL_act_419 (by decide) ?_
                              refine lv_isub (pc := 422) hx hb dL_act_422 ?_
                              refine lv_iconst (pc := 423) (v := 0) hx hb dL_act_423 (by decide) ?_
                              obtain ⟨r424, h_424, hf⟩ := bd hf
                              refine wr_S (pc := 424) (As := [.ref (b 0 0), .int 7, .int (lw ((x1 >>> ((6 : Int32) &&& 31)) >>> ((7 : Int32) &&& 31)) 6), .int (lw ((x1 >>> ((6 : Int32) &&& 31)) >>> ((3 : Int32) &&& 31)) 16), .int ((lw ((x1 >>> ((6 : Int32) &&& 31)) >>> ((4 : Int32) &&& 31)) 301) - (150 : Int32)), .int 0]) (rest := []) (st1 := [.int r424.1]) (wn := fun _ => wH Z b r424.2) ⟨hx, hb, hml, hown, hts⟩ (c_L_does_7 Z l hst b h (lw ((x1 >>> ((6 : Int32) &&& 31)) >>> ((7 : Int32) &&& 31)) 6) (lw ((x1 >>> ((6 : Int32) &&& 31)) >>> ((3 : Int32) &&& 31)) 16) ((lw ((x1 >>> ((6 : Int32) &&& 31)) >>> ((4 : Int32) &&& 31)) 301) - (150 : Int32)) 0 r424 h_424) (vx_cwSW 6 hts gL_act_L_does rfl rfl rfl hs_L_does ⟨Nat.le_of_ble_eq_true rfl, Nat.le_of_ble_eq_true rfl⟩) hK hE hP hD hS hA hZ [0, 1, 2, 3, 4, 5, 6, 7, 8, 9, 10, 11, 12, 13, 14, 15, 16, 17, 18, 19, 20, 21, 22, 23, 24, 25, 26, 27, 28, 29, 30, 31, 32, 33, 34, 35, 36, 37, 38, 39] [] [0, 1, 2, 3, 4, 5, 6, 7, 8, 9, 10, 11, 12, 13, 14, 15, 16, 17, 18, 19, 20, 21, 22, 23, 24, 25, 26, 27, 28, 29, 30, 31, 32, 33, 34, 35, 36, 37, 38, 39] (by decide +kernel) rfl rfl (fun _ => rfl) rfl hl.1 rfl (lv_room (Nat.le_of_ble_eq_true rfl)) dL_act_424 ⟨(show 0 + 3 ≤ 4 by omega), (show 0 + 18 ≤ 7200 by omega)⟩ rfl (fun _ H locs hP hD hS => ?_)
                              refine lv_goto (pc := 427) (tgt := 480) hx hb dL_act_427 (by decide) ?_
                              have hf := (Option.some.inj hf)
                              subst hf
                              refine W.widen (k := 4) (n := 7200) (by omega) (by omega) ?_
                              exact vx_ret (rw_i (fun _ => b 7 1) hx hb hr hlk rfl hP hD hS dL_act_480)
                            · exact absurd c83 (by decide)
                          · exact absurd c82 (by decide)
                      · have hf := (if_neg c78).symm.trans hf
                        refine lv_aload_n (pc := 331) hx hb dL_act_331 rfl (lv_at hl 8 rfl) ?_
                        refine lv_bipush (pc := 332) (v := 6) hx hb dL_act_332 (by decide) ?_
                        refine lv_iload (pc := 334) hx hb dL_act_334 (lv_at hl 3 rfl) ?_
                        refine lv_iload (pc := 336) hx hb dL_act_336 (lv_at hl 5 rfl) ?_
                        refine lv_iconst (pc := 338) (v := 5) hx hb dL_act_338 (by decide) ?_
                        refine lv_ishr (pc := 339) hx hb dL_act_339 ?_
                        refine lv_iload_n (pc := 340) hx hb dL_act_340 rfl (lv_at hl 7 rfl) ?_
                        refine lv_if_eq (pc := 341) (tgt := 350) hx hb dL_act_341 (by decide) (fun c84 => ?_) (fun c84 => ?_)
                        · refine lv_sipush (pc := 350) (v := 300) hx hb dL_act_350 (by decide) ?_
                          refine ro_S (pc := 353) (As := [.int ((x1 >>> ((6 : Int32) &&& 31)) >>> ((5 : Int32) &&& 31)), .int 300]) (rest := [.int (lw ((x1 >>> ((6 : Int32) &&& 31)) >>> ((3 : Int32) &&& 31)) 16), .int 6, .ref (b 0 0)]) (st1 := [.int (lw ((x1 >>> ((6 : Int32) &&& 31)) >>> ((5 : Int32) &&& 31)) 300), .int (lw ((x1 >>> ((6 : Int32) &&& 31)) >>> ((3 : Int32) &&& 31)) 16), .int 6, .ref (b 0 0)]) ⟨hx, hb, hml, hown, hts⟩ (c_L_low Z l ((x1 >>> ((6 : Int32) &&& 31)) >>> ((5 : Int32) &&& 31)) 300 (by decide)) (va_cwS 2 hts gL_act_L_low rfl rfl rfl hs_L_low ⟨Nat.le_of_ble_eq_true rfl, Nat.le_of_ble_eq_true rfl⟩) hK hE (hP.sub (ws' := []) [] rfl) rfl hl.1 rfl (lv_room (Nat.le_of_ble_eq_true rfl)) dL_act_353 ⟨(show 0 ≤ 4 by omega), (show 0 ≤ 7200 by omega)⟩ rfl ?_
                          refine lv_iload (pc := 356) hx hb dL_act_356 (lv_at hl 0 rfl) ?_
                          refine lv_bipush (pc := 358) (v := 100) hx hb dL_act_358 (by decide) ?_
                          refine lv_icmp_le (pc := 360) (tgt := 367) hx hb dL_act_360 (by decide) (fun c85 => ?_) (fun c85 => ?_)
                          · have hf := (if_pos c85).symm.trans hf
                            refine lv_iload (pc := 367) hx hb dL_act_367 (lv_at hl 0 rfl) ?_
                            refine lv_iconst (pc := 369) (v := 0) hx hb dL_act_369 (by decide) ?_
                            obtain ⟨r370, h_370, hf⟩ := bd hf
                            refine wr_S (pc := 370) (As := [.ref (b 0 0), .int 6, .int (lw ((x1 >>> ((6 : Int32) &&& 31)) >>> ((3 : Int32) &&& 31)) 16), .int (lw ((x1 >>> ((6 : Int32) &&& 31)) >>> ((5 : Int32) &&& 31)) 300), .int ((101 : Int32) + (lw ((x1 >>> ((6 : Int32) &&& 31)) >>> ((5 : Int32) &&& 31)) 6)), .int 0]) (rest := []) (st1 := [.int r370.1]) (wn := fun _ => wH Z b r370.2) ⟨hx, hb, hml, hown, hts⟩ (c_L_does_6 Z l hst b h (lw ((x1 >>> ((6 : Int32) &&& 31)) >>> ((3 : Int32) &&& 31)) 16) (lw ((x1 >>> ((6 : Int32) &&& 31)) >>> ((5 : Int32) &&& 31)) 300) ((101 : Int32) + (lw ((x1 >>> ((6 : Int32) &&& 31)) >>> ((5 : Int32) &&& 31)) 6)) 0 r370 h_370) (vx_cwSW 6 hts gL_act_L_does rfl rfl rfl hs_L_does ⟨Nat.le_of_ble_eq_true rfl, Nat.le_of_ble_eq_true rfl⟩) hK hE hP hD hS hA hZ [0, 1, 2, 3, 4, 5, 6, 7, 8, 9, 10, 11, 12, 13, 14, 15, 16, 17, 18, 19, 20, 21, 22, 23, 24, 25, 26, 27, 28, 29, 30, 31, 32, 33, 34, 35, 36, 37, 38, 39] [] [0, 1, 2, 3, 4, 5, 6, 7, 8, 9, 10, 11, 12, 13, 14, 15, 16, 17, 18, 19, 20, 21, 22, 23, 24, 25, 26, 27, 28, 29, 30, 31, 32, 33, 34, 35, 36, 37, 38, 39] (by decide +kernel) rfl rfl (fun _ => rfl) rfl hl.1 rfl (lv_room (Nat.le_of_ble_eq_true rfl)) dL_act_370 ⟨(show 0 + 4 ≤ 4 by omega), (show 0 + 24 ≤ 7200 by omega)⟩ rfl (fun _ H locs hP hD hS => ?_)
                            refine lv_goto (pc := 373) (tgt := 480) hx hb dL_act_373 (by decide) ?_
                            have hf := (Option.some.inj hf)
                            subst hf
                            refine W.widen (k := 4) (n := 7200) (by omega) (by omega) ?_
                            exact vx_ret (rw_i (fun _ => b 7 1) hx hb hr hlk rfl hP hD hS dL_act_480)
                          · have hf := (if_neg c85).symm.trans hf
                            refine lv_iconst (pc := 363) (v := 0) hx hb dL_act_363 (by decide) ?_
                            refine lv_goto (pc := 364) (tgt := 369) hx hb dL_act_364 (by decide) ?_
                            refine lv_iconst (pc := 369) (v := 0) hx hb dL_act_369 (by decide) ?_
                            obtain ⟨r370, h_370, hf⟩ := bd hf
                            refine wr_S (pc := 370) (As := [.ref (b 0 0), .int 6, .int (lw ((x1 >>> ((6 : Int32) &&& 31)) >>> ((3 : Int32) &&& 31)) 16), .int (lw ((x1 >>> ((6 : Int32) &&& 31)) >>> ((5 : Int32) &&& 31)) 300), .int 0, .int 0]) (rest := []) (st1 := [.int r370.1]) (wn := fun _ => wH Z b r370.2) ⟨hx, hb, hml, hown, hts⟩ (c_L_does_6 Z l hst b h (lw ((x1 >>> ((6 : Int32) &&& 31)) >>> ((3 : Int32) &&& 31)) 16) (lw ((x1 >>> ((6 : Int32) &&& 31)) >>> ((5 : Int32) &&& 31)) 300) 0 0 r370 h_370) (vx_cwSW 6 hts gL_act_L_does rfl rfl rfl hs_L_does ⟨Nat.le_of_ble_eq_true rfl, Nat.le_of_ble_eq_true rfl⟩) hK hE hP hD hS hA hZ [0, 1, 2, 3, 4, 5, 6, 7, 8, 9, 10, 11, 12, 13, 14, 15, 16, 17, 18, 19, 20, 21, 22, 23, 24, 25, 26, 27, 28, 29, 30, 31, 32, 33, 34, 35, 36, 37, 38, 39] [] [0, 1, 2, 3, 4, 5, 6, 7, 8, 9, 10, 11, 12, 13, 14, 15, 16, 17, 18, 19, 20, 21, 22, 23, 24, 25, 26, 27, 28, 29, 30, 31, 32, 33, 34, 35, 36, 37, 38, 39] (by decide +kernel) rfl rfl (fun _ => rfl) rfl hl.1 rfl (lv_room (Nat.le_of_ble_eq_true rfl)) dL_act_370 ⟨(show 0 + 4 ≤ 4 by omega), (show 0 + 24 ≤ 7200 by omega)⟩ rfl (fun _ H locs hP hD hS => ?_)
                            refine lv_goto (pc := 373) (tgt := 480) hx hb dL_act_373 (by decide) ?_
                            have hf := (Option.some.inj hf)
                            subst hf
                            refine W.widen (k := 4) (n := 7200) (by omega) (by omega) ?_
                            exact vx_ret (rw_i (fun _ => b 7 1) hx hb hr hlk rfl hP hD hS dL_act_480)
                        · exact absurd c84 (by decide)
                    · have hf := (if_neg c77).symm.trans hf
                      refine lv_aload_n (pc := 232) hx hb dL_act_232 rfl (lv_at hl 8 rfl) ?_
                      refine lv_iconst (pc := 233) (v := 5) hx hb dL_act_233 (by decide) ?_
                      refine lv_sipush (pc := 234) (v := 10000) hx hb dL_act_234 (by decide) ?_
                      refine lv_iload (pc := 237) hx hb dL_act_237 (lv_at hl 5 rfl) ?_
                      refine lv_iconst (pc := 239) (v := 4) hx hb dL_act_239 (by decide) ?_
                      refine lv_ishr (pc := 240) hx hb dL_act_240 ?_
                      refine lv_iload_n (pc := 241) hx hb dL_act_241 rfl (lv_at hl 7 rfl) ?_
                      refine lv_if_eq (pc := 242) (tgt := 251) hx hb dL_act_242 (by decide) (fun c86 => ?_) (fun c86 => ?_)
                      · refine lv_sipush (pc := 251) (v := 3001) hx hb dL_act_251 (by decide) ?_
                        refine ro_S (pc := 254) (As := [.int ((x1 >>> ((6 : Int32) &&& 31)) >>> ((4 : Int32) &&& 31)), .int 3001]) (rest := [.int 10000, .int 5, .ref (b 0 0)]) (st1 := [.int (lw ((x1 >>> ((6 : Int32) &&& 31)) >>> ((4 : Int32) &&& 31)) 3001), .int 10000, .int 5, .ref (b 0 0)]) ⟨hx, hb, hml, hown, hts⟩ (c_L_low Z l ((x1 >>> ((6 : Int32) &&& 31)) >>> ((4 : Int32) &&& 31)) 3001 (by decide)) (va_cwS 2 hts gL_act_L_low rfl rfl rfl hs_L_low ⟨Nat.le_of_ble_eq_true rfl, Nat.le_of_ble_eq_true rfl⟩) hK hE (hP.sub (ws' := []) [] rfl) rfl hl.1 rfl (lv_room (Nat.le_of_ble_eq_true rfl)) dL_act_254 ⟨(show 0 ≤ 4 by omega), (show 0 ≤ 7200 by omega)⟩ rfl ?_
                        refine lv_imul (pc := 257) hx hb dL_act_257 ?_
                        refine lv_iload (pc := 258) hx hb dL_act_258 (lv_at hl 3 rfl) ?_
                        refine lv_if_ge (pc := 260) (tgt := 269) hx hb dL_act_260 (by decide) (fun c87 => ?_) (fun c87 => ?_)
                        · have hf := (if_pos c87).symm.trans hf
                          refine lv_iload (pc := 269) hx hb dL_act_269 (lv_at hl 3 rfl) ?_
                          refine lv_iadd (pc := 271) hx hb dL_act_271 ?_
                          refine lv_iload (pc := 272) hx hb dL_act_272 (lv_at hl 5 rfl) ?_
                          refine lv_iconst (pc := 274) (v := 5) hx hb dL_act_274 (by decide) ?_
                          refine lv_ishr (pc := 275) hx hb dL_act_275 ?_
                          refine lv_iload_n (pc := 276) hx hb dL_act_276 rfl (lv_at hl 7 rfl) ?_
                          refine lv_if_eq (pc := 277) (tgt := 286) hx hb dL_act_277 (by decide) (fun c88 => ?_) (fun c88 => ?_)
                          · refine lv_sipush (pc := 286) (v := 199) hx hb dL_act_286 (by decide) ?_
                            refine ro_S (pc := 289) (As := [.int ((x1 >>> ((6 : Int32) &&& 31)) >>> ((5 : Int32) &&& 31)), .int 199]) (rest := [.int (((10000 : Int32) * (lw ((x1 >>> ((6 : Int32) &&& 31)) >>> ((4 : Int32) &&& 31)) 3001)) + (lw ((x1 >>> ((6 : Int32) &&& 31)) >>> ((3 : Int32) &&& 31)) 16)), .int 5, .ref (b 0 0)]) (st1 := [.int (lw ((x1 >>> ((6 : Int32) &&& 31)) >>> ((5 : Int32) &&& 31)) 199), .int (((10000 : Int32) * (lw ((x1 >>> ((6 : Int32) &&& 31)) >>> ((4 : Int32) &&& 31)) 3001)) + (lw ((x1 >>> ((6 : Int32) &&& 31)) >>> ((3 : Int32) &&& 31)) 16)), .int 5, .ref (b 0 0)]) ⟨hx, hb, hml, hown, hts⟩ (c_L_low Z l ((x1 >>> ((6 : Int32) &&& 31)) >>> ((5 : Int32) &&& 31)) 199 (by decide)) (va_cwS 2 hts gL_act_L_low rfl rfl rfl hs_L_low ⟨Nat.le_of_ble_eq_true rfl, Nat.le_of_ble_eq_true rfl⟩) hK hE (hP.sub (ws' := []) [] rfl) rfl hl.1 rfl (lv_room (Nat.le_of_ble_eq_true rfl)) dL_act_289 ⟨(show 0 ≤ 4 by omega), (show 0 ≤ 7200 by omega)⟩ rfl ?_
                            refine lv_bipush (pc := 292) (v := 99) hx hb dL_act_292 (by decide) ?_
                            refine lv_isub (pc := 294) hx hb dL_act_294 ?_
                            refine lv_iload_n (pc := 295) hx hb dL_act_295 rfl (lv_at hl 7 rfl) ?_
                            refine lv_if_eq (pc := 296) (tgt := 306) hx hb dL_act_296 (by decide) (fun c89 => ?_) (fun c89 => ?_)
                            · refine lv_iload (pc := 306) hx hb dL_act_306 (lv_at hl 5 rfl) ?_
                              refine lv_bipush (pc := 308) (v := 6) hx hb dL_act_308 (by decide) ?_
                              refine lv_ishr (pc := 310) hx hb dL_act_310 ?_
                              refine lv_sipush (pc := 311) (v := 400) hx hb dL_act_311 (by decide) ?_
                              refine ro_S (pc := 314) (As := [.int ((x1 >>> ((6 : Int32) &&& 31)) >>> ((6 : Int32) &&& 31)), .int 400]) (rest := [.int ((lw ((x1 >>> ((6 : Int32) &&& 31)) >>> ((5 : Int32) &&& 31)) 199) - (99 : Int32)), .int (((10000 : Int32) * (lw ((x1 >>> ((6 : Int32) &&& 31)) >>> ((4 : Int32) &&& 31)) 3001)) + (lw ((x1 >>> ((6 : Int32) &&& 31)) >>> ((3 : Int32) &&& 31)) 16)), .int 5, .ref (b 0 0)]) (st1 := [.int (lw ((x1 >>> ((6 : Int32) &&& 31)) >>> ((6 : Int32) &&& 31)) 400), .int ((lw ((x1 >>> ((6 : Int32) &&& 31)) >>> ((5 : Int32) &&& 31)) 199) - (99 : Int32)), .int (((10000 : Int32) * (lw ((x1 >>> ((6 : Int32) &&& 31)) >>> ((4 : Int32) &&& 31)) 3001)) + (lw ((x1 >>> ((6 : Int32) &&& 31)) >>> ((3 : Int32) &&& 31)) 16)), .int 5, .ref (b 0 0)]) ⟨hx, hb, hml, hown, hts⟩ (c_L_low Z l ((x1 >>> ((6 : Int32) &&& 31)) >>> ((6 : Int32) &&& 31)) 400 (by decide)) (va_cwS 2 hts gL_act_L_low rfl rfl rfl hs_L_low ⟨Nat.le_of_ble_eq_true rfl, Nat.le_of_ble_eq_true rfl⟩) hK hE (hP.sub (ws' := []) [] rfl) rfl hl.1 rfl (lv_room (Nat.le_of_ble_eq_true rfl)) dL_act_314 ⟨(show 0 ≤ 4 by omega), (show 0 ≤ 7200 by omega)⟩ rfl ?_
                              refine lv_iload (pc := 317) hx hb dL_act_317 (lv_at hl 0 rfl) ?_
                              obtain ⟨r319, h_319, hf⟩ := bd hf
                              refine wr_S (pc := 319) (As := [.ref (b 0 0), .int 5, .int (((10000 : Int32) * (lw ((x1 >>> ((6 : Int32) &&& 31)) >>> ((4 : Int32) &&& 31)) 3001)) + (lw ((x1 >>> ((6 : Int32) &&& 31)) >>> ((3 : Int32) &&& 31)) 16)), .int ((lw ((x1 >>> ((6 : Int32) &&& 31)) >>> ((5 : Int32) &&& 31)) 199) - (99 : Int32)), .int (lw ((x1 >>> ((6 : Int32) &&& 31)) >>> ((6 : Int32) &&& 31)) 400), .int ((101 : Int32) + (lw ((x1 >>> ((6 : Int32) &&& 31)) >>> ((5 : Int32) &&& 31)) 6))]) (rest := []) (st1 := [.int r319.1]) (wn := fun _ => wH Z b r319.2) ⟨hx, hb, hml, hown, hts⟩ (c_L_does_5 Z l hst b h (((10000 : Int32) * (lw ((x1 >>> ((6 : Int32) &&& 31)) >>> ((4 : Int32) &&& 31)) 3001)) + (lw ((x1 >>> ((6 : Int32) &&& 31)) >>> ((3 : Int32) &&& 31)) 16)) ((lw ((x1 >>> ((6 : Int32) &&& 31)) >>> ((5 : Int32) &&& 31)) 199) - (99 : Int32)) (lw ((x1 >>> ((6 : Int32) &&& 31)) >>> ((6 : Int32) &&& 31)) 400) ((101 : Int32) + (lw ((x1 >>> ((6 : Int32) &&& 31)) >>> ((5 : Int32) &&& 31)) 6)) r319 h_319) (vx_cwSW 6 hts gL_act_L_does rfl rfl rfl hs_L_does ⟨Nat.le_of_ble_eq_true rfl, Nat.le_of_ble_eq_true rfl⟩) hK hE hP hD hS hA hZ [0, 1, 2, 3, 4, 5, 6, 7, 8, 9, 10, 11, 12, 13, 14, 15, 16, 17, 18, 19, 20, 21, 22, 23, 24, 25, 26, 27, 28, 29, 30, 31, 32, 33, 34, 35, 36, 37, 38, 39] [] [0, 1, 2, 3, 4, 5, 6, 7, 8, 9, 10, 11, 12, 13, 14, 15, 16, 17, 18, 19, 20, 21, 22, 23, 24, 25, 26, 27, 28, 29, 30, 31, 32, 33, 34, 35, 36, 37, 38, 39] (by decide +kernel) rfl rfl (fun _ => rfl) rfl hl.1 rfl (lv_room (Nat.le_of_ble_eq_true rfl)) dL_act_319 ⟨(show 0 + 4 ≤ 4 by omega), (show 0 + 24 ≤ 7200 by omega)⟩ rfl (fun _ H locs hP hD hS => ?_)
                              refine lv_goto (pc := 322) (tgt := 480) hx hb dL_act_322 (by decide) ?_
                              have hf := (Option.some.inj hf)
                              subst hf
                              refine W.widen (k := 4) (n := 7200) (by omega) (by omega) ?_
                              exact vx_ret (rw_i (fun _ => b 7 1) hx hb hr hlk rfl hP hD hS dL_act_480)
                            · exact absurd c89 (by decide)
                          · exact absurd c88 (by decide)
                        · have hf := (if_neg c87).symm.trans hf
                          refine lv_sipush (pc := 263) (v := 9999) hx hb dL_act_263 (by decide) ?_
                          refine lv_goto (pc := 266) (tgt := 271) hx hb dL_act_266 (by decide) ?_
                          refine lv_iadd (pc := 271) hx hb dL_act_271 ?_
                          refine lv_iload (pc := 272) hx hb dL_act_272 (lv_at hl 5 rfl) ?_
                          refine lv_iconst (pc := 274) (v := 5) hx hb dL_act_274 (by decide) ?_
                          refine lv_ishr (pc := 275) hx hb dL_act_275 ?_
                          refine lv_iload_n (pc := 276) hx hb dL_act_276 rfl (lv_at hl 7 rfl) ?_
                          refine lv_if_eq (pc := 277) (tgt := 286) hx hb dL_act_277 (by decide) (fun c90 => ?_) (fun c90 => ?_)
                          · refine lv_sipush (pc := 286) (v := 199) hx hb dL_act_286 (by decide) ?_
                            refine ro_S (pc := 289) (As := [.int ((x1 >>> ((6 : Int32) &&& 31)) >>> ((5 : Int32) &&& 31)), .int 199]) (rest := [.int (((10000 : Int32) * (lw ((x1 >>> ((6 : Int32) &&& 31)) >>> ((4 : Int32) &&& 31)) 3001)) + (9999 : Int32)), .int 5, .ref (b 0 0)]) (st1 := [.int (lw ((x1 >>> ((6 : Int32) &&& 31)) >>> ((5 : Int32) &&& 31)) 199), .int (((10000 : Int32) * (lw ((x1 >>> ((6 : Int32) &&& 31)) >>> ((4 : Int32) &&& 31)) 3001)) + (9999 : Int32)), .int 5, .ref (b 0 0)]) ⟨hx, hb, hml, hown, hts⟩ (c_L_low Z l ((x1 >>> ((6 : Int32) &&& 31)) >>> ((5 : Int32) &&& 31)) 199 (by decide)) (va_cwS 2 hts gL_act_L_low rfl rfl rfl hs_L_low ⟨Nat.le_of_ble_eq_true rfl, Nat.le_of_ble_eq_true rfl⟩) hK hE (hP.sub (ws' := []) [] rfl) rfl hl.1 rfl (lv_room (Nat.le_of_ble_eq_true rfl)) dL_act_289 ⟨(show 0 ≤ 4 by omega), (show 0 ≤ 7200 by omega)⟩ rfl ?_
                            refine lv_bipush (pc := 292) (v := 99) hx hb dL_act_292 (by decide) ?_
                            refine lv_isub (pc := 294) hx hb dL_act_294 ?_
                            refine lv_iload_n (pc := 295) hx hb dL_act_295 rfl (lv_at hl 7 rfl) ?_
                            refine lv_if_eq (pc := 296) (tgt := 306) hx hb dL_act_296 (by decide) (fun c91 => ?_) (fun c91 => ?_)
                            · refine lv_iload (pc := 306) hx hb dL_act_306 (lv_at hl 5 rfl) ?_
                              refine lv_bipush (pc := 308) (v := 6) hx hb dL_act_308 (by decide) ?_
                              refine lv_ishr (pc := 310) hx hb dL_act_310 ?_
                              refine lv_sipush (pc := 311) (v := 400) hx hb dL_act_311 (by decide) ?_
                              refine ro_S (pc := 314) (As := [.int ((x1 >>> ((6 : Int32) &&& 31)) >>> ((6 : Int32) &&& 31)), .int 400]) (rest := [.int ((lw ((x1 >>> ((6 : Int32) &&& 31)) >>> ((5 : Int32) &&& 31)) 199) - (99 : Int32)), .int (((10000 : Int32) * (lw ((x1 >>> ((6 : Int32) &&& 31)) >>> ((4 : Int32) &&& 31)) 3001)) + (9999 : Int32)), .int 5, .ref (b 0 0)]) (st1 := [.int (lw ((x1 >>> ((6 : Int32) &&& 31)) >>> ((6 : Int32) &&& 31)) 400), .int ((lw ((x1 >>> ((6 : Int32) &&& 31)) >>> ((5 : Int32) &&& 31)) 199) - (99 : Int32)), .int (((10000 : Int32) * (lw ((x1 >>> ((6 : Int32) &&& 31)) >>> ((4 : Int32) &&& 31)) 3001)) + (9999 : Int32)), .int 5, .ref (b 0 0)]) ⟨hx, hb, hml, hown, hts⟩ (c_L_low Z l ((x1 >>> ((6 : Int32) &&& 31)) >>> ((6 : Int32) &&& 31)) 400 (by decide)) (va_cwS 2 hts gL_act_L_low rfl rfl rfl hs_L_low ⟨Nat.le_of_ble_eq_true rfl, Nat.le_of_ble_eq_true rfl⟩) hK hE (hP.sub (ws' := []) [] rfl) rfl hl.1 rfl (lv_room (Nat.le_of_ble_eq_true rfl)) dL_act_314 ⟨(show 0 ≤ 4 by omega), (show 0 ≤ 7200 by omega)⟩ rfl ?_
                              refine lv_iload (pc := 317) hx hb dL_act_317 (lv_at hl 0 rfl) ?_
                              obtain ⟨r319, h_319, hf⟩ := bd hf
                              refine wr_S (pc := 319) (As := [.ref (b 0 0), .int 5, .int (((10000 : Int32) * (lw ((x1 >>> ((6 : Int32) &&& 31)) >>> ((4 : Int32) &&& 31)) 3001)) + (9999 : Int32)), .int ((lw ((x1 >>> ((6 : Int32) &&& 31)) >>> ((5 : Int32) &&& 31)) 199) - (99 : Int32)), .int (lw ((x1 >>> ((6 : Int32) &&& 31)) >>> ((6 : Int32) &&& 31)) 400), .int ((101 : Int32) + (lw ((x1 >>> ((6 : Int32) &&& 31)) >>> ((5 : Int32) &&& 31)) 6))]) (rest := []) (st1 := [.int r319.1]) (wn := fun _ => wH Z b r319.2) ⟨hx, hb, hml, hown, hts⟩ (c_L_does_5 Z l hst b h (((10000 : Int32) * (lw ((x1 >>> ((6 : Int32) &&& 31)) >>> ((4 : Int32) &&& 31)) 3001)) + (9999 : Int32)) ((lw ((x1 >>> ((6 : Int32) &&& 31)) >>> ((5 : Int32) &&& 31)) 199) - (99 : Int32)) (lw ((x1 >>> ((6 : Int32) &&& 31)) >>> ((6 : Int32) &&& 31)) 400) ((101 : Int32) + (lw ((x1 >>> ((6 : Int32) &&& 31)) >>> ((5 : Int32) &&& 31)) 6)) r319 h_319) (vx_cwSW 6 hts gL_act_L_does rfl rfl rfl hs_L_does ⟨Nat.le_of_ble_eq_true rfl, Nat.le_of_ble_eq_true rfl⟩) hK hE hP hD hS hA hZ [0, 1, 2, 3, 4, 5, 6, 7, 8, 9, 10, 11, 12, 13, 14, 15, 16, 17, 18, 19, 20, 21, 22, 23, 24, 25, 26, 27, 28, 29, 30, 31, 32, 33, 34, 35, 36, 37, 38, 39] [] [0, 1, 2, 3, 4, 5, 6, 7, 8, 9, 10, 11, 12, 13, 14, 15, 16, 17, 18, 19, 20, 21, 22, 23, 24, 25, 26, 27, 28, 29, 30, 31, 32, 33, 34, 35, 36, 37, 38, 39] (by decide +kernel) rfl rfl (fun _ => rfl) rfl hl.1 rfl (lv_room (Nat.le_of_ble_eq_true rfl)) dL_act_319 ⟨(show 0 + 4 ≤ 4 by omega), (show 0 + 24 ≤ 7200 by omega)⟩ rfl (fun _ H locs hP hD hS => ?_)
                              refine lv_goto (pc := 322) (tgt := 480) hx hb dL_act_322 (by decide) ?_
                              have hf := (Option.some.inj hf)
                              subst hf
                              refine W.widen (k := 4) (n := 7200) (by omega) (by omega) ?_
                              exact vx_ret (rw_i (fun _ => b 7 1) hx hb hr hlk rfl hP hD hS dL_act_480)
                            · exact absurd c91 (by decide)
                          · exact absurd c90 (by decide)
                      · exact absurd c86 (by decide)
                  · exact absurd c76 (by decide)
            · exact absurd c49 (by decide)
        · exact absurd c4 (by decide)
      · exact absurd c3 (by decide)
    · exact absurd c2 (by decide)
  · have hf := (if_pos c1).symm.trans hf
    refine lv_iconst (pc := 12) (v := 1) hx hb dL_act_12 (by decide) ?_
    refine lv_goto (pc := 13) (tgt := 17) hx hb dL_act_13 (by decide) ?_
    refine lv_istore_n (pc := 17) (lv' := [(2, .int 1), (0, .ref (b 0 0)), (1, .int x1)]) hx hb dL_act_17 rfl hl (by decide) rfl (fun ls hl => ?_)
    refine lv_iload_n (pc := 18) hx hb dL_act_18 rfl (lv_at hl 2 rfl) ?_
    refine lv_bipush (pc := 19) (v := 40) hx hb dL_act_19 (by decide) ?_
    refine ro_S (pc := 21) (As := [.int x1, .int 40]) (rest := []) (st1 := [.int (lw x1 40)]) ⟨hx, hb, hml, hown, hts⟩ (c_L_low Z l x1 40 (by decide)) (va_cwS 2 hts gL_act_L_low rfl rfl rfl hs_L_low ⟨Nat.le_of_ble_eq_true rfl, Nat.le_of_ble_eq_true rfl⟩) hK hE (hP.sub (ws' := []) [] rfl) rfl hl.1 rfl (lv_room (Nat.le_of_ble_eq_true rfl)) dL_act_21 ⟨(show 0 ≤ 4 by omega), (show 0 ≤ 7200 by omega)⟩ rfl ?_
    refine lv_istore_n (pc := 24) (lv' := [(3, .int (lw x1 40)), (2, .int 1), (0, .ref (b 0 0)), (1, .int x1)]) hx hb dL_act_24 rfl hl (by decide) rfl (fun ls hl => ?_)
    refine lv_iload_n (pc := 25) hx hb dL_act_25 rfl (lv_at hl 3 rfl) ?_
    refine lv_bipush (pc := 26) (v := 6) hx hb dL_act_26 (by decide) ?_
    refine lv_ishr (pc := 28) hx hb dL_act_28 ?_
    refine lv_istore (pc := 29) (lv' := [(4, .int (x1 >>> ((6 : Int32) &&& 31))), (3, .int (lw x1 40)), (2, .int 1), (0, .ref (b 0 0)), (1, .int x1)]) hx hb dL_act_29 hl (by decide) rfl (fun ls hl => ?_)
    refine lv_iload_n (pc := 31) hx hb dL_act_31 rfl (lv_at hl 2 rfl) ?_
    refine lv_if_eq (pc := 32) (tgt := 47) hx hb dL_act_32 (by decide) (fun c92 => ?_) (fun c92 => ?_)
    · exact absurd c92 (by decide)
    · refine lv_iload (pc := 35) hx hb dL_act_35 (lv_at hl 0 rfl) ?_
      refine lv_bipush (pc := 37) (v := 14) hx hb dL_act_37 (by decide) ?_
      refine ro_S (pc := 39) (As := [.int (x1 >>> ((6 : Int32) &&& 31)), .int 14]) (rest := []) (st1 := [.int (lw (x1 >>> ((6 : Int32) &&& 31)) 14)]) ⟨hx, hb, hml, hown, hts⟩ (c_L_low Z l (x1 >>> ((6 : Int32) &&& 31)) 14 (by decide)) (va_cwS 2 hts gL_act_L_low rfl rfl rfl hs_L_low ⟨Nat.le_of_ble_eq_true rfl, Nat.le_of_ble_eq_true rfl⟩) hK hE (hP.sub (ws' := []) [] rfl) rfl hl.1 rfl (lv_room (Nat.le_of_ble_eq_true rfl)) dL_act_39 ⟨(show 0 ≤ 4 by omega), (show 0 ≤ 7200 by omega)⟩ rfl ?_
      refine lv_iconst (pc := 42) (v := 1) hx hb dL_act_42 (by decide) ?_
      refine lv_isub (pc := 43) hx hb dL_act_43 ?_
      refine lv_goto (pc := 44) (tgt := 54) hx hb dL_act_44 (by decide) ?_
      refine lv_istore (pc := 54) (lv' := [(5, .int ((lw (x1 >>> ((6 : Int32) &&& 31)) 14) - (1 : Int32))), (4, .int (x1 >>> ((6 : Int32) &&& 31))), (3, .int (lw x1 40)), (2, .int 1), (0, .ref (b 0 0)), (1, .int x1)]) hx hb dL_act_54 hl (by decide) rfl (fun ls hl => ?_)
      refine lv_iload_n (pc := 56) hx hb dL_act_56 rfl (lv_at hl 3 rfl) ?_
      refine lv_if_eq (pc := 57) (tgt := 74) hx hb dL_act_57 (by decide) (fun c93 => ?_) (fun c93 => ?_)
      · exact absurd c93 (by decide)
      · refine lv_iload (pc := 60) hx hb dL_act_60 (lv_at hl 1 rfl) ?_
        refine lv_iconst (pc := 62) (v := 3) hx hb dL_act_62 (by decide) ?_
        refine lv_ishr (pc := 63) hx hb dL_act_63 ?_
        refine lv_bipush (pc := 64) (v := 28) hx hb dL_act_64 (by decide) ?_
        refine ro_S (pc := 66) (As := [.int ((x1 >>> ((6 : Int32) &&& 31)) >>> ((3 : Int32) &&& 31)), .int 28]) (rest := []) (st1 := [.int (lw ((x1 >>> ((6 : Int32) &&& 31)) >>> ((3 : Int32) &&& 31)) 28)]) ⟨hx, hb, hml, hown, hts⟩ (c_L_low Z l ((x1 >>> ((6 : Int32) &&& 31)) >>> ((3 : Int32) &&& 31)) 28 (by decide)) (va_cwS 2 hts gL_act_L_low rfl rfl rfl hs_L_low ⟨Nat.le_of_ble_eq_true rfl, Nat.le_of_ble_eq_true rfl⟩) hK hE (hP.sub (ws' := []) [] rfl) rfl hl.1 rfl (lv_room (Nat.le_of_ble_eq_true rfl)) dL_act_66 ⟨(show 0 ≤ 4 by omega), (show 0 ≤ 7200 by omega)⟩ rfl ?_
        refine lv_iconst (pc := 69) (v := 1) hx hb dL_act_69 (by decide) ?_
        refine lv_isub (pc := 70) hx hb dL_act_70 ?_
        refine lv_goto (pc := 71) (tgt := 83) hx hb dL_act_71 (by decide) ?_
        refine lv_istore (pc := 83) (lv' := [(6, .int ((lw ((x1 >>> ((6 : Int32) &&& 31)) >>> ((3 : Int32) &&& 31)) 28) - (1 : Int32))), (5, .int ((lw (x1 >>> ((6 : Int32) &&& 31)) 14) - (1 : Int32))), (4, .int (x1 >>> ((6 : Int32) &&& 31))), (3, .int (lw x1 40)), (2, .int 1), (0, .ref (b 0 0)), (1, .int x1)]) hx hb dL_act_83 hl (by decide) rfl (fun ls hl => ?_)
        refine lv_iload_n (pc := 85) hx hb dL_act_85 rfl (lv_at hl 4 rfl) ?_
        refine lv_if_eq (pc := 86) (tgt := 96) hx hb dL_act_86 (by decide) (fun c94 => ?_) (fun c94 => ?_)
        · exact absurd c94 (by decide)
        · refine lv_iload (pc := 89) hx hb dL_act_89 (lv_at hl 2 rfl) ?_
          refine lv_iconst (pc := 91) (v := 4) hx hb dL_act_91 (by decide) ?_
          refine lv_ishr (pc := 92) hx hb dL_act_92 ?_
          refine lv_goto (pc := 93) (tgt := 121) hx hb dL_act_93 (by decide) ?_
          refine lv_istore (pc := 121) (lv' := [(7, .int ((x1 >>> ((6 : Int32) &&& 31)) >>> ((4 : Int32) &&& 31))), (6, .int ((lw ((x1 >>> ((6 : Int32) &&& 31)) >>> ((3 : Int32) &&& 31)) 28) - (1 : Int32))), (5, .int ((lw (x1 >>> ((6 : Int32) &&& 31)) 14) - (1 : Int32))), (4, .int (x1 >>> ((6 : Int32) &&& 31))), (3, .int (lw x1 40)), (2, .int 1), (0, .ref (b 0 0)), (1, .int x1)]) hx hb dL_act_121 hl (by decide) rfl (fun ls hl => ?_)
          refine lv_iload_n (pc := 123) hx hb dL_act_123 rfl (lv_at hl 5 rfl) ?_
          refine lv_if_eq (pc := 124) (tgt := 142) hx hb dL_act_124 (by decide) (fun c95 => ?_) (fun c95 => ?_)
          · exact absurd c95 (by decide)
          · refine lv_iload (pc := 127) hx hb dL_act_127 (lv_at hl 3 rfl) ?_
            refine lv_bipush (pc := 129) (v := 7) hx hb dL_act_129 (by decide) ?_
            refine lv_ishr (pc := 131) hx hb dL_act_131 ?_
            refine lv_bipush (pc := 132) (v := 8) hx hb dL_act_132 (by decide) ?_
            refine ro_S (pc := 134) (As := [.int ((x1 >>> ((6 : Int32) &&& 31)) >>> ((7 : Int32) &&& 31)), .int 8]) (rest := []) (st1 := [.int (lw ((x1 >>> ((6 : Int32) &&& 31)) >>> ((7 : Int32) &&& 31)) 8)]) ⟨hx, hb, hml, hown, hts⟩ (c_L_low Z l ((x1 >>> ((6 : Int32) &&& 31)) >>> ((7 : Int32) &&& 31)) 8 (by decide)) (va_cwS 2 hts gL_act_L_low rfl rfl rfl hs_L_low ⟨Nat.le_of_ble_eq_true rfl, Nat.le_of_ble_eq_true rfl⟩) hK hE (hP.sub (ws' := []) [] rfl) rfl hl.1 rfl (lv_room (Nat.le_of_ble_eq_true rfl)) dL_act_134 ⟨(show 0 ≤ 4 by omega), (show 0 ≤ 7200 by omega)⟩ rfl ?_
            refine lv_iconst (pc := 137) (v := 1) hx hb dL_act_137 (by decide) ?_
            refine lv_isub (pc := 138) hx hb dL_act_138 ?_
            refine lv_goto (pc := 139) (tgt := 152) hx hb dL_act_139 (by decide) ?_
            refine lv_istore (pc := 152) (lv' := [(8, .int ((lw ((x1 >>> ((6 : Int32) &&& 31)) >>> ((7 : Int32) &&& 31)) 8) - (1 : Int32))), (7, .int ((x1 >>> ((6 : Int32) &&& 31)) >>> ((4 : Int32) &&& 31))), (6, .int ((lw ((x1 >>> ((6 : Int32) &&& 31)) >>> ((3 : Int32) &&& 31)) 28) - (1 : Int32))), (5, .int ((lw (x1 >>> ((6 : Int32) &&& 31)) 14) - (1 : Int32))), (4, .int (x1 >>> ((6 : Int32) &&& 31))), (3, .int (lw x1 40)), (2, .int 1), (0, .ref (b 0 0)), (1, .int x1)]) hx hb dL_act_152 hl (by decide) rfl (fun ls hl => ?_)
            refine lv_iload_n (pc := 154) hx hb dL_act_154 rfl (lv_at hl 5 rfl) ?_
            refine lv_bipush (pc := 155) (v := 10) hx hb dL_act_155 (by decide) ?_
            refine lv_icmp_ge (pc := 157) (tgt := 481) hx hb dL_act_157 (by decide) (fun c96 => ?_) (fun c96 => ?_)
            · have hf := (if_pos c96).symm.trans hf
              refine lv_iload_n (pc := 481) hx hb dL_act_481 rfl (lv_at hl 5 rfl) ?_
              refine lv_bipush (pc := 482) (v := 18) hx hb dL_act_482 (by decide) ?_
              refine lv_icmp_ge (pc := 484) (tgt := 558) hx hb dL_act_484 (by decide) (fun c97 => ?_) (fun c97 => ?_)
              · have hf := (if_pos c97).symm.trans hf
                refine lv_iload_n (pc := 558) hx hb dL_act_558 rfl (lv_at hl 5 rfl) ?_
                refine lv_bipush (pc := 559) (v := 21) hx hb dL_act_559 (by decide) ?_
                refine lv_icmp_ge (pc := 561) (tgt := 577) hx hb dL_act_561 (by decide) (fun c98 => ?_) (fun c98 => ?_)
                · have hf := (if_pos c98).symm.trans hf
                  refine lv_iload_n (pc := 577) hx hb dL_act_577 rfl (lv_at hl 5 rfl) ?_
                  refine lv_bipush (pc := 578) (v := 23) hx hb dL_act_578 (by decide) ?_
                  refine lv_icmp_ge (pc := 580) (tgt := 598) hx hb dL_act_580 (by decide) (fun c99 => ?_) (fun c99 => ?_)
                  · have hf := (if_pos c99).symm.trans hf
                    refine lv_iload_n (pc := 598) hx hb dL_act_598 rfl (lv_at hl 5 rfl) ?_
                    refine lv_bipush (pc := 599) (v := 23) hx hb dL_act_599 (by decide) ?_
                    refine lv_icmp_ne (pc := 601) (tgt := 635) hx hb dL_act_601 (by decide) (fun c100 => ?_) (fun c100 => ?_)
                    · have hf := (if_neg c100).symm.trans hf
                      refine lv_aload_n (pc := 635) hx hb dL_act_635 rfl (lv_at hl 7 rfl) ?_
                      refine lv_bipush (pc := 636) (v := 10) hx hb dL_act_636 (by decide) ?_
                      refine lv_iload_n (pc := 638) hx hb dL_act_638 rfl (lv_at hl 6 rfl) ?_
                      refine lv_if_eq (pc := 639) (tgt := 652) hx hb dL_act_639 (by decide) (fun c101 => ?_) (fun c101 => ?_)
                      · exact absurd c101 (by decide)
                      · refine lv_iload (pc := 642) hx hb dL_act_642 (lv_at hl 4 rfl) ?_
                        refine lv_bipush (pc := 644) (v := 70) hx hb dL_act_644 (by decide) ?_
                        refine ro_S (pc := 646) (As := [.int (x1 >>> ((6 : Int32) &&& 31)), .int 70]) (rest := [.int 10, .ref (b 0 0)]) (st1 := [.int (lw (x1 >>> ((6 : Int32) &&& 31)) 70), .int 10, .ref (b 0 0)]) ⟨hx, hb, hml, hown, hts⟩ (c_L_low Z l (x1 >>> ((6 : Int32) &&& 31)) 70 (by decide)) (va_cwS 2 hts gL_act_L_low rfl rfl rfl hs_L_low ⟨Nat.le_of_ble_eq_true rfl, Nat.le_of_ble_eq_true rfl⟩) hK hE (hP.sub (ws' := []) [] rfl) rfl hl.1 rfl (lv_room (Nat.le_of_ble_eq_true rfl)) dL_act_646 ⟨(show 0 ≤ 4 by omega), (show 0 ≤ 7200 by omega)⟩ rfl ?_
                        refine lv_goto (pc := 649) (tgt := 660) hx hb dL_act_649 (by decide) ?_
                        refine lv_iconst (pc := 660) (v := 0) hx hb dL_act_660 (by decide) ?_
                        refine lv_iconst (pc := 661) (v := 0) hx hb dL_act_661 (by decide) ?_
                        refine lv_iconst (pc := 662) (v := 0) hx hb dL_act_662 (by decide) ?_
                        obtain ⟨r663, h_663, hf⟩ := bd hf
                        refine wr_S (pc := 663) (As := [.ref (b 0 0), .int 10, .int (lw (x1 >>> ((6 : Int32) &&& 31)) 70), .int 0, .int 0, .int 0]) (rest := []) (st1 := [.int r663.1]) (wn := fun q => wH Z (bu b 7 (ad1 (b 7) q)) r663.2) ⟨hx, hb, hml, hown, hts⟩ (c_L_does_10 Z l hst b h (lw (x1 >>> ((6 : Int32) &&& 31)) 70) 0 0 0 r663 h_663) (vx_cwSW 6 hts gL_act_L_does rfl rfl rfl hs_L_does ⟨Nat.le_of_ble_eq_true rfl, Nat.le_of_ble_eq_true rfl⟩) hK hE hP hD hS hA hZ [0, 1, 2, 3, 4, 5, 6, 7, 8, 9, 10, 11, 12, 13, 14, 15, 16, 17, 18, 19, 20, 21, 22, 23, 24, 25, 26, 27, 28, 29, 30, 31, 32, 33, 34, 35, 36, 37, 38, 39] [] [0, 1, 2, 3, 4, 5, 6, 7, 8, 9, 10, 11, 12, 13, 14, 15, 16, 17, 18, 19, 20, 21, 22, 23, 24, 25, 26, 27, 28, 29, 30, 31, 32, 33, 34, 35, 36, 37, 38, 39] (by decide +kernel) rfl rfl (fun _ => rfl) rfl hl.1 rfl (lv_room (Nat.le_of_ble_eq_true rfl)) dL_act_663 ⟨(show 0 + 1 ≤ 4 by omega), (show 0 + 7200 ≤ 7200 by omega)⟩ rfl (fun q663 H locs hP hD hS => ?_)
                        have hf := (Option.some.inj hf)
                        subst hf
                        refine W.widen (k := 4) (n := 7200) (by omega) (by omega) ?_
                        exact vx_ret (rw_i q663 hx hb hr hlk rfl hP hD hS dL_act_666)
                    · have hf := (if_pos c100).symm.trans hf
                      refine lv_aload_n (pc := 604) hx hb dL_act_604 rfl (lv_at hl 7 rfl) ?_
                      refine lv_bipush (pc := 605) (v := 17) hx hb dL_act_605 (by decide) ?_
                      refine lv_iload (pc := 607) hx hb dL_act_607 (lv_at hl 3 rfl) ?_
                      refine lv_iload (pc := 609) hx hb dL_act_609 (lv_at hl 4 rfl) ?_
                      refine lv_iconst (pc := 611) (v := 2) hx hb dL_act_611 (by decide) ?_
                      refine lv_ishr (pc := 612) hx hb dL_act_612 ?_
                      refine lv_bipush (pc := 613) (v := 8) hx hb dL_act_613 (by decide) ?_
                      refine ro_S (pc := 615) (As := [.int ((x1 >>> ((6 : Int32) &&& 31)) >>> ((2 : Int32) &&& 31)), .int 8]) (rest := [.int ((lw (x1 >>> ((6 : Int32) &&& 31)) 14) - (1 : Int32)), .int 17, .ref (b 0 0)]) (st1 := [.int (lw ((x1 >>> ((6 : Int32) &&& 31)) >>> ((2 : Int32) &&& 31)) 8), .int ((lw (x1 >>> ((6 : Int32) &&& 31)) 14) - (1 : Int32)), .int 17, .ref (b 0 0)]) ⟨hx, hb, hml, hown, hts⟩ (c_L_low Z l ((x1 >>> ((6 : Int32) &&& 31)) >>> ((2 : Int32) &&& 31)) 8 (by decide)) (va_cwS 2 hts gL_act_L_low rfl rfl rfl hs_L_low ⟨Nat.le_of_ble_eq_true rfl, Nat.le_of_ble_eq_true rfl⟩) hK hE (hP.sub (ws' := []) [] rfl) rfl hl.1 rfl (lv_room (Nat.le_of_ble_eq_true rfl)) dL_act_615 ⟨(show 0 ≤ 4 by omega), (show 0 ≤ 7200 by omega)⟩ rfl ?_
                      refine lv_iload (pc := 618) hx hb dL_act_618 (lv_at hl 2 rfl) ?_
                      refine lv_iload (pc := 620) hx hb dL_act_620 (lv_at hl 4 rfl) ?_
                      refine lv_iconst (pc := 622) (v := 5) hx hb dL_act_622 (by decide) ?_
                      refine lv_ishr (pc := 623) hx hb dL_act_623 ?_
                      refine lv_bipush (pc := 624) (v := 16) hx hb dL_act_624 (by decide) ?_
                      refine ro_S (pc := 626) (As := [.int ((x1 >>> ((6 : Int32) &&& 31)) >>> ((5 : Int32) &&& 31)), .int 16]) (rest := [.int ((lw ((x1 >>> ((6 : Int32) &&& 31)) >>> ((3 : Int32) &&& 31)) 28) - (1 : Int32)), .int (lw ((x1 >>> ((6 : Int32) &&& 31)) >>> ((2 : Int32) &&& 31)) 8), .int ((lw (x1 >>> ((6 : Int32) &&& 31)) 14) - (1 : Int32)), .int 17, .ref (b 0 0)]) (st1 := [.int (lw ((x1 >>> ((6 : Int32) &&& 31)) >>> ((5 : Int32) &&& 31)) 16), .int ((lw ((x1 >>> ((6 : Int32) &&& 31)) >>> ((3 : Int32) &&& 31)) 28) - (1 : Int32)), .int (lw ((x1 >>> ((6 : Int32) &&& 31)) >>> ((2 : Int32) &&& 31)) 8), .int ((lw (x1 >>> ((6 : Int32) &&& 31)) 14) - (1 : Int32)), .int 17, .ref (b 0 0)]) ⟨hx, hb, hml, hown, hts⟩ (c_L_low Z l ((x1 >>> ((6 : Int32) &&& 31)) >>> ((5 : Int32) &&& 31)) 16 (by decide)) (va_cwS 2 hts gL_act_L_low rfl rfl rfl hs_L_low ⟨Nat.le_of_ble_eq_true rfl, Nat.le_of_ble_eq_true rfl⟩) hK hE (hP.sub (ws' := []) [] rfl) rfl hl.1 rfl (lv_room (Nat.le_of_ble_eq_true rfl)) dL_act_626 ⟨(show 0 ≤ 4 by omega), (show 0 ≤ 7200 by omega)⟩ rfl ?_
                      obtain ⟨r629, h_629, hf⟩ := bd hf
                      refine wr_S (pc := 629) (As := [.ref (b 0 0), .int 17, .int ((lw (x1 >>> ((6 : Int32) &&& 31)) 14) - (1 : Int32)), .int (lw ((x1 >>> ((6 : Int32) &&& 31)) >>> ((2 : Int32) &&& 31)) 8), .int ((lw ((x1 >>> ((6 : Int32) &&& 31)) >>> ((3 : Int32) &&& 31)) 28) - (1 : Int32)), .int (lw ((x1 >>> ((6 : Int32) &&& 31)) >>> ((5 : Int32) &&& 31)) 16)]) (rest := []) (st1 := [.int r629.1]) (wn := fun _ => wH Z b r629.2) ⟨hx, hb, hml, hown, hts⟩ (c_L_does_17 Z l hst b h ((lw (x1 >>> ((6 : Int32) &&& 31)) 14) - (1 : Int32)) (lw ((x1 >>> ((6 : Int32) &&& 31)) >>> ((2 : Int32) &&& 31)) 8) ((lw ((x1 >>> ((6 : Int32) &&& 31)) >>> ((3 : Int32) &&& 31)) 28) - (1 : Int32)) (lw ((x1 >>> ((6 : Int32) &&& 31)) >>> ((5 : Int32) &&& 31)) 16) r629 h_629) (vx_cwSW 6 hts gL_act_L_does rfl rfl rfl hs_L_does ⟨Nat.le_of_ble_eq_true rfl, Nat.le_of_ble_eq_true rfl⟩) hK hE hP hD hS hA hZ [0, 1, 2, 3, 4, 5, 6, 7, 8, 9, 10, 11, 12, 13, 14, 15, 16, 17, 18, 19, 20, 21, 22, 23, 24, 25, 26, 27, 28, 29, 30, 31, 32, 33, 34, 35, 36, 37, 38, 39] [] [0, 1, 2, 3, 4, 5, 6, 7, 8, 9, 10, 11, 12, 13, 14, 15, 16, 17, 18, 19, 20, 21, 22, 23, 24, 25, 26, 27, 28, 29, 30, 31, 32, 33, 34, 35, 36, 37, 38, 39] (by decide +kernel) rfl rfl (fun _ => rfl) rfl hl.1 rfl (lv_room (Nat.le_of_ble_eq_true rfl)) dL_act_629 ⟨(show 0 + 4 ≤ 4 by omega), (show 0 + 24 ≤ 7200 by omega)⟩ rfl (fun _ H locs hP hD hS => ?_)
                      refine lv_goto (pc := 632) (tgt := 666) hx hb dL_act_632 (by decide) ?_
                      have hf := (Option.some.inj hf)
                      subst hf
                      refine W.widen (k := 4) (n := 7200) (by omega) (by omega) ?_
                      exact vx_ret (rw_i (fun _ => b 7 1) hx hb hr hlk rfl hP hD hS dL_act_666)
                  · have hf := (if_neg c99).symm.trans hf
                    refine lv_aload_n (pc := 583) hx hb dL_act_583 rfl (lv_at hl 7 rfl) ?_
                    refine lv_bipush (pc := 584) (v := 16) hx hb dL_act_584 (by decide) ?_
                    refine lv_iload (pc := 586) hx hb dL_act_586 (lv_at hl 3 rfl) ?_
                    refine lv_iload (pc := 588) hx hb dL_act_588 (lv_at hl 2 rfl) ?_
                    refine lv_iconst (pc := 590) (v := 0) hx hb dL_act_590 (by decide) ?_
                    refine lv_iconst (pc := 591) (v := 0) hx hb dL_act_591 (by decide) ?_
                    obtain ⟨r592, h_592, hf⟩ := bd hf
                    refine wr_S (pc := 592) (As := [.ref (b 0 0), .int 16, .int ((lw (x1 >>> ((6 : Int32) &&& 31)) 14) - (1 : Int32)), .int ((lw ((x1 >>> ((6 : Int32) &&& 31)) >>> ((3 : Int32) &&& 31)) 28) - (1 : Int32)), .int 0, .int 0]) (rest := []) (st1 := [.int r592.1]) (wn := fun _ => wH Z b r592.2) ⟨hx, hb, hml, hown, hts⟩ (c_L_does_16 Z l hst b h ((lw (x1 >>> ((6 : Int32) &&& 31)) 14) - (1 : Int32)) ((lw ((x1 >>> ((6 : Int32) &&& 31)) >>> ((3 : Int32) &&& 31)) 28) - (1 : Int32)) 0 0 r592 h_592) (vx_cwSW 6 hts gL_act_L_does rfl rfl rfl hs_L_does ⟨Nat.le_of_ble_eq_true rfl, Nat.le_of_ble_eq_true rfl⟩) hK hE hP hD hS hA hZ [0, 1, 2, 3, 4, 5, 6, 7, 8, 9, 10, 11, 12, 13, 14, 15, 16, 17, 18, 19, 20, 21, 22, 23, 24, 25, 26, 27, 28, 29, 30, 31, 32, 33, 34, 35, 36, 37, 38, 39] [] [0, 1, 2, 3, 4, 5, 6, 7, 8, 9, 10, 11, 12, 13, 14, 15, 16, 17, 18, 19, 20, 21, 22, 23, 24, 25, 26, 27, 28, 29, 30, 31, 32, 33, 34, 35, 36, 37, 38, 39] (by decide +kernel) rfl rfl (fun _ => rfl) rfl hl.1 rfl (lv_room (Nat.le_of_ble_eq_true rfl)) dL_act_592 ⟨(show 0 + 2 ≤ 4 by omega), (show 0 + 12 ≤ 7200 by omega)⟩ rfl (fun _ H locs hP hD hS => ?_)
                    refine lv_goto (pc := 595) (tgt := 666) hx hb dL_act_595 (by decide) ?_
                    have hf := (Option.some.inj hf)
                    subst hf
                    refine W.widen (k := 4) (n := 7200) (by omega) (by omega) ?_
                    exact vx_ret (rw_i (fun _ => b 7 1) hx hb hr hlk rfl hP hD hS dL_act_666)
                · have hf := (if_neg c98).symm.trans hf
                  refine lv_aload_n (pc := 564) hx hb dL_act_564 rfl (lv_at hl 7 rfl) ?_
                  refine lv_bipush (pc := 565) (v := 11) hx hb dL_act_565 (by decide) ?_
                  refine lv_iconst (pc := 567) (v := 0) hx hb dL_act_567 (by decide) ?_
                  refine lv_iconst (pc := 568) (v := 0) hx hb dL_act_568 (by decide) ?_
                  refine lv_iconst (pc := 569) (v := 0) hx hb dL_act_569 (by decide) ?_
                  refine lv_iconst (pc := 570) (v := 0) hx hb dL_act_570 (by decide) ?_
                  obtain ⟨r571, h_571, hf⟩ := bd hf
                  refine wr_S (pc := 571) (As := [.ref (b 0 0), .int 11, .int 0, .int 0, .int 0, .int 0]) (rest := []) (st1 := [.int r571.1]) (wn := fun _ => wH Z b r571.2) ⟨hx, hb, hml, hown, hts⟩ (c_L_does_11 Z l hst b h 0 0 0 0 r571 h_571) (vx_cwSW 6 hts gL_act_L_does rfl rfl rfl hs_L_does ⟨Nat.le_of_ble_eq_true rfl, Nat.le_of_ble_eq_true rfl⟩) hK hE hP hD hS hA hZ [0, 1, 2, 3, 4, 5, 6, 7, 8, 9, 10, 11, 12, 13, 14, 15, 16, 17, 18, 19, 20, 21, 22, 23, 24, 25, 26, 27, 28, 29, 30, 31, 32, 33, 34, 35, 36, 37, 38, 39] [] [0, 1, 2, 3, 4, 5, 6, 7, 8, 9, 10, 11, 12, 13, 14, 15, 16, 17, 18, 19, 20, 21, 22, 23, 24, 25, 26, 27, 28, 29, 30, 31, 32, 33, 34, 35, 36, 37, 38, 39] (by decide +kernel) rfl rfl (fun _ => rfl) rfl hl.1 rfl (lv_room (Nat.le_of_ble_eq_true rfl)) dL_act_571 ⟨(show 0 + 0 ≤ 4 by omega), (show 0 + 0 ≤ 7200 by omega)⟩ rfl (fun _ H locs hP hD hS => ?_)
                  refine lv_goto (pc := 574) (tgt := 666) hx hb dL_act_574 (by decide) ?_
                  have hf := (Option.some.inj hf)
                  subst hf
                  refine W.widen (k := 4) (n := 7200) (by omega) (by omega) ?_
                  exact vx_ret (rw_i (fun _ => b 7 1) hx hb hr hlk rfl hP hD hS dL_act_666)
              · have hf := (if_neg c97).symm.trans hf
                refine lv_iload_n (pc := 487) hx hb dL_act_487 rfl (lv_at hl 5 rfl) ?_
                refine lv_bipush (pc := 488) (v := 14) hx hb dL_act_488 (by decide) ?_
                refine lv_icmp_ge (pc := 490) (tgt := 507) hx hb dL_act_490 (by decide) (fun c102 => ?_) (fun c102 => ?_)
                · have hf := (if_pos c102).symm.trans hf
                  refine lv_iload_n (pc := 507) hx hb dL_act_507 rfl (lv_at hl 5 rfl) ?_
                  refine lv_bipush (pc := 508) (v := 17) hx hb dL_act_508 (by decide) ?_
                  refine lv_icmp_ge (pc := 510) (tgt := 546) hx hb dL_act_510 (by decide) (fun c103 => ?_) (fun c103 => ?_)
                  · have hf := (if_pos c103).symm.trans hf
                    refine lv_aload_n (pc := 546) hx hb dL_act_546 rfl (lv_at hl 7 rfl) ?_
                    refine lv_bipush (pc := 547) (v := 9) hx hb dL_act_547 (by decide) ?_
                    refine lv_iload (pc := 549) hx hb dL_act_549 (lv_at hl 3 rfl) ?_
                    refine lv_iconst (pc := 551) (v := 0) hx hb dL_act_551 (by decide) ?_
                    refine lv_iconst (pc := 552) (v := 0) hx hb dL_act_552 (by decide) ?_
                    refine lv_iconst (pc := 553) (v := 0) hx hb dL_act_553 (by decide) ?_
                    obtain ⟨r554, h_554, hf⟩ := bd hf
                    refine wr_S (pc := 554) (As := [.ref (b 0 0), .int 9, .int ((lw (x1 >>> ((6 : Int32) &&& 31)) 14) - (1 : Int32)), .int 0, .int 0, .int 0]) (rest := []) (st1 := [.int r554.1]) (wn := fun _ => wH Z b r554.2) ⟨hx, hb, hml, hown, hts⟩ (c_L_does_9 Z l hst b h ((lw (x1 >>> ((6 : Int32) &&& 31)) 14) - (1 : Int32)) 0 0 0 r554 h_554) (vx_cwSW 6 hts gL_act_L_does rfl rfl rfl hs_L_does ⟨Nat.le_of_ble_eq_true rfl, Nat.le_of_ble_eq_true rfl⟩) hK hE hP hD hS hA hZ [0, 1, 2, 3, 4, 5, 6, 7, 8, 9, 10, 11, 12, 13, 14, 15, 16, 17, 18, 19, 20, 21, 22, 23, 24, 25, 26, 27, 28, 29, 30, 31, 32, 33, 34, 35, 36, 37, 38, 39] [] [0, 1, 2, 3, 4, 5, 6, 7, 8, 9, 10, 11, 12, 13, 14, 15, 16, 17, 18, 19, 20, 21, 22, 23, 24, 25, 26, 27, 28, 29, 30, 31, 32, 33, 34, 35, 36, 37, 38, 39] (by decide +kernel) rfl rfl (fun _ => rfl) rfl hl.1 rfl (lv_room (Nat.le_of_ble_eq_true rfl)) dL_act_554 ⟨(show 0 + 1 ≤ 4 by omega), (show 0 + 6 ≤ 7200 by omega)⟩ rfl (fun _ H locs hP hD hS => ?_)
                    have hf := (Option.some.inj hf)
                    subst hf
                    refine W.widen (k := 4) (n := 7200) (by omega) (by omega) ?_
                    exact vx_ret (rw_i (fun _ => b 7 1) hx hb hr hlk rfl hP hD hS dL_act_557)
                  · have hf := (if_neg c103).symm.trans hf
                    refine lv_aload_n (pc := 513) hx hb dL_act_513 rfl (lv_at hl 7 rfl) ?_
                    refine lv_iconst (pc := 514) (v := 4) hx hb dL_act_514 (by decide) ?_
                    refine lv_iload (pc := 515) hx hb dL_act_515 (lv_at hl 4 rfl) ?_
                    refine lv_iconst (pc := 517) (v := 5) hx hb dL_act_517 (by decide) ?_
                    refine lv_ishr (pc := 518) hx hb dL_act_518 ?_
                    refine lv_iload_n (pc := 519) hx hb dL_act_519 rfl (lv_at hl 6 rfl) ?_
                    refine lv_if_eq (pc := 520) (tgt := 529) hx hb dL_act_520 (by decide) (fun c104 => ?_) (fun c104 => ?_)
                    · exact absurd c104 (by decide)
                    · refine lv_sipush (pc := 523) (v := 400) hx hb dL_act_523 (by decide) ?_
                      refine lv_goto (pc := 526) (tgt := 532) hx hb dL_act_526 (by decide) ?_
                      refine ro_S (pc := 532) (As := [.int ((x1 >>> ((6 : Int32) &&& 31)) >>> ((5 : Int32) &&& 31)), .int 400]) (rest := [.int 4, .ref (b 0 0)]) (st1 := [.int (lw ((x1 >>> ((6 : Int32) &&& 31)) >>> ((5 : Int32) &&& 31)) 400), .int 4, .ref (b 0 0)]) ⟨hx, hb, hml, hown, hts⟩ (c_L_low Z l ((x1 >>> ((6 : Int32) &&& 31)) >>> ((5 : Int32) &&& 31)) 400 (by decide)) (va_cwS 2 hts gL_act_L_low rfl rfl rfl hs_L_low ⟨Nat.le_of_ble_eq_true rfl, Nat.le_of_ble_eq_true rfl⟩) hK hE (hP.sub (ws' := []) [] rfl) rfl hl.1 rfl (lv_room (Nat.le_of_ble_eq_true rfl)) dL_act_532 ⟨(show 0 ≤ 4 by omega), (show 0 ≤ 7200 by omega)⟩ rfl ?_
                      refine lv_iload (pc := 535) hx hb dL_act_535 (lv_at hl 3 rfl) ?_
                      refine lv_iload (pc := 537) hx hb dL_act_537 (lv_at hl 1 rfl) ?_
                      refine lv_iconst (pc := 539) (v := 0) hx hb dL_act_539 (by decide) ?_
                      obtain ⟨r540, h_540, hf⟩ := bd hf
                      refine wr_S (pc := 540) (As := [.ref (b 0 0), .int 4, .int (lw ((x1 >>> ((6 : Int32) &&& 31)) >>> ((5 : Int32) &&& 31)) 400), .int ((lw (x1 >>> ((6 : Int32) &&& 31)) 14) - (1 : Int32)), .int ((x1 >>> ((6 : Int32) &&& 31)) >>> ((4 : Int32) &&& 31)), .int 0]) (rest := []) (st1 := [.int r540.1]) (wn := fun _ => wH Z b r540.2) ⟨hx, hb, hml, hown, hts⟩ (c_L_does_4 Z l hst b h (lw ((x1 >>> ((6 : Int32) &&& 31)) >>> ((5 : Int32) &&& 31)) 400) ((lw (x1 >>> ((6 : Int32) &&& 31)) 14) - (1 : Int32)) ((x1 >>> ((6 : Int32) &&& 31)) >>> ((4 : Int32) &&& 31)) 0 r540 h_540) (vx_cwSW 6 hts gL_act_L_does rfl rfl rfl hs_L_does ⟨Nat.le_of_ble_eq_true rfl, Nat.le_of_ble_eq_true rfl⟩) hK hE hP hD hS hA hZ [0, 1, 2, 3, 4, 5, 6, 7, 8, 9, 10, 11, 12, 13, 14, 15, 16, 17, 18, 19, 20, 21, 22, 23, 24, 25, 26, 27, 28, 29, 30, 31, 32, 33, 34, 35, 36, 37, 38, 39] [] [0, 1, 2, 3, 4, 5, 6, 7, 8, 9, 10, 11, 12, 13, 14, 15, 16, 17, 18, 19, 20, 21, 22, 23, 24, 25, 26, 27, 28, 29, 30, 31, 32, 33, 34, 35, 36, 37, 38, 39] (by decide +kernel) rfl rfl (fun _ => rfl) rfl hl.1 rfl (lv_room (Nat.le_of_ble_eq_true rfl)) dL_act_540 ⟨(show 0 + 3 ≤ 4 by omega), (show 0 + 18 ≤ 7200 by omega)⟩ rfl (fun _ H locs hP hD hS => ?_)
                      refine lv_goto (pc := 543) (tgt := 557) hx hb dL_act_543 (by decide) ?_
                      have hf := (Option.some.inj hf)
                      subst hf
                      refine W.widen (k := 4) (n := 7200) (by omega) (by omega) ?_
                      exact vx_ret (rw_i (fun _ => b 7 1) hx hb hr hlk rfl hP hD hS dL_act_557)
                · have hf := (if_neg c102).symm.trans hf
                  refine lv_aload_n (pc := 493) hx hb dL_act_493 rfl (lv_at hl 7 rfl) ?_
                  refine lv_iconst (pc := 494) (v := 3) hx hb dL_act_494 (by decide) ?_
                  refine lv_iload (pc := 495) hx hb dL_act_495 (lv_at hl 3 rfl) ?_
                  refine lv_iload (pc := 497) hx hb dL_act_497 (lv_at hl 1 rfl) ?_
                  refine lv_iconst (pc := 499) (v := 0) hx hb dL_act_499 (by decide) ?_
                  refine lv_iconst (pc := 500) (v := 0) hx hb dL_act_500 (by decide) ?_
                  obtain ⟨r501, h_501, hf⟩ := bd hf
                  refine wr_S (pc := 501) (As := [.ref (b 0 0), .int 3, .int ((lw (x1 >>> ((6 : Int32) &&& 31)) 14) - (1 : Int32)), .int ((x1 >>> ((6 : Int32) &&& 31)) >>> ((4 : Int32) &&& 31)), .int 0, .int 0]) (rest := []) (st1 := [.int r501.1]) (wn := fun _ => wH Z b r501.2) ⟨hx, hb, hml, hown, hts⟩ (c_L_does_3 Z l hst b h ((lw (x1 >>> ((6 : Int32) &&& 31)) 14) - (1 : Int32)) ((x1 >>> ((6 : Int32) &&& 31)) >>> ((4 : Int32) &&& 31)) 0 0 r501 h_501) (vx_cwSW 6 hts gL_act_L_does rfl rfl rfl hs_L_does ⟨Nat.le_of_ble_eq_true rfl, Nat.le_of_ble_eq_true rfl⟩) hK hE hP hD hS hA hZ [0, 1, 2, 3, 4, 5, 6, 7, 8, 9, 10, 11, 12, 13, 14, 15, 16, 17, 18, 19, 20, 21, 22, 23, 24, 25, 26, 27, 28, 29, 30, 31, 32, 33, 34, 35, 36, 37, 38, 39] [] [0, 1, 2, 3, 4, 5, 6, 7, 8, 9, 10, 11, 12, 13, 14, 15, 16, 17, 18, 19, 20, 21, 22, 23, 24, 25, 26, 27, 28, 29, 30, 31, 32, 33, 34, 35, 36, 37, 38, 39] (by decide +kernel) rfl rfl (fun _ => rfl) rfl hl.1 rfl (lv_room (Nat.le_of_ble_eq_true rfl)) dL_act_501 ⟨(show 0 + 2 ≤ 4 by omega), (show 0 + 12 ≤ 7200 by omega)⟩ rfl (fun _ H locs hP hD hS => ?_)
                  refine lv_goto (pc := 504) (tgt := 557) hx hb dL_act_504 (by decide) ?_
                  have hf := (Option.some.inj hf)
                  subst hf
                  refine W.widen (k := 4) (n := 7200) (by omega) (by omega) ?_
                  exact vx_ret (rw_i (fun _ => b 7 1) hx hb hr hlk rfl hP hD hS dL_act_557)
            · have hf := (if_neg c96).symm.trans hf
              refine lv_iload (pc := 160) hx hb dL_act_160 (lv_at hl 4 rfl) ?_
              refine lv_bipush (pc := 162) (v := 7) hx hb dL_act_162 (by decide) ?_
              refine lv_ishr (pc := 164) hx hb dL_act_164 ?_
              refine lv_iconst (pc := 165) (v := 4) hx hb dL_act_165 (by decide) ?_
              refine ro_S (pc := 166) (As := [.int ((x1 >>> ((6 : Int32) &&& 31)) >>> ((7 : Int32) &&& 31)), .int 4]) (rest := []) (st1 := [.int (lw ((x1 >>> ((6 : Int32) &&& 31)) >>> ((7 : Int32) &&& 31)) 4)]) ⟨hx, hb, hml, hown, hts⟩ (c_L_low Z l ((x1 >>> ((6 : Int32) &&& 31)) >>> ((7 : Int32) &&& 31)) 4 (by decide)) (va_cwS 2 hts gL_act_L_low rfl rfl rfl hs_L_low ⟨Nat.le_of_ble_eq_true rfl, Nat.le_of_ble_eq_true rfl⟩) hK hE (hP.sub (ws' := []) [] rfl) rfl hl.1 rfl (lv_room (Nat.le_of_ble_eq_true rfl)) dL_act_166 ⟨(show 0 ≤ 4 by omega), (show 0 ≤ 7200 by omega)⟩ rfl ?_
              refine lv_if_ne (pc := 169) (tgt := 196) hx hb dL_act_169 (by decide) (fun c105 => ?_) (fun c105 => ?_)
              · have hf := (if_neg c105).symm.trans hf
                refine lv_iload_n (pc := 196) hx hb dL_act_196 rfl (lv_at hl 6 rfl) ?_
                refine lv_if_eq (pc := 197) (tgt := 215) hx hb dL_act_197 (by decide) (fun c106 => ?_) (fun c106 => ?_)
                · exact absurd c106 (by decide)
                · refine lv_iload (pc := 200) hx hb dL_act_200 (lv_at hl 4 rfl) ?_
                  refine lv_bipush (pc := 202) (v := 6) hx hb dL_act_202 (by decide) ?_
                  refine lv_ishr (pc := 204) hx hb dL_act_204 ?_
                  refine lv_bipush (pc := 205) (v := 14) hx hb dL_act_205 (by decide) ?_
                  refine ro_S (pc := 207) (As := [.int ((x1 >>> ((6 : Int32) &&& 31)) >>> ((6 : Int32) &&& 31)), .int 14]) (rest := []) (st1 := [.int (lw ((x1 >>> ((6 : Int32) &&& 31)) >>> ((6 : Int32) &&& 31)) 14)]) ⟨hx, hb, hml, hown, hts⟩ (c_L_low Z l ((x1 >>> ((6 : Int32) &&& 31)) >>> ((6 : Int32) &&& 31)) 14 (by decide)) (va_cwS 2 hts gL_act_L_low rfl rfl rfl hs_L_low ⟨Nat.le_of_ble_eq_true rfl, Nat.le_of_ble_eq_true rfl⟩) hK hE (hP.sub (ws' := []) [] rfl) rfl hl.1 rfl (lv_room (Nat.le_of_ble_eq_true rfl)) dL_act_207 ⟨(show 0 ≤ 4 by omega), (show 0 ≤ 7200 by omega)⟩ rfl ?_
                  refine lv_iconst (pc := 210) (v := 1) hx hb dL_act_210 (by decide) ?_
                  refine lv_isub (pc := 211) hx hb dL_act_211 ?_
                  refine lv_goto (pc := 212) (tgt := 225) hx hb dL_act_212 (by decide) ?_
                  refine lv_istore (pc := 225) (lv' := [(9, .int ((lw ((x1 >>> ((6 : Int32) &&& 31)) >>> ((6 : Int32) &&& 31)) 14) - (1 : Int32))), (8, .int ((lw ((x1 >>> ((6 : Int32) &&& 31)) >>> ((7 : Int32) &&& 31)) 8) - (1 : Int32))), (7, .int ((x1 >>> ((6 : Int32) &&& 31)) >>> ((4 : Int32) &&& 31))), (6, .int ((lw ((x1 >>> ((6 : Int32) &&& 31)) >>> ((3 : Int32) &&& 31)) 28) - (1 : Int32))), (5, .int ((lw (x1 >>> ((6 : Int32) &&& 31)) 14) - (1 : Int32))), (4, .int (x1 >>> ((6 : Int32) &&& 31))), (3, .int (lw x1 40)), (2, .int 1), (0, .ref (b 0 0)), (1, .int x1)]) hx hb dL_act_225 hl (by decide) rfl (fun ls hl => ?_)
                  refine lv_iload_n (pc := 227) hx hb dL_act_227 rfl (lv_at hl 6 rfl) ?_
                  refine lv_iconst (pc := 228) (v := 5) hx hb dL_act_228 (by decide) ?_
                  refine lv_icmp_ge (pc := 229) (tgt := 325) hx hb dL_act_229 (by decide) (fun c107 => ?_) (fun c107 => ?_)
                  · have hf := (if_pos c107).symm.trans hf
                    refine lv_iload_n (pc := 325) hx hb dL_act_325 rfl (lv_at hl 6 rfl) ?_
                    refine lv_bipush (pc := 326) (v := 7) hx hb dL_act_326 (by decide) ?_
                    refine lv_icmp_ge (pc := 328) (tgt := 376) hx hb dL_act_328 (by decide) (fun c108 => ?_) (fun c108 => ?_)
                    · have hf := (if_pos c108).symm.trans hf
                      refine lv_iload_n (pc := 376) hx hb dL_act_376 rfl (lv_at hl 6 rfl) ?_
                      refine lv_bipush (pc := 377) (v := 9) hx hb dL_act_377 (by decide) ?_
                      refine lv_icmp_ge (pc := 379) (tgt := 430) hx hb dL_act_379 (by decide) (fun c109 => ?_) (fun c109 => ?_)
                      · have hf := (if_pos c109).symm.trans hf
                        refine lv_aload_n (pc := 430) hx hb dL_act_430 rfl (lv_at hl 8 rfl) ?_
                        refine lv_bipush (pc := 431) (v := 8) hx hb dL_act_431 (by decide) ?_
                        refine lv_iload (pc := 433) hx hb dL_act_433 (lv_at hl 1 rfl) ?_
                        refine lv_iload (pc := 435) hx hb dL_act_435 (lv_at hl 5 rfl) ?_
                        refine lv_iconst (pc := 437) (v := 4) hx hb dL_act_437 (by decide) ?_
                        refine lv_ishr (pc := 438) hx hb dL_act_438 ?_
                        refine lv_iload_n (pc := 439) hx hb dL_act_439 rfl (lv_at hl 7 rfl) ?_
                        refine lv_if_eq (pc := 440) (tgt := 449) hx hb dL_act_440 (by decide) (fun c110 => ?_) (fun c110 => ?_)
                        · exact absurd c110 (by decide)
                        · refine lv_sipush (pc := 443) (v := 3300) hx hb dL_act_443 (by decide) ?_
                          refine lv_goto (pc := 446) (tgt := 452) hx hb dL_act_446 (by decide) ?_
                          refine ro_S (pc := 452) (As := [.int ((x1 >>> ((6 : Int32) &&& 31)) >>> ((4 : Int32) &&& 31)), .int 3300]) (rest := [.int ((lw ((x1 >>> ((6 : Int32) &&& 31)) >>> ((7 : Int32) &&& 31)) 8) - (1 : Int32)), .int 8, .ref (b 0 0)]) (st1 := [.int (lw ((x1 >>> ((6 : Int32) &&& 31)) >>> ((4 : Int32) &&& 31)) 3300), .int ((lw ((x1 >>> ((6 : Int32) &&& 31)) >>> ((7 : Int32) &&& 31)) 8) - (1 : Int32)), .int 8, .ref (b 0 0)]) ⟨hx, hb, hml, hown, hts⟩ (c_L_low Z l ((x1 >>> ((6 : Int32) &&& 31)) >>> ((4 : Int32) &&& 31)) 3300 (by decide)) (va_cwS 2 hts gL_act_L_low rfl rfl rfl hs_L_low ⟨Nat.le_of_ble_eq_true rfl, Nat.le_of_ble_eq_true rfl⟩) hK hE (hP.sub (ws' := []) [] rfl) rfl hl.1 rfl (lv_room (Nat.le_of_ble_eq_true rfl)) dL_act_452 ⟨(show 0 ≤ 4 by omega), (show 0 ≤ 7200 by omega)⟩ rfl ?_
                          refine lv_iload_n (pc := 455) hx hb dL_act_455 rfl (lv_at hl 7 rfl) ?_
                          refine lv_if_eq (pc := 456) (tgt := 466) hx hb dL_act_456 (by decide) (fun c111 => ?_) (fun c111 => ?_)
                          · exact absurd c111 (by decide)
                          · refine lv_iload (pc := 459) hx hb dL_act_459 (lv_at hl 5 rfl) ?_
                            refine lv_iconst (pc := 461) (v := 5) hx hb dL_act_461 (by decide) ?_
                            refine lv_ishr (pc := 462) hx hb dL_act_462 ?_
                            refine lv_goto (pc := 463) (tgt := 476) hx hb dL_act_463 (by decide) ?_
                            refine lv_iconst (pc := 476) (v := 0) hx hb dL_act_476 (by decide) ?_
                            obtain ⟨r477, h_477, hf⟩ := bd hf
                            refine wr_S (pc := 477) (As := [.ref (b 0 0), .int 8, .int ((lw ((x1 >>> ((6 : Int32) &&& 31)) >>> ((7 : Int32) &&& 31)) 8) - (1 : Int32)), .int (lw ((x1 >>> ((6 : Int32) &&& 31)) >>> ((4 : Int32) &&& 31)) 3300), .int ((x1 >>> ((6 : Int32) &&& 31)) >>> ((5 : Int32) &&& 31)), .int 0]) (rest := []) (st1 := [.int r477.1]) (wn := fun _ => wH Z b r477.2) ⟨hx, hb, hml, hown, hts⟩ (c_L_does_8 Z l hst b h ((lw ((x1 >>> ((6 : Int32) &&& 31)) >>> ((7 : Int32) &&& 31)) 8) - (1 : Int32)) (lw ((x1 >>> ((6 : Int32) &&& 31)) >>> ((4 : Int32) &&& 31)) 3300) ((x1 >>> ((6 : Int32) &&& 31)) >>> ((5 : Int32) &&& 31)) 0 r477 h_477) (vx_cwSW 6 hts gL_act_L_does rfl rfl rfl hs_L_does ⟨Nat.le_of_ble_eq_true rfl, Nat.le_of_ble_eq_true rfl⟩) hK hE hP hD hS hA hZ [0, 1, 2, 3, 4, 5, 6, 7, 8, 9, 10, 11, 12, 13, 14, 15, 16, 17, 18, 19, 20, 21, 22, 23, 24, 25, 26, 27, 28, 29, 30, 31, 32, 33, 34, 35, 36, 37, 38, 39] [] [0, 1, 2, 3, 4, 5, 6, 7, 8, 9, 10, 11, 12, 13, 14, 15, 16, 17, 18, 19, 20, 21, 22, 23, 24, 25, 26, 27, 28, 29, 30, 31, 32, 33, 34, 35, 36, 37, 38, 39] (by decide +kernel) rfl rfl (fun _ => rfl) rfl hl.1 rfl (lv_room (Nat.le_of_ble_eq_true rfl)) dL_act_477 ⟨(show 0 + 2 ≤ 4 by omega), (show 0 + 12 ≤ 7200 by omega)⟩ rfl (fun _ H locs hP hD hS => ?_)
                            have hf := (Option.some.inj hf)
                            subst hf
                            refine W.widen (k := 4) (n := 7200) (by omega) (by omega) ?_
                            exact vx_ret (rw_i (fun _ => b 7 1) hx hb hr hlk rfl hP hD hS dL_act_480)
                      · have hf := (if_neg c109).symm.trans hf
                        refine lv_aload_n (pc := 382) hx hb dL_act_382 rfl (lv_at hl 8 rfl) ?_
                        refine lv_bipush (pc := 383) (v := 7) hx hb dL_act_383 (by decide) ?_
                        refine lv_iload (pc := 385) hx hb dL_act_385 (lv_at hl 1 rfl) ?_
                        refine lv_iload (pc := 387) hx hb dL_act_387 (lv_at hl 3 rfl) ?_
                        refine lv_iload (pc := 389) hx hb dL_act_389 (lv_at hl 5 rfl) ?_
                        refine lv_iconst (pc := 391) (v := 4) hx hb dL_act_391 (by decide) ?_
                        refine lv_ishr (pc := 392) hx hb dL_act_392 ?_
                        refine lv_iload_n (pc := 393) hx hb dL_act_393 rfl (lv_at hl 7 rfl) ?_
                        refine lv_if_eq (pc := 394) (tgt := 403) hx hb dL_act_394 (by decide) (fun c112 => ?_) (fun c112 => ?_)
                        · exact absurd c112 (by decide)
                        · refine lv_sipush (pc := 397) (v := 1300) hx hb dL_act_397 (by decide) ?_
                          refine lv_goto (pc := 400) (tgt := 406) hx hb dL_act_400 (by decide) ?_
                          refine ro_S (pc := 406) (As := [.int ((x1 >>> ((6 : Int32) &&& 31)) >>> ((4 : Int32) &&& 31)), .int 1300]) (rest := [.int ((lw ((x1 >>> ((6 : Int32) &&& 31)) >>> ((3 : Int32) &&& 31)) 28) - (1 : Int32)), .int ((lw ((x1 >>> ((6 : Int32) &&& 31)) >>> ((7 : Int32) &&& 31)) 8) - (1 : Int32)), .int 7, .ref (b 0 0)]) (st1 := [.int (lw ((x1 >>> ((6 : Int32) &&& 31)) >>> ((4 : Int32) &&& 31)) 1300), .int ((lw ((x1 >>> ((6 : Int32) &&& 31)) >>> ((3 : Int32) &&& 31)) 28) - (1 : Int32)), .int ((lw ((x1 >>> ((6 : Int32) &&& 31)) >>> ((7 : Int32) &&& 31)) 8) - (1 : Int32)), .int 7, .ref (b 0 0)]) ⟨hx, hb, hml, hown, hts⟩ (c_L_low Z l ((x1 >>> ((6 : Int32) &&& 31)) >>> ((4 : Int32) &&& 31)) 1300 (by decide)) (va_cwS 2 hts gL_act_L_low rfl rfl rfl hs_L_low ⟨Nat.le_of_ble_eq_true rfl, Nat.le_of_ble_eq_true rfl⟩) hK hE (hP.sub (ws' := []) [] rfl) rfl hl.1 rfl (lv_room (Nat.le_of_ble_eq_true rfl)) dL_act_406 ⟨(show 0 ≤ 4 by omega), (show 0 ≤ 7200 by omega)⟩ rfl ?_
                          refine lv_iload_n (pc := 409) hx hb dL_act_409 rfl (lv_at hl 7 rfl) ?_
                          refine lv_if_eq (pc := 410) (tgt := 419) hx hb dL_act_410 (by decide) (fun c113 => ?_) (fun c113 => ?_)
                          · exact absurd c113 (by decide)
                          · refine lv_sipush (pc := 413) (v := 650) hx hb dL_act_413 (by decide) ?_
                            refine lv_goto (pc := 416) (tgt := 422) hx hb dL_act_416 (by decide) ?_
                            refine lv_isub (pc := 422) hx hb dL_act_422 ?_
                            refine lv_iconst (pc := 423) (v := 0) hx hb dL_act_423 (by decide) ?_
                            obtain ⟨r424, h_424, hf⟩ := bd hf
                            refine wr_S (pc := 424) (As := [.ref (b 0 0), .int 7, .int ((lw ((x1 >>> ((6 : Int32) &&& 31)) >>> ((7 : Int32) &&& 31)) 8) - (1 : Int32)), .int ((lw ((x1 >>> ((6 : Int32) &&& 31)) >>> ((3 : Int32) &&& 31)) 28) - (1 : Int32)), .int ((lw ((x1 >>> ((6 : Int32) &&& 31)) >>> ((4 : Int32) &&& 31)) 1300) - (650 : Int32)), .int 0]) (rest := []) (st1 := [.int r424.1]) (wn := fun _ => wH Z b r424.2) ⟨hx, hb, hml, hown, hts⟩ (c_L_does_7 Z l hst b h ((lw ((x1 >>> ((6 : Int32) &&& 31)) >>> ((7 : Int32) &&& 31)) 8) - (1 : Int32)) ((lw ((x1 >>> ((6 : Int32) &&& 31)) >>> ((3 : Int32) &&& 31)) 28) - (1 : Int32)) ((lw ((x1 >>> ((6 : Int32) &&& 31)) >>> ((4 : Int32) &&& 31)) 1300) - (650 : Int32)) 0 r424 h_424) (vx_cwSW 6 hts gL_act_L_does rfl rfl rfl hs_L_does ⟨Nat.le_of_ble_eq_true rfl, Nat.le_of_ble_eq_true rfl⟩) hK hE hP hD hS hA hZ [0, 1, 2, 3, 4, 5, 6, 7, 8, 9, 10, 11, 12, 13, 14, 15, 16, 17, 18, 19, 20, 21, 22, 23, 24, 25, 26, 27, 28, 29, 30, 31, 32, 33, 34, 35, 36, 37, 38, 39] [] [0, 1, 2, 3, 4, 5, 6, 7, 8, 9, 10, 11, 12, 13, 14, 15, 16, 17, 18, 19, 20, 21, 22, 23, 24, 25, 26, 27, 28, 29, 30, 31, 32, 33, 34, 35, 36, 37, 38, 39] (by decide +kernel) rfl rfl (fun _ => rfl) rfl hl.1 rfl (lv_room (Nat.le_of_ble_eq_true rfl)) dL_act_424 ⟨(show 0 + 3 ≤ 4 by omega), (show 0 + 18 ≤ 7200 by omega)⟩ rfl (fun _ H locs hP hD hS => ?_)
                            refine lv_goto (pc := 427) (tgt := 480) hx hb dL_act_427 (by decide) ?_
                            have hf := (Option.some.inj hf)
                            subst hf
                            refine W.widen (k := 4) (n := 7200) (by omega) (by omega) ?_
                            exact vx_ret (rw_i (fun _ => b 7 1) hx hb hr hlk rfl hP hD hS dL_act_480)
                    · have hf := (if_neg c108).symm.trans hf
                      refine lv_aload_n (pc := 331) hx hb dL_act_331 rfl (lv_at hl 8 rfl) ?_
                      refine lv_bipush (pc := 332) (v := 6) hx hb dL_act_332 (by decide) ?_
                      refine lv_iload (pc := 334) hx hb dL_act_334 (lv_at hl 3 rfl) ?_
                      refine lv_iload (pc := 336) hx hb dL_act_336 (lv_at hl 5 rfl) ?_
                      refine lv_iconst (pc := 338) (v := 5) hx hb dL_act_338 (by decide) ?_
                      refine lv_ishr (pc := 339) hx hb dL_act_339 ?_
                      refine lv_iload_n (pc := 340) hx hb dL_act_340 rfl (lv_at hl 7 rfl) ?_
                      refine lv_if_eq (pc := 341) (tgt := 350) hx hb dL_act_341 (by decide) (fun c114 => ?_) (fun c114 => ?_)
                      · exact absurd c114 (by decide)
                      · refine lv_sipush (pc := 344) (v := 1100) hx hb dL_act_344 (by decide) ?_
                        refine lv_goto (pc := 347) (tgt := 353) hx hb dL_act_347 (by decide) ?_
                        refine ro_S (pc := 353) (As := [.int ((x1 >>> ((6 : Int32) &&& 31)) >>> ((5 : Int32) &&& 31)), .int 1100]) (rest := [.int ((lw ((x1 >>> ((6 : Int32) &&& 31)) >>> ((3 : Int32) &&& 31)) 28) - (1 : Int32)), .int 6, .ref (b 0 0)]) (st1 := [.int (lw ((x1 >>> ((6 : Int32) &&& 31)) >>> ((5 : Int32) &&& 31)) 1100), .int ((lw ((x1 >>> ((6 : Int32) &&& 31)) >>> ((3 : Int32) &&& 31)) 28) - (1 : Int32)), .int 6, .ref (b 0 0)]) ⟨hx, hb, hml, hown, hts⟩ (c_L_low Z l ((x1 >>> ((6 : Int32) &&& 31)) >>> ((5 : Int32) &&& 31)) 1100 (by decide)) (va_cwS 2 hts gL_act_L_low rfl rfl rfl hs_L_low ⟨Nat.le_of_ble_eq_true rfl, Nat.le_of_ble_eq_true rfl⟩) hK hE (hP.sub (ws' := []) [] rfl) rfl hl.1 rfl (lv_room (Nat.le_of_ble_eq_true rfl)) dL_act_353 ⟨(show 0 ≤ 4 by omega), (show 0 ≤ 7200 by omega)⟩ rfl ?_
                        refine lv_iload (pc := 356) hx hb dL_act_356 (lv_at hl 0 rfl) ?_
                        refine lv_bipush (pc := 358) (v := 100) hx hb dL_act_358 (by decide) ?_
                        refine lv_icmp_le (pc := 360) (tgt := 367) hx hb dL_act_360 (by decide) (fun c115 => ?_) (fun c115 => ?_)
                        · have hf := (if_pos c115).symm.trans hf
                          refine lv_iload (pc := 367) hx hb dL_act_367 (lv_at hl 0 rfl) ?_
                          refine lv_iconst (pc := 369) (v := 0) hx hb dL_act_369 (by decide) ?_
                          obtain ⟨r370, h_370, hf⟩ := bd hf
                          refine wr_S (pc := 370) (As := [.ref (b 0 0), .int 6, .int ((lw ((x1 >>> ((6 : Int32) &&& 31)) >>> ((3 : Int32) &&& 31)) 28) - (1 : Int32)), .int (lw ((x1 >>> ((6 : Int32) &&& 31)) >>> ((5 : Int32) &&& 31)) 1100), .int ((lw ((x1 >>> ((6 : Int32) &&& 31)) >>> ((6 : Int32) &&& 31)) 14) - (1 : Int32)), .int 0]) (rest := []) (st1 := [.int r370.1]) (wn := fun _ => wH Z b r370.2) ⟨hx, hb, hml, hown, hts⟩ (c_L_does_6 Z l hst b h ((lw ((x1 >>> ((6 : Int32) &&& 31)) >>> ((3 : Int32) &&& 31)) 28) - (1 : Int32)) (lw ((x1 >>> ((6 : Int32) &&& 31)) >>> ((5 : Int32) &&& 31)) 1100) ((lw ((x1 >>> ((6 : Int32) &&& 31)) >>> ((6 : Int32) &&& 31)) 14) - (1 : Int32)) 0 r370 h_370) (vx_cwSW 6 hts gL_act_L_does rfl rfl rfl hs_L_does ⟨Nat.le_of_ble_eq_true rfl, Nat.le_of_ble_eq_true rfl⟩) hK hE hP hD hS hA hZ [0, 1, 2, 3, 4, 5, 6, 7, 8, 9, 10, 11, 12, 13, 14, 15, 16, 17, 18, 19, 20, 21, 22, 23, 24, 25, 26, 27, 28, 29, 30, 31, 32, 33, 34, 35, 36, 37, 38, 39] [] [0, 1, 2, 3, 4, 5, 6, 7, 8, 9, 10, 11, 12, 13, 14, 15, 16, 17, 18, 19, 20, 21, 22, 23, 24, 25, 26, 27, 28, 29, 30, 31, 32, 33, 34, 35, 36, 37, 38, 39] (by decide +kernel) rfl rfl (fun _ => rfl) rfl hl.1 rfl (lv_room (Nat.le_of_ble_eq_true rfl)) dL_act_370 ⟨(show 0 + 4 ≤ 4 by omega), (show 0 + 24 ≤ 7200 by omega)⟩ rfl (fun _ H locs hP hD hS => ?_)
                          refine lv_goto (pc := 373) (tgt := 480) hx hb dL_act_373 (by decide) ?_
                          have hf := (Option.some.inj hf)
                          subst hf
                          refine W.widen (k := 4) (n := 7200) (by omega) (by omega) ?_
                          exact vx_ret (rw_i (fun _ => b 7 1) hx hb hr hlk rfl hP hD hS dL_act_480)
                        · have hf := (if_neg c115).symm.trans hf
                          refine lv_iconst (pc := 363) (v := 0) hx hb dL_act_363 (by decide) ?_
                          refine lv_goto (pc := 364) (tgt := 369) hx hb dL_act_364 (by decide) ?_
                          refine lv_iconst (pc := 369) (v := 0) hx hb dL_act_369 (by decide) ?_
                          obtain ⟨r370, h_370, hf⟩ := bd hf
                          refine wr_S (pc := 370) (As := [.ref (b 0 0), .int 6, .int ((lw ((x1 >>> ((6 : Int32) &&& 31)) >>> ((3 : Int32) &&& 31)) 28) - (1 : Int32)), .int (lw ((x1 >>> ((6 : Int32) &&& 31)) >>> ((5 : Int32) &&& 31)) 1100), .int 0, .int 0]) (rest := []) (st1 := [.int r370.1]) (wn := fun _ => wH Z b r370.2) ⟨hx, hb, hml, hown, hts⟩ (c_L_does_6 Z l hst b h ((lw ((x1 >>> ((6 : Int32) &&& 31)) >>> ((3 : Int32) &&& 31)) 28) - (1 : Int32)) (lw ((x1 >>> ((6 : Int32) &&& 31)) >>> ((5 : Int32) &&& 31)) 1100) 0 0 r370 h_370) (vx_cwSW 6 hts gL_act_L_does rfl rfl rfl hs_L_does ⟨Nat.le_of_ble_eq_true rfl, Nat.le_of_ble_eq_true rfl⟩) hK hE hP hD hS hA hZ [0, 1, 2, 3, 4, 5, 6, 7, 8, 9, 10, 11, 12, 13, 14, 15, 16, 17, 18, 19, 20, 21, 22, 23, 24, 25, 26, 27, 28, 29, 30, 31, 32, 33, 34, 35, 36, 37, 38, 39] [] [0, 1, 2, 3, 4, 5, 6, 7, 8, 9, 10, 11, 12, 13, 14, 15, 16, 17, 18, 19, 20, 21, 22, 23, 24, 25, 26, 27, 28, 29, 30, 31, 32, 33, 34, 35, 36, 37, 38, 39] (by decide +kernel) rfl rfl (fun _ => rfl) rfl hl.1 rfl (lv_room (Nat.le_of_ble_eq_true rfl)) dL_act_370 ⟨(show 0 + 4 ≤ 4 by omega), (show 0 + 24 ≤ 7200 by omega)⟩ rfl (fun _ H locs hP hD hS => ?_)
                          refine lv_goto (pc := 373) (tgt := 480) hx hb dL_act_373 (by decide) ?_
                          have hf := (Option.some.inj hf)
                          subst hf
                          refine W.widen (k := 4) (n := 7200) (by omega) (by omega) ?_
                          exact vx_ret (rw_i (fun _ => b 7 1) hx hb hr hlk rfl hP hD hS dL_act_480)
                  · have hf := (if_neg c107).symm.trans hf
                    refine lv_aload_n (pc := 232) hx hb dL_act_232 rfl (lv_at hl 8 rfl) ?_
                    refine lv_iconst (pc := 233) (v := 5) hx hb dL_act_233 (by decide) ?_
                    refine lv_sipush (pc := 234) (v := 10000) hx hb dL_act_234 (by decide) ?_
                    refine lv_iload (pc := 237) hx hb dL_act_237 (lv_at hl 5 rfl) ?_
                    refine lv_iconst (pc := 239) (v := 4) hx hb dL_act_239 (by decide) ?_
                    refine lv_ishr (pc := 240) hx hb dL_act_240 ?_
                    refine lv_iload_n (pc := 241) hx hb dL_act_241 rfl (lv_at hl 7 rfl) ?_
                    refine lv_if_eq (pc := 242) (tgt := 251) hx hb dL_act_242 (by decide) (fun c116 => ?_) (fun c116 => ?_)
                    · exact absurd c116 (by decide)
                    · refine lv_sipush (pc := 245) (v := 3300) hx hb dL_act_245 (by decide) ?_
                      refine lv_goto (pc := 248) (tgt := 254) hx hb dL_act_248 (by decide) ?_
                      refine ro_S (pc := 254) (As := [.int ((x1 >>> ((6 : Int32) &&& 31)) >>> ((4 : Int32) &&& 31)), .int 3300]) (rest := [.int 10000, .int 5, .ref (b 0 0)]) (st1 := [.int (lw ((x1 >>> ((6 : Int32) &&& 31)) >>> ((4 : Int32) &&& 31)) 3300), .int 10000, .int 5, .ref (b 0 0)]) ⟨hx, hb, hml, hown, hts⟩ (c_L_low Z l ((x1 >>> ((6 : Int32) &&& 31)) >>> ((4 : Int32) &&& 31)) 3300 (by decide)) (va_cwS 2 hts gL_act_L_low rfl rfl rfl hs_L_low ⟨Nat.le_of_ble_eq_true rfl, Nat.le_of_ble_eq_true rfl⟩) hK hE (hP.sub (ws' := []) [] rfl) rfl hl.1 rfl (lv_room (Nat.le_of_ble_eq_true rfl)) dL_act_254 ⟨(show 0 ≤ 4 by omega), (show 0 ≤ 7200 by omega)⟩ rfl ?_
                      refine lv_imul (pc := 257) hx hb dL_act_257 ?_
                      refine lv_iload (pc := 258) hx hb dL_act_258 (lv_at hl 3 rfl) ?_
                      refine lv_if_ge (pc := 260) (tgt := 269) hx hb dL_act_260 (by decide) (fun c117 => ?_) (fun c117 => ?_)
                      · have hf := (if_pos c117).symm.trans hf
                        refine lv_iload (pc := 269) hx hb dL_act_269 (lv_at hl 3 rfl) ?_
                        refine lv_iadd (pc := 271) hx hb dL_act_271 ?_
                        refine lv_iload (pc := 272) hx hb dL_act_272 (lv_at hl 5 rfl) ?_
                        refine lv_iconst (pc := 274) (v := 5) hx hb dL_act_274 (by decide) ?_
                        refine lv_ishr (pc := 275) hx hb dL_act_275 ?_
                        refine lv_iload_n (pc := 276) hx hb dL_act_276 rfl (lv_at hl 7 rfl) ?_
                        refine lv_if_eq (pc := 277) (tgt := 286) hx hb dL_act_277 (by decide) (fun c118 => ?_) (fun c118 => ?_)
                        · exact absurd c118 (by decide)
                        · refine lv_sipush (pc := 280) (v := 230) hx hb dL_act_280 (by decide) ?_
                          refine lv_goto (pc := 283) (tgt := 289) hx hb dL_act_283 (by decide) ?_
                          refine ro_S (pc := 289) (As := [.int ((x1 >>> ((6 : Int32) &&& 31)) >>> ((5 : Int32) &&& 31)), .int 230]) (rest := [.int (((10000 : Int32) * (lw ((x1 >>> ((6 : Int32) &&& 31)) >>> ((4 : Int32) &&& 31)) 3300)) + ((lw ((x1 >>> ((6 : Int32) &&& 31)) >>> ((3 : Int32) &&& 31)) 28) - (1 : Int32))), .int 5, .ref (b 0 0)]) (st1 := [.int (lw ((x1 >>> ((6 : Int32) &&& 31)) >>> ((5 : Int32) &&& 31)) 230), .int (((10000 : Int32) * (lw ((x1 >>> ((6 : Int32) &&& 31)) >>> ((4 : Int32) &&& 31)) 3300)) + ((lw ((x1 >>> ((6 : Int32) &&& 31)) >>> ((3 : Int32) &&& 31)) 28) - (1 : Int32))), .int 5, .ref (b 0 0)]) ⟨hx, hb, hml, hown, hts⟩ (c_L_low Z l ((x1 >>> ((6 : Int32) &&& 31)) >>> ((5 : Int32) &&& 31)) 230 (by decide)) (va_cwS 2 hts gL_act_L_low rfl rfl rfl hs_L_low ⟨Nat.le_of_ble_eq_true rfl, Nat.le_of_ble_eq_true rfl⟩) hK hE (hP.sub (ws' := []) [] rfl) rfl hl.1 rfl (lv_room (Nat.le_of_ble_eq_true rfl)) dL_act_289 ⟨(show 0 ≤ 4 by omega), (show 0 ≤ 7200 by omega)⟩ rfl ?_
                          refine lv_bipush (pc := 292) (v := 99) hx hb dL_act_292 (by decide) ?_
                          refine lv_isub (pc := 294) hx hb dL_act_294 ?_
                          refine lv_iload_n (pc := 295) hx hb dL_act_295 rfl (lv_at hl 7 rfl) ?_
                          refine lv_if_eq (pc := 296) (tgt := 306) hx hb dL_act_296 (by decide) (fun c119 => ?_) (fun c119 => ?_)
                          · exact absurd c119 (by decide)
                          · refine lv_iload (pc := 299) hx hb dL_act_299 (lv_at hl 5 rfl) ?_
                            refine lv_iconst (pc := 301) (v := 3) hx hb dL_act_301 (by decide) ?_
                            refine lv_ishr (pc := 302) hx hb dL_act_302 ?_
                            refine lv_goto (pc := 303) (tgt := 317) hx hb dL_act_303 (by decide) ?_
                            refine lv_iload (pc := 317) hx hb dL_act_317 (lv_at hl 0 rfl) ?_
                            obtain ⟨r319, h_319, hf⟩ := bd hf
                            refine wr_S (pc := 319) (As := [.ref (b 0 0), .int 5, .int (((10000 : Int32) * (lw ((x1 >>> ((6 : Int32) &&& 31)) >>> ((4 : Int32) &&& 31)) 3300)) + ((lw ((x1 >>> ((6 : Int32) &&& 31)) >>> ((3 : Int32) &&& 31)) 28) - (1 : Int32))), .int ((lw ((x1 >>> ((6 : Int32) &&& 31)) >>> ((5 : Int32) &&& 31)) 230) - (99 : Int32)), .int ((x1 >>> ((6 : Int32) &&& 31)) >>> ((3 : Int32) &&& 31)), .int ((lw ((x1 >>> ((6 : Int32) &&& 31)) >>> ((6 : Int32) &&& 31)) 14) - (1 : Int32))]) (rest := []) (st1 := [.int r319.1]) (wn := fun _ => wH Z b r319.2) ⟨hx, hb, hml, hown, hts⟩ (c_L_does_5 Z l hst b h (((10000 : Int32) * (lw ((x1 >>> ((6 : Int32) &&& 31)) >>> ((4 : Int32) &&& 31)) 3300)) + ((lw ((x1 >>> ((6 : Int32) &&& 31)) >>> ((3 : Int32) &&& 31)) 28) - (1 : Int32))) ((lw ((x1 >>> ((6 : Int32) &&& 31)) >>> ((5 : Int32) &&& 31)) 230) - (99 : Int32)) ((x1 >>> ((6 : Int32) &&& 31)) >>> ((3 : Int32) &&& 31)) ((lw ((x1 >>> ((6 : Int32) &&& 31)) >>> ((6 : Int32) &&& 31)) 14) - (1 : Int32)) r319 h_319) (vx_cwSW 6 hts gL_act_L_does rfl rfl rfl hs_L_does ⟨Nat.le_of_ble_eq_true rfl, Nat.le_of_ble_eq_true rfl⟩) hK hE hP hD hS hA hZ [0, 1, 2, 3, 4, 5, 6, 7, 8, 9, 10, 11, 12, 13, 14, 15, 16, 17, 18, 19, 20, 21, 22, 23, 24, 25, 26, 27, 28, 29, 30, 31, 32, 33, 34, 35, 36, 37, 38, 39] [] [0, 1, 2, 3, 4, 5, 6, 7, 8, 9, 10, 11, 12, 13, 14, 15, 16, 17, 18, 19, 20, 21, 22, 23, 24, 25, 26, 27, 28, 29, 30, 31, 32, 33, 34, 35, 36, 37, 38, 39] (by decide +kernel) rfl rfl (fun _ => rfl) rfl hl.1 rfl (lv_room (Nat.le_of_ble_eq_true rfl)) dL_act_319 ⟨(show 0 + 4 ≤ 4 by omega), (show 0 + 24 ≤ 7200 by omega)⟩ rfl (fun _ H locs hP hD hS => ?_)
                            refine lv_goto (pc := 322) (tgt := 480) hx hb dL_act_322 (by decide) ?_
                            have hf := (Option.some.inj hf)
                            subst hf
                            refine W.widen (k := 4) (n := 7200) (by omega) (by omega) ?_
                            exact vx_ret (rw_i (fun _ => b 7 1) hx hb hr hlk rfl hP hD hS dL_act_480)
                      · have hf := (if_neg c117).symm.trans hf
                        refine lv_sipush (pc := 263) (v := 9999) hx hb dL_act_263 (by decide) ?_
                        refine lv_goto (pc := 266) (tgt := 271) hx hb dL_act_266 (by decide) ?_
                        refine lv_iadd (pc := 271) hx hb dL_act_271 ?_
                        refine lv_iload (pc := 272) hx hb dL_act_272 (lv_at hl 5 rfl) ?_
                        refine lv_iconst (pc := 274) (v := 5) hx hb dL_act_274 (by decide) ?_
                        refine lv_ishr (pc := 275) hx hb dL_act_275 ?_
                        refine lv_iload_n (pc := 276) hx hb dL_act_276 rfl (lv_at hl 7 rfl) ?_
                        refine lv_if_eq (pc := 277) (tgt := 286) hx hb dL_act_277 (by decide) (fun c120 => ?_) (fun c120 => ?_)
                        · exact absurd c120 (by decide)
                        · refine lv_sipush (pc := 280) (v := 230) hx hb dL_act_280 (by decide) ?_
                          refine lv_goto (pc := 283) (tgt := 289) hx hb dL_act_283 (by decide) ?_
                          refine ro_S (pc := 289) (As := [.int ((x1 >>> ((6 : Int32) &&& 31)) >>> ((5 : Int32) &&& 31)), .int 230]) (rest := [.int (((10000 : Int32) * (lw ((x1 >>> ((6 : Int32) &&& 31)) >>> ((4 : Int32) &&& 31)) 3300)) + (9999 : Int32)), .int 5, .ref (b 0 0)]) (st1 := [.int (lw ((x1 >>> ((6 : Int32) &&& 31)) >>> ((5 : Int32) &&& 31)) 230), .int (((10000 : Int32) * (lw ((x1 >>> ((6 : Int32) &&& 31)) >>> ((4 : Int32) &&& 31)) 3300)) + (9999 : Int32)), .int 5, .ref (b 0 0)]) ⟨hx, hb, hml, hown, hts⟩ (c_L_low Z l ((x1 >>> ((6 : Int32) &&& 31)) >>> ((5 : Int32) &&& 31)) 230 (by decide)) (va_cwS 2 hts gL_act_L_low rfl rfl rfl hs_L_low ⟨Nat.le_of_ble_eq_true rfl, Nat.le_of_ble_eq_true rfl⟩) hK hE (hP.sub (ws' := []) [] rfl) rfl hl.1 rfl (lv_room (Nat.le_of_ble_eq_true rfl)) dL_act_289 ⟨(show 0 ≤ 4 by omega), (show 0 ≤ 7200 by omega)⟩ rfl ?_
                          refine lv_bipush (pc := 292) (v := 99) hx hb dL_act_292 (by decide) ?_
                          refine lv_isub (pc := 294) hx hb dL_act_294 ?_
                          refine lv_iload_n (pc := 295) hx hb dL_act_295 rfl (lv_at hl 7 rfl) ?_
                          refine lv_if_eq (pc := 296) (tgt := 306) hx hb dL_act_296 (by decide) (fun c121 => ?_) (fun c121 => ?_)
                          · exact absurd c121 (by decide)
                          · refine lv_iload (pc := 299) hx hb dL_act_299 (lv_at hl 5 rfl) ?_
                            refine lv_iconst (pc := 301) (v := 3) hx hb dL_act_301 (by decide) ?_
                            refine lv_ishr (pc := 302) hx hb dL_act_302 ?_
                            refine lv_goto (pc := 303) (tgt := 317) hx hb dL_act_303 (by decide) ?_
                            refine lv_iload (pc := 317) hx hb dL_act_317 (lv_at hl 0 rfl) ?_
                            obtain ⟨r319, h_319, hf⟩ := bd hf
                            refine wr_S (pc := 319) (As := [.ref (b 0 0), .int 5, .int (((10000 : Int32) * (lw ((x1 >>> ((6 : Int32) &&& 31)) >>> ((4 : Int32) &&& 31)) 3300)) + (9999 : Int32)), .int ((lw ((x1 >>> ((6 : Int32) &&& 31)) >>> ((5 : Int32) &&& 31)) 230) - (99 : Int32)), .int ((x1 >>> ((6 : Int32) &&& 31)) >>> ((3 : Int32) &&& 31)), .int ((lw ((x1 >>> ((6 : Int32) &&& 31)) >>> ((6 : Int32) &&& 31)) 14) - (1 : Int32))]) (rest := []) (st1 := [.int r319.1]) (wn := fun _ => wH Z b r319.2) ⟨hx, hb, hml, hown, hts⟩ (c_L_does_5 Z l hst b h (((10000 : Int32) * (lw ((x1 >>> ((6 : Int32) &&& 31)) >>> ((4 : Int32) &&& 31)) 3300)) + (9999 : Int32)) ((lw ((x1 >>> ((6 : Int32) &&& 31)) >>> ((5 : Int32) &&& 31)) 230) - (99 : Int32)) ((x1 >>> ((6 : Int32) &&& 31)) >>> ((3 : Int32) &&& 31)) ((lw ((x1 >>> ((6 : Int32) &&& 31)) >>> ((6 : Int32) &&& 31)) 14) - (1 : Int32)) r319 h_319) (vx_cwSW 6 hts gL_act_L_does rfl rfl rfl hs_L_does ⟨Nat.le_of_ble_eq_true rfl, Nat.le_of_ble_eq_true rfl⟩) hK hE hP hD hS hA hZ [0, 1, 2, 3, 4, 5, 6, 7, 8, 9, 10, 11, 12, 13, 14, 15, 16, 17, 18, 19, 20, 21, 22, 23, 24, 25, 26, 27, 28, 29, 30, 31, 32, 33, 34, 35, 36, 37, 38, 39] [] [0, 1, 2, 3, 4, 5, 6, 7, 8, 9, 10, 11, 12, 13, 14, 15, 16, 17, 18, 19, 20, 21, 22, 23, 24, 25, 26, 27, 28, 29, 30, 31, 32, 33, 34, 35, 36, 37, 38, 39] (by decide +kernel) rfl rfl (fun _ => rfl) rfl hl.1 rfl (lv_room (Nat.le_of_ble_eq_true rfl)) dL_act_319 ⟨(show 0 + 4 ≤ 4 by omega), (show 0 + 24 ≤ 7200 by omega)⟩ rfl (fun _ H locs hP hD hS => ?_)
                            refine lv_goto (pc := 322) (tgt := 480) hx hb dL_act_322 (by decide) ?_
                            have hf := (Option.some.inj hf)
                            subst hf
                            refine W.widen (k := 4) (n := 7200) (by omega) (by omega) ?_
                            exact vx_ret (rw_i (fun _ => b 7 1) hx hb hr hlk rfl hP hD hS dL_act_480)
              · have hf := (if_pos c105).symm.trans hf
                refine lv_bipush (pc := 172) (v := 101) hx hb dL_act_172 (by decide) ?_
                refine lv_iload (pc := 174) hx hb dL_act_174 (lv_at hl 4 rfl) ?_
                refine lv_iconst (pc := 176) (v := 5) hx hb dL_act_176 (by decide) ?_
                refine lv_ishr (pc := 177) hx hb dL_act_177 ?_
                refine lv_iload_n (pc := 178) hx hb dL_act_178 rfl (lv_at hl 6 rfl) ?_
                refine lv_if_eq (pc := 179) (tgt := 187) hx hb dL_act_179 (by decide) (fun c122 => ?_) (fun c122 => ?_)
                · exact absurd c122 (by decide)
                · refine lv_bipush (pc := 182) (v := 8) hx hb dL_act_182 (by decide) ?_
                  refine lv_goto (pc := 184) (tgt := 189) hx hb dL_act_184 (by decide) ?_
                  refine ro_S (pc := 189) (As := [.int ((x1 >>> ((6 : Int32) &&& 31)) >>> ((5 : Int32) &&& 31)), .int 8]) (rest := [.int 101]) (st1 := [.int (lw ((x1 >>> ((6 : Int32) &&& 31)) >>> ((5 : Int32) &&& 31)) 8), .int 101]) ⟨hx, hb, hml, hown, hts⟩ (c_L_low Z l ((x1 >>> ((6 : Int32) &&& 31)) >>> ((5 : Int32) &&& 31)) 8 (by decide)) (va_cwS 2 hts gL_act_L_low rfl rfl rfl hs_L_low ⟨Nat.le_of_ble_eq_true rfl, Nat.le_of_ble_eq_true rfl⟩) hK hE (hP.sub (ws' := []) [] rfl) rfl hl.1 rfl (lv_room (Nat.le_of_ble_eq_true rfl)) dL_act_189 ⟨(show 0 ≤ 4 by omega), (show 0 ≤ 7200 by omega)⟩ rfl ?_
                  refine lv_iadd (pc := 192) hx hb dL_act_192 ?_
                  refine lv_goto (pc := 193) (tgt := 225) hx hb dL_act_193 (by decide) ?_
                  refine lv_istore (pc := 225) (lv' := [(9, .int ((101 : Int32) + (lw ((x1 >>> ((6 : Int32) &&& 31)) >>> ((5 : Int32) &&& 31)) 8))), (8, .int ((lw ((x1 >>> ((6 : Int32) &&& 31)) >>> ((7 : Int32) &&& 31)) 8) - (1 : Int32))), (7, .int ((x1 >>> ((6 : Int32) &&& 31)) >>> ((4 : Int32) &&& 31))), (6, .int ((lw ((x1 >>> ((6 : Int32) &&& 31)) >>> ((3 : Int32) &&& 31)) 28) - (1 : Int32))), (5, .int ((lw (x1 >>> ((6 : Int32) &&& 31)) 14) - (1 : Int32))), (4, .int (x1 >>> ((6 : Int32) &&& 31))), (3, .int (lw x1 40)), (2, .int 1), (0, .ref (b 0 0)), (1, .int x1)]) hx hb dL_act_225 hl (by decide) rfl (fun ls hl => ?_)
                  refine lv_iload_n (pc := 227) hx hb dL_act_227 rfl (lv_at hl 6 rfl) ?_
                  refine lv_iconst (pc := 228) (v := 5) hx hb dL_act_228 (by decide) ?_
                  refine lv_icmp_ge (pc := 229) (tgt := 325) hx hb dL_act_229 (by decide) (fun c123 => ?_) (fun c123 => ?_)
                  · have hf := (if_pos c123).symm.trans hf
                    refine lv_iload_n (pc := 325) hx hb dL_act_325 rfl (lv_at hl 6 rfl) ?_
                    refine lv_bipush (pc := 326) (v := 7) hx hb dL_act_326 (by decide) ?_
                    refine lv_icmp_ge (pc := 328) (tgt := 376) hx hb dL_act_328 (by decide) (fun c124 => ?_) (fun c124 => ?_)
                    · have hf := (if_pos c124).symm.trans hf
                      refine lv_iload_n (pc := 376) hx hb dL_act_376 rfl (lv_at hl 6 rfl) ?_
                      refine lv_bipush (pc := 377) (v := 9) hx hb dL_act_377 (by decide) ?_
                      refine lv_icmp_ge (pc := 379) (tgt := 430) hx hb dL_act_379 (by decide) (fun c125 => ?_) (fun c125 => ?_)
                      · have hf := (if_pos c125).symm.trans hf
                        refine lv_aload_n (pc := 430) hx hb dL_act_430 rfl (lv_at hl 8 rfl) ?_
                        refine lv_bipush (pc := 431) (v := 8) hx hb dL_act_431 (by decide) ?_
                        refine lv_iload (pc := 433) hx hb dL_act_433 (lv_at hl 1 rfl) ?_
                        refine lv_iload (pc := 435) hx hb dL_act_435 (lv_at hl 5 rfl) ?_
                        refine lv_iconst (pc := 437) (v := 4) hx hb dL_act_437 (by decide) ?_
                        refine lv_ishr (pc := 438) hx hb dL_act_438 ?_
                        refine lv_iload_n (pc := 439) hx hb dL_act_439 rfl (lv_at hl 7 rfl) ?_
                        refine lv_if_eq (pc := 440) (tgt := 449) hx hb dL_act_440 (by decide) (fun c126 => ?_) (fun c126 => ?_)
                        · exact absurd c126 (by decide)
                        · refine lv_sipush (pc := 443) (v := 3300) hx hb dL_act_443 (by decide) ?_
                          refine lv_goto (pc := 446) (tgt := 452) hx hb dL_act_446 (by decide) ?_
                          refine ro_S (pc := 452) (As := [.int ((x1 >>> ((6 : Int32) &&& 31)) >>> ((4 : Int32) &&& 31)), .int 3300]) (rest := [.int ((lw ((x1 >>> ((6 : Int32) &&& 31)) >>> ((7 : Int32) &&& 31)) 8) - (1 : Int32)), .int 8, .ref (b 0 0)]) (st1 := [.int (lw ((x1 >>> ((6 : Int32) &&& 31)) >>> ((4 : Int32) &&& 31)) 3300), .int ((lw ((x1 >>> ((6 : Int32) &&& 31)) >>> ((7 : Int32) &&& 31)) 8) - (1 : Int32)), .int 8, .ref (b 0 0)]) ⟨hx, hb, hml, hown, hts⟩ (c_L_low Z l ((x1 >>> ((6 : Int32) &&& 31)) >>> ((4 : Int32) &&& 31)) 3300 (by decide)) (va_cwS 2 hts gL_act_L_low rfl rfl rfl hs_L_low ⟨Nat.le_of_ble_eq_true rfl, Nat.le_of_ble_eq_true rfl⟩) hK hE (hP.sub (ws' := []) [] rfl) rfl hl.1 rfl (lv_room (Nat.le_of_ble_eq_true rfl)) dL_act_452 ⟨(show 0 ≤ 4 by omega), (show 0 ≤ 7200 by omega)⟩ rfl ?_
                          refine lv_iload_n (pc := 455) hx hb dL_act_455 rfl (lv_at hl 7 rfl) ?_
                          refine lv_if_eq (pc := 456) (tgt := 466) hx hb dL_act_456 (by decide) (fun c127 => ?_) (fun c127 => ?_)
                          · exact absurd c127 (by decide)
                          · refine lv_iload (pc := 459) hx hb dL_act_459 (lv_at hl 5 rfl) ?_
                            refine lv_iconst (pc := 461) (v := 5) hx hb dL_act_461 (by decide) ?_
                            refine lv_ishr (pc := 462) hx hb dL_act_462 ?_
                            refine lv_goto (pc := 463) (tgt := 476) hx hb dL_act_463 (by decide) ?_
                            refine lv_iconst (pc := 476) (v := 0) hx hb dL_act_476 (by decide) ?_
                            obtain ⟨r477, h_477, hf⟩ := bd hf
                            refine wr_S (pc := 477) (As := [.ref (b 0 0), .int 8, .int ((lw ((x1 >>> ((6 : Int32) &&& 31)) >>> ((7 : Int32) &&& 31)) 8) - (1 : Int32)), .int (lw ((x1 >>> ((6 : Int32) &&& 31)) >>> ((4 : Int32) &&& 31)) 3300), .int ((x1 >>> ((6 : Int32) &&& 31)) >>> ((5 : Int32) &&& 31)), .int 0]) (rest := []) (st1 := [.int r477.1]) (wn := fun _ => wH Z b r477.2) ⟨hx, hb, hml, hown, hts⟩ (c_L_does_8 Z l hst b h ((lw ((x1 >>> ((6 : Int32) &&& 31)) >>> ((7 : Int32) &&& 31)) 8) - (1 : Int32)) (lw ((x1 >>> ((6 : Int32) &&& 31)) >>> ((4 : Int32) &&& 31)) 3300) ((x1 >>> ((6 : Int32) &&& 31)) >>> ((5 : Int32) &&& 31)) 0 r477 h_477) (vx_cwSW 6 hts gL_act_L_does rfl rfl rfl hs_L_does ⟨Nat.le_of_ble_eq_true rfl, Nat.le_of_ble_eq_true rfl⟩) hK hE hP hD hS hA hZ [0, 1, 2, 3, 4, 5, 6, 7, 8, 9, 10, 11, 12, 13, 14, 15, 16, 17, 18, 19, 20, 21, 22, 23, 24, 25, 26, 27, 28, 29, 30, 31, 32, 33, 34, 35, 36, 37, 38, 39] [] [0, 1, 2, 3, 4, 5, 6, 7, 8, 9, 10, 11, 12, 13, 14, 15, 16, 17, 18, 19, 20, 21, 22, 23, 24, 25, 26, 27, 28, 29, 30, 31, 32, 33, 34, 35, 36, 37, 38, 39] (by decide +kernel) rfl rfl (fun _ => rfl) rfl hl.1 rfl (lv_room (Nat.le_of_ble_eq_true rfl)) dL_act_477 ⟨(show 0 + 2 ≤ 4 by omega), (show 0 + 12 ≤ 7200 by omega)⟩ rfl (fun _ H locs hP hD hS => ?_)
                            have hf := (Option.some.inj hf)
                            subst hf
                            refine W.widen (k := 4) (n := 7200) (by omega) (by omega) ?_
                            exact vx_ret (rw_i (fun _ => b 7 1) hx hb hr hlk rfl hP hD hS dL_act_480)
                      · have hf := (if_neg c125).symm.trans hf
                        refine lv_aload_n (pc := 382) hx hb dL_act_382 rfl (lv_at hl 8 rfl) ?_
                        refine lv_bipush (pc := 383) (v := 7) hx hb dL_act_383 (by decide) ?_
                        refine lv_iload (pc := 385) hx hb dL_act_385 (lv_at hl 1 rfl) ?_
                        refine lv_iload (pc := 387) hx hb dL_act_387 (lv_at hl 3 rfl) ?_
                        refine lv_iload (pc := 389) hx hb dL_act_389 (lv_at hl 5 rfl) ?_
                        refine lv_iconst (pc := 391) (v := 4) hx hb dL_act_391 (by decide) ?_
                        refine lv_ishr (pc := 392) hx hb dL_act_392 ?_
                        refine lv_iload_n (pc := 393) hx hb dL_act_393 rfl (lv_at hl 7 rfl) ?_
                        refine lv_if_eq (pc := 394) (tgt := 403) hx hb dL_act_394 (by decide) (fun c128 => ?_) (fun c128 => ?_)
                        · exact absurd c128 (by decide)
                        · refine lv_sipush (pc := 397) (v := 1300) hx hb dL_act_397 (by decide) ?_
                          refine lv_goto (pc := 400) (tgt := 406) hx hb dL_act_400 (by decide) ?_
                          refine ro_S (pc := 406) (As := [.int ((x1 >>> ((6 : Int32) &&& 31)) >>> ((4 : Int32) &&& 31)), .int 1300]) (rest := [.int ((lw ((x1 >>> ((6 : Int32) &&& 31)) >>> ((3 : Int32) &&& 31)) 28) - (1 : Int32)), .int ((lw ((x1 >>> ((6 : Int32) &&& 31)) >>> ((7 : Int32) &&& 31)) 8) - (1 : Int32)), .int 7, .ref (b 0 0)]) (st1 := [.int (lw ((x1 >>> ((6 : Int32) &&& 31)) >>> ((4 : Int32) &&& 31)) 1300), .int ((lw ((x1 >>> ((6 : Int32) &&& 31)) >>> ((3 : Int32) &&& 31)) 28) - (1 : Int32)), .int ((lw ((x1 >>> ((6 : Int32) &&& 31)) >>> ((7 : Int32) &&& 31)) 8) - (1 : Int32)), .int 7, .ref (b 0 0)]) ⟨hx, hb, hml, hown, hts⟩ (c_L_low Z l ((x1 >>> ((6 : Int32) &&& 31)) >>> ((4 : Int32) &&& 31)) 1300 (by decide)) (va_cwS 2 hts gL_act_L_low rfl rfl rfl hs_L_low ⟨Nat.le_of_ble_eq_true rfl, Nat.le_of_ble_eq_true rfl⟩) hK hE (hP.sub (ws' := []) [] rfl) rfl hl.1 rfl (lv_room (Nat.le_of_ble_eq_true rfl)) dL_act_406 ⟨(show 0 ≤ 4 by omega), (show 0 ≤ 7200 by omega)⟩ rfl ?_
                          refine lv_iload_n (pc := 409) hx hb dL_act_409 rfl (lv_at hl 7 rfl) ?_
                          refine lv_if_eq (pc := 410) (tgt := 419) hx hb dL_act_410 (by decide) (fun c129 => ?_) (fun c129 => ?_)
                          · exact absurd c129 (by decide)
                          · refine lv_sipush (pc := 413) (v := 650) hx hb dL_act_413 (by decide) ?_
                            refine lv_goto (pc := 416) (tgt := 422) hx hb dL_act_416 (by decide) ?_
                            refine lv_isub (pc := 422) hx hb dL_act_422 ?_
                            refine lv_iconst (pc := 423) (v := 0) hx hb dL_act_423 (by decide) ?_
                            obtain ⟨r424, h_424, hf⟩ := bd hf
                            refine wr_S (pc := 424) (As := [.ref (b 0 0), .int 7, .int ((lw ((x1 >>> ((6 : Int32) &&& 31)) >>> ((7 : Int32) &&& 31)) 8) - (1 : Int32)), .int ((lw ((x1 >>> ((6 : Int32) &&& 31)) >>> ((3 : Int32) &&& 31)) 28) - (1 : Int32)), .int ((lw ((x1 >>> ((6 : Int32) &&& 31)) >>> ((4 : Int32) &&& 31)) 1300) - (650 : Int32)), .int 0]) (rest := []) (st1 := [.int r424.1]) (wn := fun _ => wH Z b r424.2) ⟨hx, hb, hml, hown, hts⟩ (c_L_does_7 Z l hst b h ((lw ((x1 >>> ((6 : Int32) &&& 31)) >>> ((7 : Int32) &&& 31)) 8) - (1 : Int32)) ((lw ((x1 >>> ((6 : Int32) &&& 31)) >>> ((3 : Int32) &&& 31)) 28) - (1 : Int32)) ((lw ((x1 >>> ((6 : Int32) &&& 31)) >>> ((4 : Int32) &&& 31)) 1300) - (650 : Int32)) 0 r424 h_424) (vx_cwSW 6 hts gL_act_L_does rfl rfl rfl hs_L_does ⟨Nat.le_of_ble_eq_true rfl, Nat.le_of_ble_eq_true rfl⟩) hK hE hP hD hS hA hZ [0, 1, 2, 3, 4, 5, 6, 7, 8, 9, 10, 11, 12, 13, 14, 15, 16, 17, 18, 19, 20, 21, 22, 23, 24, 25, 26, 27, 28, 29, 30, 31, 32, 33, 34, 35, 36, 37, 38, 39] [] [0, 1, 2, 3, 4, 5, 6, 7, 8, 9, 10, 11, 12, 13, 14, 15, 16, 17, 18, 19, 20, 21, 22, 23, 24, 25, 26, 27, 28, 29, 30, 31, 32, 33, 34, 35, 36, 37, 38, 39] (by decide +kernel) rfl rfl (fun _ => rfl) rfl hl.1 rfl (lv_room (Nat.le_of_ble_eq_true rfl)) dL_act_424 ⟨(show 0 + 3 ≤ 4 by omega), (show 0 + 18 ≤ 7200 by omega)⟩ rfl (fun _ H locs hP hD hS => ?_)
                            refine lv_goto (pc := 427) (tgt := 480) hx hb dL_act_427 (by decide) ?_
                            have hf := (Option.some.inj hf)
                            subst hf
                            refine W.widen (k := 4) (n := 7200) (by omega) (by omega) ?_
                            exact vx_ret (rw_i (fun _ => b 7 1) hx hb hr hlk rfl hP hD hS dL_act_480)
                    · have hf := (if_neg c124).symm.trans hf
                      refine lv_aload_n (pc := 331) hx hb dL_act_331 rfl (lv_at hl 8 rfl) ?_
                      refine lv_bipush (pc := 332) (v := 6) hx hb dL_act_332 (by decide) ?_
                      refine lv_iload (pc := 334) hx hb dL_act_334 (lv_at hl 3 rfl) ?_
                      refine lv_iload (pc := 336) hx hb dL_act_336 (lv_at hl 5 rfl) ?_
                      refine lv_iconst (pc := 338) (v := 5) hx hb dL_act_338 (by decide) ?_
                      refine lv_ishr (pc := 339) hx hb dL_act_339 ?_
                      refine lv_iload_n (pc := 340) hx hb dL_act_340 rfl (lv_at hl 7 rfl) ?_
                      refine lv_if_eq (pc := 341) (tgt := 350) hx hb dL_act_341 (by decide) (fun c130 => ?_) (fun c130 => ?_)
                      · exact absurd c130 (by decide)
                      · refine lv_sipush (pc := 344) (v := 1100) hx hb dL_act_344 (by decide) ?_
                        refine lv_goto (pc := 347) (tgt := 353) hx hb dL_act_347 (by decide) ?_
                        refine ro_S (pc := 353) (As := [.int ((x1 >>> ((6 : Int32) &&& 31)) >>> ((5 : Int32) &&& 31)), .int 1100]) (rest := [.int ((lw ((x1 >>> ((6 : Int32) &&& 31)) >>> ((3 : Int32) &&& 31)) 28) - (1 : Int32)), .int 6, .ref (b 0 0)]) (st1 := [.int (lw ((x1 >>> ((6 : Int32) &&& 31)) >>> ((5 : Int32) &&& 31)) 1100), .int ((lw ((x1 >>> ((6 : Int32) &&& 31)) >>> ((3 : Int32) &&& 31)) 28) - (1 : Int32)), .int 6, .ref (b 0 0)]) ⟨hx, hb, hml, hown, hts⟩ (c_L_low Z l ((x1 >>> ((6 : Int32) &&& 31)) >>> ((5 : Int32) &&& 31)) 1100 (by decide)) (va_cwS 2 hts gL_act_L_low rfl rfl rfl hs_L_low ⟨Nat.le_of_ble_eq_true rfl, Nat.le_of_ble_eq_true rfl⟩) hK hE (hP.sub (ws' := []) [] rfl) rfl hl.1 rfl (lv_room (Nat.le_of_ble_eq_true rfl)) dL_act_353 ⟨(show 0 ≤ 4 by omega), (show 0 ≤ 7200 by omega)⟩ rfl ?_
                        refine lv_iload (pc := 356) hx hb dL_act_356 (lv_at hl 0 rfl) ?_
                        refine lv_bipush (pc := 358) (v := 100) hx hb dL_act_358 (by decide) ?_
                        refine lv_icmp_le (pc := 360) (tgt := 367) hx hb dL_act_360 (by decide) (fun c131 => ?_) (fun c131 => ?_)
                        · have hf := (if_pos c131).symm.trans hf
                          refine lv_iload (pc := 367) hx hb dL_act_367 (lv_at hl 0 rfl) ?_
                          refine lv_iconst (pc := 369) (v := 0) hx hb dL_act_369 (by decide) ?_
                          obtain ⟨r370, h_370, hf⟩ := bd hf
                          refine wr_S (pc := 370) (As := [.ref (b 0 0), .int 6, .int ((lw ((x1 >>> ((6 : Int32) &&& 31)) >>> ((3 : Int32) &&& 31)) 28) - (1 : Int32)), .int (lw ((x1 >>> ((6 : Int32) &&& 31)) >>> ((5 : Int32) &&& 31)) 1100), .int ((101 : Int32) + (lw ((x1 >>> ((6 : Int32) &&& 31)) >>> ((5 : Int32) &&& 31)) 8)), .int 0]) (rest := []) (st1 := [.int r370.1]) (wn := fun _ => wH Z b r370.2) ⟨hx, hb, hml, hown, hts⟩ (c_L_does_6 Z l hst b h ((lw ((x1 >>> ((6 : Int32) &&& 31)) >>> ((3 : Int32) &&& 31)) 28) - (1 : Int32)) (lw ((x1 >>> ((6 : Int32) &&& 31)) >>> ((5 : Int32) &&& 31)) 1100) ((101 : Int32) + (lw ((x1 >>> ((6 : Int32) &&& 31)) >>> ((5 : Int32) &&& 31)) 8)) 0 r370 h_370) (vx_cwSW 6 hts gL_act_L_does rfl rfl rfl hs_L_does ⟨Nat.le_of_ble_eq_true rfl, Nat.le_of_ble_eq_true rfl⟩) hK hE hP hD hS hA hZ [0, 1, 2, 3, 4, 5, 6, 7, 8, 9, 10, 11, 12, 13, 14, 15, 16, 17, 18, 19, 20, 21, 22, 23, 24, 25, 26, 27, 28, 29, 30, 31, 32, 33, 34, 35, 36, 37, 38, 39] [] [0, 1, 2, 3, 4, 5, 6, 7, 8, 9, 10, 11, 12, 13, 14, 15, 16, 17, 18, 19, 20, 21, 22, 23, 24, 25, 26, 27, 28, 29, 30, 31, 32, 33, 34, 35, 36, 37, 38, 39] (by decide +kernel) rfl rfl (fun _ => rfl) rfl hl.1 rfl (lv_room (Nat.le_of_ble_eq_true rfl)) dL_act_370 ⟨(show 0 + 4 ≤ 4 by omega), (show 0 + 24 ≤ 7200 by omega)⟩ rfl (fun _ H locs hP hD hS => ?_)
                          refine lv_goto (pc := 373) (tgt := 480) hx hb dL_act_373 (by decide) ?_
                          have hf := (Option.some.inj hf)
                          subst hf
                          refine W.widen (k := 4) (n := 7200) (by omega) (by omega) ?_
                          exact vx_ret (rw_i (fun _ => b 7 1) hx hb hr hlk rfl hP hD hS dL_act_480)
                        · have hf := (if_neg c131).symm.trans hf
                          refine lv_iconst (pc := 363) (v := 0) hx hb dL_act_363 (by decide) ?_
                          refine lv_goto (pc := 364) (tgt := 369) hx hb dL_act_364 (by decide) ?_
                          refine lv_iconst (pc := 369) (v := 0) hx hb dL_act_369 (by decide) ?_
                          obtain ⟨r370, h_370, hf⟩ := bd hf
                          refine wr_S (pc := 370) (As := [.ref (b 0 0), .int 6, .int ((lw ((x1 >>> ((6 : Int32) &&& 31)) >>> ((3 : Int32) &&& 31)) 28) - (1 : Int32)), .int (lw ((x1 >>> ((6 : Int32) &&& 31)) >>> ((5 : Int32) &&& 31)) 1100), .int 0, .int 0]) (rest := []) (st1 := [.int r370.1]) (wn := fun _ => wH Z b r370.2) ⟨hx, hb, hml, hown, hts⟩ (c_L_does_6 Z l hst b h ((lw ((x1 >>> ((6 : Int32) &&& 31)) >>> ((3 : Int32) &&& 31)) 28) - (1 : Int32)) (lw ((x1 >>> ((6 : Int32) &&& 31)) >>> ((5 : Int32) &&& 31)) 1100) 0 0 r370 h_370) (vx_cwSW 6 hts gL_act_L_does rfl rfl rfl hs_L_does ⟨Nat.le_of_ble_eq_true rfl, Nat.le_of_ble_eq_true rfl⟩) hK hE hP hD hS hA hZ [0, 1, 2, 3, 4, 5, 6, 7, 8, 9, 10, 11, 12, 13, 14, 15, 16, 17, 18, 19, 20, 21, 22, 23, 24, 25, 26, 27, 28, 29, 30, 31, 32, 33, 34, 35, 36, 37, 38, 39] [] [0, 1, 2, 3, 4, 5, 6, 7, 8, 9, 10, 11, 12, 13, 14, 15, 16, 17, 18, 19, 20, 21, 22, 23, 24, 25, 26, 27, 28, 29, 30, 31, 32, 33, 34, 35, 36, 37, 38, 39] (by decide +kernel) rfl rfl (fun _ => rfl) rfl hl.1 rfl (lv_room (Nat.le_of_ble_eq_true rfl)) dL_act_370 ⟨(show 0 + 4 ≤ 4 by omega), (show 0 + 24 ≤ 7200 by omega)⟩ rfl (fun _ H locs hP hD hS => ?_)
                          refine lv_goto (pc := 373) (tgt := 480) hx hb dL_act_373 (by decide) ?_
                          have hf := (Option.some.inj hf)
                          subst hf
                          refine W.widen (k := 4) (n := 7200) (by omega) (by omega) ?_
                          exact vx_ret (rw_i (fun _ => b 7 1) hx hb hr hlk rfl hP hD hS dL_act_480)
                  · have hf := (if_neg c123).symm.trans hf
                    refine lv_aload_n (pc := 232) hx hb dL_act_232 rfl (lv_at hl 8 rfl) ?_
                    refine lv_iconst (pc := 233) (v := 5) hx hb dL_act_233 (by decide) ?_
                    refine lv_sipush (pc := 234) (v := 10000) hx hb dL_act_234 (by decide) ?_
                    refine lv_iload (pc := 237) hx hb dL_act_237 (lv_at hl 5 rfl) ?_
                    refine lv_iconst (pc := 239) (v := 4) hx hb dL_act_239 (by decide) ?_
                    refine lv_ishr (pc := 240) hx hb dL_act_240 ?_
                    refine lv_iload_n (pc := 241) hx hb dL_act_241 rfl (lv_at hl 7 rfl) ?_
                    refine lv_if_eq (pc := 242) (tgt := 251) hx hb dL_act_242 (by decide) (fun c132 => ?_) (fun c132 => ?_)
                    · exact absurd c132 (by decide)
                    · refine lv_sipush (pc := 245) (v := 3300) hx hb dL_act_245 (by decide) ?_
                      refine lv_goto (pc := 248) (tgt := 254) hx hb dL_act_248 (by decide) ?_
                      refine ro_S (pc := 254) (As := [.int ((x1 >>> ((6 : Int32) &&& 31)) >>> ((4 : Int32) &&& 31)), .int 3300]) (rest := [.int 10000, .int 5, .ref (b 0 0)]) (st1 := [.int (lw ((x1 >>> ((6 : Int32) &&& 31)) >>> ((4 : Int32) &&& 31)) 3300), .int 10000, .int 5, .ref (b 0 0)]) ⟨hx, hb, hml, hown, hts⟩ (c_L_low Z l ((x1 >>> ((6 : Int32) &&& 31)) >>> ((4 : Int32) &&& 31)) 3300 (by decide)) (va_cwS 2 hts gL_act_L_low rfl rfl rfl hs_L_low ⟨Nat.le_of_ble_eq_true rfl, Nat.le_of_ble_eq_true rfl⟩) hK hE (hP.sub (ws' := []) [] rfl) rfl hl.1 rfl (lv_room (Nat.le_of_ble_eq_true rfl)) dL_act_254 ⟨(show 0 ≤ 4 by omega), (show 0 ≤ 7200 by omega)⟩ rfl ?_
                      refine lv_imul (pc := 257) hx hb dL_act_257 ?_
                      refine lv_iload (pc := 258) hx hb dL_act_258 (lv_at hl 3 rfl) ?_
                      refine lv_if_ge (pc := 260) (tgt := 269) hx hb dL_act_260 (by decide) (fun c133 => ?_) (fun c133 => ?_)
                      · have hf := (if_pos c133).symm.trans hf
                        refine lv_iload (pc := 269) hx hb dL_act_269 (lv_at hl 3 rfl) ?_
                        refine lv_iadd (pc := 271) hx hb dL_act_271 ?_
                        refine lv_iload (pc := 272) hx hb dL_act_272 (lv_at hl 5 rfl) ?_
                        refine lv_iconst (pc := 274) (v := 5) hx hb dL_act_274 (by decide) ?_
                        refine lv_ishr (pc := 275) hx hb dL_act_275 ?_
                        refine lv_iload_n (pc := 276) hx hb dL_act_276 rfl (lv_at hl 7 rfl) ?_
                        refine lv_if_eq (pc := 277) (tgt := 286) hx hb dL_act_277 (by decide) (fun c134 => ?_) (fun c134 => ?_)
                        · exact absurd c134 (by decide)
                        · refine lv_sipush (pc := 280) (v := 230) hx hb dL_act_280 (by decide) ?_
                          refine lv_goto (pc := 283) (tgt := 289) hx hb dL_act_283 (by decide) ?_
                          refine ro_S (pc := 289) (As := [.int ((x1 >>> ((6 : Int32) &&& 31)) >>> ((5 : Int32) &&& 31)), .int 230]) (rest := [.int (((10000 : Int32) * (lw ((x1 >>> ((6 : Int32) &&& 31)) >>> ((4 : Int32) &&& 31)) 3300)) + ((lw ((x1 >>> ((6 : Int32) &&& 31)) >>> ((3 : Int32) &&& 31)) 28) - (1 : Int32))), .int 5, .ref (b 0 0)]) (st1 := [.int (lw ((x1 >>> ((6 : Int32) &&& 31)) >>> ((5 : Int32) &&& 31)) 230), .int (((10000 : Int32) * (lw ((x1 >>> ((6 : Int32) &&& 31)) >>> ((4 : Int32) &&& 31)) 3300)) + ((lw ((x1 >>> ((6 : Int32) &&& 31)) >>> ((3 : Int32) &&& 31)) 28) - (1 : Int32))), .int 5, .ref (b 0 0)]) ⟨hx, hb, hml, hown, hts⟩ (c_L_low Z l ((x1 >>> ((6 : Int32) &&& 31)) >>> ((5 : Int32) &&& 31)) 230 (by decide)) (va_cwS 2 hts gL_act_L_low rfl rfl rfl hs_L_low ⟨Nat.le_of_ble_eq_true rfl, Nat.le_of_ble_eq_true rfl⟩) hK hE (hP.sub (ws' := []) [] rfl) rfl hl.1 rfl (lv_room (Nat.le_of_ble_eq_true rfl)) dL_act_289 ⟨(show 0 ≤ 4 by omega), (show 0 ≤ 7200 by omega)⟩ rfl ?_
                          refine lv_bipush (pc := 292) (v := 99) hx hb dL_act_292 (by decide) ?_
                          refine lv_isub (pc := 294) hx hb dL_act_294 ?_
                          refine lv_iload_n (pc := 295) hx hb dL_act_295 rfl (lv_at hl 7 rfl) ?_
                          refine lv_if_eq (pc := 296) (tgt := 306) hx hb dL_act_296 (by decide) (fun c135 => ?_) (fun c135 => ?_)
                          · exact absurd c135 (by decide)
                          · refine lv_iload (pc := 299) hx hb dL_act_299 (lv_at hl 5 rfl) ?_
                            refine lv_iconst (pc := 301) (v := 3) hx hb dL_act_301 (by decide) ?_
                            refine lv_ishr (pc := 302) hx hb dL_act_302 ?_
                            refine lv_goto (pc := 303) (tgt := 317) hx hb dL_act_303 (by decide) ?_
                            refine lv_iload (pc := 317) hx hb dL_act_317 (lv_at hl 0 rfl) ?_
                            obtain ⟨r319, h_319, hf⟩ := bd hf
                            refine wr_S (pc := 319) (As := [.ref (b 0 0), .int 5, .int (((10000 : Int32) * (lw ((x1 >>> ((6 : Int32) &&& 31)) >>> ((4 : Int32) &&& 31)) 3300)) + ((lw ((x1 >>> ((6 : Int32) &&& 31)) >>> ((3 : Int32) &&& 31)) 28) - (1 : Int32))), .int ((lw ((x1 >>> ((6 : Int32) &&& 31)) >>> ((5 : Int32) &&& 31)) 230) - (99 : Int32)), .int ((x1 >>> ((6 : Int32) &&& 31)) >>> ((3 : Int32) &&& 31)), .int ((101 : Int32) + (lw ((x1 >>> ((6 : Int32) &&& 31)) >>> ((5 : Int32) &&& 31)) 8))]) (rest := []) (st1 := [.int r319.1]) (wn := fun _ => wH Z b r319.2) ⟨hx, hb, hml, hown, hts⟩ (c_L_does_5 Z l hst b h (((10000 : Int32) * (lw ((x1 >>> ((6 : Int32) &&& 31)) >>> ((4 : Int32) &&& 31)) 3300)) + ((lw ((x1 >>> ((6 : Int32) &&& 31)) >>> ((3 : Int32) &&& 31)) 28) - (1 : Int32))) ((lw ((x1 >>> ((6 : Int32) &&& 31)) >>> ((5 : Int32) &&& 31)) 230) - (99 : Int32)) ((x1 >>> ((6 : Int32) &&& 31)) >>> ((3 : Int32) &&& 31)) ((101 : Int32) + (lw ((x1 >>> ((6 : Int32) &&& 31)) >>> ((5 : Int32) &&& 31)) 8)) r319 h_319) (vx_cwSW 6 hts gL_act_L_does rfl rfl rfl hs_L_does ⟨Nat.le_of_ble_eq_true rfl, Nat.le_of_ble_eq_true rfl⟩) hK hE hP hD hS hA hZ [0, 1, 2, 3, 4, 5, 6, 7, 8, 9, 10, 11, 12, 13, 14, 15, 16, 17, 18, 19, 20, 21, 22, 23, 24, 25, 26, 27, 28, 29, 30, 31, 32, 33, 34, 35, 36, 37, 38, 39] [] [0, 1, 2, 3, 4, 5, 6, 7, 8, 9, 10, 11, 12, 13, 14, 15, 16, 17, 18, 19, 20, 21, 22, 23, 24, 25, 26, 27, 28, 29, 30, 31, 32, 33, 34, 35, 36, 37, 38, 39] (by decide +kernel) rfl rfl (fun _ => rfl) rfl hl.1 rfl (lv_room (Nat.le_of_ble_eq_true rfl)) dL_act_319 ⟨(show 0 + 4 ≤ 4 by omega), (show 0 + 24 ≤ 7200 by omega)⟩ rfl (fun _ H locs hP hD hS => ?_)
                            refine lv_goto (pc := 322) (tgt := 480) hx hb dL_act_322 (by decide) ?_
                            have hf := (Option.some.inj hf)
                            subst hf
                            refine W.widen (k := 4) (n := 7200) (by omega) (by omega) ?_
                            exact vx_ret (rw_i (fun _ => b 7 1) hx hb hr hlk rfl hP hD hS dL_act_480)
                      · have hf := (if_neg c133).symm.trans hf
                        refine lv_sipush (pc := 263) (v := 9999) hx hb dL_act_263 (by decide) ?_
                        refine lv_goto (pc := 266) (tgt := 271) hx hb dL_act_266 (by decide) ?_
                        refine lv_iadd (pc := 271) hx hb dL_act_271 ?_
                        refine lv_iload (pc := 272) hx hb dL_act_272 (lv_at hl 5 rfl) ?_
                        refine lv_iconst (pc := 274) (v := 5) hx hb dL_act_274 (by decide) ?_
                        refine lv_ishr (pc := 275) hx hb dL_act_275 ?_
                        refine lv_iload_n (pc := 276) hx hb dL_act_276 rfl (lv_at hl 7 rfl) ?_
                        refine lv_if_eq (pc := 277) (tgt := 286) hx hb dL_act_277 (by decide) (fun c136 => ?_) (fun c136 => ?_)
                        · exact absurd c136 (by decide)
                        · refine lv_sipush (pc := 280) (v := 230) hx hb dL_act_280 (by decide) ?_
                          refine lv_goto (pc := 283) (tgt := 289) hx hb dL_act_283 (by decide) ?_
                          refine ro_S (pc := 289) (As := [.int ((x1 >>> ((6 : Int32) &&& 31)) >>> ((5 : Int32) &&& 31)), .int 230]) (rest := [.int (((10000 : Int32) * (lw ((x1 >>> ((6 : Int32) &&& 31)) >>> ((4 : Int32) &&& 31)) 3300)) + (9999 : Int32)), .int 5, .ref (b 0 0)]) (st1 := [.int (lw ((x1 >>> ((6 : Int32) &&& 31)) >>> ((5 : Int32) &&& 31)) 230), .int (((10000 : Int32) * (lw ((x1 >>> ((6 : Int32) &&& 31)) >>> ((4 : Int32) &&& 31)) 3300)) + (9999 : Int32)), .int 5, .ref (b 0 0)]) ⟨hx, hb, hml, hown, hts⟩ (c_L_low Z l ((x1 >>> ((6 : Int32) &&& 31)) >>> ((5 : Int32) &&& 31)) 230 (by decide)) (va_cwS 2 hts gL_act_L_low rfl rfl rfl hs_L_low ⟨Nat.le_of_ble_eq_true rfl, Nat.le_of_ble_eq_true rfl⟩) hK hE (hP.sub (ws' := []) [] rfl) rfl hl.1 rfl (lv_room (Nat.le_of_ble_eq_true rfl)) dL_act_289 ⟨(show 0 ≤ 4 by omega), (show 0 ≤ 7200 by omega)⟩ rfl ?_
                          refine lv_bipush (pc := 292) (v := 99) hx hb dL_act_292 (by decide) ?_
                          refine lv_isub (pc := 294) hx hb dL_act_294 ?_
                          refine lv_iload_n (pc := 295) hx hb dL_act_295 rfl (lv_at hl 7 rfl) ?_
                          refine lv_if_eq (pc := 296) (tgt := 306) hx hb dL_act_296 (by decide) (fun c137 => ?_) (fun c137 => ?_)
                          · exact absurd c137 (by decide)
                          · refine lv_iload (pc := 299) hx hb dL_act_299 (lv_at hl 5 rfl) ?_
                            refine lv_iconst (pc := 301) (v := 3) hx hb dL_act_301 (by decide) ?_
                            refine lv_ishr (pc := 302) hx hb dL_act_302 ?_
                            refine lv_goto (pc := 303) (tgt := 317) hx hb dL_act_303 (by decide) ?_
                            refine lv_iload (pc := 317) hx hb dL_act_317 (lv_at hl 0 rfl) ?_
                            obtain ⟨r319, h_319, hf⟩ := bd hf
                            refine wr_S (pc := 319) (As := [.ref (b 0 0), .int 5, .int (((10000 : Int32) * (lw ((x1 >>> ((6 : Int32) &&& 31)) >>> ((4 : Int32) &&& 31)) 3300)) + (9999 : Int32)), .int ((lw ((x1 >>> ((6 : Int32) &&& 31)) >>> ((5 : Int32) &&& 31)) 230) - (99 : Int32)), .int ((x1 >>> ((6 : Int32) &&& 31)) >>> ((3 : Int32) &&& 31)), .int ((101 : Int32) + (lw ((x1 >>> ((6 : Int32) &&& 31)) >>> ((5 : Int32) &&& 31)) 8))]) (rest := []) (st1 := [.int r319.1]) (wn := fun _ => wH Z b r319.2) ⟨hx, hb, hml, hown, hts⟩ (c_L_does_5 Z l hst b h (((10000 : Int32) * (lw ((x1 >>> ((6 : Int32) &&& 31)) >>> ((4 : Int32) &&& 31)) 3300)) + (9999 : Int32)) ((lw ((x1 >>> ((6 : Int32) &&& 31)) >>> ((5 : Int32) &&& 31)) 230) - (99 : Int32)) ((x1 >>> ((6 : Int32) &&& 31)) >>> ((3 : Int32) &&& 31)) ((101 : Int32) + (lw ((x1 >>> ((6 : Int32) &&& 31)) >>> ((5 : Int32) &&& 31)) 8)) r319 h_319) (vx_cwSW 6 hts gL_act_L_does rfl rfl rfl hs_L_does ⟨Nat.le_of_ble_eq_true rfl, Nat.le_of_ble_eq_true rfl⟩) hK hE hP hD hS hA hZ [0, 1, 2, 3, 4, 5, 6, 7, 8, 9, 10, 11, 12, 13, 14, 15, 16, 17, 18, 19, 20, 21, 22, 23, 24, 25, 26, 27, 28, 29, 30, 31, 32, 33, 34, 35, 36, 37, 38, 39] [] [0, 1, 2, 3, 4, 5, 6, 7, 8, 9, 10, 11, 12, 13, 14, 15, 16, 17, 18, 19, 20, 21, 22, 23, 24, 25, 26, 27, 28, 29, 30, 31, 32, 33, 34, 35, 36, 37, 38, 39] (by decide +kernel) rfl rfl (fun _ => rfl) rfl hl.1 rfl (lv_room (Nat.le_of_ble_eq_true rfl)) dL_act_319 ⟨(show 0 + 4 ≤ 4 by omega), (show 0 + 24 ≤ 7200 by omega)⟩ rfl (fun _ H locs hP hD hS => ?_)
                            refine lv_goto (pc := 322) (tgt := 480) hx hb dL_act_322 (by decide) ?_
                            have hf := (Option.some.inj hf)
                            subst hf
                            refine W.widen (k := 4) (n := 7200) (by omega) (by omega) ?_
                            exact vx_ret (rw_i (fun _ => b 7 1) hx hb hr hlk rfl hP hD hS dL_act_480)
