set_option maxHeartbeats 16000000 in
set_option maxRecDepth 100000 in
theorem c_L_isKept (Z : EnvT) (l : Launch) (hst : l.stackTraces = false) (b : Nat → Nat → Nat) (h : Nat → ObS) (x1 : Int32) (R : Int32 × (Nat → ObS)) (hf : f_L_isKept h x1 = some R) : WR Z l yL_isKept wsL_isKept { frames := 10, cells := 8, slots := 48, locals := 212 } [.ref (b 0 0), .int x1] (wH Z b h) (some (.int R.1)) (fun _ => wH Z b R.2) 8 48 := by
  refine wr_ofP (cc := cL_isKept) (maxL := 6) (ret := (some .boolean)) (by decide) rfl (Nat.le_of_ble_eq_true rfl) ?_
  intro p e s m below meth c A ls hx hb hr hml hts hown hlk hP hK hE hD hA hS hZ hl
  have hown : s.vm.findClass RL = some m.cls := hown
  have hl : lv_has ls 6 [(0, .ref (b 0 0)), (1, .int x1)] := hl
  have w0 := hts (.constant RL 76 (-2100000000)) (by decide +kernel)
  have w1 := hts (.constant RL 106 (-100000)) (by decide +kernel)
  rw [f_L_isKept] at hf
  refine lv_iload_n (pc := 0) hx hb dL_isKept_0 rfl (lv_at hl 1 rfl) ?_
  refine lv_bipush (pc := 1) (v := 8) hx hb dL_isKept_1 (by decide) ?_
  refine ro_S (pc := 3) (As := [.int x1, .int 8]) (rest := []) (st1 := [.int (lw x1 8)]) ⟨hx, hb, hml, hown, hts⟩ (c_L_low Z l x1 8 (by decide)) (va_cwS 2 hts gL_isKept_L_low rfl rfl rfl hs_L_low ⟨Nat.le_of_ble_eq_true rfl, Nat.le_of_ble_eq_true rfl⟩) hK hE (hP.sub (ws' := []) [] rfl) rfl hl.1 rfl (lv_room (Nat.le_of_ble_eq_true rfl)) dL_isKept_3 ⟨(show 0 ≤ 8 by omega), (show 0 ≤ 48 by omega)⟩ rfl ?_
  refine lv_istore_n (pc := 6) (lv' := [(2, .int (lw x1 8)), (0, .ref (b 0 0)), (1, .int x1)]) hx hb dL_isKept_6 rfl hl (by decide) rfl (fun ls hl => ?_)
  refine lv_iload_n (pc := 7) hx hb dL_isKept_7 rfl (lv_at hl 2 rfl) ?_
  refine lv_iconst (pc := 8) (v := 3) hx hb dL_isKept_8 (by decide) ?_
  refine lv_ishr (pc := 9) hx hb dL_isKept_9 ?_
  refine lv_bipush (pc := 10) (v := 16) hx hb dL_isKept_10 (by decide) ?_
  refine ro_S (pc := 12) (As := [.int (x1 >>> ((3 : Int32) &&& 31)), .int 16]) (rest := []) (st1 := [.int (lw (x1 >>> ((3 : Int32) &&& 31)) 16)]) ⟨hx, hb, hml, hown, hts⟩ (c_L_low Z l (x1 >>> ((3 : Int32) &&& 31)) 16 (by decide)) (va_cwS 2 hts gL_isKept_L_low rfl rfl rfl hs_L_low ⟨Nat.le_of_ble_eq_true rfl, Nat.le_of_ble_eq_true rfl⟩) hK hE (hP.sub (ws' := []) [] rfl) rfl hl.1 rfl (lv_room (Nat.le_of_ble_eq_true rfl)) dL_isKept_12 ⟨(show 0 ≤ 8 by omega), (show 0 ≤ 48 by omega)⟩ rfl ?_
  refine lv_istore_n (pc := 15) (lv' := [(3, .int (lw (x1 >>> ((3 : Int32) &&& 31)) 16)), (2, .int (lw x1 8)), (0, .ref (b 0 0)), (1, .int x1)]) hx hb dL_isKept_15 rfl hl (by decide) rfl (fun ls hl => ?_)
  refine lv_aload_n (pc := 16) hx hb dL_isKept_16 rfl (lv_at hl 2 rfl) ?_
  refine lv_bipush (pc := 17) (v := 16) hx hb dL_isKept_17 (by decide) ?_
  refine lv_iload_n (pc := 19) hx hb dL_isKept_19 rfl (lv_at hl 1 rfl) ?_
  refine lv_iload_n (pc := 20) hx hb dL_isKept_20 rfl (lv_at hl 0 rfl) ?_
  refine lv_iconst (pc := 21) (v := 0) hx hb dL_isKept_21 (by decide) ?_
  refine lv_iconst (pc := 22) (v := 0) hx hb dL_isKept_22 (by decide) ?_
  obtain ⟨r23, h_23, hf⟩ := bd hf
  refine wr_S (pc := 23) (As := [.ref (b 0 0), .int 16, .int (lw x1 8), .int (lw (x1 >>> ((3 : Int32) &&& 31)) 16), .int 0, .int 0]) (rest := []) (st1 := [.int r23.1]) (wn := fun _ => wH Z b r23.2) ⟨hx, hb, hml, hown, hts⟩ (c_L_does_16 Z l hst b h (lw x1 8) (lw (x1 >>> ((3 : Int32) &&& 31)) 16) 0 0 r23 h_23) (vx_cwSW 6 hts gL_isKept_L_does rfl rfl rfl hs_L_does ⟨Nat.le_of_ble_eq_true rfl, Nat.le_of_ble_eq_true rfl⟩) hK hE hP hD hS hA hZ [0, 1, 2, 3, 4, 5, 6, 7, 8, 9, 10, 11, 12, 13, 14, 15, 16, 17, 18, 19, 20, 21, 22, 23, 24, 25, 26, 27, 28, 29, 30, 31, 32, 33, 34, 35, 36, 37, 38, 39] [] [0, 1, 2, 3, 4, 5, 6, 7, 8, 9, 10, 11, 12, 13, 14, 15, 16, 17, 18, 19, 20, 21, 22, 23, 24, 25, 26, 27, 28, 29, 30, 31, 32, 33, 34, 35, 36, 37, 38, 39] (by decide +kernel) rfl rfl (fun _ => rfl) rfl hl.1 rfl (lv_room (Nat.le_of_ble_eq_true rfl)) dL_isKept_23 ⟨(show 0 + 2 ≤ 8 by omega), (show 0 + 12 ≤ 48 by omega)⟩ rfl (fun _ H locs hP hD hS => ?_)
  refine lv_istore (pc := 26) (lv' := [(4, .int r23.1), (3, .int (lw (x1 >>> ((3 : Int32) &&& 31)) 16)), (2, .int (lw x1 8)), (0, .ref (b 0 0)), (1, .int x1)]) hx hb dL_isKept_26 hl (by decide) rfl (fun ls hl => ?_)
  refine lv_aload_n (pc := 28) hx hb dL_isKept_28 rfl (lv_at hl 3 rfl) ?_
  refine lv_bipush (pc := 29) (v := 17) hx hb dL_isKept_29 (by decide) ?_
  refine lv_iload_n (pc := 31) hx hb dL_isKept_31 rfl (lv_at hl 2 rfl) ?_
  refine lv_iload_n (pc := 32) hx hb dL_isKept_32 rfl (lv_at hl 2 rfl) ?_
  refine lv_iload_n (pc := 33) hx hb dL_isKept_33 rfl (lv_at hl 1 rfl) ?_
  refine lv_iload_n (pc := 34) hx hb dL_isKept_34 rfl (lv_at hl 4 rfl) ?_
  refine lv_bipush (pc := 35) (v := 7) hx hb dL_isKept_35 (by decide) ?_
  refine lv_ishr (pc := 37) hx hb dL_isKept_37 ?_
  refine lv_bipush (pc := 38) (v := 16) hx hb dL_isKept_38 (by decide) ?_
  refine ro_S (pc := 40) (As := [.int (x1 >>> ((7 : Int32) &&& 31)), .int 16]) (rest := [.int (lw (x1 >>> ((3 : Int32) &&& 31)) 16), .int (lw x1 8), .int (lw x1 8), .int 17, .ref (b 0 0)]) (st1 := [.int (lw (x1 >>> ((7 : Int32) &&& 31)) 16), .int (lw (x1 >>> ((3 : Int32) &&& 31)) 16), .int (lw x1 8), .int (lw x1 8), .int 17, .ref (b 0 0)]) ⟨hx, hb, hml, hown, hts⟩ (c_L_low Z l (x1 >>> ((7 : Int32) &&& 31)) 16 (by decide)) (va_cwS 2 hts gL_isKept_L_low rfl rfl rfl hs_L_low ⟨Nat.le_of_ble_eq_true rfl, Nat.le_of_ble_eq_true rfl⟩) hK hE (hP.sub (ws' := []) [] rfl) rfl hl.1 rfl (lv_room (Nat.le_of_ble_eq_true rfl)) dL_isKept_40 ⟨(show 2 ≤ 8 by omega), (show 12 ≤ 48 by omega)⟩ rfl ?_
  obtain ⟨r43, h_43, hf⟩ := bd hf
  refine wr_S (pc := 43) (As := [.ref (b 0 0), .int 17, .int (lw x1 8), .int (lw x1 8), .int (lw (x1 >>> ((3 : Int32) &&& 31)) 16), .int (lw (x1 >>> ((7 : Int32) &&& 31)) 16)]) (rest := []) (st1 := [.int r43.1]) (wn := fun _ => wH Z b r43.2) ⟨hx, hb, hml, hown, hts⟩ (c_L_does_17 Z l hst b r23.2 (lw x1 8) (lw x1 8) (lw (x1 >>> ((3 : Int32) &&& 31)) 16) (lw (x1 >>> ((7 : Int32) &&& 31)) 16) r43 h_43) (vx_cwSW 6 hts gL_isKept_L_does rfl rfl rfl hs_L_does ⟨Nat.le_of_ble_eq_true rfl, Nat.le_of_ble_eq_true rfl⟩) hK hE hP hD hS hA hZ [0, 1, 2, 3, 4, 5, 6, 7, 8, 9, 10, 11, 12, 13, 14, 15, 16, 17, 18, 19, 20, 21, 22, 23, 24, 25, 26, 27, 28, 29, 30, 31, 32, 33, 34, 35, 36, 37, 38, 39] [] [0, 1, 2, 3, 4, 5, 6, 7, 8, 9, 10, 11, 12, 13, 14, 15, 16, 17, 18, 19, 20, 21, 22, 23, 24, 25, 26, 27, 28, 29, 30, 31, 32, 33, 34, 35, 36, 37, 38, 39] (by decide +kernel) rfl rfl (fun _ => rfl) rfl hl.1 rfl (lv_room (Nat.le_of_ble_eq_true rfl)) dL_isKept_43 ⟨(show 2 + 4 ≤ 8 by omega), (show 12 + 24 ≤ 48 by omega)⟩ rfl (fun _ H locs hP hD hS => ?_)
  refine lv_istore (pc := 46) (lv' := [(5, .int r43.1), (4, .int r23.1), (3, .int (lw (x1 >>> ((3 : Int32) &&& 31)) 16)), (2, .int (lw x1 8)), (0, .ref (b 0 0)), (1, .int x1)]) hx hb dL_isKept_46 hl (by decide) rfl (fun ls hl => ?_)
  refine lv_aload_n (pc := 48) hx hb dL_isKept_48 rfl (lv_at hl 4 rfl) ?_
  refine lv_bipush (pc := 49) (v := 16) hx hb dL_isKept_49 (by decide) ?_
  refine lv_iload_n (pc := 51) hx hb dL_isKept_51 rfl (lv_at hl 3 rfl) ?_
  refine lv_iload_n (pc := 52) hx hb dL_isKept_52 rfl (lv_at hl 2 rfl) ?_
  refine lv_iconst (pc := 53) (v := 0) hx hb dL_isKept_53 (by decide) ?_
  refine lv_iconst (pc := 54) (v := 0) hx hb dL_isKept_54 (by decide) ?_
  obtain ⟨r55, h_55, hf⟩ := bd hf
  refine wr_S (pc := 55) (As := [.ref (b 0 0), .int 16, .int (lw x1 8), .int (lw (x1 >>> ((3 : Int32) &&& 31)) 16), .int 0, .int 0]) (rest := []) (st1 := [.int r55.1]) (wn := fun _ => wH Z b r55.2) ⟨hx, hb, hml, hown, hts⟩ (c_L_does_16 Z l hst b r43.2 (lw x1 8) (lw (x1 >>> ((3 : Int32) &&& 31)) 16) 0 0 r55 h_55) (vx_cwSW 6 hts gL_isKept_L_does rfl rfl rfl hs_L_does ⟨Nat.le_of_ble_eq_true rfl, Nat.le_of_ble_eq_true rfl⟩) hK hE hP hD hS hA hZ [0, 1, 2, 3, 4, 5, 6, 7, 8, 9, 10, 11, 12, 13, 14, 15, 16, 17, 18, 19, 20, 21, 22, 23, 24, 25, 26, 27, 28, 29, 30, 31, 32, 33, 34, 35, 36, 37, 38, 39] [] [0, 1, 2, 3, 4, 5, 6, 7, 8, 9, 10, 11, 12, 13, 14, 15, 16, 17, 18, 19, 20, 21, 22, 23, 24, 25, 26, 27, 28, 29, 30, 31, 32, 33, 34, 35, 36, 37, 38, 39] (by decide +kernel) rfl rfl (fun _ => rfl) rfl hl.1 rfl (lv_room (Nat.le_of_ble_eq_true rfl)) dL_isKept_55 ⟨(show 6 + 2 ≤ 8 by omega), (show 36 + 12 ≤ 48 by omega)⟩ rfl (fun _ H locs hP hD hS => ?_)
  refine lv_iload (pc := 58) hx hb dL_isKept_58 (lv_at hl 1 rfl) ?_
  refine lv_icmp_ne (pc := 60) (tgt := 81) hx hb dL_isKept_60 (by decide) (fun c1 => ?_) (fun c1 => ?_)
  · have hf := (if_neg c1).symm.trans hf
    refine lv_iconst (pc := 81) (v := 0) hx hb dL_isKept_81 (by decide) ?_
    have hf := (Option.some.inj hf)
    subst hf
    refine W.widen (k := 8) (n := 48) (by omega) (by omega) ?_
    exact vx_ret (rw_z (fun _ => 0) hx hb hr hlk rfl rfl hP hD hS dL_isKept_82)
  · have hf := (if_pos c1).symm.trans hf
    refine lv_iload (pc := 63) hx hb dL_isKept_63 (lv_at hl 0 rfl) ?_
    refine lv_ldc (pc := 65) (v := (-2100000000)) hx hb hown w0 dL_isKept_65 ?_
    refine lv_icmp_eq (pc := 67) (tgt := 77) hx hb dL_isKept_67 (by decide) (fun c2 => ?_) (fun c2 => ?_)
    · have hf := (if_pos c2).symm.trans hf
      refine lv_iconst (pc := 77) (v := 1) hx hb dL_isKept_77 (by decide) ?_
      refine lv_goto (pc := 78) (tgt := 82) hx hb dL_isKept_78 (by decide) ?_
      have hf := (Option.some.inj hf)
      subst hf
      refine W.widen (k := 8) (n := 48) (by omega) (by omega) ?_
      exact vx_ret (rw_z (fun _ => 0) hx hb hr hlk rfl rfl hP hD hS dL_isKept_82)
    · have hf := (if_neg c2).symm.trans hf
      refine lv_iload (pc := 70) hx hb dL_isKept_70 (lv_at hl 0 rfl) ?_
      refine lv_ldc (pc := 72) (v := (-100000)) hx hb hown w1 dL_isKept_72 ?_
      refine lv_icmp_ne (pc := 74) (tgt := 81) hx hb dL_isKept_74 (by decide) (fun c3 => ?_) (fun c3 => ?_)
      · have hf := (if_neg c3).symm.trans hf
        refine lv_iconst (pc := 81) (v := 0) hx hb dL_isKept_81 (by decide) ?_
        have hf := (Option.some.inj hf)
        subst hf
        refine W.widen (k := 8) (n := 48) (by omega) (by omega) ?_
        exact vx_ret (rw_z (fun _ => 0) hx hb hr hlk rfl rfl hP hD hS dL_isKept_82)
      · have hf := (if_pos c3).symm.trans hf
        refine lv_iconst (pc := 77) (v := 1) hx hb dL_isKept_77 (by decide) ?_
        refine lv_goto (pc := 78) (tgt := 82) hx hb dL_isKept_78 (by decide) ?_
        have hf := (Option.some.inj hf)
        subst hf
        refine W.widen (k := 8) (n := 48) (by omega) (by omega) ?_
        exact vx_ret (rw_z (fun _ => 0) hx hb hr hlk rfl rfl hP hD hS dL_isKept_82)
