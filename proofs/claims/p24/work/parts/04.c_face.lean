def f_X6_control_b30 (h : Nat → ObS) (x1 : Int32) (x2 : Int32) (x3 : Int32) (x4 : Int32) (x5 : Int32)  : Option (Nat ⊕ (Int32 × (Nat → ObS))) :=
  if (f_X6_isOutside x2 0 3000) = (0 : Int32) then
    if (f_X6_isOutside x3 (-99) 99) = (0 : Int32) then
      if (f_X6_isOutside x4 0 99999) = (0 : Int32) then
        tb (f_X6_needNoMix h x5) fun r76 =>
        tb (f_X6_needRoomForController h) fun r80 =>
        (f_X1_addMeasuring (h 4) x1 x2 x3 x4 x5).bind fun r94 =>
        some (.inr (r94.1, (hu h 4 r94.2)))
      else
        some (.inl 1)
    else
      some (.inl 1)
  else
    some (.inl 1)
def f_X6_control (h : Nat → ObS) (x1 : Int32) (x2 : Int32) (x3 : Int32) (x4 : Int32) (x5 : Int32) : Option (Nat ⊕ (Int32 × (Nat → ObS))) :=
  tb (f_X6_needStream h x1) fun r2 =>
  if 100 ≤ x5 then
    tb (f_X6_needHigherController h (x5 - 100)) fun r27 =>
    f_X6_control_b30 h x1 x2 x3 x4 x5
  else
    tb (f_X6_needUnit h x5) fun r15 =>
    f_X6_control_b30 h x1 x2 x3 x4 x5
set_option maxHeartbeats 4000000 in
set_option maxRecDepth 100000 in
theorem c_X6_control (Z : EnvT) (l : Launch) (hst : l.stackTraces = false) (b : Nat → Nat → Nat) (h : Nat → ObS) (x1 : Int32) (x2 : Int32) (x3 : Int32) (x4 : Int32) (x5 : Int32) (R : Nat ⊕ (Int32 × (Nat → ObS))) (hf : f_X6_control h x1 x2 x3 x4 x5 = some R) : TH Z l yX6_control wsX6_control { frames := 7, cells := 4, slots := 24, locals := 113 } [.ref (b 0 0), .int x1, .int x2, .int x3, .int x4, .int x5] (wH Z b h) R (fun (r : Int32 × (Nat → ObS)) => (some (.int r.1))) (fun (r : Int32 × (Nat → ObS)) _ => wH Z b r.2) 4 24 := by
  refine th_of (cc := cX6_control) (maxL := 6) (ret := (some .int)) (by decide) rfl (Nat.le_of_ble_eq_true rfl) ?_
  intro p e s m below meth c A ls hx hb hr hml hts hown hlk hno hP hK hE hD hA hS hZ hl
  have hown : s.vm.findClass RX6 = some m.cls := hown
  have hl : lv_has ls 6 [(0, .ref (b 0 0)), (1, .int x1), (2, .int x2), (3, .int x3), (4, .int x4), (5, .int x5)] := hl
  have w0 := hts (.classLink RX6 66 "java/lang/IllegalArgumentException") (by decide +kernel)
  have w1 := hts (.initialized "java/lang/IllegalArgumentException") (by decide +kernel)
  have w2 := hts (.constant RX6 147 (99999)) (by decide +kernel)
  have w3 := hts (.fieldLink RX6 29 "HeatTrain" "controllers" "LHeatTrain$Controllers;") (by decide +kernel)
  have u6 : ∀ w ∈ wsX60, w ∈ wsX6_control := by decide +kernel
  have he1 : ∀ w ∈ (vx_atS RX6 70 (exN 1) exS).filter goodWord, w.before _ s = true := fun w h => hts w ((show ∀ w ∈ (vx_atS RX6 70 (exN 1) exS).filter goodWord, w ∈ wsX6_control by decide +kernel) w h)
  have B30 : ∀ (ls : Array Slot), lv_has ls 6 [(0, .ref (b 0 0)), (1, .int x1), (2, .int x2), (3, .int x3), (4, .int x4), (5, .int x5)] → ∀ (H : Heap) (locs : List Loc), va_P Z.1 vwCl (wH Z b h) H → va_D A (wH Z b h) → va_S A s.heap H locs → f_X6_control_b30 h x1 x2 x3 x4 x5 = some R → W p l e { frames := 7, cells := 4, slots := 24, locals := 113 } s m ([.ref (b 0 0), .int x1, .int x2, .int x3, .int x4, .int x5] : List Value).toArray below meth c H locs 2 12 (vx_MQ below (thQ Z R (fun (r : Int32 × (Nat → ObS)) => (some (.int r.1))) (fun (r : Int32 × (Nat → ObS)) _ => wH Z b r.2) A) (thC Z R (wH Z b h) A) ([.ref (b 0 0), .int x1, .int x2, .int x3, .int x4, .int x5] : List Value).toArray s 4 24 A) (F0 m 30 ls []) := by
    intro ls hl H locs hP hD hS hf
    rw [f_X6_control_b30] at hf
    refine lv_iload_n (pc := 30) hx hb dX6_control_30 rfl (lv_at hl 2 rfl) ?_
    refine lv_iconst (pc := 31) (v := 0) hx hb dX6_control_31 (by decide) ?_
    refine lv_sipush (pc := 32) (v := 3000) hx hb dX6_control_32 (by decide) ?_
    refine ro_S (pc := 35) (As := [.int x2, .int 0, .int 3000]) (rest := []) (st1 := [.int (f_X6_isOutside x2 0 3000)]) ⟨hx, hb, hml, hown, hts⟩ (c_X6_isOutside Z l x2 0 3000 _ rfl) (va_cwS 3 hts gX6_control_X6_isOutside rfl rfl rfl hs_X6_isOutside ⟨Nat.le_of_ble_eq_true rfl, Nat.le_of_ble_eq_true rfl⟩) hK hE (hP.sub (ws' := []) [] rfl) rfl hl.1 rfl (lv_room (Nat.le_of_ble_eq_true rfl)) dX6_control_35 ⟨Nat.le_of_ble_eq_true rfl, Nat.le_of_ble_eq_true rfl⟩ rfl ?_
    refine lv_if_ne (pc := 38) (tgt := 63) hx hb dX6_control_38 (by decide) (fun c1 => ?_) (fun c1 => ?_)
    · have hf := (if_neg c1).symm.trans hf
      exact th_throw (pc := 63) (i := 7) (text := "goal, gain or base is out of range") hx hb hst hown hno hlk thW_1 w0 w1 hE (by decide) rfl he1 hZ hS hP hD (hl.1.trans hml.symm) dX6_control_63 dX6_control_66 dX6_control_67 dX6_control_69 dX6_control_72 (Nat.le_of_ble_eq_true rfl) (Nat.le_of_ble_eq_true rfl) (Nat.le_of_ble_eq_true rfl) (Nat.le_of_ble_eq_true rfl) (Nat.le_of_ble_eq_true rfl) (Nat.le_of_ble_eq_true rfl) (Option.some.inj hf).symm
    · have hf := (if_pos c1).symm.trans hf
      refine lv_iload_n (pc := 41) hx hb dX6_control_41 rfl (lv_at hl 3 rfl) ?_
      refine lv_bipush (pc := 42) (v := (-99)) hx hb dX6_control_42 (by decide) ?_
      refine lv_bipush (pc := 44) (v := 99) hx hb dX6_control_44 (by decide) ?_
      refine ro_S (pc := 46) (As := [.int x3, .int (-99), .int 99]) (rest := []) (st1 := [.int (f_X6_isOutside x3 (-99) 99)]) ⟨hx, hb, hml, hown, hts⟩ (c_X6_isOutside Z l x3 (-99) 99 _ rfl) (va_cwS 3 hts gX6_control_X6_isOutside rfl rfl rfl hs_X6_isOutside ⟨Nat.le_of_ble_eq_true rfl, Nat.le_of_ble_eq_true rfl⟩) hK hE (hP.sub (ws' := []) [] rfl) rfl hl.1 rfl (lv_room (Nat.le_of_ble_eq_true rfl)) dX6_control_46 ⟨Nat.le_of_ble_eq_true rfl, Nat.le_of_ble_eq_true rfl⟩ rfl ?_
      refine lv_if_ne (pc := 49) (tgt := 63) hx hb dX6_control_49 (by decide) (fun c2 => ?_) (fun c2 => ?_)
      · have hf := (if_neg c2).symm.trans hf
        exact th_throw (pc := 63) (i := 7) (text := "goal, gain or base is out of range") hx hb hst hown hno hlk thW_1 w0 w1 hE (by decide) rfl he1 hZ hS hP hD (hl.1.trans hml.symm) dX6_control_63 dX6_control_66 dX6_control_67 dX6_control_69 dX6_control_72 (Nat.le_of_ble_eq_true rfl) (Nat.le_of_ble_eq_true rfl) (Nat.le_of_ble_eq_true rfl) (Nat.le_of_ble_eq_true rfl) (Nat.le_of_ble_eq_true rfl) (Nat.le_of_ble_eq_true rfl) (Option.some.inj hf).symm
      · have hf := (if_pos c2).symm.trans hf
        refine lv_iload (pc := 52) hx hb dX6_control_52 (lv_at hl 4 rfl) ?_
        refine lv_iconst (pc := 54) (v := 0) hx hb dX6_control_54 (by decide) ?_
        refine lv_ldc (pc := 55) (v := 99999) hx hb hown w2 dX6_control_55 ?_
        refine ro_S (pc := 57) (As := [.int x4, .int 0, .int 99999]) (rest := []) (st1 := [.int (f_X6_isOutside x4 0 99999)]) ⟨hx, hb, hml, hown, hts⟩ (c_X6_isOutside Z l x4 0 99999 _ rfl) (va_cwS 3 hts gX6_control_X6_isOutside rfl rfl rfl hs_X6_isOutside ⟨Nat.le_of_ble_eq_true rfl, Nat.le_of_ble_eq_true rfl⟩) hK hE (hP.sub (ws' := []) [] rfl) rfl hl.1 rfl (lv_room (Nat.le_of_ble_eq_true rfl)) dX6_control_57 ⟨Nat.le_of_ble_eq_true rfl, Nat.le_of_ble_eq_true rfl⟩ rfl ?_
        refine lv_if_eq (pc := 60) (tgt := 73) hx hb dX6_control_60 (by decide) (fun c3 => ?_) (fun c3 => ?_)
        · have hf := (if_pos c3).symm.trans hf
          refine lv_aload_n (pc := 73) hx hb dX6_control_73 rfl (lv_at hl 0 rfl) ?_
          refine lv_iload (pc := 74) hx hb dX6_control_74 (lv_at hl 5 rfl) ?_
          rcases tbd hf with ⟨k76, h_76, hf⟩ | ⟨r76, h_76, hf⟩
          · exact th_Vx (pc := 76) (C := RX6) (As := [.int x5]) (rest := []) ⟨hx, hb, hml, hown, hts⟩ (c_X6_needNoMix Z l hst b h x5 (.inl k76) h_76) (cwV 1 hts gX6_control_X6_needNoMix rfl rfl rfl hv_X6_needNoMix ⟨Nat.le_of_ble_eq_true rfl, Nat.le_of_ble_eq_true rfl⟩) hK hE hP hD hS hA hZ 6 rfl rfl rfl hl.1 rfl (lv_room (Nat.le_of_ble_eq_true rfl)) dX6_control_76 ⟨Nat.le_of_ble_eq_true rfl, Nat.le_of_ble_eq_true rfl⟩ hno hlk (Nat.le_of_ble_eq_true rfl) (Nat.le_of_ble_eq_true rfl) hf
          · refine th_Vn (pc := 76) (C := RX6) (As := [.int x5]) (rest := []) (st1 := []) ⟨hx, hb, hml, hown, hts⟩ (c_X6_needNoMix Z l hst b h x5 (.inr r76) h_76) (cwV 1 hts gX6_control_X6_needNoMix rfl rfl rfl hv_X6_needNoMix ⟨Nat.le_of_ble_eq_true rfl, Nat.le_of_ble_eq_true rfl⟩) hK hE hP hD hS hA hZ 6 rfl rfl rfl hl.1 rfl (lv_room (Nat.le_of_ble_eq_true rfl)) dX6_control_76 ⟨Nat.le_of_ble_eq_true rfl, Nat.le_of_ble_eq_true rfl⟩ rfl (fun _ H locs hP hD hS => ?_)
            refine lv_aload_n (pc := 79) hx hb dX6_control_79 rfl (lv_at hl 0 rfl) ?_
            rcases tbd hf with ⟨k80, h_80, hf⟩ | ⟨r80, h_80, hf⟩
            · exact th_Vx (pc := 80) (C := RX6) (As := []) (rest := []) ⟨hx, hb, hml, hown, hts⟩ (c_X6_needRoomForController Z l hst b h (.inl k80) h_80) (cwV 0 hts gX6_control_X6_needRoomForController rfl rfl rfl hv_X6_needRoomForController ⟨Nat.le_of_ble_eq_true rfl, Nat.le_of_ble_eq_true rfl⟩) hK hE hP hD hS hA hZ 6 rfl rfl rfl hl.1 rfl (lv_room (Nat.le_of_ble_eq_true rfl)) dX6_control_80 ⟨Nat.le_of_ble_eq_true rfl, Nat.le_of_ble_eq_true rfl⟩ hno hlk (Nat.le_of_ble_eq_true rfl) (Nat.le_of_ble_eq_true rfl) hf
            · refine th_Vn (pc := 80) (C := RX6) (As := []) (rest := []) (st1 := []) ⟨hx, hb, hml, hown, hts⟩ (c_X6_needRoomForController Z l hst b h (.inr r80) h_80) (cwV 0 hts gX6_control_X6_needRoomForController rfl rfl rfl hv_X6_needRoomForController ⟨Nat.le_of_ble_eq_true rfl, Nat.le_of_ble_eq_true rfl⟩) hK hE hP hD hS hA hZ 6 rfl rfl rfl hl.1 rfl (lv_room (Nat.le_of_ble_eq_true rfl)) dX6_control_80 ⟨Nat.le_of_ble_eq_true rfl, Nat.le_of_ble_eq_true rfl⟩ rfl (fun _ H locs hP hD hS => ?_)
              refine lv_aload_n (pc := 83) hx hb dX6_control_83 rfl (lv_at hl 0 rfl) ?_
              refine va_get (pc := 84) (D := Z.1) (ci := 6) (v := .ref (b 4 0)) (C := RX6) (T := TX6) (N := 9) hx hb hts u6 hown hK hP 0 rfl rfl 3 (by decide) w3 (fun _ h9 => h9) rfl dX6_control_84 ?_
              refine lv_iload_n (pc := 87) hx hb dX6_control_87 rfl (lv_at hl 1 rfl) ?_
              refine lv_iload_n (pc := 88) hx hb dX6_control_88 rfl (lv_at hl 2 rfl) ?_
              refine lv_iload_n (pc := 89) hx hb dX6_control_89 rfl (lv_at hl 3 rfl) ?_
              refine lv_iload (pc := 90) hx hb dX6_control_90 (lv_at hl 4 rfl) ?_
              refine lv_iload (pc := 92) hx hb dX6_control_92 (lv_at hl 5 rfl) ?_
              obtain ⟨r94, h_94, hf⟩ := bd hf
              refine rw_V (pc := 94) (C := RX1) (As := [.int x1, .int x2, .int x3, .int x4, .int x5]) (rest := []) (st1 := [.int r94.1]) (wn := fun _ => wH Z b (hu h 4 r94.2)) ⟨hx, hb, hml, hown, hts⟩ (c_X1_addMeasuring Z l (b 4) (h 4) x1 x2 x3 x4 x5 r94 h_94) (cwV 5 hts gX6_control_X1_addMeasuring rfl rfl rfl hv_X1_addMeasuring ⟨Nat.le_of_ble_eq_true rfl, Nat.le_of_ble_eq_true rfl⟩) hK hE hP hD hS hA [16, 17, 18, 19, 20, 21, 22, 23, 24, 25, 26, 27, 28, 29, 30] [0, 1, 2, 3, 4, 5, 6, 7, 8, 9, 10, 11, 12, 13, 14, 15, 31, 32, 33, 34, 35, 36, 37, 38, 39] [0, 1, 2, 3, 4, 5, 6, 7, 8, 9, 10, 11, 12, 13, 14, 15, 25, 26, 27, 28, 29, 30, 31, 32, 33, 34, 35, 36, 37, 38, 39, 16, 17, 18, 19, 20, 21, 22, 23, 24] rfl rfl rfl (fun _ => rfl) 1 rfl rfl rfl hl.1 rfl (lv_room (Nat.le_of_ble_eq_true rfl)) dX6_control_94 ⟨Nat.le_of_ble_eq_true rfl, Nat.le_of_ble_eq_true rfl⟩ rfl (fun _ H locs hP hD hS => ?_)
              have hf := (Option.some.inj hf).symm
              refine th_ret hf ?_
              exact rw_i (fun _ => 0) hx hb hr hlk rfl hP hD hS dX6_control_97
        · have hf := (if_neg c3).symm.trans hf
          exact th_throw (pc := 63) (i := 7) (text := "goal, gain or base is out of range") hx hb hst hown hno hlk thW_1 w0 w1 hE (by decide) rfl he1 hZ hS hP hD (hl.1.trans hml.symm) dX6_control_63 dX6_control_66 dX6_control_67 dX6_control_69 dX6_control_72 (Nat.le_of_ble_eq_true rfl) (Nat.le_of_ble_eq_true rfl) (Nat.le_of_ble_eq_true rfl) (Nat.le_of_ble_eq_true rfl) (Nat.le_of_ble_eq_true rfl) (Nat.le_of_ble_eq_true rfl) (Option.some.inj hf).symm
  rw [f_X6_control] at hf
  refine lv_aload_n (pc := 0) hx hb dX6_control_0 rfl (lv_at hl 0 rfl) ?_
  refine lv_iload_n (pc := 1) hx hb dX6_control_1 rfl (lv_at hl 1 rfl) ?_
  rcases tbd hf with ⟨k2, h_2, hf⟩ | ⟨r2, h_2, hf⟩
  · exact th_Vx (pc := 2) (C := RX6) (As := [.int x1]) (rest := []) ⟨hx, hb, hml, hown, hts⟩ (c_X6_needStream Z l hst b h x1 (.inl k2) h_2) (cwV 1 hts gX6_control_X6_needStream rfl rfl rfl hv_X6_needStream ⟨Nat.le_of_ble_eq_true rfl, Nat.le_of_ble_eq_true rfl⟩) hK hE hP hD hS hA hZ 6 rfl rfl rfl hl.1 rfl (lv_room (Nat.le_of_ble_eq_true rfl)) dX6_control_2 ⟨Nat.le_of_ble_eq_true rfl, Nat.le_of_ble_eq_true rfl⟩ hno hlk (Nat.le_of_ble_eq_true rfl) (Nat.le_of_ble_eq_true rfl) hf
  · refine th_Vn (pc := 2) (C := RX6) (As := [.int x1]) (rest := []) (st1 := []) ⟨hx, hb, hml, hown, hts⟩ (c_X6_needStream Z l hst b h x1 (.inr r2) h_2) (cwV 1 hts gX6_control_X6_needStream rfl rfl rfl hv_X6_needStream ⟨Nat.le_of_ble_eq_true rfl, Nat.le_of_ble_eq_true rfl⟩) hK hE hP hD hS hA hZ 6 rfl rfl rfl hl.1 rfl (lv_room (Nat.le_of_ble_eq_true rfl)) dX6_control_2 ⟨Nat.le_of_ble_eq_true rfl, Nat.le_of_ble_eq_true rfl⟩ rfl (fun _ H locs hP hD hS => ?_)
    refine lv_iload (pc := 5) hx hb dX6_control_5 (lv_at hl 5 rfl) ?_
    refine lv_bipush (pc := 7) (v := 100) hx hb dX6_control_7 (by decide) ?_
    refine lv_icmp_ge (pc := 9) (tgt := 21) hx hb dX6_control_9 (by decide) (fun c1 => ?_) (fun c1 => ?_)
    · have hf := (if_pos c1).symm.trans hf
      refine lv_aload_n (pc := 21) hx hb dX6_control_21 rfl (lv_at hl 0 rfl) ?_
      refine lv_iload (pc := 22) hx hb dX6_control_22 (lv_at hl 5 rfl) ?_
      refine lv_bipush (pc := 24) (v := 100) hx hb dX6_control_24 (by decide) ?_
      refine lv_isub (pc := 26) hx hb dX6_control_26 ?_
      rcases tbd hf with ⟨k27, h_27, hf⟩ | ⟨r27, h_27, hf⟩
      · exact th_Vx (pc := 27) (C := RX6) (As := [.int (x5 - 100)]) (rest := []) ⟨hx, hb, hml, hown, hts⟩ (c_X6_needHigherController Z l hst b h (x5 - 100) (.inl k27) h_27) (cwV 1 hts gX6_control_X6_needHigherController rfl rfl rfl hv_X6_needHigherController ⟨Nat.le_of_ble_eq_true rfl, Nat.le_of_ble_eq_true rfl⟩) hK hE hP hD hS hA hZ 6 rfl rfl rfl hl.1 rfl (lv_room (Nat.le_of_ble_eq_true rfl)) dX6_control_27 ⟨Nat.le_of_ble_eq_true rfl, Nat.le_of_ble_eq_true rfl⟩ hno hlk (Nat.le_of_ble_eq_true rfl) (Nat.le_of_ble_eq_true rfl) hf
      · refine th_Vn (pc := 27) (C := RX6) (As := [.int (x5 - 100)]) (rest := []) (st1 := []) ⟨hx, hb, hml, hown, hts⟩ (c_X6_needHigherController Z l hst b h (x5 - 100) (.inr r27) h_27) (cwV 1 hts gX6_control_X6_needHigherController rfl rfl rfl hv_X6_needHigherController ⟨Nat.le_of_ble_eq_true rfl, Nat.le_of_ble_eq_true rfl⟩) hK hE hP hD hS hA hZ 6 rfl rfl rfl hl.1 rfl (lv_room (Nat.le_of_ble_eq_true rfl)) dX6_control_27 ⟨Nat.le_of_ble_eq_true rfl, Nat.le_of_ble_eq_true rfl⟩ rfl (fun _ H locs hP hD hS => ?_)
        exact B30 _ (lv_sub hl [0, 1, 2, 3, 4, 5] rfl) _ _ hP hD hS hf
    · have hf := (if_neg c1).symm.trans hf
      refine lv_aload_n (pc := 12) hx hb dX6_control_12 rfl (lv_at hl 0 rfl) ?_
      refine lv_iload (pc := 13) hx hb dX6_control_13 (lv_at hl 5 rfl) ?_
      rcases tbd hf with ⟨k15, h_15, hf⟩ | ⟨r15, h_15, hf⟩
      · exact th_Vx (pc := 15) (C := RX6) (As := [.int x5]) (rest := []) ⟨hx, hb, hml, hown, hts⟩ (c_X6_needUnit Z l hst b h x5 (.inl k15) h_15) (cwV 1 hts gX6_control_X6_needUnit rfl rfl rfl hv_X6_needUnit ⟨Nat.le_of_ble_eq_true rfl, Nat.le_of_ble_eq_true rfl⟩) hK hE hP hD hS hA hZ 6 rfl rfl rfl hl.1 rfl (lv_room (Nat.le_of_ble_eq_true rfl)) dX6_control_15 ⟨Nat.le_of_ble_eq_true rfl, Nat.le_of_ble_eq_true rfl⟩ hno hlk (Nat.le_of_ble_eq_true rfl) (Nat.le_of_ble_eq_true rfl) hf
      · refine th_Vn (pc := 15) (C := RX6) (As := [.int x5]) (rest := []) (st1 := []) ⟨hx, hb, hml, hown, hts⟩ (c_X6_needUnit Z l hst b h x5 (.inr r15) h_15) (cwV 1 hts gX6_control_X6_needUnit rfl rfl rfl hv_X6_needUnit ⟨Nat.le_of_ble_eq_true rfl, Nat.le_of_ble_eq_true rfl⟩) hK hE hP hD hS hA hZ 6 rfl rfl rfl hl.1 rfl (lv_room (Nat.le_of_ble_eq_true rfl)) dX6_control_15 ⟨Nat.le_of_ble_eq_true rfl, Nat.le_of_ble_eq_true rfl⟩ rfl (fun _ H locs hP hD hS => ?_)
        refine lv_goto (pc := 18) (tgt := 30) hx hb dX6_control_18 (by decide) ?_
        exact B30 _ (lv_sub hl [0, 1, 2, 3, 4, 5] rfl) _ _ hP hD hS hf
def f_X6_ratio (h : Nat → ObS) (x1 : Int32) (x2 : Int32) (x3 : Int32) : Option (Nat ⊕ (Int32 × (Nat → ObS))) :=
  tb (f_X6_needStream h x1) fun r2 =>
  tb (f_X6_needUnit h x3) fun r7 =>
  if (f_X6_isOutside x2 0 999) = (0 : Int32) then
    tb (f_X6_needNoMix h x3) fun r33 =>
    tb (f_X6_needRoomForController h) fun r37 =>
    (f_X1_addRatio (h 4) x1 x2 x3).bind fun r47 =>
    some (.inr (r47.1, (hu h 4 r47.2)))
  else
    some (.inl 1)
set_option maxHeartbeats 4000000 in
set_option maxRecDepth 100000 in
theorem c_X6_ratio (Z : EnvT) (l : Launch) (hst : l.stackTraces = false) (b : Nat → Nat → Nat) (h : Nat → ObS) (x1 : Int32) (x2 : Int32) (x3 : Int32) (R : Nat ⊕ (Int32 × (Nat → ObS))) (hf : f_X6_ratio h x1 x2 x3 = some R) : TH Z l yX6_ratio wsX6_ratio { frames := 7, cells := 4, slots := 24, locals := 113 } [.ref (b 0 0), .int x1, .int x2, .int x3] (wH Z b h) R (fun (r : Int32 × (Nat → ObS)) => (some (.int r.1))) (fun (r : Int32 × (Nat → ObS)) _ => wH Z b r.2) 4 24 := by
  refine th_of (cc := cX6_ratio) (maxL := 4) (ret := (some .int)) (by decide) rfl (Nat.le_of_ble_eq_true rfl) ?_
  intro p e s m below meth c A ls hx hb hr hml hts hown hlk hno hP hK hE hD hA hS hZ hl
  have hown : s.vm.findClass RX6 = some m.cls := hown
  have hl : lv_has ls 4 [(0, .ref (b 0 0)), (1, .int x1), (2, .int x2), (3, .int x3)] := hl
  have w0 := hts (.fieldLink RX6 29 "HeatTrain" "controllers" "LHeatTrain$Controllers;") (by decide +kernel)
  have w1 := hts (.classLink RX6 66 "java/lang/IllegalArgumentException") (by decide +kernel)
  have w2 := hts (.initialized "java/lang/IllegalArgumentException") (by decide +kernel)
  have u6 : ∀ w ∈ wsX60, w ∈ wsX6_ratio := by decide +kernel
  have he1 : ∀ w ∈ (vx_atS RX6 70 (exN 1) exS).filter goodWord, w.before _ s = true := fun w h => hts w ((show ∀ w ∈ (vx_atS RX6 70 (exN 1) exS).filter goodWord, w ∈ wsX6_ratio by decide +kernel) w h)
  rw [f_X6_ratio] at hf
  refine lv_aload_n (pc := 0) hx hb dX6_ratio_0 rfl (lv_at hl 0 rfl) ?_
  refine lv_iload_n (pc := 1) hx hb dX6_ratio_1 rfl (lv_at hl 1 rfl) ?_
  rcases tbd hf with ⟨k2, h_2, hf⟩ | ⟨r2, h_2, hf⟩
  · exact th_Vx (pc := 2) (C := RX6) (As := [.int x1]) (rest := []) ⟨hx, hb, hml, hown, hts⟩ (c_X6_needStream Z l hst b h x1 (.inl k2) h_2) (cwV 1 hts gX6_ratio_X6_needStream rfl rfl rfl hv_X6_needStream ⟨Nat.le_of_ble_eq_true rfl, Nat.le_of_ble_eq_true rfl⟩) hK hE hP hD hS hA hZ 6 rfl rfl rfl hl.1 rfl (lv_room (Nat.le_of_ble_eq_true rfl)) dX6_ratio_2 ⟨Nat.le_of_ble_eq_true rfl, Nat.le_of_ble_eq_true rfl⟩ hno hlk (Nat.le_of_ble_eq_true rfl) (Nat.le_of_ble_eq_true rfl) hf
  · refine th_Vn (pc := 2) (C := RX6) (As := [.int x1]) (rest := []) (st1 := []) ⟨hx, hb, hml, hown, hts⟩ (c_X6_needStream Z l hst b h x1 (.inr r2) h_2) (cwV 1 hts gX6_ratio_X6_needStream rfl rfl rfl hv_X6_needStream ⟨Nat.le_of_ble_eq_true rfl, Nat.le_of_ble_eq_true rfl⟩) hK hE hP hD hS hA hZ 6 rfl rfl rfl hl.1 rfl (lv_room (Nat.le_of_ble_eq_true rfl)) dX6_ratio_2 ⟨Nat.le_of_ble_eq_true rfl, Nat.le_of_ble_eq_true rfl⟩ rfl (fun _ H locs hP hD hS => ?_)
    refine lv_aload_n (pc := 5) hx hb dX6_ratio_5 rfl (lv_at hl 0 rfl) ?_
    refine lv_iload_n (pc := 6) hx hb dX6_ratio_6 rfl (lv_at hl 3 rfl) ?_
    rcases tbd hf with ⟨k7, h_7, hf⟩ | ⟨r7, h_7, hf⟩
    · exact th_Vx (pc := 7) (C := RX6) (As := [.int x3]) (rest := []) ⟨hx, hb, hml, hown, hts⟩ (c_X6_needUnit Z l hst b h x3 (.inl k7) h_7) (cwV 1 hts gX6_ratio_X6_needUnit rfl rfl rfl hv_X6_needUnit ⟨Nat.le_of_ble_eq_true rfl, Nat.le_of_ble_eq_true rfl⟩) hK hE hP hD hS hA hZ 6 rfl rfl rfl hl.1 rfl (lv_room (Nat.le_of_ble_eq_true rfl)) dX6_ratio_7 ⟨Nat.le_of_ble_eq_true rfl, Nat.le_of_ble_eq_true rfl⟩ hno hlk (Nat.le_of_ble_eq_true rfl) (Nat.le_of_ble_eq_true rfl) hf
    · refine th_Vn (pc := 7) (C := RX6) (As := [.int x3]) (rest := []) (st1 := []) ⟨hx, hb, hml, hown, hts⟩ (c_X6_needUnit Z l hst b h x3 (.inr r7) h_7) (cwV 1 hts gX6_ratio_X6_needUnit rfl rfl rfl hv_X6_needUnit ⟨Nat.le_of_ble_eq_true rfl, Nat.le_of_ble_eq_true rfl⟩) hK hE hP hD hS hA hZ 6 rfl rfl rfl hl.1 rfl (lv_room (Nat.le_of_ble_eq_true rfl)) dX6_ratio_7 ⟨Nat.le_of_ble_eq_true rfl, Nat.le_of_ble_eq_true rfl⟩ rfl (fun _ H locs hP hD hS => ?_)
      refine lv_iload_n (pc := 10) hx hb dX6_ratio_10 rfl (lv_at hl 2 rfl) ?_
      refine lv_iconst (pc := 11) (v := 0) hx hb dX6_ratio_11 (by decide) ?_
      refine lv_sipush (pc := 12) (v := 999) hx hb dX6_ratio_12 (by decide) ?_
      refine ro_S (pc := 15) (As := [.int x2, .int 0, .int 999]) (rest := []) (st1 := [.int (f_X6_isOutside x2 0 999)]) ⟨hx, hb, hml, hown, hts⟩ (c_X6_isOutside Z l x2 0 999 _ rfl) (va_cwS 3 hts gX6_ratio_X6_isOutside rfl rfl rfl hs_X6_isOutside ⟨Nat.le_of_ble_eq_true rfl, Nat.le_of_ble_eq_true rfl⟩) hK hE (hP.sub (ws' := []) [] rfl) rfl hl.1 rfl (lv_room (Nat.le_of_ble_eq_true rfl)) dX6_ratio_15 ⟨Nat.le_of_ble_eq_true rfl, Nat.le_of_ble_eq_true rfl⟩ rfl ?_
      refine lv_if_eq (pc := 18) (tgt := 31) hx hb dX6_ratio_18 (by decide) (fun c1 => ?_) (fun c1 => ?_)
      · have hf := (if_pos c1).symm.trans hf
        refine lv_aload_n (pc := 31) hx hb dX6_ratio_31 rfl (lv_at hl 0 rfl) ?_
        refine lv_iload_n (pc := 32) hx hb dX6_ratio_32 rfl (lv_at hl 3 rfl) ?_
        rcases tbd hf with ⟨k33, h_33, hf⟩ | ⟨r33, h_33, hf⟩
        · exact th_Vx (pc := 33) (C := RX6) (As := [.int x3]) (rest := []) ⟨hx, hb, hml, hown, hts⟩ (c_X6_needNoMix Z l hst b h x3 (.inl k33) h_33) (cwV 1 hts gX6_ratio_X6_needNoMix rfl rfl rfl hv_X6_needNoMix ⟨Nat.le_of_ble_eq_true rfl, Nat.le_of_ble_eq_true rfl⟩) hK hE hP hD hS hA hZ 6 rfl rfl rfl hl.1 rfl (lv_room (Nat.le_of_ble_eq_true rfl)) dX6_ratio_33 ⟨Nat.le_of_ble_eq_true rfl, Nat.le_of_ble_eq_true rfl⟩ hno hlk (Nat.le_of_ble_eq_true rfl) (Nat.le_of_ble_eq_true rfl) hf
        · refine th_Vn (pc := 33) (C := RX6) (As := [.int x3]) (rest := []) (st1 := []) ⟨hx, hb, hml, hown, hts⟩ (c_X6_needNoMix Z l hst b h x3 (.inr r33) h_33) (cwV 1 hts gX6_ratio_X6_needNoMix rfl rfl rfl hv_X6_needNoMix ⟨Nat.le_of_ble_eq_true rfl, Nat.le_of_ble_eq_true rfl⟩) hK hE hP hD hS hA hZ 6 rfl rfl rfl hl.1 rfl (lv_room (Nat.le_of_ble_eq_true rfl)) dX6_ratio_33 ⟨Nat.le_of_ble_eq_true rfl, Nat.le_of_ble_eq_true rfl⟩ rfl (fun _ H locs hP hD hS => ?_)
          refine lv_aload_n (pc := 36) hx hb dX6_ratio_36 rfl (lv_at hl 0 rfl) ?_
          rcases tbd hf with ⟨k37, h_37, hf⟩ | ⟨r37, h_37, hf⟩
          · exact th_Vx (pc := 37) (C := RX6) (As := []) (rest := []) ⟨hx, hb, hml, hown, hts⟩ (c_X6_needRoomForController Z l hst b h (.inl k37) h_37) (cwV 0 hts gX6_ratio_X6_needRoomForController rfl rfl rfl hv_X6_needRoomForController ⟨Nat.le_of_ble_eq_true rfl, Nat.le_of_ble_eq_true rfl⟩) hK hE hP hD hS hA hZ 6 rfl rfl rfl hl.1 rfl (lv_room (Nat.le_of_ble_eq_true rfl)) dX6_ratio_37 ⟨Nat.le_of_ble_eq_true rfl, Nat.le_of_ble_eq_true rfl⟩ hno hlk (Nat.le_of_ble_eq_true rfl) (Nat.le_of_ble_eq_true rfl) hf
          · refine th_Vn (pc := 37) (C := RX6) (As := []) (rest := []) (st1 := []) ⟨hx, hb, hml, hown, hts⟩ (c_X6_needRoomForController Z l hst b h (.inr r37) h_37) (cwV 0 hts gX6_ratio_X6_needRoomForController rfl rfl rfl hv_X6_needRoomForController ⟨Nat.le_of_ble_eq_true rfl, Nat.le_of_ble_eq_true rfl⟩) hK hE hP hD hS hA hZ 6 rfl rfl rfl hl.1 rfl (lv_room (Nat.le_of_ble_eq_true rfl)) dX6_ratio_37 ⟨Nat.le_of_ble_eq_true rfl, Nat.le_of_ble_eq_true rfl⟩ rfl (fun _ H locs hP hD hS => ?_)
            refine lv_aload_n (pc := 40) hx hb dX6_ratio_40 rfl (lv_at hl 0 rfl) ?_
            refine va_get (pc := 41) (D := Z.1) (ci := 6) (v := .ref (b 4 0)) (C := RX6) (T := TX6) (N := 9) hx hb hts u6 hown hK hP 0 rfl rfl 3 (by decide) w0 (fun _ h9 => h9) rfl dX6_ratio_41 ?_
            refine lv_iload_n (pc := 44) hx hb dX6_ratio_44 rfl (lv_at hl 1 rfl) ?_
            refine lv_iload_n (pc := 45) hx hb dX6_ratio_45 rfl (lv_at hl 2 rfl) ?_
            refine lv_iload_n (pc := 46) hx hb dX6_ratio_46 rfl (lv_at hl 3 rfl) ?_
            obtain ⟨r47, h_47, hf⟩ := bd hf
            refine rw_V (pc := 47) (C := RX1) (As := [.int x1, .int x2, .int x3]) (rest := []) (st1 := [.int r47.1]) (wn := fun _ => wH Z b (hu h 4 r47.2)) ⟨hx, hb, hml, hown, hts⟩ (c_X1_addRatio Z l (b 4) (h 4) x1 x2 x3 r47 h_47) (cwV 3 hts gX6_ratio_X1_addRatio rfl rfl rfl hv_X1_addRatio ⟨Nat.le_of_ble_eq_true rfl, Nat.le_of_ble_eq_true rfl⟩) hK hE hP hD hS hA [16, 17, 18, 19, 20, 21, 22, 23, 24, 25, 26, 27, 28, 29, 30] [0, 1, 2, 3, 4, 5, 6, 7, 8, 9, 10, 11, 12, 13, 14, 15, 31, 32, 33, 34, 35, 36, 37, 38, 39] [0, 1, 2, 3, 4, 5, 6, 7, 8, 9, 10, 11, 12, 13, 14, 15, 25, 26, 27, 28, 29, 30, 31, 32, 33, 34, 35, 36, 37, 38, 39, 16, 17, 18, 19, 20, 21, 22, 23, 24] rfl rfl rfl (fun _ => rfl) 1 rfl rfl rfl hl.1 rfl (lv_room (Nat.le_of_ble_eq_true rfl)) dX6_ratio_47 ⟨Nat.le_of_ble_eq_true rfl, Nat.le_of_ble_eq_true rfl⟩ rfl (fun _ H locs hP hD hS => ?_)
            have hf := (Option.some.inj hf).symm
            refine th_ret hf ?_
            exact rw_i (fun _ => 0) hx hb hr hlk rfl hP hD hS dX6_ratio_50
      · have hf := (if_neg c1).symm.trans hf
        exact th_throw (pc := 21) (i := 8) (text := "hundredths is out of range") hx hb hst hown hno hlk thW_1 w1 w2 hE (by decide) rfl he1 hZ hS hP hD (hl.1.trans hml.symm) dX6_ratio_21 dX6_ratio_24 dX6_ratio_25 dX6_ratio_27 dX6_ratio_30 (Nat.le_of_ble_eq_true rfl) (Nat.le_of_ble_eq_true rfl) (Nat.le_of_ble_eq_true rfl) (Nat.le_of_ble_eq_true rfl) (Nat.le_of_ble_eq_true rfl) (Nat.le_of_ble_eq_true rfl) (Option.some.inj hf).symm
def f_X6_feed (h : Nat → ObS) (x1 : Int32) (x2 : Int32) (x3 : Int32) : Option (Nat ⊕ (Nat → ObS)) :=
  tb (f_X6_needController h x1) fun r2 =>
  tb (f_X6_needStream h x2) fun r7 =>
  if (f_X6_isOutside x3 (-500) 500) = (0 : Int32) then
    tb (f_X6_needMeasuring h x1) fun r35 =>
    (f_X1_putFeed (h 4) x1 x2 x3).bind fun r45 =>
    some (.inr ((hu h 4 r45)))
  else
    some (.inl 1)
set_option maxHeartbeats 4000000 in
set_option maxRecDepth 100000 in
theorem c_X6_feed (Z : EnvT) (l : Launch) (hst : l.stackTraces = false) (b : Nat → Nat → Nat) (h : Nat → ObS) (x1 : Int32) (x2 : Int32) (x3 : Int32) (R : Nat ⊕ (Nat → ObS)) (hf : f_X6_feed h x1 x2 x3 = some R) : TH Z l yX6_feed wsX6_feed { frames := 7, cells := 3, slots := 18, locals := 113 } [.ref (b 0 0), .int x1, .int x2, .int x3] (wH Z b h) R (fun (r : (Nat → ObS)) => none) (fun (r : (Nat → ObS)) _ => wH Z b r) 3 18 := by
  refine th_of (cc := cX6_feed) (maxL := 4) (ret := none) (by decide) rfl (Nat.le_of_ble_eq_true rfl) ?_
  intro p e s m below meth c A ls hx hb hr hml hts hown hlk hno hP hK hE hD hA hS hZ hl
  have hown : s.vm.findClass RX6 = some m.cls := hown
  have hl : lv_has ls 4 [(0, .ref (b 0 0)), (1, .int x1), (2, .int x2), (3, .int x3)] := hl
  have w0 := hts (.fieldLink RX6 29 "HeatTrain" "controllers" "LHeatTrain$Controllers;") (by decide +kernel)
  have w1 := hts (.classLink RX6 66 "java/lang/IllegalArgumentException") (by decide +kernel)
  have w2 := hts (.initialized "java/lang/IllegalArgumentException") (by decide +kernel)
  have u6 : ∀ w ∈ wsX60, w ∈ wsX6_feed := by decide +kernel
  have he1 : ∀ w ∈ (vx_atS RX6 70 (exN 1) exS).filter goodWord, w.before _ s = true := fun w h => hts w ((show ∀ w ∈ (vx_atS RX6 70 (exN 1) exS).filter goodWord, w ∈ wsX6_feed by decide +kernel) w h)
  rw [f_X6_feed] at hf
  refine lv_aload_n (pc := 0) hx hb dX6_feed_0 rfl (lv_at hl 0 rfl) ?_
  refine lv_iload_n (pc := 1) hx hb dX6_feed_1 rfl (lv_at hl 1 rfl) ?_
  rcases tbd hf with ⟨k2, h_2, hf⟩ | ⟨r2, h_2, hf⟩
  · exact th_Vx (pc := 2) (C := RX6) (As := [.int x1]) (rest := []) ⟨hx, hb, hml, hown, hts⟩ (c_X6_needController Z l hst b h x1 (.inl k2) h_2) (cwV 1 hts gX6_feed_X6_needController rfl rfl rfl hv_X6_needController ⟨Nat.le_of_ble_eq_true rfl, Nat.le_of_ble_eq_true rfl⟩) hK hE hP hD hS hA hZ 6 rfl rfl rfl hl.1 rfl (lv_room (Nat.le_of_ble_eq_true rfl)) dX6_feed_2 ⟨Nat.le_of_ble_eq_true rfl, Nat.le_of_ble_eq_true rfl⟩ hno hlk (Nat.le_of_ble_eq_true rfl) (Nat.le_of_ble_eq_true rfl) hf
  · refine th_Vn (pc := 2) (C := RX6) (As := [.int x1]) (rest := []) (st1 := []) ⟨hx, hb, hml, hown, hts⟩ (c_X6_needController Z l hst b h x1 (.inr r2) h_2) (cwV 1 hts gX6_feed_X6_needController rfl rfl rfl hv_X6_needController ⟨Nat.le_of_ble_eq_true rfl, Nat.le_of_ble_eq_true rfl⟩) hK hE hP hD hS hA hZ 6 rfl rfl rfl hl.1 rfl (lv_room (Nat.le_of_ble_eq_true rfl)) dX6_feed_2 ⟨Nat.le_of_ble_eq_true rfl, Nat.le_of_ble_eq_true rfl⟩ rfl (fun _ H locs hP hD hS => ?_)
    refine lv_aload_n (pc := 5) hx hb dX6_feed_5 rfl (lv_at hl 0 rfl) ?_
    refine lv_iload_n (pc := 6) hx hb dX6_feed_6 rfl (lv_at hl 2 rfl) ?_
    rcases tbd hf with ⟨k7, h_7, hf⟩ | ⟨r7, h_7, hf⟩
    · exact th_Vx (pc := 7) (C := RX6) (As := [.int x2]) (rest := []) ⟨hx, hb, hml, hown, hts⟩ (c_X6_needStream Z l hst b h x2 (.inl k7) h_7) (cwV 1 hts gX6_feed_X6_needStream rfl rfl rfl hv_X6_needStream ⟨Nat.le_of_ble_eq_true rfl, Nat.le_of_ble_eq_true rfl⟩) hK hE hP hD hS hA hZ 6 rfl rfl rfl hl.1 rfl (lv_room (Nat.le_of_ble_eq_true rfl)) dX6_feed_7 ⟨Nat.le_of_ble_eq_true rfl, Nat.le_of_ble_eq_true rfl⟩ hno hlk (Nat.le_of_ble_eq_true rfl) (Nat.le_of_ble_eq_true rfl) hf
    · refine th_Vn (pc := 7) (C := RX6) (As := [.int x2]) (rest := []) (st1 := []) ⟨hx, hb, hml, hown, hts⟩ (c_X6_needStream Z l hst b h x2 (.inr r7) h_7) (cwV 1 hts gX6_feed_X6_needStream rfl rfl rfl hv_X6_needStream ⟨Nat.le_of_ble_eq_true rfl, Nat.le_of_ble_eq_true rfl⟩) hK hE hP hD hS hA hZ 6 rfl rfl rfl hl.1 rfl (lv_room (Nat.le_of_ble_eq_true rfl)) dX6_feed_7 ⟨Nat.le_of_ble_eq_true rfl, Nat.le_of_ble_eq_true rfl⟩ rfl (fun _ H locs hP hD hS => ?_)
      refine lv_iload_n (pc := 10) hx hb dX6_feed_10 rfl (lv_at hl 3 rfl) ?_
      refine lv_sipush (pc := 11) (v := (-500)) hx hb dX6_feed_11 (by decide) ?_
      refine lv_sipush (pc := 14) (v := 500) hx hb dX6_feed_14 (by decide) ?_
      refine ro_S (pc := 17) (As := [.int x3, .int (-500), .int 500]) (rest := []) (st1 := [.int (f_X6_isOutside x3 (-500) 500)]) ⟨hx, hb, hml, hown, hts⟩ (c_X6_isOutside Z l x3 (-500) 500 _ rfl) (va_cwS 3 hts gX6_feed_X6_isOutside rfl rfl rfl hs_X6_isOutside ⟨Nat.le_of_ble_eq_true rfl, Nat.le_of_ble_eq_true rfl⟩) hK hE (hP.sub (ws' := []) [] rfl) rfl hl.1 rfl (lv_room (Nat.le_of_ble_eq_true rfl)) dX6_feed_17 ⟨Nat.le_of_ble_eq_true rfl, Nat.le_of_ble_eq_true rfl⟩ rfl ?_
      refine lv_if_eq (pc := 20) (tgt := 33) hx hb dX6_feed_20 (by decide) (fun c1 => ?_) (fun c1 => ?_)
      · have hf := (if_pos c1).symm.trans hf
        refine lv_aload_n (pc := 33) hx hb dX6_feed_33 rfl (lv_at hl 0 rfl) ?_
        refine lv_iload_n (pc := 34) hx hb dX6_feed_34 rfl (lv_at hl 1 rfl) ?_
        rcases tbd hf with ⟨k35, h_35, hf⟩ | ⟨r35, h_35, hf⟩
        · exact th_Vx (pc := 35) (C := RX6) (As := [.int x1]) (rest := []) ⟨hx, hb, hml, hown, hts⟩ (c_X6_needMeasuring Z l hst b h x1 (.inl k35) h_35) (cwV 1 hts gX6_feed_X6_needMeasuring rfl rfl rfl hv_X6_needMeasuring ⟨Nat.le_of_ble_eq_true rfl, Nat.le_of_ble_eq_true rfl⟩) hK hE hP hD hS hA hZ 6 rfl rfl rfl hl.1 rfl (lv_room (Nat.le_of_ble_eq_true rfl)) dX6_feed_35 ⟨Nat.le_of_ble_eq_true rfl, Nat.le_of_ble_eq_true rfl⟩ hno hlk (Nat.le_of_ble_eq_true rfl) (Nat.le_of_ble_eq_true rfl) hf
        · refine th_Vn (pc := 35) (C := RX6) (As := [.int x1]) (rest := []) (st1 := []) ⟨hx, hb, hml, hown, hts⟩ (c_X6_needMeasuring Z l hst b h x1 (.inr r35) h_35) (cwV 1 hts gX6_feed_X6_needMeasuring rfl rfl rfl hv_X6_needMeasuring ⟨Nat.le_of_ble_eq_true rfl, Nat.le_of_ble_eq_true rfl⟩) hK hE hP hD hS hA hZ 6 rfl rfl rfl hl.1 rfl (lv_room (Nat.le_of_ble_eq_true rfl)) dX6_feed_35 ⟨Nat.le_of_ble_eq_true rfl, Nat.le_of_ble_eq_true rfl⟩ rfl (fun _ H locs hP hD hS => ?_)
          refine lv_aload_n (pc := 38) hx hb dX6_feed_38 rfl (lv_at hl 0 rfl) ?_
          refine va_get (pc := 39) (D := Z.1) (ci := 6) (v := .ref (b 4 0)) (C := RX6) (T := TX6) (N := 9) hx hb hts u6 hown hK hP 0 rfl rfl 3 (by decide) w0 (fun _ h9 => h9) rfl dX6_feed_39 ?_
          refine lv_iload_n (pc := 42) hx hb dX6_feed_42 rfl (lv_at hl 1 rfl) ?_
          refine lv_iload_n (pc := 43) hx hb dX6_feed_43 rfl (lv_at hl 2 rfl) ?_
          refine lv_iload_n (pc := 44) hx hb dX6_feed_44 rfl (lv_at hl 3 rfl) ?_
          obtain ⟨r45, h_45, hf⟩ := bd hf
          refine rw_V (pc := 45) (C := RX1) (As := [.int x1, .int x2, .int x3]) (rest := []) (st1 := []) (wn := fun _ => wH Z b (hu h 4 r45)) ⟨hx, hb, hml, hown, hts⟩ (c_X1_putFeed Z l (b 4) (h 4) x1 x2 x3 r45 h_45) (cwV 3 hts gX6_feed_X1_putFeed rfl rfl rfl hv_X1_putFeed ⟨Nat.le_of_ble_eq_true rfl, Nat.le_of_ble_eq_true rfl⟩) hK hE hP hD hS hA [16, 17, 18, 19, 20, 21, 22, 23, 24, 25, 26, 27, 28, 29, 30] [0, 1, 2, 3, 4, 5, 6, 7, 8, 9, 10, 11, 12, 13, 14, 15, 31, 32, 33, 34, 35, 36, 37, 38, 39] [0, 1, 2, 3, 4, 5, 6, 7, 8, 9, 10, 11, 12, 13, 14, 15, 25, 26, 27, 28, 29, 30, 31, 32, 33, 34, 35, 36, 37, 38, 39, 16, 17, 18, 19, 20, 21, 22, 23, 24] rfl rfl rfl (fun _ => rfl) 1 rfl rfl rfl hl.1 rfl (lv_room (Nat.le_of_ble_eq_true rfl)) dX6_feed_45 ⟨Nat.le_of_ble_eq_true rfl, Nat.le_of_ble_eq_true rfl⟩ rfl (fun _ H locs hP hD hS => ?_)
          have hf := (Option.some.inj hf).symm
          refine th_ret hf ?_
          exact rw_v (fun _ => 0) hx hb hr hlk hP hD hS dX6_feed_48
      · have hf := (if_neg c1).symm.trans hf
        exact th_throw (pc := 23) (i := 8) (text := "hundredths is out of range") hx hb hst hown hno hlk thW_1 w1 w2 hE (by decide) rfl he1 hZ hS hP hD (hl.1.trans hml.symm) dX6_feed_23 dX6_feed_26 dX6_feed_27 dX6_feed_29 dX6_feed_32 (Nat.le_of_ble_eq_true rfl) (Nat.le_of_ble_eq_true rfl) (Nat.le_of_ble_eq_true rfl) (Nat.le_of_ble_eq_true rfl) (Nat.le_of_ble_eq_true rfl) (Nat.le_of_ble_eq_true rfl) (Option.some.inj hf).symm
def f_X6_aim (h : Nat → ObS) (x1 : Int32) (x2 : Int32) (x3 : Int32) : Option (Nat ⊕ (Int32 × (Nat → ObS))) :=
  tb (f_X6_needController h x1) fun r2 =>
  if (f_X6_isOutside x2 0 3000) = (0 : Int32) then
    if (f_X6_isOutside x3 0 3000) = (0 : Int32) then
      tb (f_X6_needMeasuring h x1) fun r39 =>
      (f_X1_aimAt (h 4) x1 x2 x3).bind fun r49 =>
      some (.inr (r49.1, (hu h 4 r49.2)))
    else
      some (.inl 1)
  else
    some (.inl 1)
set_option maxHeartbeats 4000000 in
set_option maxRecDepth 100000 in
theorem c_X6_aim (Z : EnvT) (l : Launch) (hst : l.stackTraces = false) (b : Nat → Nat → Nat) (h : Nat → ObS) (x1 : Int32) (x2 : Int32) (x3 : Int32) (R : Nat ⊕ (Int32 × (Nat → ObS))) (hf : f_X6_aim h x1 x2 x3 = some R) : TH Z l yX6_aim wsX6_aim { frames := 7, cells := 2, slots := 12, locals := 113 } [.ref (b 0 0), .int x1, .int x2, .int x3] (wH Z b h) R (fun (r : Int32 × (Nat → ObS)) => (some (.int r.1))) (fun (r : Int32 × (Nat → ObS)) _ => wH Z b r.2) 2 12 := by
  refine th_of (cc := cX6_aim) (maxL := 4) (ret := (some .int)) (by decide) rfl (Nat.le_of_ble_eq_true rfl) ?_
  intro p e s m below meth c A ls hx hb hr hml hts hown hlk hno hP hK hE hD hA hS hZ hl
  have hown : s.vm.findClass RX6 = some m.cls := hown
  have hl : lv_has ls 4 [(0, .ref (b 0 0)), (1, .int x1), (2, .int x2), (3, .int x3)] := hl
  have w0 := hts (.classLink RX6 66 "java/lang/IllegalArgumentException") (by decide +kernel)
  have w1 := hts (.initialized "java/lang/IllegalArgumentException") (by decide +kernel)
  have w2 := hts (.fieldLink RX6 29 "HeatTrain" "controllers" "LHeatTrain$Controllers;") (by decide +kernel)
  have u6 : ∀ w ∈ wsX60, w ∈ wsX6_aim := by decide +kernel
  have he1 : ∀ w ∈ (vx_atS RX6 70 (exN 1) exS).filter goodWord, w.before _ s = true := fun w h => hts w ((show ∀ w ∈ (vx_atS RX6 70 (exN 1) exS).filter goodWord, w ∈ wsX6_aim by decide +kernel) w h)
  rw [f_X6_aim] at hf
  refine lv_aload_n (pc := 0) hx hb dX6_aim_0 rfl (lv_at hl 0 rfl) ?_
  refine lv_iload_n (pc := 1) hx hb dX6_aim_1 rfl (lv_at hl 1 rfl) ?_
  rcases tbd hf with ⟨k2, h_2, hf⟩ | ⟨r2, h_2, hf⟩
  · exact th_Vx (pc := 2) (C := RX6) (As := [.int x1]) (rest := []) ⟨hx, hb, hml, hown, hts⟩ (c_X6_needController Z l hst b h x1 (.inl k2) h_2) (cwV 1 hts gX6_aim_X6_needController rfl rfl rfl hv_X6_needController ⟨Nat.le_of_ble_eq_true rfl, Nat.le_of_ble_eq_true rfl⟩) hK hE hP hD hS hA hZ 6 rfl rfl rfl hl.1 rfl (lv_room (Nat.le_of_ble_eq_true rfl)) dX6_aim_2 ⟨Nat.le_of_ble_eq_true rfl, Nat.le_of_ble_eq_true rfl⟩ hno hlk (Nat.le_of_ble_eq_true rfl) (Nat.le_of_ble_eq_true rfl) hf
  · refine th_Vn (pc := 2) (C := RX6) (As := [.int x1]) (rest := []) (st1 := []) ⟨hx, hb, hml, hown, hts⟩ (c_X6_needController Z l hst b h x1 (.inr r2) h_2) (cwV 1 hts gX6_aim_X6_needController rfl rfl rfl hv_X6_needController ⟨Nat.le_of_ble_eq_true rfl, Nat.le_of_ble_eq_true rfl⟩) hK hE hP hD hS hA hZ 6 rfl rfl rfl hl.1 rfl (lv_room (Nat.le_of_ble_eq_true rfl)) dX6_aim_2 ⟨Nat.le_of_ble_eq_true rfl, Nat.le_of_ble_eq_true rfl⟩ rfl (fun _ H locs hP hD hS => ?_)
    refine lv_iload_n (pc := 5) hx hb dX6_aim_5 rfl (lv_at hl 2 rfl) ?_
    refine lv_iconst (pc := 6) (v := 0) hx hb dX6_aim_6 (by decide) ?_
    refine lv_sipush (pc := 7) (v := 3000) hx hb dX6_aim_7 (by decide) ?_
    refine ro_S (pc := 10) (As := [.int x2, .int 0, .int 3000]) (rest := []) (st1 := [.int (f_X6_isOutside x2 0 3000)]) ⟨hx, hb, hml, hown, hts⟩ (c_X6_isOutside Z l x2 0 3000 _ rfl) (va_cwS 3 hts gX6_aim_X6_isOutside rfl rfl rfl hs_X6_isOutside ⟨Nat.le_of_ble_eq_true rfl, Nat.le_of_ble_eq_true rfl⟩) hK hE (hP.sub (ws' := []) [] rfl) rfl hl.1 rfl (lv_room (Nat.le_of_ble_eq_true rfl)) dX6_aim_10 ⟨Nat.le_of_ble_eq_true rfl, Nat.le_of_ble_eq_true rfl⟩ rfl ?_
    refine lv_if_ne (pc := 13) (tgt := 27) hx hb dX6_aim_13 (by decide) (fun c1 => ?_) (fun c1 => ?_)
    · have hf := (if_neg c1).symm.trans hf
      exact th_throw (pc := 27) (i := 9) (text := "goal or limit is out of range") hx hb hst hown hno hlk thW_1 w0 w1 hE (by decide) rfl he1 hZ hS hP hD (hl.1.trans hml.symm) dX6_aim_27 dX6_aim_30 dX6_aim_31 dX6_aim_33 dX6_aim_36 (Nat.le_of_ble_eq_true rfl) (Nat.le_of_ble_eq_true rfl) (Nat.le_of_ble_eq_true rfl) (Nat.le_of_ble_eq_true rfl) (Nat.le_of_ble_eq_true rfl) (Nat.le_of_ble_eq_true rfl) (Option.some.inj hf).symm
    · have hf := (if_pos c1).symm.trans hf
      refine lv_iload_n (pc := 16) hx hb dX6_aim_16 rfl (lv_at hl 3 rfl) ?_
      refine lv_iconst (pc := 17) (v := 0) hx hb dX6_aim_17 (by decide) ?_
      refine lv_sipush (pc := 18) (v := 3000) hx hb dX6_aim_18 (by decide) ?_
      refine ro_S (pc := 21) (As := [.int x3, .int 0, .int 3000]) (rest := []) (st1 := [.int (f_X6_isOutside x3 0 3000)]) ⟨hx, hb, hml, hown, hts⟩ (c_X6_isOutside Z l x3 0 3000 _ rfl) (va_cwS 3 hts gX6_aim_X6_isOutside rfl rfl rfl hs_X6_isOutside ⟨Nat.le_of_ble_eq_true rfl, Nat.le_of_ble_eq_true rfl⟩) hK hE (hP.sub (ws' := []) [] rfl) rfl hl.1 rfl (lv_room (Nat.le_of_ble_eq_true rfl)) dX6_aim_21 ⟨Nat.le_of_ble_eq_true rfl, Nat.le_of_ble_eq_true rfl⟩ rfl ?_
      refine lv_if_eq (pc := 24) (tgt := 37) hx hb dX6_aim_24 (by decide) (fun c2 => ?_) (fun c2 => ?_)
      · have hf := (if_pos c2).symm.trans hf
        refine lv_aload_n (pc := 37) hx hb dX6_aim_37 rfl (lv_at hl 0 rfl) ?_
        refine lv_iload_n (pc := 38) hx hb dX6_aim_38 rfl (lv_at hl 1 rfl) ?_
        rcases tbd hf with ⟨k39, h_39, hf⟩ | ⟨r39, h_39, hf⟩
        · exact th_Vx (pc := 39) (C := RX6) (As := [.int x1]) (rest := []) ⟨hx, hb, hml, hown, hts⟩ (c_X6_needMeasuring Z l hst b h x1 (.inl k39) h_39) (cwV 1 hts gX6_aim_X6_needMeasuring rfl rfl rfl hv_X6_needMeasuring ⟨Nat.le_of_ble_eq_true rfl, Nat.le_of_ble_eq_true rfl⟩) hK hE hP hD hS hA hZ 6 rfl rfl rfl hl.1 rfl (lv_room (Nat.le_of_ble_eq_true rfl)) dX6_aim_39 ⟨Nat.le_of_ble_eq_true rfl, Nat.le_of_ble_eq_true rfl⟩ hno hlk (Nat.le_of_ble_eq_true rfl) (Nat.le_of_ble_eq_true rfl) hf
        · refine th_Vn (pc := 39) (C := RX6) (As := [.int x1]) (rest := []) (st1 := []) ⟨hx, hb, hml, hown, hts⟩ (c_X6_needMeasuring Z l hst b h x1 (.inr r39) h_39) (cwV 1 hts gX6_aim_X6_needMeasuring rfl rfl rfl hv_X6_needMeasuring ⟨Nat.le_of_ble_eq_true rfl, Nat.le_of_ble_eq_true rfl⟩) hK hE hP hD hS hA hZ 6 rfl rfl rfl hl.1 rfl (lv_room (Nat.le_of_ble_eq_true rfl)) dX6_aim_39 ⟨Nat.le_of_ble_eq_true rfl, Nat.le_of_ble_eq_true rfl⟩ rfl (fun _ H locs hP hD hS => ?_)
          refine lv_aload_n (pc := 42) hx hb dX6_aim_42 rfl (lv_at hl 0 rfl) ?_
          refine va_get (pc := 43) (D := Z.1) (ci := 6) (v := .ref (b 4 0)) (C := RX6) (T := TX6) (N := 9) hx hb hts u6 hown hK hP 0 rfl rfl 3 (by decide) w2 (fun _ h9 => h9) rfl dX6_aim_43 ?_
          refine lv_iload_n (pc := 46) hx hb dX6_aim_46 rfl (lv_at hl 1 rfl) ?_
          refine lv_iload_n (pc := 47) hx hb dX6_aim_47 rfl (lv_at hl 2 rfl) ?_
          refine lv_iload_n (pc := 48) hx hb dX6_aim_48 rfl (lv_at hl 3 rfl) ?_
          obtain ⟨r49, h_49, hf⟩ := bd hf
          refine rw_V (pc := 49) (C := RX1) (As := [.int x1, .int x2, .int x3]) (rest := []) (st1 := [.int r49.1]) (wn := fun _ => wH Z b (hu h 4 r49.2)) ⟨hx, hb, hml, hown, hts⟩ (c_X1_aimAt Z l (b 4) (h 4) x1 x2 x3 r49 h_49) (cwV 3 hts gX6_aim_X1_aimAt rfl rfl rfl hv_X1_aimAt ⟨Nat.le_of_ble_eq_true rfl, Nat.le_of_ble_eq_true rfl⟩) hK hE hP hD hS hA [16, 17, 18, 19, 20, 21, 22, 23, 24, 25, 26, 27, 28, 29, 30] [0, 1, 2, 3, 4, 5, 6, 7, 8, 9, 10, 11, 12, 13, 14, 15, 31, 32, 33, 34, 35, 36, 37, 38, 39] [0, 1, 2, 3, 4, 5, 6, 7, 8, 9, 10, 11, 12, 13, 14, 15, 25, 26, 27, 28, 29, 30, 31, 32, 33, 34, 35, 36, 37, 38, 39, 16, 17, 18, 19, 20, 21, 22, 23, 24] rfl rfl rfl (fun _ => rfl) 1 rfl rfl rfl hl.1 rfl (lv_room (Nat.le_of_ble_eq_true rfl)) dX6_aim_49 ⟨Nat.le_of_ble_eq_true rfl, Nat.le_of_ble_eq_true rfl⟩ rfl (fun _ H locs hP hD hS => ?_)
          have hf := (Option.some.inj hf).symm
          refine th_ret hf ?_
          exact rw_i (fun _ => 0) hx hb hr hlk rfl hP hD hS dX6_aim_52
      · have hf := (if_neg c2).symm.trans hf
        exact th_throw (pc := 27) (i := 9) (text := "goal or limit is out of range") hx hb hst hown hno hlk thW_1 w0 w1 hE (by decide) rfl he1 hZ hS hP hD (hl.1.trans hml.symm) dX6_aim_27 dX6_aim_30 dX6_aim_31 dX6_aim_33 dX6_aim_36 (Nat.le_of_ble_eq_true rfl) (Nat.le_of_ble_eq_true rfl) (Nat.le_of_ble_eq_true rfl) (Nat.le_of_ble_eq_true rfl) (Nat.le_of_ble_eq_true rfl) (Nat.le_of_ble_eq_true rfl) (Option.some.inj hf).symm
def f_X6_select (h : Nat → ObS) (x1 : Int32) : Option (Nat ⊕ (Int32 × (Nat → ObS))) :=
  tb (f_X6_needUnit h x1) fun r2 =>
  (f_X5_turnChoice (h 3) x1).bind fun r10 =>
  if isb r10.1 then
  some (.inr (r10.1, (hu h 3 r10.2)))
  else none
set_option maxHeartbeats 4000000 in
set_option maxRecDepth 100000 in
theorem c_X6_select (Z : EnvT) (l : Launch) (hst : l.stackTraces = false) (b : Nat → Nat → Nat) (h : Nat → ObS) (x1 : Int32) (R : Nat ⊕ (Int32 × (Nat → ObS))) (hf : f_X6_select h x1 = some R) : TH Z l yX6_select wsX6_select { frames := 7, cells := 1, slots := 6, locals := 113 } [.ref (b 0 0), .int x1] (wH Z b h) R (fun (r : Int32 × (Nat → ObS)) => (some (.int r.1))) (fun (r : Int32 × (Nat → ObS)) _ => wH Z b r.2) 1 6 := by
  refine th_of (cc := cX6_select) (maxL := 2) (ret := (some .boolean)) (by decide) rfl (Nat.le_of_ble_eq_true rfl) ?_
  intro p e s m below meth c A ls hx hb hr hml hts hown hlk hno hP hK hE hD hA hS hZ hl
  have hown : s.vm.findClass RX6 = some m.cls := hown
  have hl : lv_has ls 2 [(0, .ref (b 0 0)), (1, .int x1)] := hl
  have w0 := hts (.fieldLink RX6 22 "HeatTrain" "units" "LHeatTrain$Units;") (by decide +kernel)
  have u6 : ∀ w ∈ wsX60, w ∈ wsX6_select := by decide +kernel
  rw [f_X6_select] at hf
  refine lv_aload_n (pc := 0) hx hb dX6_select_0 rfl (lv_at hl 0 rfl) ?_
  refine lv_iload_n (pc := 1) hx hb dX6_select_1 rfl (lv_at hl 1 rfl) ?_
  rcases tbd hf with ⟨k2, h_2, hf⟩ | ⟨r2, h_2, hf⟩
  · exact th_Vx (pc := 2) (C := RX6) (As := [.int x1]) (rest := []) ⟨hx, hb, hml, hown, hts⟩ (c_X6_needUnit Z l hst b h x1 (.inl k2) h_2) (cwV 1 hts gX6_select_X6_needUnit rfl rfl rfl hv_X6_needUnit ⟨Nat.le_of_ble_eq_true rfl, Nat.le_of_ble_eq_true rfl⟩) hK hE hP hD hS hA hZ 6 rfl rfl rfl hl.1 rfl (lv_room (Nat.le_of_ble_eq_true rfl)) dX6_select_2 ⟨Nat.le_of_ble_eq_true rfl, Nat.le_of_ble_eq_true rfl⟩ hno hlk (Nat.le_of_ble_eq_true rfl) (Nat.le_of_ble_eq_true rfl) hf
  · refine th_Vn (pc := 2) (C := RX6) (As := [.int x1]) (rest := []) (st1 := []) ⟨hx, hb, hml, hown, hts⟩ (c_X6_needUnit Z l hst b h x1 (.inr r2) h_2) (cwV 1 hts gX6_select_X6_needUnit rfl rfl rfl hv_X6_needUnit ⟨Nat.le_of_ble_eq_true rfl, Nat.le_of_ble_eq_true rfl⟩) hK hE hP hD hS hA hZ 6 rfl rfl rfl hl.1 rfl (lv_room (Nat.le_of_ble_eq_true rfl)) dX6_select_2 ⟨Nat.le_of_ble_eq_true rfl, Nat.le_of_ble_eq_true rfl⟩ rfl (fun _ H locs hP hD hS => ?_)
    refine lv_aload_n (pc := 5) hx hb dX6_select_5 rfl (lv_at hl 0 rfl) ?_
    refine va_get (pc := 6) (D := Z.1) (ci := 6) (v := .ref (b 3 0)) (C := RX6) (T := TX6) (N := 9) hx hb hts u6 hown hK hP 0 rfl rfl 2 (by decide) w0 (fun _ h9 => h9) rfl dX6_select_6 ?_
    refine lv_iload_n (pc := 9) hx hb dX6_select_9 rfl (lv_at hl 1 rfl) ?_
    obtain ⟨r10, h_10, hf⟩ := bd hf
    refine rw_V (pc := 10) (C := RX5) (As := [.int x1]) (rest := []) (st1 := [.int r10.1]) (wn := fun _ => wH Z b (hu h 3 r10.2)) ⟨hx, hb, hml, hown, hts⟩ (c_X5_turnChoice Z l (b 3) (h 3) x1 r10 h_10) (cwV 1 hts gX6_select_X5_turnChoice rfl rfl rfl hv_X5_turnChoice ⟨Nat.le_of_ble_eq_true rfl, Nat.le_of_ble_eq_true rfl⟩) hK hE hP hD hS hA [7, 8, 9, 10, 11, 12, 13, 14, 15] [0, 1, 2, 3, 4, 5, 6, 16, 17, 18, 19, 20, 21, 22, 23, 24, 25, 26, 27, 28, 29, 30, 31, 32, 33, 34, 35, 36, 37, 38, 39] [0, 1, 2, 3, 4, 5, 6, 31, 32, 33, 34, 35, 36, 37, 38, 39, 7, 8, 9, 10, 11, 12, 13, 14, 15, 16, 17, 18, 19, 20, 21, 22, 23, 24, 25, 26, 27, 28, 29, 30] rfl rfl rfl (fun _ => rfl) 5 rfl rfl rfl hl.1 rfl (lv_room (Nat.le_of_ble_eq_true rfl)) dX6_select_10 ⟨Nat.le_of_ble_eq_true rfl, Nat.le_of_ble_eq_true rfl⟩ rfl (fun _ H locs hP hD hS => ?_)
    obtain ⟨gz, hf⟩ := gd hf
    have hf := (Option.some.inj hf).symm
    refine th_ret hf ?_
    exact rw_z (fun _ => 0) hx hb hr hlk rfl (isb_n gz) hP hD hS dX6_select_13
def f_X6_quit (h : Nat → ObS) : Option (Int32 × (Nat → ObS)) :=
  (f_X0_takeFirst (h 5)).bind fun r4 =>
  some (r4.1, (hu h 5 r4.2))
set_option maxHeartbeats 4000000 in
set_option maxRecDepth 100000 in
theorem c_X6_quit (Z : EnvT) (l : Launch) (b : Nat → Nat → Nat) (h : Nat → ObS) (R : Int32 × (Nat → ObS)) (hf : f_X6_quit h = some R) : RW Z l yX6_quit wsX6_quit { frames := 2, cells := 0, slots := 0, locals := 47 } [.ref (b 0 0)] (wH Z b h) (some (.int R.1)) (fun _ => wH Z b R.2) 0 0 := by
  refine rw_of (cc := cX6_quit) (maxL := 1) (ret := (some .int)) (by decide) rfl (Nat.le_of_ble_eq_true rfl) ?_
  intro p e s m below meth c A ls hx hb hr hml hts hown hlk hin hP hK hE hD hA hS hl
  have hown : s.vm.findClass RX6 = some m.cls := hown
  have hl : lv_has ls 1 [(0, .ref (b 0 0))] := hl
  have w0 := hts (.fieldLink RX6 36 "HeatTrain" "raised" "LHeatTrain$Alarms;") (by decide +kernel)
  have u6 : ∀ w ∈ wsX60, w ∈ wsX6_quit := by decide +kernel
  rw [f_X6_quit] at hf
  refine lv_aload_n (pc := 0) hx hb dX6_quit_0 rfl (lv_at hl 0 rfl) ?_
  refine va_get (pc := 1) (D := Z.1) (ci := 6) (v := .ref (b 5 0)) (C := RX6) (T := TX6) (N := 9) hx hb hts u6 hown hK hP 0 rfl rfl 4 (by decide) w0 (fun _ h9 => h9) rfl dX6_quit_1 ?_
  obtain ⟨r4, h_4, hf⟩ := bd hf
  refine rw_V (pc := 4) (C := RX0) (As := []) (rest := []) (st1 := [.int r4.1]) (wn := fun _ => wH Z b (hu h 5 r4.2)) ⟨hx, hb, hml, hown, hts⟩ (c_X0_takeFirst Z l (b 5) (h 5) r4 h_4) (cwV 0 hts gX6_quit_X0_takeFirst rfl rfl rfl hv_X0_takeFirst ⟨Nat.le_of_ble_eq_true rfl, Nat.le_of_ble_eq_true rfl⟩) hK hE hP hD hS hA [31, 32, 33] [0, 1, 2, 3, 4, 5, 6, 7, 8, 9, 10, 11, 12, 13, 14, 15, 16, 17, 18, 19, 20, 21, 22, 23, 24, 25, 26, 27, 28, 29, 30, 34, 35, 36, 37, 38, 39] [0, 1, 2, 3, 4, 5, 6, 7, 8, 9, 10, 11, 12, 13, 14, 15, 16, 17, 18, 19, 20, 21, 22, 23, 24, 25, 26, 27, 28, 29, 30, 37, 38, 39, 31, 32, 33, 34, 35, 36] rfl rfl rfl (fun _ => rfl) 0 rfl rfl rfl hl.1 rfl (lv_room (Nat.le_of_ble_eq_true rfl)) dX6_quit_4 ⟨Nat.le_of_ble_eq_true rfl, Nat.le_of_ble_eq_true rfl⟩ rfl (fun _ H locs hP hD hS => ?_)
  have hf := (Option.some.inj hf)
  subst hf
  exact rw_i (fun _ => 0) hx hb hr hlk rfl hP hD hS dX6_quit_7
