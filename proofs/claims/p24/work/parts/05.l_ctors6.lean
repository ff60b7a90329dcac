/-- the addresses of the whole train -/
def q6 (b : Nat) (a1 a2 a3 a4 a5 a6 a7 : Nat → Nat) : Nat → Nat := fun n => (match n / 64 with | 0 => (fun _ => b) | 1 => a1 | 2 => a2 | 3 => a3 | 4 => a4 | 5 => a5 | 6 => a6 | 7 => a7 | _ => (fun _ => 0)) (n % 64)
set_option maxHeartbeats 4000000 in
set_option maxRecDepth 100000 in
theorem c_X6_init (Z : EnvT) (l : Launch) (b : Nat) (R5 : ObS) (hf5 : f_X5_init = some R5) : RW Z l yX6_init wsX6_init { frames := 2, cells := 39, slots := 2244, locals := 35 } [.ref b] [(b, .inr (6, [.null, .null, .null, .null, .null, .null, .null, .int 0, .long 0]))] none (fun q => wH Z (bb b q) (hu (fun _ => z0) 3 R5)) 39 2244 := by
  refine rw_of (cc := cX6_init) (maxL := 1) (ret := none) (by decide) rfl (Nat.le_of_ble_eq_true rfl) ?_
  intro p e s m below meth c A ls hx hb hr hml hts hown hlk hin hP hK hE hD hA hS hl
  have hown : s.vm.findClass RX6 = some m.cls := hown
  have hl : lv_has ls 1 [(0, .ref b)] := hl
  have w0 := hts (.methodLink RX6 3 objectInit) (by decide +kernel)
  have w1 := hts (.instanceMethod objectInit) (by decide +kernel)
  have w2 := hts (.code objectInit ⟨#[0xb1]⟩ 1 none) (by decide +kernel)
  have w3 := hts (.classLink RX6 9 RX3) (by decide +kernel)
  have w4 := hts (.instantiable RX3 2) (by decide +kernel)
  have w5 := hts (.initialized RX3) (by decide +kernel)
  have w6 := hts (.methodLink RX6 11 yX3_init) (by decide +kernel)
  have w7 := hts (.instanceMethod yX3_init) (by decide +kernel)
  have w8 := hts (.fieldLink RX6 12 "HeatTrain" "streams" "LHeatTrain$Streams;") (by decide +kernel)
  have w9 := hts (.fieldLink RX6 16 "HeatTrain" "trial" "LHeatTrain$Streams;") (by decide +kernel)
  have w10 := hts (.classLink RX6 19 RX5) (by decide +kernel)
  have w11 := hts (.instantiable RX5 9) (by decide +kernel)
  have w12 := hts (.initialized RX5) (by decide +kernel)
  have w13 := hts (.methodLink RX6 21 yX5_init) (by decide +kernel)
  have w14 := hts (.instanceMethod yX5_init) (by decide +kernel)
  have w15 := hts (.fieldLink RX6 22 "HeatTrain" "units" "LHeatTrain$Units;") (by decide +kernel)
  have w16 := hts (.classLink RX6 26 RX1) (by decide +kernel)
  have w17 := hts (.instantiable RX1 15) (by decide +kernel)
  have w18 := hts (.initialized RX1) (by decide +kernel)
  have w19 := hts (.methodLink RX6 28 yX1_init) (by decide +kernel)
  have w20 := hts (.instanceMethod yX1_init) (by decide +kernel)
  have w21 := hts (.fieldLink RX6 29 "HeatTrain" "controllers" "LHeatTrain$Controllers;") (by decide +kernel)
  have w22 := hts (.classLink RX6 33 RX0) (by decide +kernel)
  have w23 := hts (.instantiable RX0 3) (by decide +kernel)
  have w24 := hts (.initialized RX0) (by decide +kernel)
  have w25 := hts (.methodLink RX6 35 yX0_init) (by decide +kernel)
  have w26 := hts (.instanceMethod yX0_init) (by decide +kernel)
  have w27 := hts (.fieldLink RX6 36 "HeatTrain" "raised" "LHeatTrain$Alarms;") (by decide +kernel)
  have w28 := hts (.classLink RX6 40 RX2) (by decide +kernel)
  have w29 := hts (.instantiable RX2 4) (by decide +kernel)
  have w30 := hts (.initialized RX2) (by decide +kernel)
  have w31 := hts (.methodLink RX6 42 yX2_init) (by decide +kernel)
  have w32 := hts (.instanceMethod yX2_init) (by decide +kernel)
  have w33 := hts (.fieldLink RX6 43 "HeatTrain" "script" "LHeatTrain$Script;") (by decide +kernel)
  have w34 := hts (.classLink RX6 47 RX4) (by decide +kernel)
  have w35 := hts (.instantiable RX4 1) (by decide +kernel)
  have w36 := hts (.initialized RX4) (by decide +kernel)
  have w37 := hts (.methodLink RX6 49 yX4_init) (by decide +kernel)
  have w38 := hts (.instanceMethod yX4_init) (by decide +kernel)
  have w39 := hts (.fieldLink RX6 50 "HeatTrain" "trends" "LHeatTrain$Trends;") (by decide +kernel)
  have w40 := hts (.fieldLink RX6 54 "HeatTrain" "ticksGone" "I") (by decide +kernel)
  have w41 := hts (.fieldLink RX6 58 "HeatTrain" "heldOverAhead" "J") (by decide +kernel)
  have u0 : ∀ w ∈ wsX00, w ∈ wsX6_init := by decide +kernel
  have u1 : ∀ w ∈ wsX10, w ∈ wsX6_init := by decide +kernel
  have u2 : ∀ w ∈ wsX20, w ∈ wsX6_init := by decide +kernel
  have u3 : ∀ w ∈ wsX30, w ∈ wsX6_init := by decide +kernel
  have u4 : ∀ w ∈ wsX40, w ∈ wsX6_init := by decide +kernel
  have u5 : ∀ w ∈ wsX50, w ∈ wsX6_init := by decide +kernel
  have u6 : ∀ w ∈ wsX60, w ∈ wsX6_init := by decide +kernel
  refine lv_aload_n (pc := 0) hx hb dX6_init_0 rfl (lv_at hl 0 rfl) ?_
  refine W.objInit hx hb hown w0 w1 w2 rfl (by rw [hml]; exact hl.1) rfl dX6_init_1 (Nat.le_of_ble_eq_true rfl) (Nat.le_of_ble_eq_true rfl) ?_
  refine W.eq (g2 := F0 m 4 ls []) rfl ?_
  refine lv_aload_n (pc := 4) hx hb dX6_init_4 rfl (lv_at hl 0 rfl) ?_
  refine va_new (pc := 5) (D := Z.1) (ci := 3) (fs := [.null, .null]) (C := RX3) (T := TX3) (N := 2) hx hb hts u3 tyX3 tyX3_ok hown w3 w4 w5 hK hP hD hS hA rfl (fun j hj => by rcases (show j = 0 ∨ j = 1 by omega) with rfl | rfl <;> rfl) (Nat.le_of_ble_eq_true rfl) (Nat.le_of_ble_eq_true rfl) dX6_init_5 (fun q5 H hP hD hS => ?_)
  have hP : va_P Z.1 vwCl ([(b, .inr (6, [.null, .null, .null, .null, .null, .null, .null, .int 0, .long 0]))] ++ [(q5, .inr (3, [.null, .null]))]) H := hP
  have hD : va_D A ([(b, .inr (6, [.null, .null, .null, .null, .null, .null, .null, .int 0, .long 0]))] ++ [(q5, .inr (3, [.null, .null]))]) := hD
  refine W.widen (k := 1) (n := 2) (Nat.le_of_ble_eq_true rfl) (Nat.le_of_ble_eq_true rfl) ?_
  refine lv_dup (pc := 8) hx hb dX6_init_8 rfl ?_
  refine rw_I (pc := 9) (As := []) (rest := [.ref q5, .ref b]) (wn := fun qf9 => [(b, .inr (6, [.null, .null, .null, .null, .null, .null, .null, .int 0, .long 0]))] ++ wX3 Z (ad q5 qf9) z0) ⟨hx, hb, hml, hown, hts⟩ (c_X3_init Z l q5) (cwI 0 hts gX6_init_X3_init rfl rfl rfl w5 w6 w7 rfl hs_X3_init ⟨Nat.le_of_ble_eq_true rfl, Nat.le_of_ble_eq_true rfl⟩) hK hE hP hD hS hA [1] [0] [0, 1, 2, 3] rfl rfl rfl (fun _ => rfl) rfl hl.1 rfl (lv_room (Nat.le_of_ble_eq_true rfl)) dX6_init_9 ⟨Nat.le_of_ble_eq_true rfl, Nat.le_of_ble_eq_true rfl⟩ (fun qf9 H locs hP hD hS => ?_)
  refine W.widen (k := 3) (n := 50) (Nat.le_of_ble_eq_true rfl) (Nat.le_of_ble_eq_true rfl) ?_
  refine va_putF (pc := 12) (D := Z.1) (ci := 6) (v := .ref q5) (ty := .object "HeatTrain$Streams") (C := RX6) (T := TX6) (N := 9) hx hb hts u6 tyX6 tyX6_ok nmX6 hown hK hP hD hS 0 rfl rfl 0 (by decide) w8 (fun _ h9 => h9) rfl (hin rfl) rfl (by decide +kernel) rfl rfl (Nat.le_of_ble_eq_true rfl) dX6_init_12 (fun H locs hP hD hS => ?_)
  have hP : va_P Z.1 vwCl ([(b, .inr (6, [.ref q5, .null, .null, .null, .null, .null, .null, .int 0, .long 0]))] ++ wX3 Z (ad q5 qf9) z0) H := hP
  have hD : va_D A ([(b, .inr (6, [.ref q5, .null, .null, .null, .null, .null, .null, .int 0, .long 0]))] ++ wX3 Z (ad q5 qf9) z0) := hD
  refine lv_aload_n (pc := 15) hx hb dX6_init_15 rfl (lv_at hl 0 rfl) ?_
  refine va_new (pc := 16) (D := Z.1) (ci := 3) (fs := [.null, .null]) (C := RX3) (T := TX3) (N := 2) hx hb hts u3 tyX3 tyX3_ok hown w3 w4 w5 hK hP hD hS hA rfl (fun j hj => by rcases (show j = 0 ∨ j = 1 by omega) with rfl | rfl <;> rfl) (Nat.le_of_ble_eq_true rfl) (Nat.le_of_ble_eq_true rfl) dX6_init_16 (fun q16 H hP hD hS => ?_)
  have hP : va_P Z.1 vwCl ([(b, .inr (6, [.ref q5, .null, .null, .null, .null, .null, .null, .int 0, .long 0]))] ++ wX3 Z (ad q5 qf9) z0 ++ [(q16, .inr (3, [.null, .null]))]) H := hP
  have hD : va_D A ([(b, .inr (6, [.ref q5, .null, .null, .null, .null, .null, .null, .int 0, .long 0]))] ++ wX3 Z (ad q5 qf9) z0 ++ [(q16, .inr (3, [.null, .null]))]) := hD
  refine W.widen (k := 4) (n := 52) (Nat.le_of_ble_eq_true rfl) (Nat.le_of_ble_eq_true rfl) ?_
  refine lv_dup (pc := 19) hx hb dX6_init_19 rfl ?_
  refine rw_I (pc := 20) (As := []) (rest := [.ref q16, .ref b]) (wn := fun qf20 => [(b, .inr (6, [.ref q5, .null, .null, .null, .null, .null, .null, .int 0, .long 0]))] ++ wX3 Z (ad q5 qf9) z0 ++ wX3 Z (ad q16 qf20) z0) ⟨hx, hb, hml, hown, hts⟩ (c_X3_init Z l q16) (cwI 0 hts gX6_init_X3_init rfl rfl rfl w5 w6 w7 rfl hs_X3_init ⟨Nat.le_of_ble_eq_true rfl, Nat.le_of_ble_eq_true rfl⟩) hK hE hP hD hS hA [4] [0, 1, 2, 3] [0, 1, 2, 3, 4, 5, 6] rfl rfl rfl (fun _ => rfl) rfl hl.1 rfl (lv_room (Nat.le_of_ble_eq_true rfl)) dX6_init_20 ⟨Nat.le_of_ble_eq_true rfl, Nat.le_of_ble_eq_true rfl⟩ (fun qf20 H locs hP hD hS => ?_)
  refine W.widen (k := 6) (n := 100) (Nat.le_of_ble_eq_true rfl) (Nat.le_of_ble_eq_true rfl) ?_
  refine va_putF (pc := 23) (D := Z.1) (ci := 6) (v := .ref q16) (ty := .object "HeatTrain$Streams") (C := RX6) (T := TX6) (N := 9) hx hb hts u6 tyX6 tyX6_ok nmX6 hown hK hP hD hS 0 rfl rfl 1 (by decide) w9 (fun _ h9 => h9) rfl (hin rfl) rfl (by decide +kernel) rfl rfl (Nat.le_of_ble_eq_true rfl) dX6_init_23 (fun H locs hP hD hS => ?_)
  have hP : va_P Z.1 vwCl ([(b, .inr (6, [.ref q5, .ref q16, .null, .null, .null, .null, .null, .int 0, .long 0]))] ++ wX3 Z (ad q5 qf9) z0 ++ wX3 Z (ad q16 qf20) z0) H := hP
  have hD : va_D A ([(b, .inr (6, [.ref q5, .ref q16, .null, .null, .null, .null, .null, .int 0, .long 0]))] ++ wX3 Z (ad q5 qf9) z0 ++ wX3 Z (ad q16 qf20) z0) := hD
  refine lv_aload_n (pc := 26) hx hb dX6_init_26 rfl (lv_at hl 0 rfl) ?_
  refine va_new (pc := 27) (D := Z.1) (ci := 5) (fs := [.int 0, .null, .null, .null, .null, .null, .null, .null, .null]) (C := RX5) (T := TX5) (N := 9) hx hb hts u5 tyX5 tyX5_ok hown w10 w11 w12 hK hP hD hS hA rfl (fun j hj => by rcases (show j = 0 ∨ j = 1 ∨ j = 2 ∨ j = 3 ∨ j = 4 ∨ j = 5 ∨ j = 6 ∨ j = 7 ∨ j = 8 by omega) with rfl | rfl | rfl | rfl | rfl | rfl | rfl | rfl | rfl <;> rfl) (Nat.le_of_ble_eq_true rfl) (Nat.le_of_ble_eq_true rfl) dX6_init_27 (fun q27 H hP hD hS => ?_)
  have hP : va_P Z.1 vwCl ([(b, .inr (6, [.ref q5, .ref q16, .null, .null, .null, .null, .null, .int 0, .long 0]))] ++ wX3 Z (ad q5 qf9) z0 ++ wX3 Z (ad q16 qf20) z0 ++ [(q27, .inr (5, [.int 0, .null, .null, .null, .null, .null, .null, .null, .null]))]) H := hP
  have hD : va_D A ([(b, .inr (6, [.ref q5, .ref q16, .null, .null, .null, .null, .null, .int 0, .long 0]))] ++ wX3 Z (ad q5 qf9) z0 ++ wX3 Z (ad q16 qf20) z0 ++ [(q27, .inr (5, [.int 0, .null, .null, .null, .null, .null, .null, .null, .null]))]) := hD
  refine W.widen (k := 7) (n := 109) (Nat.le_of_ble_eq_true rfl) (Nat.le_of_ble_eq_true rfl) ?_
  refine lv_dup (pc := 30) hx hb dX6_init_30 rfl ?_
  refine rw_I (pc := 31) (As := []) (rest := [.ref q27, .ref b]) (wn := fun qf31 => [(b, .inr (6, [.ref q5, .ref q16, .null, .null, .null, .null, .null, .int 0, .long 0]))] ++ wX3 Z (ad q5 qf9) z0 ++ wX3 Z (ad q16 qf20) z0 ++ wX5 Z (ad q27 qf31) R5) ⟨hx, hb, hml, hown, hts⟩ (c_X5_init Z l q27 R5 hf5) (cwI 0 hts gX6_init_X5_init rfl rfl rfl w12 w13 w14 rfl hs_X5_init ⟨Nat.le_of_ble_eq_true rfl, Nat.le_of_ble_eq_true rfl⟩) hK hE hP hD hS hA [7] [0, 1, 2, 3, 4, 5, 6] [0, 1, 2, 3, 4, 5, 6, 7, 8, 9, 10, 11, 12, 13, 14, 15] rfl rfl rfl (fun _ => rfl) rfl hl.1 rfl (lv_room (Nat.le_of_ble_eq_true rfl)) dX6_init_31 ⟨Nat.le_of_ble_eq_true rfl, Nat.le_of_ble_eq_true rfl⟩ (fun qf31 H locs hP hD hS => ?_)
  refine W.widen (k := 15) (n := 217) (Nat.le_of_ble_eq_true rfl) (Nat.le_of_ble_eq_true rfl) ?_
  refine va_putF (pc := 34) (D := Z.1) (ci := 6) (v := .ref q27) (ty := .object "HeatTrain$Units") (C := RX6) (T := TX6) (N := 9) hx hb hts u6 tyX6 tyX6_ok nmX6 hown hK hP hD hS 0 rfl rfl 2 (by decide) w15 (fun _ h9 => h9) rfl (hin rfl) rfl (by decide +kernel) rfl rfl (Nat.le_of_ble_eq_true rfl) dX6_init_34 (fun H locs hP hD hS => ?_)
  have hP : va_P Z.1 vwCl ([(b, .inr (6, [.ref q5, .ref q16, .ref q27, .null, .null, .null, .null, .int 0, .long 0]))] ++ wX3 Z (ad q5 qf9) z0 ++ wX3 Z (ad q16 qf20) z0 ++ wX5 Z (ad q27 qf31) R5) H := hP
  have hD : va_D A ([(b, .inr (6, [.ref q5, .ref q16, .ref q27, .null, .null, .null, .null, .int 0, .long 0]))] ++ wX3 Z (ad q5 qf9) z0 ++ wX3 Z (ad q16 qf20) z0 ++ wX5 Z (ad q27 qf31) R5) := hD
  refine lv_aload_n (pc := 37) hx hb dX6_init_37 rfl (lv_at hl 0 rfl) ?_
  refine va_new (pc := 38) (D := Z.1) (ci := 1) (fs := [.int 0, .null, .null, .null, .null, .null, .null, .null, .null, .null, .null, .null, .null, .null, .null]) (C := RX1) (T := TX1) (N := 15) hx hb hts u1 tyX1 tyX1_ok hown w16 w17 w18 hK hP hD hS hA rfl (fun j hj => by rcases (show j = 0 ∨ j = 1 ∨ j = 2 ∨ j = 3 ∨ j = 4 ∨ j = 5 ∨ j = 6 ∨ j = 7 ∨ j = 8 ∨ j = 9 ∨ j = 10 ∨ j = 11 ∨ j = 12 ∨ j = 13 ∨ j = 14 by omega) with rfl | rfl | rfl | rfl | rfl | rfl | rfl | rfl | rfl | rfl | rfl | rfl | rfl | rfl | rfl <;> rfl) (Nat.le_of_ble_eq_true rfl) (Nat.le_of_ble_eq_true rfl) dX6_init_38 (fun q38 H hP hD hS => ?_)
  have hP : va_P Z.1 vwCl ([(b, .inr (6, [.ref q5, .ref q16, .ref q27, .null, .null, .null, .null, .int 0, .long 0]))] ++ wX3 Z (ad q5 qf9) z0 ++ wX3 Z (ad q16 qf20) z0 ++ wX5 Z (ad q27 qf31) R5 ++ [(q38, .inr (1, [.int 0, .null, .null, .null, .null, .null, .null, .null, .null, .null, .null, .null, .null, .null, .null]))]) H := hP
  have hD : va_D A ([(b, .inr (6, [.ref q5, .ref q16, .ref q27, .null, .null, .null, .null, .int 0, .long 0]))] ++ wX3 Z (ad q5 qf9) z0 ++ wX3 Z (ad q16 qf20) z0 ++ wX5 Z (ad q27 qf31) R5 ++ [(q38, .inr (1, [.int 0, .null, .null, .null, .null, .null, .null, .null, .null, .null, .null, .null, .null, .null, .null]))]) := hD
  refine W.widen (k := 16) (n := 232) (Nat.le_of_ble_eq_true rfl) (Nat.le_of_ble_eq_true rfl) ?_
  refine lv_dup (pc := 41) hx hb dX6_init_41 rfl ?_
  refine rw_I (pc := 42) (As := []) (rest := [.ref q38, .ref b]) (wn := fun qf42 => [(b, .inr (6, [.ref q5, .ref q16, .ref q27, .null, .null, .null, .null, .int 0, .long 0]))] ++ wX3 Z (ad q5 qf9) z0 ++ wX3 Z (ad q16 qf20) z0 ++ wX5 Z (ad q27 qf31) R5 ++ wX1 Z (ad q38 qf42) z0) ⟨hx, hb, hml, hown, hts⟩ (c_X1_init Z l q38) (cwI 0 hts gX6_init_X1_init rfl rfl rfl w18 w19 w20 rfl hs_X1_init ⟨Nat.le_of_ble_eq_true rfl, Nat.le_of_ble_eq_true rfl⟩) hK hE hP hD hS hA [16] [0, 1, 2, 3, 4, 5, 6, 7, 8, 9, 10, 11, 12, 13, 14, 15] [0, 1, 2, 3, 4, 5, 6, 7, 8, 9, 10, 11, 12, 13, 14, 15, 16, 17, 18, 19, 20, 21, 22, 23, 24, 25, 26, 27, 28, 29, 30] rfl rfl rfl (fun _ => rfl) rfl hl.1 rfl (lv_room (Nat.le_of_ble_eq_true rfl)) dX6_init_42 ⟨Nat.le_of_ble_eq_true rfl, Nat.le_of_ble_eq_true rfl⟩ (fun qf42 H locs hP hD hS => ?_)
  refine W.widen (k := 30) (n := 316) (Nat.le_of_ble_eq_true rfl) (Nat.le_of_ble_eq_true rfl) ?_
  refine va_putF (pc := 45) (D := Z.1) (ci := 6) (v := .ref q38) (ty := .object "HeatTrain$Controllers") (C := RX6) (T := TX6) (N := 9) hx hb hts u6 tyX6 tyX6_ok nmX6 hown hK hP hD hS 0 rfl rfl 3 (by decide) w21 (fun _ h9 => h9) rfl (hin rfl) rfl (by decide +kernel) rfl rfl (Nat.le_of_ble_eq_true rfl) dX6_init_45 (fun H locs hP hD hS => ?_)
  have hP : va_P Z.1 vwCl ([(b, .inr (6, [.ref q5, .ref q16, .ref q27, .ref q38, .null, .null, .null, .int 0, .long 0]))] ++ wX3 Z (ad q5 qf9) z0 ++ wX3 Z (ad q16 qf20) z0 ++ wX5 Z (ad q27 qf31) R5 ++ wX1 Z (ad q38 qf42) z0) H := hP
  have hD : va_D A ([(b, .inr (6, [.ref q5, .ref q16, .ref q27, .ref q38, .null, .null, .null, .int 0, .long 0]))] ++ wX3 Z (ad q5 qf9) z0 ++ wX3 Z (ad q16 qf20) z0 ++ wX5 Z (ad q27 qf31) R5 ++ wX1 Z (ad q38 qf42) z0) := hD
  refine lv_aload_n (pc := 48) hx hb dX6_init_48 rfl (lv_at hl 0 rfl) ?_
  refine va_new (pc := 49) (D := Z.1) (ci := 0) (fs := [.int 0, .null, .null]) (C := RX0) (T := TX0) (N := 3) hx hb hts u0 tyX0 tyX0_ok hown w22 w23 w24 hK hP hD hS hA rfl (fun j hj => by rcases (show j = 0 ∨ j = 1 ∨ j = 2 by omega) with rfl | rfl | rfl <;> rfl) (Nat.le_of_ble_eq_true rfl) (Nat.le_of_ble_eq_true rfl) dX6_init_49 (fun q49 H hP hD hS => ?_)
  have hP : va_P Z.1 vwCl ([(b, .inr (6, [.ref q5, .ref q16, .ref q27, .ref q38, .null, .null, .null, .int 0, .long 0]))] ++ wX3 Z (ad q5 qf9) z0 ++ wX3 Z (ad q16 qf20) z0 ++ wX5 Z (ad q27 qf31) R5 ++ wX1 Z (ad q38 qf42) z0 ++ [(q49, .inr (0, [.int 0, .null, .null]))]) H := hP
  have hD : va_D A ([(b, .inr (6, [.ref q5, .ref q16, .ref q27, .ref q38, .null, .null, .null, .int 0, .long 0]))] ++ wX3 Z (ad q5 qf9) z0 ++ wX3 Z (ad q16 qf20) z0 ++ wX5 Z (ad q27 qf31) R5 ++ wX1 Z (ad q38 qf42) z0 ++ [(q49, .inr (0, [.int 0, .null, .null]))]) := hD
  refine W.widen (k := 31) (n := 319) (Nat.le_of_ble_eq_true rfl) (Nat.le_of_ble_eq_true rfl) ?_
  refine lv_dup (pc := 52) hx hb dX6_init_52 rfl ?_
  refine rw_I (pc := 53) (As := []) (rest := [.ref q49, .ref b]) (wn := fun qf53 => [(b, .inr (6, [.ref q5, .ref q16, .ref q27, .ref q38, .null, .null, .null, .int 0, .long 0]))] ++ wX3 Z (ad q5 qf9) z0 ++ wX3 Z (ad q16 qf20) z0 ++ wX5 Z (ad q27 qf31) R5 ++ wX1 Z (ad q38 qf42) z0 ++ wX0 Z (ad q49 qf53) z0) ⟨hx, hb, hml, hown, hts⟩ (c_X0_init Z l q49) (cwI 0 hts gX6_init_X0_init rfl rfl rfl w24 w25 w26 rfl hs_X0_init ⟨Nat.le_of_ble_eq_true rfl, Nat.le_of_ble_eq_true rfl⟩) hK hE hP hD hS hA [31] [0, 1, 2, 3, 4, 5, 6, 7, 8, 9, 10, 11, 12, 13, 14, 15, 16, 17, 18, 19, 20, 21, 22, 23, 24, 25, 26, 27, 28, 29, 30] [0, 1, 2, 3, 4, 5, 6, 7, 8, 9, 10, 11, 12, 13, 14, 15, 16, 17, 18, 19, 20, 21, 22, 23, 24, 25, 26, 27, 28, 29, 30, 31, 32, 33] rfl rfl rfl (fun _ => rfl) rfl hl.1 rfl (lv_room (Nat.le_of_ble_eq_true rfl)) dX6_init_53 ⟨Nat.le_of_ble_eq_true rfl, Nat.le_of_ble_eq_true rfl⟩ (fun qf53 H locs hP hD hS => ?_)
  refine W.widen (k := 33) (n := 2119) (Nat.le_of_ble_eq_true rfl) (Nat.le_of_ble_eq_true rfl) ?_
  refine va_putF (pc := 56) (D := Z.1) (ci := 6) (v := .ref q49) (ty := .object "HeatTrain$Alarms") (C := RX6) (T := TX6) (N := 9) hx hb hts u6 tyX6 tyX6_ok nmX6 hown hK hP hD hS 0 rfl rfl 4 (by decide) w27 (fun _ h9 => h9) rfl (hin rfl) rfl (by decide +kernel) rfl rfl (Nat.le_of_ble_eq_true rfl) dX6_init_56 (fun H locs hP hD hS => ?_)
  have hP : va_P Z.1 vwCl ([(b, .inr (6, [.ref q5, .ref q16, .ref q27, .ref q38, .ref q49, .null, .null, .int 0, .long 0]))] ++ wX3 Z (ad q5 qf9) z0 ++ wX3 Z (ad q16 qf20) z0 ++ wX5 Z (ad q27 qf31) R5 ++ wX1 Z (ad q38 qf42) z0 ++ wX0 Z (ad q49 qf53) z0) H := hP
  have hD : va_D A ([(b, .inr (6, [.ref q5, .ref q16, .ref q27, .ref q38, .ref q49, .null, .null, .int 0, .long 0]))] ++ wX3 Z (ad q5 qf9) z0 ++ wX3 Z (ad q16 qf20) z0 ++ wX5 Z (ad q27 qf31) R5 ++ wX1 Z (ad q38 qf42) z0 ++ wX0 Z (ad q49 qf53) z0) := hD
  refine lv_aload_n (pc := 59) hx hb dX6_init_59 rfl (lv_at hl 0 rfl) ?_
  refine va_new (pc := 60) (D := Z.1) (ci := 2) (fs := [.int 0, .null, .null, .null]) (C := RX2) (T := TX2) (N := 4) hx hb hts u2 tyX2 tyX2_ok hown w28 w29 w30 hK hP hD hS hA rfl (fun j hj => by rcases (show j = 0 ∨ j = 1 ∨ j = 2 ∨ j = 3 by omega) with rfl | rfl | rfl | rfl <;> rfl) (Nat.le_of_ble_eq_true rfl) (Nat.le_of_ble_eq_true rfl) dX6_init_60 (fun q60 H hP hD hS => ?_)
  have hP : va_P Z.1 vwCl ([(b, .inr (6, [.ref q5, .ref q16, .ref q27, .ref q38, .ref q49, .null, .null, .int 0, .long 0]))] ++ wX3 Z (ad q5 qf9) z0 ++ wX3 Z (ad q16 qf20) z0 ++ wX5 Z (ad q27 qf31) R5 ++ wX1 Z (ad q38 qf42) z0 ++ wX0 Z (ad q49 qf53) z0 ++ [(q60, .inr (2, [.int 0, .null, .null, .null]))]) H := hP
  have hD : va_D A ([(b, .inr (6, [.ref q5, .ref q16, .ref q27, .ref q38, .ref q49, .null, .null, .int 0, .long 0]))] ++ wX3 Z (ad q5 qf9) z0 ++ wX3 Z (ad q16 qf20) z0 ++ wX5 Z (ad q27 qf31) R5 ++ wX1 Z (ad q38 qf42) z0 ++ wX0 Z (ad q49 qf53) z0 ++ [(q60, .inr (2, [.int 0, .null, .null, .null]))]) := hD
  refine W.widen (k := 34) (n := 2123) (Nat.le_of_ble_eq_true rfl) (Nat.le_of_ble_eq_true rfl) ?_
  refine lv_dup (pc := 63) hx hb dX6_init_63 rfl ?_
  refine rw_I (pc := 64) (As := []) (rest := [.ref q60, .ref b]) (wn := fun qf64 => [(b, .inr (6, [.ref q5, .ref q16, .ref q27, .ref q38, .ref q49, .null, .null, .int 0, .long 0]))] ++ wX3 Z (ad q5 qf9) z0 ++ wX3 Z (ad q16 qf20) z0 ++ wX5 Z (ad q27 qf31) R5 ++ wX1 Z (ad q38 qf42) z0 ++ wX0 Z (ad q49 qf53) z0 ++ wX2 Z (ad q60 qf64) z0) ⟨hx, hb, hml, hown, hts⟩ (c_X2_init Z l q60) (cwI 0 hts gX6_init_X2_init rfl rfl rfl w30 w31 w32 rfl hs_X2_init ⟨Nat.le_of_ble_eq_true rfl, Nat.le_of_ble_eq_true rfl⟩) hK hE hP hD hS hA [34] [0, 1, 2, 3, 4, 5, 6, 7, 8, 9, 10, 11, 12, 13, 14, 15, 16, 17, 18, 19, 20, 21, 22, 23, 24, 25, 26, 27, 28, 29, 30, 31, 32, 33] [0, 1, 2, 3, 4, 5, 6, 7, 8, 9, 10, 11, 12, 13, 14, 15, 16, 17, 18, 19, 20, 21, 22, 23, 24, 25, 26, 27, 28, 29, 30, 31, 32, 33, 34, 35, 36, 37] rfl rfl rfl (fun _ => rfl) rfl hl.1 rfl (lv_room (Nat.le_of_ble_eq_true rfl)) dX6_init_64 ⟨Nat.le_of_ble_eq_true rfl, Nat.le_of_ble_eq_true rfl⟩ (fun qf64 H locs hP hD hS => ?_)
  refine W.widen (k := 37) (n := 2243) (Nat.le_of_ble_eq_true rfl) (Nat.le_of_ble_eq_true rfl) ?_
  refine va_putF (pc := 67) (D := Z.1) (ci := 6) (v := .ref q60) (ty := .object "HeatTrain$Script") (C := RX6) (T := TX6) (N := 9) hx hb hts u6 tyX6 tyX6_ok nmX6 hown hK hP hD hS 0 rfl rfl 5 (by decide) w33 (fun _ h9 => h9) rfl (hin rfl) rfl (by decide +kernel) rfl rfl (Nat.le_of_ble_eq_true rfl) dX6_init_67 (fun H locs hP hD hS => ?_)
  have hP : va_P Z.1 vwCl ([(b, .inr (6, [.ref q5, .ref q16, .ref q27, .ref q38, .ref q49, .ref q60, .null, .int 0, .long 0]))] ++ wX3 Z (ad q5 qf9) z0 ++ wX3 Z (ad q16 qf20) z0 ++ wX5 Z (ad q27 qf31) R5 ++ wX1 Z (ad q38 qf42) z0 ++ wX0 Z (ad q49 qf53) z0 ++ wX2 Z (ad q60 qf64) z0) H := hP
  have hD : va_D A ([(b, .inr (6, [.ref q5, .ref q16, .ref q27, .ref q38, .ref q49, .ref q60, .null, .int 0, .long 0]))] ++ wX3 Z (ad q5 qf9) z0 ++ wX3 Z (ad q16 qf20) z0 ++ wX5 Z (ad q27 qf31) R5 ++ wX1 Z (ad q38 qf42) z0 ++ wX0 Z (ad q49 qf53) z0 ++ wX2 Z (ad q60 qf64) z0) := hD
  refine lv_aload_n (pc := 70) hx hb dX6_init_70 rfl (lv_at hl 0 rfl) ?_
  refine va_new (pc := 71) (D := Z.1) (ci := 4) (fs := [.null]) (C := RX4) (T := TX4) (N := 1) hx hb hts u4 tyX4 tyX4_ok hown w34 w35 w36 hK hP hD hS hA rfl (fun j hj => by rcases (show j = 0 by omega) with rfl <;> rfl) (Nat.le_of_ble_eq_true rfl) (Nat.le_of_ble_eq_true rfl) dX6_init_71 (fun q71 H hP hD hS => ?_)
  have hP : va_P Z.1 vwCl ([(b, .inr (6, [.ref q5, .ref q16, .ref q27, .ref q38, .ref q49, .ref q60, .null, .int 0, .long 0]))] ++ wX3 Z (ad q5 qf9) z0 ++ wX3 Z (ad q16 qf20) z0 ++ wX5 Z (ad q27 qf31) R5 ++ wX1 Z (ad q38 qf42) z0 ++ wX0 Z (ad q49 qf53) z0 ++ wX2 Z (ad q60 qf64) z0 ++ [(q71, .inr (4, [.null]))]) H := hP
  have hD : va_D A ([(b, .inr (6, [.ref q5, .ref q16, .ref q27, .ref q38, .ref q49, .ref q60, .null, .int 0, .long 0]))] ++ wX3 Z (ad q5 qf9) z0 ++ wX3 Z (ad q16 qf20) z0 ++ wX5 Z (ad q27 qf31) R5 ++ wX1 Z (ad q38 qf42) z0 ++ wX0 Z (ad q49 qf53) z0 ++ wX2 Z (ad q60 qf64) z0 ++ [(q71, .inr (4, [.null]))]) := hD
  refine W.widen (k := 38) (n := 2244) (Nat.le_of_ble_eq_true rfl) (Nat.le_of_ble_eq_true rfl) ?_
  refine lv_dup (pc := 74) hx hb dX6_init_74 rfl ?_
  refine rw_I (pc := 75) (As := []) (rest := [.ref q71, .ref b]) (wn := fun qf75 => [(b, .inr (6, [.ref q5, .ref q16, .ref q27, .ref q38, .ref q49, .ref q60, .null, .int 0, .long 0]))] ++ wX3 Z (ad q5 qf9) z0 ++ wX3 Z (ad q16 qf20) z0 ++ wX5 Z (ad q27 qf31) R5 ++ wX1 Z (ad q38 qf42) z0 ++ wX0 Z (ad q49 qf53) z0 ++ wX2 Z (ad q60 qf64) z0 ++ wX4 Z (ad q71 qf75) z0) ⟨hx, hb, hml, hown, hts⟩ (c_X4_init Z l q71) (cwI 0 hts gX6_init_X4_init rfl rfl rfl w36 w37 w38 rfl hs_X4_init ⟨Nat.le_of_ble_eq_true rfl, Nat.le_of_ble_eq_true rfl⟩) hK hE hP hD hS hA [38] [0, 1, 2, 3, 4, 5, 6, 7, 8, 9, 10, 11, 12, 13, 14, 15, 16, 17, 18, 19, 20, 21, 22, 23, 24, 25, 26, 27, 28, 29, 30, 31, 32, 33, 34, 35, 36, 37] [0, 1, 2, 3, 4, 5, 6, 7, 8, 9, 10, 11, 12, 13, 14, 15, 16, 17, 18, 19, 20, 21, 22, 23, 24, 25, 26, 27, 28, 29, 30, 31, 32, 33, 34, 35, 36, 37, 38, 39] rfl rfl rfl (fun _ => rfl) rfl hl.1 rfl (lv_room (Nat.le_of_ble_eq_true rfl)) dX6_init_75 ⟨Nat.le_of_ble_eq_true rfl, Nat.le_of_ble_eq_true rfl⟩ (fun qf75 H locs hP hD hS => ?_)
  refine W.widen (k := 39) (n := 2244) (Nat.le_of_ble_eq_true rfl) (Nat.le_of_ble_eq_true rfl) ?_
  refine va_putF (pc := 78) (D := Z.1) (ci := 6) (v := .ref q71) (ty := .object "HeatTrain$Trends") (C := RX6) (T := TX6) (N := 9) hx hb hts u6 tyX6 tyX6_ok nmX6 hown hK hP hD hS 0 rfl rfl 6 (by decide) w39 (fun _ h9 => h9) rfl (hin rfl) rfl (by decide +kernel) rfl rfl (Nat.le_of_ble_eq_true rfl) dX6_init_78 (fun H locs hP hD hS => ?_)
  have hP : va_P Z.1 vwCl ([(b, .inr (6, [.ref q5, .ref q16, .ref q27, .ref q38, .ref q49, .ref q60, .ref q71, .int 0, .long 0]))] ++ wX3 Z (ad q5 qf9) z0 ++ wX3 Z (ad q16 qf20) z0 ++ wX5 Z (ad q27 qf31) R5 ++ wX1 Z (ad q38 qf42) z0 ++ wX0 Z (ad q49 qf53) z0 ++ wX2 Z (ad q60 qf64) z0 ++ wX4 Z (ad q71 qf75) z0) H := hP
  have hD : va_D A ([(b, .inr (6, [.ref q5, .ref q16, .ref q27, .ref q38, .ref q49, .ref q60, .ref q71, .int 0, .long 0]))] ++ wX3 Z (ad q5 qf9) z0 ++ wX3 Z (ad q16 qf20) z0 ++ wX5 Z (ad q27 qf31) R5 ++ wX1 Z (ad q38 qf42) z0 ++ wX0 Z (ad q49 qf53) z0 ++ wX2 Z (ad q60 qf64) z0 ++ wX4 Z (ad q71 qf75) z0) := hD
  refine lv_aload_n (pc := 81) hx hb dX6_init_81 rfl (lv_at hl 0 rfl) ?_
  refine lv_iconst (pc := 82) (v := 0) hx hb dX6_init_82 (by decide) ?_
  refine va_put (pc := 83) (D := Z.1) (ci := 6) (v := .int 0) (ty := .int) (C := RX6) (T := TX6) (N := 9) hx hb hts u6 tyX6 tyX6_ok nmX6 hown hK hP hD hS 0 rfl rfl 7 (by decide) w40 (fun _ h9 => h9) rfl (by decide +kernel) rfl rfl (Nat.le_of_ble_eq_true rfl) dX6_init_83 (fun H locs hP hD hS => ?_)
  have hP : va_P Z.1 vwCl ([(b, .inr (6, [.ref q5, .ref q16, .ref q27, .ref q38, .ref q49, .ref q60, .ref q71, .int 0, .long 0]))] ++ wX3 Z (ad q5 qf9) z0 ++ wX3 Z (ad q16 qf20) z0 ++ wX5 Z (ad q27 qf31) R5 ++ wX1 Z (ad q38 qf42) z0 ++ wX0 Z (ad q49 qf53) z0 ++ wX2 Z (ad q60 qf64) z0 ++ wX4 Z (ad q71 qf75) z0) H := hP
  have hD : va_D A ([(b, .inr (6, [.ref q5, .ref q16, .ref q27, .ref q38, .ref q49, .ref q60, .ref q71, .int 0, .long 0]))] ++ wX3 Z (ad q5 qf9) z0 ++ wX3 Z (ad q16 qf20) z0 ++ wX5 Z (ad q27 qf31) R5 ++ wX1 Z (ad q38 qf42) z0 ++ wX0 Z (ad q49 qf53) z0 ++ wX2 Z (ad q60 qf64) z0 ++ wX4 Z (ad q71 qf75) z0) := hD
  refine lv_aload_n (pc := 86) hx hb dX6_init_86 rfl (lv_at hl 0 rfl) ?_
  refine lv_lconst (pc := 87) (v := 0) hx hb dX6_init_87 (by decide) ?_
  refine va_put (pc := 88) (D := Z.1) (ci := 6) (v := .long 0) (ty := .long) (C := RX6) (T := TX6) (N := 9) hx hb hts u6 tyX6 tyX6_ok nmX6 hown hK hP hD hS 0 rfl rfl 8 (by decide) w41 (fun _ h9 => h9) rfl (by decide +kernel) rfl rfl (Nat.le_of_ble_eq_true rfl) dX6_init_88 (fun H locs hP hD hS => ?_)
  have hP : va_P Z.1 vwCl ([(b, .inr (6, [.ref q5, .ref q16, .ref q27, .ref q38, .ref q49, .ref q60, .ref q71, .int 0, .long 0]))] ++ wX3 Z (ad q5 qf9) z0 ++ wX3 Z (ad q16 qf20) z0 ++ wX5 Z (ad q27 qf31) R5 ++ wX1 Z (ad q38 qf42) z0 ++ wX0 Z (ad q49 qf53) z0 ++ wX2 Z (ad q60 qf64) z0 ++ wX4 Z (ad q71 qf75) z0) H := hP
  have hD : va_D A ([(b, .inr (6, [.ref q5, .ref q16, .ref q27, .ref q38, .ref q49, .ref q60, .ref q71, .int 0, .long 0]))] ++ wX3 Z (ad q5 qf9) z0 ++ wX3 Z (ad q16 qf20) z0 ++ wX5 Z (ad q27 qf31) R5 ++ wX1 Z (ad q38 qf42) z0 ++ wX0 Z (ad q49 qf53) z0 ++ wX2 Z (ad q60 qf64) z0 ++ wX4 Z (ad q71 qf75) z0) := hD
  exact rw_v (q6 b (ad q5 qf9) (ad q16 qf20) (ad q27 qf31) (ad q38 qf42) (ad q49 qf53) (ad q60 qf64) (ad q71 qf75)) hx hb hr hlk hP hD hS dX6_init_91
