def f_X7_runs_b322 (x1 : Int32) (s14 : ObS) (r46 : Int64) (r59 : Int64) (k322_0 : Int64) : Option (ObS) :=
  if inb x1 12 then
  (some (oi s14 8 (x1).toNatClampNeg k322_0.toInt32)).bind fun s332 =>
  (f_X7_gives s332 x1 r46 (r59 - k322_0) 0 0).bind fun r344 =>
  some (r344)
  else none
def f_X7_runs_b264 (x1 : Int32) (s14 : ObS) (r46 : Int64) (r59 : Int64) (k87_0 : Int64) (k112_0 : Int64) (k264_0 : Int64) : Option (ObS) :=
  if inb x1 12 then
  (some (oi s14 8 (x1).toNatClampNeg ((f_X7_held k264_0 (-k112_0) r59).toInt32))).bind fun s286 =>
  (f_X7_gives s286 x1 r46 (r59 - (f_X7_held k264_0 (-k112_0) r59)) k87_0 (k112_0 + (f_X7_held k264_0 (-k112_0) r59))).bind fun r303 =>
  some (r303)
  else none
def f_X7_runs_b220 (x1 : Int32) (x2 : Int64) (s14 : ObS) (r46 : Int64) (r59 : Int64) (k87_0 : Int64) (k112_0 : Int64) (k220_0 : Int64) : Option (ObS) :=
  if (lg_cmp (x2 + k220_0) 0) = (0 : Int32) then
    f_X7_runs_b264 x1 s14 r46 r59 k87_0 k112_0 0
  else
    (f_X7_warmthFor r46 r59).bind fun r243 =>
    (f_X7_warmthFor k87_0 k112_0).bind fun r250 =>
    if decide (¬ (10 * (x2 + k220_0)) = (0 : Int64)) then
    f_X7_runs_b264 x1 s14 r46 r59 k87_0 k112_0 (((x2 * k220_0) * (r243 - r250)) / (10 * (x2 + k220_0)))
    else none
def f_X7_runs_b149 (x1 : Int32) (x2 : Int64) (s14 : ObS) (r46 : Int64) (r59 : Int64) (k149_0 : Int64) : Option (ObS) :=
  (f_X7_gives s14 x1 ((r46 * x2) / 100) k149_0 (r46 - ((r46 * x2) / 100)) (r59 - k149_0)).bind fun r167 =>
  some (r167)
def f_X7_runs_b112 (o0 : ObS) (x1 : Int32) (x2 : Int64) (s14 : ObS) (r46 : Int64) (r59 : Int64) (k87_0 : Int64) (k112_0 : Int64) : Option (ObS) :=
  if (o0.1 3 (x1).toNatClampNeg) = 1 then
    if (lg_cmp r46 0) = (0 : Int32) then
      f_X7_runs_b149 x1 x2 s14 r46 r59 0
    else
      if decide (¬ r46 = (0 : Int64)) then
      f_X7_runs_b149 x1 x2 s14 r46 r59 ((r59 * ((r46 * x2) / 100)) / r46)
      else none
  else
    if (o0.1 3 (x1).toNatClampNeg) = 2 then
      (f_X7_gives s14 x1 (r46 + k87_0) (r59 + k112_0) 0 0).bind fun r193 =>
      some (r193)
    else
      if (o0.1 3 (x1).toNatClampNeg) = 3 then
        if (0 : Int32) ≤ (lg_cmp r46 k87_0) then
          f_X7_runs_b220 x1 x2 s14 r46 r59 k87_0 k112_0 k87_0
        else
          f_X7_runs_b220 x1 x2 s14 r46 r59 k87_0 k112_0 r46
      else
        if (0 : Int32) ≤ (lg_cmp r59 x2) then
          f_X7_runs_b322 x1 s14 r46 r59 x2
        else
          f_X7_runs_b322 x1 s14 r46 r59 r59
def f_X7_runs_b87 (o0 : ObS) (x1 : Int32) (x2 : Int64) (s14 : ObS) (r46 : Int64) (r59 : Int64) (k87_0 : Int64) : Option (ObS) :=
  if (f_X7_takesTwo (o0.1 3 (x1).toNatClampNeg)) = (0 : Int32) then
    f_X7_runs_b112 o0 x1 x2 s14 r46 r59 k87_0 0
  else
    if inb x1 12 then
    (f_X7_takenHeat s14 x1 (s14.1 7 (x1).toNatClampNeg)).bind fun r105 =>
    f_X7_runs_b112 o0 x1 x2 s14 r46 r59 k87_0 r105
    else none
def f_X7_runs (o0 : ObS) (x1 : Int32) (x2 : Int64) : Option (ObS) :=
  if inb x1 12 then
  if inb x1 12 then
  (some (oi o0 8 (x1).toNatClampNeg 0)).bind fun s14 =>
  if (o0.1 3 (x1).toNatClampNeg) = (0 : Int32) then
    if inb x1 12 then
    (f_X7_gives s14 x1 x2 (x2 * ((s14.1 5 (x1).toNatClampNeg).toInt64)) 0 0).bind fun r34 =>
    some (r34)
    else none
  else
    if inb x1 12 then
    (f_X7_takenFlow s14 x1 (s14.1 6 (x1).toNatClampNeg)).bind fun r46 =>
    if inb x1 12 then
    (f_X7_takenHeat s14 x1 (s14.1 6 (x1).toNatClampNeg)).bind fun r59 =>
    if (f_X7_takesTwo (o0.1 3 (x1).toNatClampNeg)) = (0 : Int32) then
      f_X7_runs_b87 o0 x1 x2 s14 r46 r59 0
    else
      if inb x1 12 then
      (f_X7_takenFlow s14 x1 (s14.1 7 (x1).toNatClampNeg)).bind fun r80 =>
      f_X7_runs_b87 o0 x1 x2 s14 r46 r59 r80
      else none
    else none
    else none
  else none
  else none
set_option maxHeartbeats 4000000 in
set_option maxRecDepth 100000 in
theorem c_X7_runs (Z : EnvT) (l : Launch) (a0 : Nat → Nat) (o0 : ObS) (x1 : Int32) (x2 : Int64) (R : ObS) (hf : f_X7_runs o0 x1 x2 = some R) : RW Z l yX7_runs wsX7_runs { frames := 1, cells := 0, slots := 0, locals := 29 } [.ref (a0 0), .int x1, .long x2] (wX7 Z a0 o0) none (fun _ => wX7 Z a0 R) 0 0 := by
  refine rw_of (cc := cX7_runs) (maxL := 17) (ret := none) (by decide) rfl (Nat.le_of_ble_eq_true rfl) ?_
  intro p e s m below meth c A ls hx hb hr hml hts hown hlk hin hP hK hE hD hA hS hl
  have hown : s.vm.findClass RX7 = some m.cls := hown
  have hl : lv_has ls 17 [(0, .ref (a0 0)), (1, .int x1), (2, .long x2)] := hl
  have w0 := hts (.fieldLink RX7 7 "HeatTrainModel" "kinds" "[I") (by decide +kernel)
  have w1 := hts (.fieldLink RX7 25 "HeatTrainModel" "moved" "[I") (by decide +kernel)
  have w2 := hts (.fieldLink RX7 19 "HeatTrainModel" "firsts" "[I") (by decide +kernel)
  have w3 := hts (.fieldLink RX7 22 "HeatTrainModel" "seconds" "[I") (by decide +kernel)
  have w4 := hts (.fieldLink RX7 16 "HeatTrainModel" "warmths" "[I") (by decide +kernel)
  have w5 := hts (.constantLong RX7 191 (100)) (by decide +kernel)
  have w6 := hts (.constantLong RX7 182 (10)) (by decide +kernel)
  have u7 : ∀ w ∈ wsX70, w ∈ wsX7_runs := by decide +kernel
  have B322 : ∀ (s14 : ObS) (r46 : Int64) (r59 : Int64), ∀ (k322_0 : Int64) (ls : Array Slot), lv_has ls 17 [(0, .ref (a0 0)), (1, .int x1), (5, .long r46), (7, .long r59)] → ∀ (H : Heap) (locs : List Loc), va_P Z.1 vwCl (wX7 Z a0 s14) H → va_D A (wX7 Z a0 s14) → va_S A s.heap H locs → f_X7_runs_b322 x1 s14 r46 r59 k322_0 = some R → W p l e { frames := 1, cells := 0, slots := 0, locals := 29 } s m ([.ref (a0 0), .int x1, .long x2] : List Value).toArray below meth c H locs 0 0 (MQ below (rwQ Z none (fun _ => wX7 Z a0 R) A) ([.ref (a0 0), .int x1, .long x2] : List Value).toArray s 0 0 A) (F0 m 322 ls [.long k322_0]) := by
    intro s14 r46 r59 k322_0 ls hl H locs hP hD hS hf
    rw [f_X7_runs_b322] at hf
    refine lv_lstore (pc := 322) (lv' := [(13, .long k322_0), (0, .ref (a0 0)), (1, .int x1), (5, .long r46), (7, .long r59)]) hx hb dX7_runs_322 hl (by decide) rfl (fun ls hl => ?_)
    refine lv_aload_n (pc := 324) hx hb dX7_runs_324 rfl (lv_at hl 1 rfl) ?_
    refine va_get (pc := 325) (D := Z.1) (ci := 7) (v := .ref (a0 9)) (C := RX7) (T := TX7) (N := 41) hx hb hts u7 hown hK hP 0 rfl rfl 8 (by decide) w1 (fun _ h9 => h9) rfl dX7_runs_325 ?_
    refine lv_iload_n (pc := 328) hx hb dX7_runs_328 rfl (lv_at hl 2 rfl) ?_
    refine lv_lload (pc := 329) hx hb dX7_runs_329 (lv_at hl 0 rfl) ?_
    refine lv_l2i (pc := 331) (v := k322_0.toInt32) hx hb dX7_runs_331 rfl ?_
    obtain ⟨g332, hf⟩ := gd hf
    refine va_iast (pc := 332) (D := Z.1) (n := 12) (f := s14.1 8) hx hb hK hP hD hS 6 0 rfl rfl (inb_in g332) dX7_runs_332 (fun H locs hP hD hS => ?_)
    obtain ⟨s332, h_332, hf⟩ := bd hf
    have hP : va_P Z.1 vwCl (wX7 Z a0 s332) H := st_P (f := fun z => wX7 Z a0 z) h_332 hP
    have hD : va_D A (wX7 Z a0 s332) := st_D (f := fun z => wX7 Z a0 z) h_332 hD
    refine lv_aload_n (pc := 333) hx hb dX7_runs_333 rfl (lv_at hl 1 rfl) ?_
    refine lv_iload_n (pc := 334) hx hb dX7_runs_334 rfl (lv_at hl 2 rfl) ?_
    refine lv_lload (pc := 335) hx hb dX7_runs_335 (lv_at hl 3 rfl) ?_
    refine lv_lload (pc := 337) hx hb dX7_runs_337 (lv_at hl 4 rfl) ?_
    refine lv_lload (pc := 339) hx hb dX7_runs_339 (lv_at hl 0 rfl) ?_
    refine lv_lsub (pc := 341) hx hb dX7_runs_341 ?_
    refine lv_lconst (pc := 342) (v := 0) hx hb dX7_runs_342 (by decide) ?_
    refine lv_lconst (pc := 343) (v := 0) hx hb dX7_runs_343 (by decide) ?_
    obtain ⟨r344, h_344, hf⟩ := bd hf
    refine rw_V (pc := 344) (C := RX7) (As := [.int x1, .long r46, .long (r59 - k322_0), .long 0, .long 0]) (rest := []) (st1 := []) (wn := fun _ => wX7 Z a0 r344) ⟨hx, hb, hml, hown, hts⟩ (c_X7_gives Z l a0 s332 x1 r46 (r59 - k322_0) 0 0 r344 h_344) (cwV 5 hts gX7_runs_X7_gives rfl rfl rfl hv_X7_gives ⟨Nat.le_of_ble_eq_true rfl, Nat.le_of_ble_eq_true rfl⟩) hK hE hP hD hS hA [0, 1, 2, 3, 4, 5, 6, 7, 8, 9, 10, 11, 12, 13, 14, 15, 16, 17, 18, 19, 20, 21, 22, 23, 24, 25, 26, 27, 28, 29, 30, 31, 32, 33, 34, 35] [] [0, 1, 2, 3, 4, 5, 6, 7, 8, 9, 10, 11, 12, 13, 14, 15, 16, 17, 18, 19, 20, 21, 22, 23, 24, 25, 26, 27, 28, 29, 30, 31, 32, 33, 34, 35] rfl rfl rfl (fun _ => rfl) 7 rfl rfl rfl hl.1 rfl (lv_room (Nat.le_of_ble_eq_true rfl)) dX7_runs_344 ⟨Nat.le_of_ble_eq_true rfl, Nat.le_of_ble_eq_true rfl⟩ rfl (fun _ H locs hP hD hS => ?_)
    have hf := (Option.some.inj hf)
    subst hf
    exact rw_v (fun _ => 0) hx hb hr hlk hP hD hS dX7_runs_347
  have B264 : ∀ (s14 : ObS) (r46 : Int64) (r59 : Int64) (k87_0 : Int64) (k112_0 : Int64), ∀ (k264_0 : Int64) (ls : Array Slot), lv_has ls 17 [(0, .ref (a0 0)), (1, .int x1), (5, .long r46), (7, .long r59), (9, .long k87_0), (11, .long k112_0)] → ∀ (H : Heap) (locs : List Loc), va_P Z.1 vwCl (wX7 Z a0 s14) H → va_D A (wX7 Z a0 s14) → va_S A s.heap H locs → f_X7_runs_b264 x1 s14 r46 r59 k87_0 k112_0 k264_0 = some R → W p l e { frames := 1, cells := 0, slots := 0, locals := 29 } s m ([.ref (a0 0), .int x1, .long x2] : List Value).toArray below meth c H locs 0 0 (MQ below (rwQ Z none (fun _ => wX7 Z a0 R) A) ([.ref (a0 0), .int x1, .long x2] : List Value).toArray s 0 0 A) (F0 m 264 ls [.long k264_0]) := by
    intro s14 r46 r59 k87_0 k112_0 k264_0 ls hl H locs hP hD hS hf
    rw [f_X7_runs_b264] at hf
    refine lv_lstore (pc := 264) (lv' := [(15, .long k264_0), (0, .ref (a0 0)), (1, .int x1), (5, .long r46), (7, .long r59), (9, .long k87_0), (11, .long k112_0)]) hx hb dX7_runs_264 hl (by decide) rfl (fun ls hl => ?_)
    refine lv_lload (pc := 266) hx hb dX7_runs_266 (lv_at hl 0 rfl) ?_
    refine lv_lload (pc := 268) hx hb dX7_runs_268 (lv_at hl 6 rfl) ?_
    refine lv_lneg (pc := 270) hx hb dX7_runs_270 ?_
    refine lv_lload (pc := 271) hx hb dX7_runs_271 (lv_at hl 4 rfl) ?_
    refine ro_S (pc := 273) (As := [.long k264_0, .long (-k112_0), .long r59]) (rest := []) (st1 := [.long (f_X7_held k264_0 (-k112_0) r59)]) ⟨hx, hb, hml, hown, hts⟩ (c_X7_held Z l k264_0 (-k112_0) r59 _ rfl) (va_cwS 3 hts gX7_runs_X7_held rfl rfl rfl hs_X7_held ⟨Nat.le_of_ble_eq_true rfl, Nat.le_of_ble_eq_true rfl⟩) hK hE (hP.sub (ws' := []) [] rfl) rfl hl.1 rfl (lv_room (Nat.le_of_ble_eq_true rfl)) dX7_runs_273 ⟨Nat.le_of_ble_eq_true rfl, Nat.le_of_ble_eq_true rfl⟩ rfl ?_
    refine lv_lstore (pc := 276) (lv' := [(15, .long (f_X7_held k264_0 (-k112_0) r59)), (0, .ref (a0 0)), (1, .int x1), (5, .long r46), (7, .long r59), (9, .long k87_0), (11, .long k112_0)]) hx hb dX7_runs_276 hl (by decide) rfl (fun ls hl => ?_)
    refine lv_aload_n (pc := 278) hx hb dX7_runs_278 rfl (lv_at hl 1 rfl) ?_
    refine va_get (pc := 279) (D := Z.1) (ci := 7) (v := .ref (a0 9)) (C := RX7) (T := TX7) (N := 41) hx hb hts u7 hown hK hP 0 rfl rfl 8 (by decide) w1 (fun _ h9 => h9) rfl dX7_runs_279 ?_
    refine lv_iload_n (pc := 282) hx hb dX7_runs_282 rfl (lv_at hl 2 rfl) ?_
    refine lv_lload (pc := 283) hx hb dX7_runs_283 (lv_at hl 0 rfl) ?_
    refine lv_l2i (pc := 285) (v := (f_X7_held k264_0 (-k112_0) r59).toInt32) hx hb dX7_runs_285 rfl ?_
    obtain ⟨g286, hf⟩ := gd hf
    refine va_iast (pc := 286) (D := Z.1) (n := 12) (f := s14.1 8) hx hb hK hP hD hS 6 0 rfl rfl (inb_in g286) dX7_runs_286 (fun H locs hP hD hS => ?_)
    obtain ⟨s286, h_286, hf⟩ := bd hf
    have hP : va_P Z.1 vwCl (wX7 Z a0 s286) H := st_P (f := fun z => wX7 Z a0 z) h_286 hP
    have hD : va_D A (wX7 Z a0 s286) := st_D (f := fun z => wX7 Z a0 z) h_286 hD
    refine lv_aload_n (pc := 287) hx hb dX7_runs_287 rfl (lv_at hl 1 rfl) ?_
    refine lv_iload_n (pc := 288) hx hb dX7_runs_288 rfl (lv_at hl 2 rfl) ?_
    refine lv_lload (pc := 289) hx hb dX7_runs_289 (lv_at hl 3 rfl) ?_
    refine lv_lload (pc := 291) hx hb dX7_runs_291 (lv_at hl 4 rfl) ?_
    refine lv_lload (pc := 293) hx hb dX7_runs_293 (lv_at hl 0 rfl) ?_
    refine lv_lsub (pc := 295) hx hb dX7_runs_295 ?_
    refine lv_lload (pc := 296) hx hb dX7_runs_296 (lv_at hl 5 rfl) ?_
    refine lv_lload (pc := 298) hx hb dX7_runs_298 (lv_at hl 6 rfl) ?_
    refine lv_lload (pc := 300) hx hb dX7_runs_300 (lv_at hl 0 rfl) ?_
    refine lv_ladd (pc := 302) hx hb dX7_runs_302 ?_
    obtain ⟨r303, h_303, hf⟩ := bd hf
    refine rw_V (pc := 303) (C := RX7) (As := [.int x1, .long r46, .long (r59 - (f_X7_held k264_0 (-k112_0) r59)), .long k87_0, .long (k112_0 + (f_X7_held k264_0 (-k112_0) r59))]) (rest := []) (st1 := []) (wn := fun _ => wX7 Z a0 r303) ⟨hx, hb, hml, hown, hts⟩ (c_X7_gives Z l a0 s286 x1 r46 (r59 - (f_X7_held k264_0 (-k112_0) r59)) k87_0 (k112_0 + (f_X7_held k264_0 (-k112_0) r59)) r303 h_303) (cwV 5 hts gX7_runs_X7_gives rfl rfl rfl hv_X7_gives ⟨Nat.le_of_ble_eq_true rfl, Nat.le_of_ble_eq_true rfl⟩) hK hE hP hD hS hA [0, 1, 2, 3, 4, 5, 6, 7, 8, 9, 10, 11, 12, 13, 14, 15, 16, 17, 18, 19, 20, 21, 22, 23, 24, 25, 26, 27, 28, 29, 30, 31, 32, 33, 34, 35] [] [0, 1, 2, 3, 4, 5, 6, 7, 8, 9, 10, 11, 12, 13, 14, 15, 16, 17, 18, 19, 20, 21, 22, 23, 24, 25, 26, 27, 28, 29, 30, 31, 32, 33, 34, 35] rfl rfl rfl (fun _ => rfl) 7 rfl rfl rfl hl.1 rfl (lv_room (Nat.le_of_ble_eq_true rfl)) dX7_runs_303 ⟨Nat.le_of_ble_eq_true rfl, Nat.le_of_ble_eq_true rfl⟩ rfl (fun _ H locs hP hD hS => ?_)
    refine lv_goto (pc := 306) (tgt := 347) hx hb dX7_runs_306 (by decide) ?_
    have hf := (Option.some.inj hf)
    subst hf
    exact rw_v (fun _ => 0) hx hb hr hlk hP hD hS dX7_runs_347
  have B220 : ∀ (s14 : ObS) (r46 : Int64) (r59 : Int64) (k87_0 : Int64) (k112_0 : Int64), ∀ (k220_0 : Int64) (ls : Array Slot), lv_has ls 17 [(0, .ref (a0 0)), (1, .int x1), (2, .long x2), (5, .long r46), (7, .long r59), (9, .long k87_0), (11, .long k112_0)] → ∀ (H : Heap) (locs : List Loc), va_P Z.1 vwCl (wX7 Z a0 s14) H → va_D A (wX7 Z a0 s14) → va_S A s.heap H locs → f_X7_runs_b220 x1 x2 s14 r46 r59 k87_0 k112_0 k220_0 = some R → W p l e { frames := 1, cells := 0, slots := 0, locals := 29 } s m ([.ref (a0 0), .int x1, .long x2] : List Value).toArray below meth c H locs 0 0 (MQ below (rwQ Z none (fun _ => wX7 Z a0 R) A) ([.ref (a0 0), .int x1, .long x2] : List Value).toArray s 0 0 A) (F0 m 220 ls [.long k220_0]) := by
    intro s14 r46 r59 k87_0 k112_0 k220_0 ls hl H locs hP hD hS hf
    rw [f_X7_runs_b220] at hf
    refine lv_lstore (pc := 220) (lv' := [(13, .long k220_0), (0, .ref (a0 0)), (1, .int x1), (2, .long x2), (5, .long r46), (7, .long r59), (9, .long k87_0), (11, .long k112_0)]) hx hb dX7_runs_220 hl (by decide) rfl (fun ls hl => ?_)
    refine lv_lload_n (pc := 222) hx hb dX7_runs_222 rfl (lv_at hl 3 rfl) ?_
    refine lv_lload (pc := 223) hx hb dX7_runs_223 (lv_at hl 0 rfl) ?_
    refine lv_ladd (pc := 225) hx hb dX7_runs_225 ?_
    refine lv_lconst (pc := 226) (v := 0) hx hb dX7_runs_226 (by decide) ?_
    refine W.lcmp (pc := 227) hx hb dX7_runs_227 ?_
    refine lv_if_ne (pc := 228) (tgt := 235) hx hb dX7_runs_228 (by decide) (fun c1 => ?_) (fun c1 => ?_)
    · have hf := (if_neg c1).symm.trans hf
      refine lv_lload_n (pc := 235) hx hb dX7_runs_235 rfl (lv_at hl 3 rfl) ?_
      refine lv_lload (pc := 236) hx hb dX7_runs_236 (lv_at hl 0 rfl) ?_
      refine lv_lmul (pc := 238) hx hb dX7_runs_238 ?_
      refine lv_lload (pc := 239) hx hb dX7_runs_239 (lv_at hl 4 rfl) ?_
      refine lv_lload (pc := 241) hx hb dX7_runs_241 (lv_at hl 5 rfl) ?_
      obtain ⟨r243, h_243, hf⟩ := bd hf
      refine ro_S (pc := 243) (As := [.long r46, .long r59]) (rest := [.long (x2 * k220_0)]) (st1 := [.long r243, .long (x2 * k220_0)]) ⟨hx, hb, hml, hown, hts⟩ (c_X7_warmthFor Z l r46 r59 r243 h_243) (va_cwS 2 hts gX7_runs_X7_warmthFor rfl rfl rfl hs_X7_warmthFor ⟨Nat.le_of_ble_eq_true rfl, Nat.le_of_ble_eq_true rfl⟩) hK hE (hP.sub (ws' := []) [] rfl) rfl hl.1 rfl (lv_room (Nat.le_of_ble_eq_true rfl)) dX7_runs_243 ⟨Nat.le_of_ble_eq_true rfl, Nat.le_of_ble_eq_true rfl⟩ rfl ?_
      refine lv_lload (pc := 246) hx hb dX7_runs_246 (lv_at hl 6 rfl) ?_
      refine lv_lload (pc := 248) hx hb dX7_runs_248 (lv_at hl 7 rfl) ?_
      obtain ⟨r250, h_250, hf⟩ := bd hf
      refine ro_S (pc := 250) (As := [.long k87_0, .long k112_0]) (rest := [.long r243, .long (x2 * k220_0)]) (st1 := [.long r250, .long r243, .long (x2 * k220_0)]) ⟨hx, hb, hml, hown, hts⟩ (c_X7_warmthFor Z l k87_0 k112_0 r250 h_250) (va_cwS 2 hts gX7_runs_X7_warmthFor rfl rfl rfl hs_X7_warmthFor ⟨Nat.le_of_ble_eq_true rfl, Nat.le_of_ble_eq_true rfl⟩) hK hE (hP.sub (ws' := []) [] rfl) rfl hl.1 rfl (lv_room (Nat.le_of_ble_eq_true rfl)) dX7_runs_250 ⟨Nat.le_of_ble_eq_true rfl, Nat.le_of_ble_eq_true rfl⟩ rfl ?_
      refine lv_lsub (pc := 253) hx hb dX7_runs_253 ?_
      refine lv_lmul (pc := 254) hx hb dX7_runs_254 ?_
      refine lv_ldc2 (pc := 255) (v := 10) hx hb hown w6 dX7_runs_255 ?_
      refine lv_lload_n (pc := 258) hx hb dX7_runs_258 rfl (lv_at hl 3 rfl) ?_
      refine lv_lload (pc := 259) hx hb dX7_runs_259 (lv_at hl 0 rfl) ?_
      refine lv_ladd (pc := 261) hx hb dX7_runs_261 ?_
      refine lv_lmul (pc := 262) hx hb dX7_runs_262 ?_
      obtain ⟨g263, hf⟩ := gd hf
      refine lv_ldiv (pc := 263) hx hb dX7_runs_263 (of_decide_eq_true g263) ?_
      exact B264 s14 r46 r59 k87_0 k112_0 (((x2 * k220_0) * (r243 - r250)) / (10 * (x2 + k220_0))) _ (lv_sub hl [1, 2, 4, 5, 6, 7] rfl) _ _ hP hD hS hf
    · have hf := (if_pos c1).symm.trans hf
      refine lv_lconst (pc := 231) (v := 0) hx hb dX7_runs_231 (by decide) ?_
      refine lv_goto (pc := 232) (tgt := 264) hx hb dX7_runs_232 (by decide) ?_
      exact B264 s14 r46 r59 k87_0 k112_0 0 _ (lv_sub hl [1, 2, 4, 5, 6, 7] rfl) _ _ hP hD hS hf
  have B149 : ∀ (s14 : ObS) (r46 : Int64) (r59 : Int64), ∀ (k149_0 : Int64) (ls : Array Slot), lv_has ls 17 [(0, .ref (a0 0)), (1, .int x1), (5, .long r46), (7, .long r59), (13, .long ((r46 * x2) / 100))] → ∀ (H : Heap) (locs : List Loc), va_P Z.1 vwCl (wX7 Z a0 s14) H → va_D A (wX7 Z a0 s14) → va_S A s.heap H locs → f_X7_runs_b149 x1 x2 s14 r46 r59 k149_0 = some R → W p l e { frames := 1, cells := 0, slots := 0, locals := 29 } s m ([.ref (a0 0), .int x1, .long x2] : List Value).toArray below meth c H locs 0 0 (MQ below (rwQ Z none (fun _ => wX7 Z a0 R) A) ([.ref (a0 0), .int x1, .long x2] : List Value).toArray s 0 0 A) (F0 m 149 ls [.long k149_0]) := by
    intro s14 r46 r59 k149_0 ls hl H locs hP hD hS hf
    rw [f_X7_runs_b149] at hf
    refine lv_lstore (pc := 149) (lv' := [(15, .long k149_0), (0, .ref (a0 0)), (1, .int x1), (5, .long r46), (7, .long r59), (13, .long ((r46 * x2) / 100))]) hx hb dX7_runs_149 hl (by decide) rfl (fun ls hl => ?_)
    refine lv_aload_n (pc := 151) hx hb dX7_runs_151 rfl (lv_at hl 1 rfl) ?_
    refine lv_iload_n (pc := 152) hx hb dX7_runs_152 rfl (lv_at hl 2 rfl) ?_
    refine lv_lload (pc := 153) hx hb dX7_runs_153 (lv_at hl 5 rfl) ?_
    refine lv_lload (pc := 155) hx hb dX7_runs_155 (lv_at hl 0 rfl) ?_
    refine lv_lload (pc := 157) hx hb dX7_runs_157 (lv_at hl 3 rfl) ?_
    refine lv_lload (pc := 159) hx hb dX7_runs_159 (lv_at hl 5 rfl) ?_
    refine lv_lsub (pc := 161) hx hb dX7_runs_161 ?_
    refine lv_lload (pc := 162) hx hb dX7_runs_162 (lv_at hl 4 rfl) ?_
    refine lv_lload (pc := 164) hx hb dX7_runs_164 (lv_at hl 0 rfl) ?_
    refine lv_lsub (pc := 166) hx hb dX7_runs_166 ?_
    obtain ⟨r167, h_167, hf⟩ := bd hf
    refine rw_V (pc := 167) (C := RX7) (As := [.int x1, .long ((r46 * x2) / 100), .long k149_0, .long (r46 - ((r46 * x2) / 100)), .long (r59 - k149_0)]) (rest := []) (st1 := []) (wn := fun _ => wX7 Z a0 r167) ⟨hx, hb, hml, hown, hts⟩ (c_X7_gives Z l a0 s14 x1 ((r46 * x2) / 100) k149_0 (r46 - ((r46 * x2) / 100)) (r59 - k149_0) r167 h_167) (cwV 5 hts gX7_runs_X7_gives rfl rfl rfl hv_X7_gives ⟨Nat.le_of_ble_eq_true rfl, Nat.le_of_ble_eq_true rfl⟩) hK hE hP hD hS hA [0, 1, 2, 3, 4, 5, 6, 7, 8, 9, 10, 11, 12, 13, 14, 15, 16, 17, 18, 19, 20, 21, 22, 23, 24, 25, 26, 27, 28, 29, 30, 31, 32, 33, 34, 35] [] [0, 1, 2, 3, 4, 5, 6, 7, 8, 9, 10, 11, 12, 13, 14, 15, 16, 17, 18, 19, 20, 21, 22, 23, 24, 25, 26, 27, 28, 29, 30, 31, 32, 33, 34, 35] rfl rfl rfl (fun _ => rfl) 7 rfl rfl rfl hl.1 rfl (lv_room (Nat.le_of_ble_eq_true rfl)) dX7_runs_167 ⟨Nat.le_of_ble_eq_true rfl, Nat.le_of_ble_eq_true rfl⟩ rfl (fun _ H locs hP hD hS => ?_)
    refine lv_goto (pc := 170) (tgt := 347) hx hb dX7_runs_170 (by decide) ?_
    have hf := (Option.some.inj hf)
    subst hf
    exact rw_v (fun _ => 0) hx hb hr hlk hP hD hS dX7_runs_347
  have B112 : ∀ (s14 : ObS) (r46 : Int64) (r59 : Int64) (k87_0 : Int64), ∀ (k112_0 : Int64) (ls : Array Slot), lv_has ls 17 [(0, .ref (a0 0)), (1, .int x1), (2, .long x2), (4, .int (o0.1 3 (x1).toNatClampNeg)), (5, .long r46), (7, .long r59), (9, .long k87_0)] → ∀ (H : Heap) (locs : List Loc), va_P Z.1 vwCl (wX7 Z a0 s14) H → va_D A (wX7 Z a0 s14) → va_S A s.heap H locs → f_X7_runs_b112 o0 x1 x2 s14 r46 r59 k87_0 k112_0 = some R → W p l e { frames := 1, cells := 0, slots := 0, locals := 29 } s m ([.ref (a0 0), .int x1, .long x2] : List Value).toArray below meth c H locs 0 0 (MQ below (rwQ Z none (fun _ => wX7 Z a0 R) A) ([.ref (a0 0), .int x1, .long x2] : List Value).toArray s 0 0 A) (F0 m 112 ls [.long k112_0]) := by
    intro s14 r46 r59 k87_0 k112_0 ls hl H locs hP hD hS hf
    rw [f_X7_runs_b112] at hf
    refine lv_lstore (pc := 112) (lv' := [(11, .long k112_0), (0, .ref (a0 0)), (1, .int x1), (2, .long x2), (4, .int (o0.1 3 (x1).toNatClampNeg)), (5, .long r46), (7, .long r59), (9, .long k87_0)]) hx hb dX7_runs_112 hl (by decide) rfl (fun ls hl => ?_)
    refine lv_iload (pc := 114) hx hb dX7_runs_114 (lv_at hl 4 rfl) ?_
    refine lv_iconst (pc := 116) (v := 1) hx hb dX7_runs_116 (by decide) ?_
    refine lv_icmp_ne (pc := 117) (tgt := 173) hx hb dX7_runs_117 (by decide) (fun c1 => ?_) (fun c1 => ?_)
    · have hf := (if_neg c1).symm.trans hf
      refine lv_iload (pc := 173) hx hb dX7_runs_173 (lv_at hl 4 rfl) ?_
      refine lv_iconst (pc := 175) (v := 2) hx hb dX7_runs_175 (by decide) ?_
      refine lv_icmp_ne (pc := 176) (tgt := 199) hx hb dX7_runs_176 (by decide) (fun c2 => ?_) (fun c2 => ?_)
      · have hf := (if_neg c2).symm.trans hf
        refine lv_iload (pc := 199) hx hb dX7_runs_199 (lv_at hl 4 rfl) ?_
        refine lv_iconst (pc := 201) (v := 3) hx hb dX7_runs_201 (by decide) ?_
        refine lv_icmp_ne (pc := 202) (tgt := 309) hx hb dX7_runs_202 (by decide) (fun c3 => ?_) (fun c3 => ?_)
        · have hf := (if_neg c3).symm.trans hf
          refine lv_lload (pc := 309) hx hb dX7_runs_309 (lv_at hl 6 rfl) ?_
          refine lv_lload_n (pc := 311) hx hb dX7_runs_311 rfl (lv_at hl 3 rfl) ?_
          refine W.lcmp (pc := 312) hx hb dX7_runs_312 ?_
          refine lv_if_ge (pc := 313) (tgt := 321) hx hb dX7_runs_313 (by decide) (fun c4 => ?_) (fun c4 => ?_)
          · have hf := (if_pos c4).symm.trans hf
            refine lv_lload_n (pc := 321) hx hb dX7_runs_321 rfl (lv_at hl 3 rfl) ?_
            exact B322 s14 r46 r59 x2 _ (lv_sub hl [1, 2, 5, 6] rfl) _ _ hP hD hS hf
          · have hf := (if_neg c4).symm.trans hf
            refine lv_lload (pc := 316) hx hb dX7_runs_316 (lv_at hl 6 rfl) ?_
            refine lv_goto (pc := 318) (tgt := 322) hx hb dX7_runs_318 (by decide) ?_
            exact B322 s14 r46 r59 r59 _ (lv_sub hl [1, 2, 5, 6] rfl) _ _ hP hD hS hf
        · have hf := (if_pos c3).symm.trans hf
          refine lv_lload (pc := 205) hx hb dX7_runs_205 (lv_at hl 5 rfl) ?_
          refine lv_lload (pc := 207) hx hb dX7_runs_207 (lv_at hl 7 rfl) ?_
          refine W.lcmp (pc := 209) hx hb dX7_runs_209 ?_
          refine lv_if_ge (pc := 210) (tgt := 218) hx hb dX7_runs_210 (by decide) (fun c5 => ?_) (fun c5 => ?_)
          · have hf := (if_pos c5).symm.trans hf
            refine lv_lload (pc := 218) hx hb dX7_runs_218 (lv_at hl 7 rfl) ?_
            exact B220 s14 r46 r59 k87_0 k112_0 k87_0 _ (lv_sub hl [1, 2, 3, 5, 6, 7, 0] rfl) _ _ hP hD hS hf
          · have hf := (if_neg c5).symm.trans hf
            refine lv_lload (pc := 213) hx hb dX7_runs_213 (lv_at hl 5 rfl) ?_
            refine lv_goto (pc := 215) (tgt := 220) hx hb dX7_runs_215 (by decide) ?_
            exact B220 s14 r46 r59 k87_0 k112_0 r46 _ (lv_sub hl [1, 2, 3, 5, 6, 7, 0] rfl) _ _ hP hD hS hf
      · have hf := (if_pos c2).symm.trans hf
        refine lv_aload_n (pc := 179) hx hb dX7_runs_179 rfl (lv_at hl 1 rfl) ?_
        refine lv_iload_n (pc := 180) hx hb dX7_runs_180 rfl (lv_at hl 2 rfl) ?_
        refine lv_lload (pc := 181) hx hb dX7_runs_181 (lv_at hl 5 rfl) ?_
        refine lv_lload (pc := 183) hx hb dX7_runs_183 (lv_at hl 7 rfl) ?_
        refine lv_ladd (pc := 185) hx hb dX7_runs_185 ?_
        refine lv_lload (pc := 186) hx hb dX7_runs_186 (lv_at hl 6 rfl) ?_
        refine lv_lload (pc := 188) hx hb dX7_runs_188 (lv_at hl 0 rfl) ?_
        refine lv_ladd (pc := 190) hx hb dX7_runs_190 ?_
        refine lv_lconst (pc := 191) (v := 0) hx hb dX7_runs_191 (by decide) ?_
        refine lv_lconst (pc := 192) (v := 0) hx hb dX7_runs_192 (by decide) ?_
        obtain ⟨r193, h_193, hf⟩ := bd hf
        refine rw_V (pc := 193) (C := RX7) (As := [.int x1, .long (r46 + k87_0), .long (r59 + k112_0), .long 0, .long 0]) (rest := []) (st1 := []) (wn := fun _ => wX7 Z a0 r193) ⟨hx, hb, hml, hown, hts⟩ (c_X7_gives Z l a0 s14 x1 (r46 + k87_0) (r59 + k112_0) 0 0 r193 h_193) (cwV 5 hts gX7_runs_X7_gives rfl rfl rfl hv_X7_gives ⟨Nat.le_of_ble_eq_true rfl, Nat.le_of_ble_eq_true rfl⟩) hK hE hP hD hS hA [0, 1, 2, 3, 4, 5, 6, 7, 8, 9, 10, 11, 12, 13, 14, 15, 16, 17, 18, 19, 20, 21, 22, 23, 24, 25, 26, 27, 28, 29, 30, 31, 32, 33, 34, 35] [] [0, 1, 2, 3, 4, 5, 6, 7, 8, 9, 10, 11, 12, 13, 14, 15, 16, 17, 18, 19, 20, 21, 22, 23, 24, 25, 26, 27, 28, 29, 30, 31, 32, 33, 34, 35] rfl rfl rfl (fun _ => rfl) 7 rfl rfl rfl hl.1 rfl (lv_room (Nat.le_of_ble_eq_true rfl)) dX7_runs_193 ⟨Nat.le_of_ble_eq_true rfl, Nat.le_of_ble_eq_true rfl⟩ rfl (fun _ H locs hP hD hS => ?_)
        refine lv_goto (pc := 196) (tgt := 347) hx hb dX7_runs_196 (by decide) ?_
        have hf := (Option.some.inj hf)
        subst hf
        exact rw_v (fun _ => 0) hx hb hr hlk hP hD hS dX7_runs_347
    · have hf := (if_pos c1).symm.trans hf
      refine lv_lload (pc := 120) hx hb dX7_runs_120 (lv_at hl 5 rfl) ?_
      refine lv_lload_n (pc := 122) hx hb dX7_runs_122 rfl (lv_at hl 3 rfl) ?_
      refine lv_lmul (pc := 123) hx hb dX7_runs_123 ?_
      refine lv_ldc2 (pc := 124) (v := 100) hx hb hown w5 dX7_runs_124 ?_
      refine lv_ldiv (pc := 127) hx hb dX7_runs_127 (by decide) ?_
      refine lv_lstore (pc := 128) (lv' := [(13, .long ((r46 * x2) / 100)), (11, .long k112_0), (0, .ref (a0 0)), (1, .int x1), (2, .long x2), (4, .int (o0.1 3 (x1).toNatClampNeg)), (5, .long r46), (7, .long r59), (9, .long k87_0)]) hx hb dX7_runs_128 hl (by decide) rfl (fun ls hl => ?_)
      refine lv_lload (pc := 130) hx hb dX7_runs_130 (lv_at hl 6 rfl) ?_
      refine lv_lconst (pc := 132) (v := 0) hx hb dX7_runs_132 (by decide) ?_
      refine W.lcmp (pc := 133) hx hb dX7_runs_133 ?_
      refine lv_if_ne (pc := 134) (tgt := 141) hx hb dX7_runs_134 (by decide) (fun c6 => ?_) (fun c6 => ?_)
      · have hf := (if_neg c6).symm.trans hf
        refine lv_lload (pc := 141) hx hb dX7_runs_141 (lv_at hl 7 rfl) ?_
        refine lv_lload (pc := 143) hx hb dX7_runs_143 (lv_at hl 0 rfl) ?_
        refine lv_lmul (pc := 145) hx hb dX7_runs_145 ?_
        refine lv_lload (pc := 146) hx hb dX7_runs_146 (lv_at hl 6 rfl) ?_
        obtain ⟨g148, hf⟩ := gd hf
        refine lv_ldiv (pc := 148) hx hb dX7_runs_148 (of_decide_eq_true g148) ?_
        exact B149 s14 r46 r59 ((r59 * ((r46 * x2) / 100)) / r46) _ (lv_sub hl [2, 3, 6, 7, 0] rfl) _ _ hP hD hS hf
      · have hf := (if_pos c6).symm.trans hf
        refine lv_lconst (pc := 137) (v := 0) hx hb dX7_runs_137 (by decide) ?_
        refine lv_goto (pc := 138) (tgt := 149) hx hb dX7_runs_138 (by decide) ?_
        exact B149 s14 r46 r59 0 _ (lv_sub hl [2, 3, 6, 7, 0] rfl) _ _ hP hD hS hf
  have B87 : ∀ (s14 : ObS) (r46 : Int64) (r59 : Int64), ∀ (k87_0 : Int64) (ls : Array Slot), lv_has ls 17 [(0, .ref (a0 0)), (1, .int x1), (2, .long x2), (4, .int (o0.1 3 (x1).toNatClampNeg)), (5, .long r46), (7, .long r59)] → ∀ (H : Heap) (locs : List Loc), va_P Z.1 vwCl (wX7 Z a0 s14) H → va_D A (wX7 Z a0 s14) → va_S A s.heap H locs → f_X7_runs_b87 o0 x1 x2 s14 r46 r59 k87_0 = some R → W p l e { frames := 1, cells := 0, slots := 0, locals := 29 } s m ([.ref (a0 0), .int x1, .long x2] : List Value).toArray below meth c H locs 0 0 (MQ below (rwQ Z none (fun _ => wX7 Z a0 R) A) ([.ref (a0 0), .int x1, .long x2] : List Value).toArray s 0 0 A) (F0 m 87 ls [.long k87_0]) := by
    intro s14 r46 r59 k87_0 ls hl H locs hP hD hS hf
    rw [f_X7_runs_b87] at hf
    refine lv_lstore (pc := 87) (lv' := [(9, .long k87_0), (0, .ref (a0 0)), (1, .int x1), (2, .long x2), (4, .int (o0.1 3 (x1).toNatClampNeg)), (5, .long r46), (7, .long r59)]) hx hb dX7_runs_87 hl (by decide) rfl (fun ls hl => ?_)
    refine lv_iload (pc := 89) hx hb dX7_runs_89 (lv_at hl 4 rfl) ?_
    refine ro_S (pc := 91) (As := [.int (o0.1 3 (x1).toNatClampNeg)]) (rest := []) (st1 := [.int (f_X7_takesTwo (o0.1 3 (x1).toNatClampNeg))]) ⟨hx, hb, hml, hown, hts⟩ (c_X7_takesTwo Z l (o0.1 3 (x1).toNatClampNeg) _ rfl) (va_cwS 1 hts gX7_runs_X7_takesTwo rfl rfl rfl hs_X7_takesTwo ⟨Nat.le_of_ble_eq_true rfl, Nat.le_of_ble_eq_true rfl⟩) hK hE (hP.sub (ws' := []) [] rfl) rfl hl.1 rfl (lv_room (Nat.le_of_ble_eq_true rfl)) dX7_runs_91 ⟨Nat.le_of_ble_eq_true rfl, Nat.le_of_ble_eq_true rfl⟩ rfl ?_
    refine lv_if_eq (pc := 94) (tgt := 111) hx hb dX7_runs_94 (by decide) (fun c1 => ?_) (fun c1 => ?_)
    · have hf := (if_pos c1).symm.trans hf
      refine lv_lconst (pc := 111) (v := 0) hx hb dX7_runs_111 (by decide) ?_
      exact B112 s14 r46 r59 k87_0 0 _ (lv_sub hl [1, 2, 3, 4, 5, 6, 0] rfl) _ _ hP hD hS hf
    · have hf := (if_neg c1).symm.trans hf
      refine lv_aload_n (pc := 97) hx hb dX7_runs_97 rfl (lv_at hl 1 rfl) ?_
      refine lv_iload_n (pc := 98) hx hb dX7_runs_98 rfl (lv_at hl 2 rfl) ?_
      refine lv_aload_n (pc := 99) hx hb dX7_runs_99 rfl (lv_at hl 1 rfl) ?_
      refine va_get (pc := 100) (D := Z.1) (ci := 7) (v := .ref (a0 8)) (C := RX7) (T := TX7) (N := 41) hx hb hts u7 hown hK hP 0 rfl rfl 7 (by decide) w3 (fun _ h9 => h9) rfl dX7_runs_100 ?_
      refine lv_iload_n (pc := 103) hx hb dX7_runs_103 rfl (lv_at hl 2 rfl) ?_
      obtain ⟨g104, hf⟩ := gd hf
      refine va_iald (pc := 104) (D := Z.1) (n := 12) (f := s14.1 7) hx hb hK hP 5 0 rfl rfl (inb_in g104) dX7_runs_104 ?_
      obtain ⟨r105, h_105, hf⟩ := bd hf
      refine ro_V (pc := 105) (C := RX7) (As := [.int x1, .int (s14.1 7 (x1).toNatClampNeg)]) (rest := []) (st1 := [.long r105]) ⟨hx, hb, hml, hown, hts⟩ (c_X7_takenHeat Z l a0 s14 x1 (s14.1 7 (x1).toNatClampNeg) r105 h_105) (cwV 2 hts gX7_runs_X7_takenHeat rfl rfl rfl hv_X7_takenHeat ⟨Nat.le_of_ble_eq_true rfl, Nat.le_of_ble_eq_true rfl⟩) hK hE hP 7 rfl rfl rfl hl.1 rfl (lv_room (Nat.le_of_ble_eq_true rfl)) dX7_runs_105 ⟨Nat.le_of_ble_eq_true rfl, Nat.le_of_ble_eq_true rfl⟩ rfl ?_
      refine lv_goto (pc := 108) (tgt := 112) hx hb dX7_runs_108 (by decide) ?_
      exact B112 s14 r46 r59 k87_0 r105 _ (lv_sub hl [1, 2, 3, 4, 5, 6, 0] rfl) _ _ hP hD hS hf
  rw [f_X7_runs] at hf
  refine lv_aload_n (pc := 0) hx hb dX7_runs_0 rfl (lv_at hl 0 rfl) ?_
  refine va_get (pc := 1) (D := Z.1) (ci := 7) (v := .ref (a0 4)) (C := RX7) (T := TX7) (N := 41) hx hb hts u7 hown hK hP 0 rfl rfl 3 (by decide) w0 (fun _ h9 => h9) rfl dX7_runs_1 ?_
  refine lv_iload_n (pc := 4) hx hb dX7_runs_4 rfl (lv_at hl 1 rfl) ?_
  obtain ⟨g5, hf⟩ := gd hf
  refine va_iald (pc := 5) (D := Z.1) (n := 12) (f := o0.1 3) hx hb hK hP 1 0 rfl rfl (inb_in g5) dX7_runs_5 ?_
  refine lv_istore (pc := 6) (lv' := [(4, .int (o0.1 3 (x1).toNatClampNeg)), (0, .ref (a0 0)), (1, .int x1), (2, .long x2)]) hx hb dX7_runs_6 hl (by decide) rfl (fun ls hl => ?_)
  refine lv_aload_n (pc := 8) hx hb dX7_runs_8 rfl (lv_at hl 1 rfl) ?_
  refine va_get (pc := 9) (D := Z.1) (ci := 7) (v := .ref (a0 9)) (C := RX7) (T := TX7) (N := 41) hx hb hts u7 hown hK hP 0 rfl rfl 8 (by decide) w1 (fun _ h9 => h9) rfl dX7_runs_9 ?_
  refine lv_iload_n (pc := 12) hx hb dX7_runs_12 rfl (lv_at hl 2 rfl) ?_
  refine lv_iconst (pc := 13) (v := 0) hx hb dX7_runs_13 (by decide) ?_
  obtain ⟨g14, hf⟩ := gd hf
  refine va_iast (pc := 14) (D := Z.1) (n := 12) (f := o0.1 8) hx hb hK hP hD hS 6 0 rfl rfl (inb_in g14) dX7_runs_14 (fun H locs hP hD hS => ?_)
  obtain ⟨s14, h_14, hf⟩ := bd hf
  have hP : va_P Z.1 vwCl (wX7 Z a0 s14) H := st_P (f := fun z => wX7 Z a0 z) h_14 hP
  have hD : va_D A (wX7 Z a0 s14) := st_D (f := fun z => wX7 Z a0 z) h_14 hD
  refine lv_iload (pc := 15) hx hb dX7_runs_15 (lv_at hl 0 rfl) ?_
  refine lv_if_ne (pc := 17) (tgt := 38) hx hb dX7_runs_17 (by decide) (fun c1 => ?_) (fun c1 => ?_)
  · have hf := (if_neg c1).symm.trans hf
    refine lv_aload_n (pc := 38) hx hb dX7_runs_38 rfl (lv_at hl 1 rfl) ?_
    refine lv_iload_n (pc := 39) hx hb dX7_runs_39 rfl (lv_at hl 2 rfl) ?_
    refine lv_aload_n (pc := 40) hx hb dX7_runs_40 rfl (lv_at hl 1 rfl) ?_
    refine va_get (pc := 41) (D := Z.1) (ci := 7) (v := .ref (a0 7)) (C := RX7) (T := TX7) (N := 41) hx hb hts u7 hown hK hP 0 rfl rfl 6 (by decide) w2 (fun _ h9 => h9) rfl dX7_runs_41 ?_
    refine lv_iload_n (pc := 44) hx hb dX7_runs_44 rfl (lv_at hl 2 rfl) ?_
    obtain ⟨g45, hf⟩ := gd hf
    refine va_iald (pc := 45) (D := Z.1) (n := 12) (f := s14.1 6) hx hb hK hP 4 0 rfl rfl (inb_in g45) dX7_runs_45 ?_
    obtain ⟨r46, h_46, hf⟩ := bd hf
    refine ro_V (pc := 46) (C := RX7) (As := [.int x1, .int (s14.1 6 (x1).toNatClampNeg)]) (rest := []) (st1 := [.long r46]) ⟨hx, hb, hml, hown, hts⟩ (c_X7_takenFlow Z l a0 s14 x1 (s14.1 6 (x1).toNatClampNeg) r46 h_46) (cwV 2 hts gX7_runs_X7_takenFlow rfl rfl rfl hv_X7_takenFlow ⟨Nat.le_of_ble_eq_true rfl, Nat.le_of_ble_eq_true rfl⟩) hK hE hP 7 rfl rfl rfl hl.1 rfl (lv_room (Nat.le_of_ble_eq_true rfl)) dX7_runs_46 ⟨Nat.le_of_ble_eq_true rfl, Nat.le_of_ble_eq_true rfl⟩ rfl ?_
    refine lv_lstore (pc := 49) (lv' := [(5, .long r46), (4, .int (o0.1 3 (x1).toNatClampNeg)), (0, .ref (a0 0)), (1, .int x1), (2, .long x2)]) hx hb dX7_runs_49 hl (by decide) rfl (fun ls hl => ?_)
    refine lv_aload_n (pc := 51) hx hb dX7_runs_51 rfl (lv_at hl 2 rfl) ?_
    refine lv_iload_n (pc := 52) hx hb dX7_runs_52 rfl (lv_at hl 3 rfl) ?_
    refine lv_aload_n (pc := 53) hx hb dX7_runs_53 rfl (lv_at hl 2 rfl) ?_
    refine va_get (pc := 54) (D := Z.1) (ci := 7) (v := .ref (a0 7)) (C := RX7) (T := TX7) (N := 41) hx hb hts u7 hown hK hP 0 rfl rfl 6 (by decide) w2 (fun _ h9 => h9) rfl dX7_runs_54 ?_
    refine lv_iload_n (pc := 57) hx hb dX7_runs_57 rfl (lv_at hl 3 rfl) ?_
    obtain ⟨g58, hf⟩ := gd hf
    refine va_iald (pc := 58) (D := Z.1) (n := 12) (f := s14.1 6) hx hb hK hP 4 0 rfl rfl (inb_in g58) dX7_runs_58 ?_
    obtain ⟨r59, h_59, hf⟩ := bd hf
    refine ro_V (pc := 59) (C := RX7) (As := [.int x1, .int (s14.1 6 (x1).toNatClampNeg)]) (rest := []) (st1 := [.long r59]) ⟨hx, hb, hml, hown, hts⟩ (c_X7_takenHeat Z l a0 s14 x1 (s14.1 6 (x1).toNatClampNeg) r59 h_59) (cwV 2 hts gX7_runs_X7_takenHeat rfl rfl rfl hv_X7_takenHeat ⟨Nat.le_of_ble_eq_true rfl, Nat.le_of_ble_eq_true rfl⟩) hK hE hP 7 rfl rfl rfl hl.1 rfl (lv_room (Nat.le_of_ble_eq_true rfl)) dX7_runs_59 ⟨Nat.le_of_ble_eq_true rfl, Nat.le_of_ble_eq_true rfl⟩ rfl ?_
    refine lv_lstore (pc := 62) (lv' := [(7, .long r59), (5, .long r46), (4, .int (o0.1 3 (x1).toNatClampNeg)), (0, .ref (a0 0)), (1, .int x1), (2, .long x2)]) hx hb dX7_runs_62 hl (by decide) rfl (fun ls hl => ?_)
    refine lv_iload (pc := 64) hx hb dX7_runs_64 (lv_at hl 2 rfl) ?_
    refine ro_S (pc := 66) (As := [.int (o0.1 3 (x1).toNatClampNeg)]) (rest := []) (st1 := [.int (f_X7_takesTwo (o0.1 3 (x1).toNatClampNeg))]) ⟨hx, hb, hml, hown, hts⟩ (c_X7_takesTwo Z l (o0.1 3 (x1).toNatClampNeg) _ rfl) (va_cwS 1 hts gX7_runs_X7_takesTwo rfl rfl rfl hs_X7_takesTwo ⟨Nat.le_of_ble_eq_true rfl, Nat.le_of_ble_eq_true rfl⟩) hK hE (hP.sub (ws' := []) [] rfl) rfl hl.1 rfl (lv_room (Nat.le_of_ble_eq_true rfl)) dX7_runs_66 ⟨Nat.le_of_ble_eq_true rfl, Nat.le_of_ble_eq_true rfl⟩ rfl ?_
    refine lv_if_eq (pc := 69) (tgt := 86) hx hb dX7_runs_69 (by decide) (fun c2 => ?_) (fun c2 => ?_)
    · have hf := (if_pos c2).symm.trans hf
      refine lv_lconst (pc := 86) (v := 0) hx hb dX7_runs_86 (by decide) ?_
      exact B87 s14 r46 r59 0 _ (lv_sub hl [3, 4, 5, 2, 1, 0] rfl) _ _ hP hD hS hf
    · have hf := (if_neg c2).symm.trans hf
      refine lv_aload_n (pc := 72) hx hb dX7_runs_72 rfl (lv_at hl 3 rfl) ?_
      refine lv_iload_n (pc := 73) hx hb dX7_runs_73 rfl (lv_at hl 4 rfl) ?_
      refine lv_aload_n (pc := 74) hx hb dX7_runs_74 rfl (lv_at hl 3 rfl) ?_
      refine va_get (pc := 75) (D := Z.1) (ci := 7) (v := .ref (a0 8)) (C := RX7) (T := TX7) (N := 41) hx hb hts u7 hown hK hP 0 rfl rfl 7 (by decide) w3 (fun _ h9 => h9) rfl dX7_runs_75 ?_
      refine lv_iload_n (pc := 78) hx hb dX7_runs_78 rfl (lv_at hl 4 rfl) ?_
      obtain ⟨g79, hf⟩ := gd hf
      refine va_iald (pc := 79) (D := Z.1) (n := 12) (f := s14.1 7) hx hb hK hP 5 0 rfl rfl (inb_in g79) dX7_runs_79 ?_
      obtain ⟨r80, h_80, hf⟩ := bd hf
      refine ro_V (pc := 80) (C := RX7) (As := [.int x1, .int (s14.1 7 (x1).toNatClampNeg)]) (rest := []) (st1 := [.long r80]) ⟨hx, hb, hml, hown, hts⟩ (c_X7_takenFlow Z l a0 s14 x1 (s14.1 7 (x1).toNatClampNeg) r80 h_80) (cwV 2 hts gX7_runs_X7_takenFlow rfl rfl rfl hv_X7_takenFlow ⟨Nat.le_of_ble_eq_true rfl, Nat.le_of_ble_eq_true rfl⟩) hK hE hP 7 rfl rfl rfl hl.1 rfl (lv_room (Nat.le_of_ble_eq_true rfl)) dX7_runs_80 ⟨Nat.le_of_ble_eq_true rfl, Nat.le_of_ble_eq_true rfl⟩ rfl ?_
      refine lv_goto (pc := 83) (tgt := 87) hx hb dX7_runs_83 (by decide) ?_
      exact B87 s14 r46 r59 r80 _ (lv_sub hl [3, 4, 5, 2, 1, 0] rfl) _ _ hP hD hS hf
  · have hf := (if_pos c1).symm.trans hf
    refine lv_aload_n (pc := 20) hx hb dX7_runs_20 rfl (lv_at hl 1 rfl) ?_
    refine lv_iload_n (pc := 21) hx hb dX7_runs_21 rfl (lv_at hl 2 rfl) ?_
    refine lv_lload_n (pc := 22) hx hb dX7_runs_22 rfl (lv_at hl 3 rfl) ?_
    refine lv_lload_n (pc := 23) hx hb dX7_runs_23 rfl (lv_at hl 3 rfl) ?_
    refine lv_aload_n (pc := 24) hx hb dX7_runs_24 rfl (lv_at hl 1 rfl) ?_
    refine va_get (pc := 25) (D := Z.1) (ci := 7) (v := .ref (a0 6)) (C := RX7) (T := TX7) (N := 41) hx hb hts u7 hown hK hP 0 rfl rfl 5 (by decide) w4 (fun _ h9 => h9) rfl dX7_runs_25 ?_
    refine lv_iload_n (pc := 28) hx hb dX7_runs_28 rfl (lv_at hl 2 rfl) ?_
    obtain ⟨g29, hf⟩ := gd hf
    refine va_iald (pc := 29) (D := Z.1) (n := 12) (f := s14.1 5) hx hb hK hP 3 0 rfl rfl (inb_in g29) dX7_runs_29 ?_
    refine lv_i2l (pc := 30) (v := (s14.1 5 (x1).toNatClampNeg).toInt64) hx hb dX7_runs_30 rfl ?_
    refine lv_lmul (pc := 31) hx hb dX7_runs_31 ?_
    refine lv_lconst (pc := 32) (v := 0) hx hb dX7_runs_32 (by decide) ?_
    refine lv_lconst (pc := 33) (v := 0) hx hb dX7_runs_33 (by decide) ?_
    obtain ⟨r34, h_34, hf⟩ := bd hf
    refine rw_V (pc := 34) (C := RX7) (As := [.int x1, .long x2, .long (x2 * ((s14.1 5 (x1).toNatClampNeg).toInt64)), .long 0, .long 0]) (rest := []) (st1 := []) (wn := fun _ => wX7 Z a0 r34) ⟨hx, hb, hml, hown, hts⟩ (c_X7_gives Z l a0 s14 x1 x2 (x2 * ((s14.1 5 (x1).toNatClampNeg).toInt64)) 0 0 r34 h_34) (cwV 5 hts gX7_runs_X7_gives rfl rfl rfl hv_X7_gives ⟨Nat.le_of_ble_eq_true rfl, Nat.le_of_ble_eq_true rfl⟩) hK hE hP hD hS hA [0, 1, 2, 3, 4, 5, 6, 7, 8, 9, 10, 11, 12, 13, 14, 15, 16, 17, 18, 19, 20, 21, 22, 23, 24, 25, 26, 27, 28, 29, 30, 31, 32, 33, 34, 35] [] [0, 1, 2, 3, 4, 5, 6, 7, 8, 9, 10, 11, 12, 13, 14, 15, 16, 17, 18, 19, 20, 21, 22, 23, 24, 25, 26, 27, 28, 29, 30, 31, 32, 33, 34, 35] rfl rfl rfl (fun _ => rfl) 7 rfl rfl rfl hl.1 rfl (lv_room (Nat.le_of_ble_eq_true rfl)) dX7_runs_34 ⟨Nat.le_of_ble_eq_true rfl, Nat.le_of_ble_eq_true rfl⟩ rfl (fun _ H locs hP hD hS => ?_)
    have hf := (Option.some.inj hf)
    subst hf
    exact rw_v (fun _ => 0) hx hb hr hlk hP hD hS dX7_runs_37
def f_X7_ages_b2  : Nat → Int32 → ObS → Option (ObS)
  | 0, _, _ => none
  | n + 1, v2_1, o2_0 =>
  if 24 ≤ v2_1 then
    some (o2_0)
  else
    if inb v2_1 24 then
    if inb v2_1 24 then
    (some (oj o2_0 12 (v2_1).toNatClampNeg (o2_0.2 10 (v2_1).toNatClampNeg))).bind fun s19 =>
    if inb v2_1 24 then
    if inb v2_1 24 then
    (some (oj s19 13 (v2_1).toNatClampNeg (s19.2 11 (v2_1).toNatClampNeg))).bind fun s31 =>
    f_X7_ages_b2 n (v2_1 + 1) s31
    else none
    else none
    else none
    else none
def f_X7_ages (o0 : ObS) : Option (ObS) :=
  f_X7_ages_b2 64 0 o0
set_option maxHeartbeats 4000000 in
set_option maxRecDepth 100000 in
theorem c_X7_ages (Z : EnvT) (l : Launch) (a0 : Nat → Nat) (o0 : ObS) (R : ObS) (hf : f_X7_ages o0 = some R) : RW Z l yX7_ages wsX7_ages { frames := 0, cells := 0, slots := 0, locals := 0 } [.ref (a0 0)] (wX7 Z a0 o0) none (fun _ => wX7 Z a0 R) 0 0 := by
  refine rw_of (cc := cX7_ages) (maxL := 2) (ret := none) (by decide) rfl (Nat.le_of_ble_eq_true rfl) ?_
  intro p e s m below meth c A ls hx hb hr hml hts hown hlk hin hP hK hE hD hA hS hl
  have hown : s.vm.findClass RX7 = some m.cls := hown
  have hl : lv_has ls 2 [(0, .ref (a0 0))] := hl
  have w0 := hts (.fieldLink RX7 39 "HeatTrainModel" "oldFlows" "[J") (by decide +kernel)
  have w1 := hts (.fieldLink RX7 32 "HeatTrainModel" "flows" "[J") (by decide +kernel)
  have w2 := hts (.fieldLink RX7 42 "HeatTrainModel" "oldHeats" "[J") (by decide +kernel)
  have w3 := hts (.fieldLink RX7 36 "HeatTrainModel" "heats" "[J") (by decide +kernel)
  have u7 : ∀ w ∈ wsX70, w ∈ wsX7_ages := by decide +kernel
  have B2 : ∀ (n : Nat), ∀ (v2_1 : Int32) (o2_0 : ObS) (ls : Array Slot), lv_has ls 2 [(0, .ref (a0 0)), (1, .int v2_1)] → ∀ (H : Heap) (locs : List Loc), va_P Z.1 vwCl (wX7 Z a0 o2_0) H → va_D A (wX7 Z a0 o2_0) → va_S A s.heap H locs → f_X7_ages_b2 n v2_1 o2_0 = some R → W p l e { frames := 0, cells := 0, slots := 0, locals := 0 } s m ([.ref (a0 0)] : List Value).toArray below meth c H locs 0 0 (MQ below (rwQ Z none (fun _ => wX7 Z a0 R) A) ([.ref (a0 0)] : List Value).toArray s 0 0 A) (F0 m 2 ls []) := by
    intro n
    induction n with
    | zero => intro v2_1 o2_0 ls hl H locs hP hD hS hf; rw [f_X7_ages_b2] at hf; exact nomatch hf
    | succ n ih =>
      intro v2_1 o2_0 ls hl H locs hP hD hS hf
      rw [f_X7_ages_b2] at hf
      refine lv_iload_n (pc := 2) hx hb dX7_ages_2 rfl (lv_at hl 1 rfl) ?_
      refine lv_bipush (pc := 3) (v := 24) hx hb dX7_ages_3 (by decide) ?_
      refine lv_icmp_ge (pc := 5) (tgt := 38) hx hb dX7_ages_5 (by decide) (fun c1 => ?_) (fun c1 => ?_)
      · have hf := (if_pos c1).symm.trans hf
        have hf := (Option.some.inj hf)
        subst hf
        exact rw_v (fun _ => 0) hx hb hr hlk hP hD hS dX7_ages_38
      · have hf := (if_neg c1).symm.trans hf
        refine lv_aload_n (pc := 8) hx hb dX7_ages_8 rfl (lv_at hl 0 rfl) ?_
        refine va_get (pc := 9) (D := Z.1) (ci := 7) (v := .ref (a0 13)) (C := RX7) (T := TX7) (N := 41) hx hb hts u7 hown hK hP 0 rfl rfl 12 (by decide) w0 (fun _ h9 => h9) rfl dX7_ages_9 ?_
        refine lv_iload_n (pc := 12) hx hb dX7_ages_12 rfl (lv_at hl 1 rfl) ?_
        refine lv_aload_n (pc := 13) hx hb dX7_ages_13 rfl (lv_at hl 0 rfl) ?_
        refine va_get (pc := 14) (D := Z.1) (ci := 7) (v := .ref (a0 11)) (C := RX7) (T := TX7) (N := 41) hx hb hts u7 hown hK hP 0 rfl rfl 10 (by decide) w1 (fun _ h9 => h9) rfl dX7_ages_14 ?_
        refine lv_iload_n (pc := 17) hx hb dX7_ages_17 rfl (lv_at hl 1 rfl) ?_
        obtain ⟨g18, hf⟩ := gd hf
        refine va_lald (pc := 18) (D := Z.1) (n := 24) (f := o2_0.2 10) hx hb hK hP 8 1 rfl rfl (inb_in g18) dX7_ages_18 ?_
        obtain ⟨g19, hf⟩ := gd hf
        refine va_last (pc := 19) (D := Z.1) (n := 24) (f := o2_0.2 12) hx hb hK hP hD hS 10 1 rfl rfl (inb_in g19) dX7_ages_19 (fun H locs hP hD hS => ?_)
        obtain ⟨s19, h_19, hf⟩ := bd hf
        have hP : va_P Z.1 vwCl (wX7 Z a0 s19) H := st_P (f := fun z => wX7 Z a0 z) h_19 hP
        have hD : va_D A (wX7 Z a0 s19) := st_D (f := fun z => wX7 Z a0 z) h_19 hD
        refine lv_aload_n (pc := 20) hx hb dX7_ages_20 rfl (lv_at hl 0 rfl) ?_
        refine va_get (pc := 21) (D := Z.1) (ci := 7) (v := .ref (a0 14)) (C := RX7) (T := TX7) (N := 41) hx hb hts u7 hown hK hP 0 rfl rfl 13 (by decide) w2 (fun _ h9 => h9) rfl dX7_ages_21 ?_
        refine lv_iload_n (pc := 24) hx hb dX7_ages_24 rfl (lv_at hl 1 rfl) ?_
        refine lv_aload_n (pc := 25) hx hb dX7_ages_25 rfl (lv_at hl 0 rfl) ?_
        refine va_get (pc := 26) (D := Z.1) (ci := 7) (v := .ref (a0 12)) (C := RX7) (T := TX7) (N := 41) hx hb hts u7 hown hK hP 0 rfl rfl 11 (by decide) w3 (fun _ h9 => h9) rfl dX7_ages_26 ?_
        refine lv_iload_n (pc := 29) hx hb dX7_ages_29 rfl (lv_at hl 1 rfl) ?_
        obtain ⟨g30, hf⟩ := gd hf
        refine va_lald (pc := 30) (D := Z.1) (n := 24) (f := s19.2 11) hx hb hK hP 9 1 rfl rfl (inb_in g30) dX7_ages_30 ?_
        obtain ⟨g31, hf⟩ := gd hf
        refine va_last (pc := 31) (D := Z.1) (n := 24) (f := s19.2 13) hx hb hK hP hD hS 11 1 rfl rfl (inb_in g31) dX7_ages_31 (fun H locs hP hD hS => ?_)
        obtain ⟨s31, h_31, hf⟩ := bd hf
        have hP : va_P Z.1 vwCl (wX7 Z a0 s31) H := st_P (f := fun z => wX7 Z a0 z) h_31 hP
        have hD : va_D A (wX7 Z a0 s31) := st_D (f := fun z => wX7 Z a0 z) h_31 hD
        refine lv_iinc (pc := 32) (v := v2_1 + 1) (lv' := [(1, .int (v2_1 + 1)), (0, .ref (a0 0))]) hx hb dX7_ages_32 hl (k := 1) rfl rfl (by decide) rfl (fun ls hl => ?_)
        refine lv_goto (pc := 35) (tgt := 2) hx hb dX7_ages_35 (by decide) ?_
        exact ih (v2_1 + 1) s31 _ (lv_sub hl [1, 0] rfl) _ _ hP hD hS hf
  rw [f_X7_ages] at hf
  refine lv_iconst (pc := 0) (v := 0) hx hb dX7_ages_0 (by decide) ?_
  refine lv_istore_n (pc := 1) (lv' := [(1, .int 0), (0, .ref (a0 0))]) hx hb dX7_ages_1 rfl hl (by decide) rfl (fun ls hl => ?_)
  exact B2 64 0 o0 _ (lv_sub hl [1, 0] rfl) _ _ hP hD hS hf
