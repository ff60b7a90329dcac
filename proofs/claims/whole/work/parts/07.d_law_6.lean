def f_law_c18 (xs : Nat → Int32) (L : Nat) (x4 : Int32) (h : Nat → ObS) (mo w : ObS) (kk : ((Nat → ObS) → ObS → ObS → Option Int32)) : Option Int32 :=
  if inb (x4 + 1) L then
  if inb (x4 + 2) L then
  (f_L_gain h (xs (x4 + 1).toNatClampNeg) (xs (x4 + 2).toNatClampNeg) w).bind fun r1284 =>
  if inb (x4 + 1) L then
  if inb (x4 + 2) L then
  (f_X7_gain mo (xs (x4 + 1).toNatClampNeg) (xs (x4 + 2).toNatClampNeg)).bind fun r1302 =>
  if (f_X7_thrown r1302.2) = r1284.1 then
    if r1284.1 = (0 : Int32) then
      if (lg_cmp (r1284.2.2.2 0 ((0 : Int32).toNatClampNeg)) r1302.1.toInt64) = (0 : Int32) then
        kk r1284.2.1 r1302.2 r1284.2.2
      else
        some (0 : Int32)
    else
      kk r1284.2.1 r1302.2 r1284.2.2
  else
    some (0 : Int32)
  else none
  else none
  else none
  else none
set_option maxHeartbeats 4000000 in
set_option maxRecDepth 100000 in
theorem lc_18 {p : Program} {l : Launch} {e : Env} {s : State} {m : MethodId} {below : List Frame} {meth : Method} {c : Code} {Z : EnvT} {b0 L : Nat} {xs : Nat → Int32} (hst : l.stackTraces = false) (C0 : lw_At p s m meth c b0 L xs) (hK : va_K Z.1 vwCl (tyV Z) s) (hE : EV Z s) (hZ : ZQ (fun q : Nat => s.heap.size ≤ q) s s.heap) {CC SS : Nat} (hCC : CC + 5 ≤ 441704) (hSS : SS + 7200 ≤ 7770994) {x4 : Int32} {B : Nat → Nat → Nat} {h : Nat → ObS} {am ao : Nat → Nat} {mo w : ObS} {H : Heap} {locs : List Loc} {ls : Array Slot} (kk : ((Nat → ObS) → ObS → ObS → Option Int32))
    (ih : ∀ (B : Nat → Nat → Nat) (h : Nat → ObS) (mo w : ObS) (H : Heap) (locs : List Loc) (ls : Array Slot), lv_has ls 7 [(0, .ref b0), (1, .ref (B 0 0)), (2, .ref (am 0)), (3, .ref (ao 0)), (4, .int x4)] → va_P Z.1 vwCl (wH Z B h ++ (wX7 Z am mo ++ wO Z ao w)) H → va_D (fun q : Nat => s.heap.size ≤ q) (wH Z B h ++ (wX7 Z am mo ++ wO Z ao w)) → va_S (fun q : Nat => s.heap.size ≤ q) s.heap H locs → kk h mo w = some 1 → W p l e room_1 s m #[Value.ref b0] below meth c H locs (CC + 5) (SS + 7200) (lw_Z below #[Value.ref b0] s) (F0 m 1443 ls []))
    (hl : lv_has ls 7 [(0, .ref b0), (1, .ref (B 0 0)), (2, .ref (am 0)), (3, .ref (ao 0)), (4, .int x4)]) (hP : va_P Z.1 vwCl (wH Z B h ++ (wX7 Z am mo ++ wO Z ao w)) H) (hD : va_D (fun q : Nat => s.heap.size ≤ q) (wH Z B h ++ (wX7 Z am mo ++ wO Z ao w))) (hS : va_S (fun q : Nat => s.heap.size ≤ q) s.heap H locs) (hf : f_law_c18 xs L x4 h mo w kk = some 1) : W p l e room_1 s m #[Value.ref b0] below meth c H locs CC SS (lw_Z below #[Value.ref b0] s) (F0 m 1270 ls []) := by
  obtain ⟨hx, hb, hr, hml, hown, hts, hX, hbl, hlocks, hgv⟩ := C0
  have hown : s.vm.findClass RL = some m.cls := hown
  have htsL : ∀ w ∈ wsL_law, w.before #[Value.ref b0] s = true := fun w h9 => hts w (wsL_law_in w h9)
  have hA : ∀ q : Nat, s.heap.size ≤ q → (fun q : Nat => s.heap.size ≤ q) q := fun _ h9 => h9
  have hbA : ¬ (fun q : Nat => s.heap.size ≤ q) b0 := Nat.not_le.mpr hbl
  rw [f_law_c18] at hf
  refine lv_aload_n (pc := 1270) hx hb dL_law_1270 rfl (lv_at hl 1 rfl) ?_
  refine lv_aload_n (pc := 1271) hx hb dL_law_1271 rfl (lv_at hl 0 rfl) ?_
  refine lv_iload (pc := 1272) hx hb dL_law_1272 (lv_at hl 4 rfl) ?_
  refine lv_iconst (pc := 1274) (v := 1) hx hb dL_law_1274 (by decide) ?_
  refine lv_iadd (pc := 1275) hx hb dL_law_1275 ?_
  obtain ⟨g1276, hf⟩ := gd hf
  refine va_sld (pc := 1276) hx hb hX hbl hbA hS (inb_in g1276) dL_law_1276 ?_
  refine lv_aload_n (pc := 1277) hx hb dL_law_1277 rfl (lv_at hl 0 rfl) ?_
  refine lv_iload (pc := 1278) hx hb dL_law_1278 (lv_at hl 4 rfl) ?_
  refine lv_iconst (pc := 1280) (v := 2) hx hb dL_law_1280 (by decide) ?_
  refine lv_iadd (pc := 1281) hx hb dL_law_1281 ?_
  obtain ⟨g1282, hf⟩ := gd hf
  refine va_sld (pc := 1282) hx hb hX hbl hbA hS (inb_in g1282) dL_law_1282 ?_
  refine lv_aload_n (pc := 1283) hx hb dL_law_1283 rfl (lv_at hl 3 rfl) ?_
  obtain ⟨r1284, h_1284, hf⟩ := bd hf
  refine wr_S (pc := 1284) (As := [.ref (B 0 0), .int (xs (x4 + 1).toNatClampNeg), .int (xs (x4 + 2).toNatClampNeg), .ref (ao 0)]) (rest := []) (st1 := [.int r1284.1]) (wn := fun _ => wH Z B r1284.2.1 ++ (wX7 Z am mo ++ wO Z ao r1284.2.2)) ⟨hx, hb, hml, hown, htsL⟩ (c_L_gain Z l hst B h (xs (x4 + 1).toNatClampNeg) (xs (x4 + 2).toNatClampNeg) ao w r1284 h_1284) (vx_cwSW 4 htsL gL_law_L_gain rfl rfl rfl hs_L_gain ⟨Nat.le_of_ble_eq_true rfl, Nat.le_of_ble_eq_true rfl⟩) hK hE hP hD hS hA hZ (List.range' 0 40 ++ List.range' (40 + 36) 1) (List.range' 40 36) (List.range' 36 40 ++ (List.range' 0 36 ++ List.range' (36 + 40) 1)) (by decide +kernel) (bC13 rfl rfl rfl) (bR2 rfl rfl) (fun _ => bN13 rfl rfl rfl rfl) rfl hl.1 rfl (lv_room (Nat.le_of_ble_eq_true rfl)) dL_law_1284 ⟨(show CC + 0 + 2 ≤ 441704 by omega), (show SS + 0 + 12 ≤ 7770994 by omega)⟩ rfl (fun _ H locs hP hD hS => ?_)
  refine lv_istore (pc := 1287) (lv' := [(5, .int r1284.1), (0, .ref b0), (1, .ref (B 0 0)), (2, .ref (am 0)), (3, .ref (ao 0)), (4, .int x4)]) hx hb dL_law_1287 hl (by decide) rfl (fun ls hl => ?_)
  refine lv_aload_n (pc := 1289) hx hb dL_law_1289 rfl (lv_at hl 3 rfl) ?_
  refine lv_aload_n (pc := 1290) hx hb dL_law_1290 rfl (lv_at hl 1 rfl) ?_
  refine lv_iload (pc := 1291) hx hb dL_law_1291 (lv_at hl 5 rfl) ?_
  refine lv_iconst (pc := 1293) (v := 1) hx hb dL_law_1293 (by decide) ?_
  refine lv_iadd (pc := 1294) hx hb dL_law_1294 ?_
  obtain ⟨g1295, hf⟩ := gd hf
  refine va_sld (pc := 1295) hx hb hX hbl hbA hS (inb_in g1295) dL_law_1295 ?_
  refine lv_aload_n (pc := 1296) hx hb dL_law_1296 rfl (lv_at hl 1 rfl) ?_
  refine lv_iload (pc := 1297) hx hb dL_law_1297 (lv_at hl 5 rfl) ?_
  refine lv_iconst (pc := 1299) (v := 2) hx hb dL_law_1299 (by decide) ?_
  refine lv_iadd (pc := 1300) hx hb dL_law_1300 ?_
  obtain ⟨g1301, hf⟩ := gd hf
  refine va_sld (pc := 1301) hx hb hX hbl hbA hS (inb_in g1301) dL_law_1301 ?_
  obtain ⟨r1302, h_1302, hf⟩ := bd hf
  refine rw_V (pc := 1302) (C := RX7) (As := [.int (xs (x4 + 1).toNatClampNeg), .int (xs (x4 + 2).toNatClampNeg)]) (rest := []) (st1 := [.int r1302.1]) (wn := fun _ => wH Z B r1284.2.1 ++ (wX7 Z am r1302.2 ++ wO Z ao r1284.2.2)) ⟨hx, hb, hml, hown, htsL⟩ (c_X7_gain Z l am mo (xs (x4 + 1).toNatClampNeg) (xs (x4 + 2).toNatClampNeg) r1302 h_1302) (cwV 2 htsL gL_law_X7_gain rfl rfl rfl hv_X7_gain ⟨Nat.le_of_ble_eq_true rfl, Nat.le_of_ble_eq_true rfl⟩) hK hE hP hD hS hA (List.range' 40 36) (List.range' 0 40 ++ List.range' (40 + 36) 1) (List.range' 0 40 ++ (List.range' (40 + 1) 36 ++ List.range' 40 1)) (by decide +kernel) (bC2 rfl rfl) (bR13 rfl rfl rfl) (fun _ => bN2 rfl rfl rfl rfl) 7 rfl rfl rfl hl.1 rfl (lv_room (Nat.le_of_ble_eq_true rfl)) dL_law_1302 ⟨(show CC + 2 + 0 ≤ 441704 by omega), (show SS + 12 + 0 ≤ 7770994 by omega)⟩ rfl (fun _ H locs hP hD hS => ?_)
  refine lv_istore (pc := 1305) (lv' := [(6, .int r1302.1), (5, .int r1284.1), (0, .ref b0), (1, .ref (B 0 0)), (2, .ref (am 0)), (3, .ref (ao 0)), (4, .int x4)]) hx hb dL_law_1305 hl (by decide) rfl (fun ls hl => ?_)
  refine lv_aload_n (pc := 1307) hx hb dL_law_1307 rfl (lv_at hl 4 rfl) ?_
  refine ro_V (pc := 1308) (C := RX7) (As := []) (rest := []) (st1 := [.int (f_X7_thrown r1302.2)]) ⟨hx, hb, hml, hown, htsL⟩ (c_X7_thrown Z l am r1302.2 _ rfl) (cwV 0 htsL gL_law_X7_thrown rfl rfl rfl hv_X7_thrown ⟨Nat.le_of_ble_eq_true rfl, Nat.le_of_ble_eq_true rfl⟩) hK hE (hP.sub (ws' := wX7 Z am r1302.2) (List.range' 40 36) (bF2 rfl rfl)) 7 rfl rfl rfl hl.1 rfl (lv_room (Nat.le_of_ble_eq_true rfl)) dL_law_1308 ⟨(show CC + 2 ≤ 441704 by omega), (show SS + 12 ≤ 7770994 by omega)⟩ rfl ?_
  refine lv_iload (pc := 1311) hx hb dL_law_1311 (lv_at hl 1 rfl) ?_
  refine lv_icmp_eq (pc := 1313) (tgt := 1318) hx hb dL_law_1313 (by decide) (fun c1 => ?_) (fun c1 => ?_)
  · have hf := (if_pos c1).symm.trans hf
    refine lv_iload (pc := 1318) hx hb dL_law_1318 (lv_at hl 1 rfl) ?_
    refine lv_if_ne (pc := 1320) (tgt := 1335) hx hb dL_law_1320 (by decide) (fun c2 => ?_) (fun c2 => ?_)
    · have hf := (if_neg c2).symm.trans hf
      refine lv_goto (pc := 1335) (tgt := 1443) hx hb dL_law_1335 (by decide) ?_
      refine W.widen (k := CC + 5) (n := SS + 7200) (by omega) (by omega) ?_
      exact ih B r1284.2.1 r1302.2 r1284.2.2 _ _ _ (lv_sub hl [2, 3, 4, 5, 6] rfl) hP hD hS hf
    · have hf := (if_pos c2).symm.trans hf
      refine lv_aload_n (pc := 1323) hx hb dL_law_1323 rfl (lv_at hl 5 rfl) ?_
      refine lv_iconst (pc := 1324) (v := 0) hx hb dL_law_1324 (by decide) ?_
      refine va_lald (pc := 1325) (D := Z.1) (n := 1) (f := r1284.2.2.2 0) hx hb hK hP 76 1 rfl rfl (inb_in (by decide)) dL_law_1325 ?_
      refine lv_iload (pc := 1326) hx hb dL_law_1326 (lv_at hl 0 rfl) ?_
      refine lv_i2l (pc := 1328) (v := r1302.1.toInt64) hx hb dL_law_1328 rfl ?_
      refine W.lcmp (pc := 1329) hx hb dL_law_1329 ?_
      refine lv_if_eq (pc := 1330) (tgt := 1335) hx hb dL_law_1330 (by decide) (fun c3 => ?_) (fun c3 => ?_)
      · have hf := (if_pos c3).symm.trans hf
        refine lv_goto (pc := 1335) (tgt := 1443) hx hb dL_law_1335 (by decide) ?_
        refine W.widen (k := CC + 5) (n := SS + 7200) (by omega) (by omega) ?_
        exact ih B r1284.2.1 r1302.2 r1284.2.2 _ _ _ (lv_sub hl [2, 3, 4, 5, 6] rfl) hP hD hS hf
      · have hf := (if_neg c3).symm.trans hf
        refine lv_iconst (pc := 1333) (v := 0) hx hb dL_law_1333 (by decide) ?_
        exact absurd (Option.some.inj hf) (by decide)
  · have hf := (if_neg c1).symm.trans hf
    refine lv_iconst (pc := 1316) (v := 0) hx hb dL_law_1316 (by decide) ?_
    exact absurd (Option.some.inj hf) (by decide)
def f_law_c19 (xs : Nat → Int32) (L : Nat) (x4 : Int32) (h : Nat → ObS) (mo w : ObS) (kk : ((Nat → ObS) → ObS → ObS → Option Int32)) : Option Int32 :=
  if inb (x4 + 1) L then
  if inb (x4 + 2) L then
  if inb (x4 + 3) L then
  if inb (x4 + 4) L then
  (f_L_relative h (xs (x4 + 1).toNatClampNeg) (xs (x4 + 2).toNatClampNeg) (xs (x4 + 3).toNatClampNeg) (xs (x4 + 4).toNatClampNeg) w).bind fun r1364 =>
  if inb (x4 + 1) L then
  if inb (x4 + 2) L then
  if inb (x4 + 3) L then
  if inb (x4 + 4) L then
  (f_X7_relative mo (xs (x4 + 1).toNatClampNeg) (xs (x4 + 2).toNatClampNeg) (xs (x4 + 3).toNatClampNeg) (xs (x4 + 4).toNatClampNeg)).bind fun r1394 =>
  if (f_X7_thrown r1394.2) = r1364.1 then
    if r1364.1 = (0 : Int32) then
      if (lg_cmp (r1364.2.2.2 0 ((0 : Int32).toNatClampNeg)) r1394.1.toInt64) = (0 : Int32) then
        kk r1364.2.1 r1394.2 r1364.2.2
      else
        some (0 : Int32)
    else
      kk r1364.2.1 r1394.2 r1364.2.2
  else
    some (0 : Int32)
  else none
  else none
  else none
  else none
  else none
  else none
  else none
  else none
set_option maxHeartbeats 4000000 in
set_option maxRecDepth 100000 in
theorem lc_19 {p : Program} {l : Launch} {e : Env} {s : State} {m : MethodId} {below : List Frame} {meth : Method} {c : Code} {Z : EnvT} {b0 L : Nat} {xs : Nat → Int32} (hst : l.stackTraces = false) (C0 : lw_At p s m meth c b0 L xs) (hK : va_K Z.1 vwCl (tyV Z) s) (hE : EV Z s) (hZ : ZQ (fun q : Nat => s.heap.size ≤ q) s s.heap) {CC SS : Nat} (hCC : CC + 5 ≤ 441704) (hSS : SS + 7200 ≤ 7770994) {x4 : Int32} {B : Nat → Nat → Nat} {h : Nat → ObS} {am ao : Nat → Nat} {mo w : ObS} {H : Heap} {locs : List Loc} {ls : Array Slot} (kk : ((Nat → ObS) → ObS → ObS → Option Int32))
    (ih : ∀ (B : Nat → Nat → Nat) (h : Nat → ObS) (mo w : ObS) (H : Heap) (locs : List Loc) (ls : Array Slot), lv_has ls 7 [(0, .ref b0), (1, .ref (B 0 0)), (2, .ref (am 0)), (3, .ref (ao 0)), (4, .int x4)] → va_P Z.1 vwCl (wH Z B h ++ (wX7 Z am mo ++ wO Z ao w)) H → va_D (fun q : Nat => s.heap.size ≤ q) (wH Z B h ++ (wX7 Z am mo ++ wO Z ao w)) → va_S (fun q : Nat => s.heap.size ≤ q) s.heap H locs → kk h mo w = some 1 → W p l e room_1 s m #[Value.ref b0] below meth c H locs (CC + 5) (SS + 7200) (lw_Z below #[Value.ref b0] s) (F0 m 1443 ls []))
    (hl : lv_has ls 7 [(0, .ref b0), (1, .ref (B 0 0)), (2, .ref (am 0)), (3, .ref (ao 0)), (4, .int x4)]) (hP : va_P Z.1 vwCl (wH Z B h ++ (wX7 Z am mo ++ wO Z ao w)) H) (hD : va_D (fun q : Nat => s.heap.size ≤ q) (wH Z B h ++ (wX7 Z am mo ++ wO Z ao w))) (hS : va_S (fun q : Nat => s.heap.size ≤ q) s.heap H locs) (hf : f_law_c19 xs L x4 h mo w kk = some 1) : W p l e room_1 s m #[Value.ref b0] below meth c H locs CC SS (lw_Z below #[Value.ref b0] s) (F0 m 1338 ls []) := by
  obtain ⟨hx, hb, hr, hml, hown, hts, hX, hbl, hlocks, hgv⟩ := C0
  have hown : s.vm.findClass RL = some m.cls := hown
  have htsL : ∀ w ∈ wsL_law, w.before #[Value.ref b0] s = true := fun w h9 => hts w (wsL_law_in w h9)
  have hA : ∀ q : Nat, s.heap.size ≤ q → (fun q : Nat => s.heap.size ≤ q) q := fun _ h9 => h9
  have hbA : ¬ (fun q : Nat => s.heap.size ≤ q) b0 := Nat.not_le.mpr hbl
  rw [f_law_c19] at hf
  refine lv_aload_n (pc := 1338) hx hb dL_law_1338 rfl (lv_at hl 1 rfl) ?_
  refine lv_aload_n (pc := 1339) hx hb dL_law_1339 rfl (lv_at hl 0 rfl) ?_
  refine lv_iload (pc := 1340) hx hb dL_law_1340 (lv_at hl 4 rfl) ?_
  refine lv_iconst (pc := 1342) (v := 1) hx hb dL_law_1342 (by decide) ?_
  refine lv_iadd (pc := 1343) hx hb dL_law_1343 ?_
  obtain ⟨g1344, hf⟩ := gd hf
  refine va_sld (pc := 1344) hx hb hX hbl hbA hS (inb_in g1344) dL_law_1344 ?_
  refine lv_aload_n (pc := 1345) hx hb dL_law_1345 rfl (lv_at hl 0 rfl) ?_
  refine lv_iload (pc := 1346) hx hb dL_law_1346 (lv_at hl 4 rfl) ?_
  refine lv_iconst (pc := 1348) (v := 2) hx hb dL_law_1348 (by decide) ?_
  refine lv_iadd (pc := 1349) hx hb dL_law_1349 ?_
  obtain ⟨g1350, hf⟩ := gd hf
  refine va_sld (pc := 1350) hx hb hX hbl hbA hS (inb_in g1350) dL_law_1350 ?_
  refine lv_aload_n (pc := 1351) hx hb dL_law_1351 rfl (lv_at hl 0 rfl) ?_
  refine lv_iload (pc := 1352) hx hb dL_law_1352 (lv_at hl 4 rfl) ?_
  refine lv_iconst (pc := 1354) (v := 3) hx hb dL_law_1354 (by decide) ?_
  refine lv_iadd (pc := 1355) hx hb dL_law_1355 ?_
  obtain ⟨g1356, hf⟩ := gd hf
  refine va_sld (pc := 1356) hx hb hX hbl hbA hS (inb_in g1356) dL_law_1356 ?_
  refine lv_aload_n (pc := 1357) hx hb dL_law_1357 rfl (lv_at hl 0 rfl) ?_
  refine lv_iload (pc := 1358) hx hb dL_law_1358 (lv_at hl 4 rfl) ?_
  refine lv_iconst (pc := 1360) (v := 4) hx hb dL_law_1360 (by decide) ?_
  refine lv_iadd (pc := 1361) hx hb dL_law_1361 ?_
  obtain ⟨g1362, hf⟩ := gd hf
  refine va_sld (pc := 1362) hx hb hX hbl hbA hS (inb_in g1362) dL_law_1362 ?_
  refine lv_aload_n (pc := 1363) hx hb dL_law_1363 rfl (lv_at hl 3 rfl) ?_
  obtain ⟨r1364, h_1364, hf⟩ := bd hf
  refine wr_S (pc := 1364) (As := [.ref (B 0 0), .int (xs (x4 + 1).toNatClampNeg), .int (xs (x4 + 2).toNatClampNeg), .int (xs (x4 + 3).toNatClampNeg), .int (xs (x4 + 4).toNatClampNeg), .ref (ao 0)]) (rest := []) (st1 := [.int r1364.1]) (wn := fun _ => wH Z B r1364.2.1 ++ (wX7 Z am mo ++ wO Z ao r1364.2.2)) ⟨hx, hb, hml, hown, htsL⟩ (c_L_relative Z l hst B h (xs (x4 + 1).toNatClampNeg) (xs (x4 + 2).toNatClampNeg) (xs (x4 + 3).toNatClampNeg) (xs (x4 + 4).toNatClampNeg) ao w r1364 h_1364) (vx_cwSW 6 htsL gL_law_L_relative rfl rfl rfl hs_L_relative ⟨Nat.le_of_ble_eq_true rfl, Nat.le_of_ble_eq_true rfl⟩) hK hE hP hD hS hA hZ (List.range' 0 40 ++ List.range' (40 + 36) 1) (List.range' 40 36) (List.range' 36 40 ++ (List.range' 0 36 ++ List.range' (36 + 40) 1)) (by decide +kernel) (bC13 rfl rfl rfl) (bR2 rfl rfl) (fun _ => bN13 rfl rfl rfl rfl) rfl hl.1 rfl (lv_room (Nat.le_of_ble_eq_true rfl)) dL_law_1364 ⟨(show CC + 0 + 4 ≤ 441704 by omega), (show SS + 0 + 24 ≤ 7770994 by omega)⟩ rfl (fun _ H locs hP hD hS => ?_)
  refine lv_istore (pc := 1367) (lv' := [(5, .int r1364.1), (0, .ref b0), (1, .ref (B 0 0)), (2, .ref (am 0)), (3, .ref (ao 0)), (4, .int x4)]) hx hb dL_law_1367 hl (by decide) rfl (fun ls hl => ?_)
  refine lv_aload_n (pc := 1369) hx hb dL_law_1369 rfl (lv_at hl 3 rfl) ?_
  refine lv_aload_n (pc := 1370) hx hb dL_law_1370 rfl (lv_at hl 1 rfl) ?_
  refine lv_iload (pc := 1371) hx hb dL_law_1371 (lv_at hl 5 rfl) ?_
  refine lv_iconst (pc := 1373) (v := 1) hx hb dL_law_1373 (by decide) ?_
  refine lv_iadd (pc := 1374) hx hb dL_law_1374 ?_
  obtain ⟨g1375, hf⟩ := gd hf
  refine va_sld (pc := 1375) hx hb hX hbl hbA hS (inb_in g1375) dL_law_1375 ?_
  refine lv_aload_n (pc := 1376) hx hb dL_law_1376 rfl (lv_at hl 1 rfl) ?_
  refine lv_iload (pc := 1377) hx hb dL_law_1377 (lv_at hl 5 rfl) ?_
  refine lv_iconst (pc := 1379) (v := 2) hx hb dL_law_1379 (by decide) ?_
  refine lv_iadd (pc := 1380) hx hb dL_law_1380 ?_
  obtain ⟨g1381, hf⟩ := gd hf
  refine va_sld (pc := 1381) hx hb hX hbl hbA hS (inb_in g1381) dL_law_1381 ?_
  refine lv_aload_n (pc := 1382) hx hb dL_law_1382 rfl (lv_at hl 1 rfl) ?_
  refine lv_iload (pc := 1383) hx hb dL_law_1383 (lv_at hl 5 rfl) ?_
  refine lv_iconst (pc := 1385) (v := 3) hx hb dL_law_1385 (by decide) ?_
  refine lv_iadd (pc := 1386) hx hb dL_law_1386 ?_
  obtain ⟨g1387, hf⟩ := gd hf
  refine va_sld (pc := 1387) hx hb hX hbl hbA hS (inb_in g1387) dL_law_1387 ?_
  refine lv_aload_n (pc := 1388) hx hb dL_law_1388 rfl (lv_at hl 1 rfl) ?_
  refine lv_iload (pc := 1389) hx hb dL_law_1389 (lv_at hl 5 rfl) ?_
  refine lv_iconst (pc := 1391) (v := 4) hx hb dL_law_1391 (by decide) ?_
  refine lv_iadd (pc := 1392) hx hb dL_law_1392 ?_
  obtain ⟨g1393, hf⟩ := gd hf
  refine va_sld (pc := 1393) hx hb hX hbl hbA hS (inb_in g1393) dL_law_1393 ?_
  obtain ⟨r1394, h_1394, hf⟩ := bd hf
  refine rw_V (pc := 1394) (C := RX7) (As := [.int (xs (x4 + 1).toNatClampNeg), .int (xs (x4 + 2).toNatClampNeg), .int (xs (x4 + 3).toNatClampNeg), .int (xs (x4 + 4).toNatClampNeg)]) (rest := []) (st1 := [.int r1394.1]) (wn := fun _ => wH Z B r1364.2.1 ++ (wX7 Z am r1394.2 ++ wO Z ao r1364.2.2)) ⟨hx, hb, hml, hown, htsL⟩ (c_X7_relative Z l am mo (xs (x4 + 1).toNatClampNeg) (xs (x4 + 2).toNatClampNeg) (xs (x4 + 3).toNatClampNeg) (xs (x4 + 4).toNatClampNeg) r1394 h_1394) (cwV 4 htsL gL_law_X7_relative rfl rfl rfl hv_X7_relative ⟨Nat.le_of_ble_eq_true rfl, Nat.le_of_ble_eq_true rfl⟩) hK hE hP hD hS hA (List.range' 40 36) (List.range' 0 40 ++ List.range' (40 + 36) 1) (List.range' 0 40 ++ (List.range' (40 + 1) 36 ++ List.range' 40 1)) (by decide +kernel) (bC2 rfl rfl) (bR13 rfl rfl rfl) (fun _ => bN2 rfl rfl rfl rfl) 7 rfl rfl rfl hl.1 rfl (lv_room (Nat.le_of_ble_eq_true rfl)) dL_law_1394 ⟨(show CC + 4 + 0 ≤ 441704 by omega), (show SS + 24 + 0 ≤ 7770994 by omega)⟩ rfl (fun _ H locs hP hD hS => ?_)
  refine lv_istore (pc := 1397) (lv' := [(6, .int r1394.1), (5, .int r1364.1), (0, .ref b0), (1, .ref (B 0 0)), (2, .ref (am 0)), (3, .ref (ao 0)), (4, .int x4)]) hx hb dL_law_1397 hl (by decide) rfl (fun ls hl => ?_)
  refine lv_aload_n (pc := 1399) hx hb dL_law_1399 rfl (lv_at hl 4 rfl) ?_
  refine ro_V (pc := 1400) (C := RX7) (As := []) (rest := []) (st1 := [.int (f_X7_thrown r1394.2)]) ⟨hx, hb, hml, hown, htsL⟩ (c_X7_thrown Z l am r1394.2 _ rfl) (cwV 0 htsL gL_law_X7_thrown rfl rfl rfl hv_X7_thrown ⟨Nat.le_of_ble_eq_true rfl, Nat.le_of_ble_eq_true rfl⟩) hK hE (hP.sub (ws' := wX7 Z am r1394.2) (List.range' 40 36) (bF2 rfl rfl)) 7 rfl rfl rfl hl.1 rfl (lv_room (Nat.le_of_ble_eq_true rfl)) dL_law_1400 ⟨(show CC + 4 ≤ 441704 by omega), (show SS + 24 ≤ 7770994 by omega)⟩ rfl ?_
  refine lv_iload (pc := 1403) hx hb dL_law_1403 (lv_at hl 1 rfl) ?_
  refine lv_icmp_eq (pc := 1405) (tgt := 1410) hx hb dL_law_1405 (by decide) (fun c1 => ?_) (fun c1 => ?_)
  · have hf := (if_pos c1).symm.trans hf
    refine lv_iload (pc := 1410) hx hb dL_law_1410 (lv_at hl 1 rfl) ?_
    refine lv_if_ne (pc := 1412) (tgt := 1427) hx hb dL_law_1412 (by decide) (fun c2 => ?_) (fun c2 => ?_)
    · have hf := (if_neg c2).symm.trans hf
      refine lv_goto (pc := 1427) (tgt := 1443) hx hb dL_law_1427 (by decide) ?_
      refine W.widen (k := CC + 5) (n := SS + 7200) (by omega) (by omega) ?_
      exact ih B r1364.2.1 r1394.2 r1364.2.2 _ _ _ (lv_sub hl [2, 3, 4, 5, 6] rfl) hP hD hS hf
    · have hf := (if_pos c2).symm.trans hf
      refine lv_aload_n (pc := 1415) hx hb dL_law_1415 rfl (lv_at hl 5 rfl) ?_
      refine lv_iconst (pc := 1416) (v := 0) hx hb dL_law_1416 (by decide) ?_
      refine va_lald (pc := 1417) (D := Z.1) (n := 1) (f := r1364.2.2.2 0) hx hb hK hP 76 1 rfl rfl (inb_in (by decide)) dL_law_1417 ?_
      refine lv_iload (pc := 1418) hx hb dL_law_1418 (lv_at hl 0 rfl) ?_
      refine lv_i2l (pc := 1420) (v := r1394.1.toInt64) hx hb dL_law_1420 rfl ?_
      refine W.lcmp (pc := 1421) hx hb dL_law_1421 ?_
      refine lv_if_eq (pc := 1422) (tgt := 1427) hx hb dL_law_1422 (by decide) (fun c3 => ?_) (fun c3 => ?_)
      · have hf := (if_pos c3).symm.trans hf
        refine lv_goto (pc := 1427) (tgt := 1443) hx hb dL_law_1427 (by decide) ?_
        refine W.widen (k := CC + 5) (n := SS + 7200) (by omega) (by omega) ?_
        exact ih B r1364.2.1 r1394.2 r1364.2.2 _ _ _ (lv_sub hl [2, 3, 4, 5, 6] rfl) hP hD hS hf
      · have hf := (if_neg c3).symm.trans hf
        refine lv_iconst (pc := 1425) (v := 0) hx hb dL_law_1425 (by decide) ?_
        exact absurd (Option.some.inj hf) (by decide)
  · have hf := (if_neg c1).symm.trans hf
    refine lv_iconst (pc := 1408) (v := 0) hx hb dL_law_1408 (by decide) ?_
    exact absurd (Option.some.inj hf) (by decide)
def f_law_c20 (xs : Nat → Int32) (L : Nat) (x4 : Int32) (h : Nat → ObS) (mo w : ObS) (kk : ((Nat → ObS) → ObS → ObS → Option Int32)) : Option Int32 :=
  (f_X7_now mo).bind fun r1435 =>
  if (f_X6_now h) = r1435.1 then
    kk h r1435.2 w
  else
    some (0 : Int32)
set_option maxHeartbeats 4000000 in
set_option maxRecDepth 100000 in
theorem lc_20 {p : Program} {l : Launch} {e : Env} {s : State} {m : MethodId} {below : List Frame} {meth : Method} {c : Code} {Z : EnvT} {b0 L : Nat} {xs : Nat → Int32} (hst : l.stackTraces = false) (C0 : lw_At p s m meth c b0 L xs) (hK : va_K Z.1 vwCl (tyV Z) s) (hE : EV Z s) (hZ : ZQ (fun q : Nat => s.heap.size ≤ q) s s.heap) {CC SS : Nat} (hCC : CC + 5 ≤ 441704) (hSS : SS + 7200 ≤ 7770994) {x4 : Int32} {B : Nat → Nat → Nat} {h : Nat → ObS} {am ao : Nat → Nat} {mo w : ObS} {H : Heap} {locs : List Loc} {ls : Array Slot} (kk : ((Nat → ObS) → ObS → ObS → Option Int32))
    (ih : ∀ (B : Nat → Nat → Nat) (h : Nat → ObS) (mo w : ObS) (H : Heap) (locs : List Loc) (ls : Array Slot), lv_has ls 7 [(0, .ref b0), (1, .ref (B 0 0)), (2, .ref (am 0)), (3, .ref (ao 0)), (4, .int x4)] → va_P Z.1 vwCl (wH Z B h ++ (wX7 Z am mo ++ wO Z ao w)) H → va_D (fun q : Nat => s.heap.size ≤ q) (wH Z B h ++ (wX7 Z am mo ++ wO Z ao w)) → va_S (fun q : Nat => s.heap.size ≤ q) s.heap H locs → kk h mo w = some 1 → W p l e room_1 s m #[Value.ref b0] below meth c H locs (CC + 5) (SS + 7200) (lw_Z below #[Value.ref b0] s) (F0 m 1443 ls []))
    (hl : lv_has ls 7 [(0, .ref b0), (1, .ref (B 0 0)), (2, .ref (am 0)), (3, .ref (ao 0)), (4, .int x4)]) (hP : va_P Z.1 vwCl (wH Z B h ++ (wX7 Z am mo ++ wO Z ao w)) H) (hD : va_D (fun q : Nat => s.heap.size ≤ q) (wH Z B h ++ (wX7 Z am mo ++ wO Z ao w))) (hS : va_S (fun q : Nat => s.heap.size ≤ q) s.heap H locs) (hf : f_law_c20 xs L x4 h mo w kk = some 1) : W p l e room_1 s m #[Value.ref b0] below meth c H locs CC SS (lw_Z below #[Value.ref b0] s) (F0 m 1430 ls []) := by
  obtain ⟨hx, hb, hr, hml, hown, hts, hX, hbl, hlocks, hgv⟩ := C0
  have hown : s.vm.findClass RL = some m.cls := hown
  have htsL : ∀ w ∈ wsL_law, w.before #[Value.ref b0] s = true := fun w h9 => hts w (wsL_law_in w h9)
  have hA : ∀ q : Nat, s.heap.size ≤ q → (fun q : Nat => s.heap.size ≤ q) q := fun _ h9 => h9
  have hbA : ¬ (fun q : Nat => s.heap.size ≤ q) b0 := Nat.not_le.mpr hbl
  rw [f_law_c20] at hf
  refine lv_aload_n (pc := 1430) hx hb dL_law_1430 rfl (lv_at hl 1 rfl) ?_
  refine ro_V (pc := 1431) (C := RX6) (As := []) (rest := []) (st1 := [.int (f_X6_now h)]) ⟨hx, hb, hml, hown, htsL⟩ (c_X6_now Z l B h _ rfl) (cwV 0 htsL gL_law_X6_now rfl rfl rfl hv_X6_now ⟨Nat.le_of_ble_eq_true rfl, Nat.le_of_ble_eq_true rfl⟩) hK hE (hP.sub (ws' := wH Z B h) (List.range' 0 40) (bF1 rfl)) 6 rfl rfl rfl hl.1 rfl (lv_room (Nat.le_of_ble_eq_true rfl)) dL_law_1431 ⟨(show CC + 0 ≤ 441704 by omega), (show SS + 0 ≤ 7770994 by omega)⟩ rfl ?_
  refine lv_aload_n (pc := 1434) hx hb dL_law_1434 rfl (lv_at hl 2 rfl) ?_
  obtain ⟨r1435, h_1435, hf⟩ := bd hf
  refine rw_V (pc := 1435) (C := RX7) (As := []) (rest := [.int (f_X6_now h)]) (st1 := [.int r1435.1, .int (f_X6_now h)]) (wn := fun _ => wH Z B h ++ (wX7 Z am r1435.2 ++ wO Z ao w)) ⟨hx, hb, hml, hown, htsL⟩ (c_X7_now Z l am mo r1435 h_1435) (cwV 0 htsL gL_law_X7_now rfl rfl rfl hv_X7_now ⟨Nat.le_of_ble_eq_true rfl, Nat.le_of_ble_eq_true rfl⟩) hK hE hP hD hS hA (List.range' 40 36) (List.range' 0 40 ++ List.range' (40 + 36) 1) (List.range' 0 40 ++ (List.range' (40 + 1) 36 ++ List.range' 40 1)) (by decide +kernel) (bC2 rfl rfl) (bR13 rfl rfl rfl) (fun _ => bN2 rfl rfl rfl rfl) 7 rfl rfl rfl hl.1 rfl (lv_room (Nat.le_of_ble_eq_true rfl)) dL_law_1435 ⟨(show CC + 0 + 0 ≤ 441704 by omega), (show SS + 0 + 0 ≤ 7770994 by omega)⟩ rfl (fun _ H locs hP hD hS => ?_)
  refine lv_icmp_eq (pc := 1438) (tgt := 1443) hx hb dL_law_1438 (by decide) (fun c1 => ?_) (fun c1 => ?_)
  · have hf := (if_pos c1).symm.trans hf
    refine W.widen (k := CC + 5) (n := SS + 7200) (by omega) (by omega) ?_
    exact ih B h r1435.2 w _ _ _ (lv_sub hl [0, 1, 2, 3, 4] rfl) hP hD hS hf
  · have hf := (if_neg c1).symm.trans hf
    refine lv_iconst (pc := 1441) (v := 0) hx hb dL_law_1441 (by decide) ?_
    exact absurd (Option.some.inj hf) (by decide)
