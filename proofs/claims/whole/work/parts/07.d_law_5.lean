def f_law_c15 (xs : Nat → Int32) (L : Nat) (x4 : Int32) (h : Nat → ObS) (mo w : ObS) (kk : ((Nat → ObS) → ObS → ObS → Option Int32)) : Option Int32 :=
  if inb (x4 + 1) L then
  if inb (x4 + 2) L then
  (f_L_trend h (xs (x4 + 1).toNatClampNeg) (xs (x4 + 2).toNatClampNeg) w).bind fun r1190 =>
  if inb (x4 + 1) L then
  if inb (x4 + 2) L then
  (f_X7_trend mo (xs (x4 + 1).toNatClampNeg) (xs (x4 + 2).toNatClampNeg)).bind fun r1208 =>
  if (f_X7_thrown r1208.2) = r1190.1 then
    if r1190.1 = (0 : Int32) then
      if (lg_cmp (r1190.2.2 0 ((0 : Int32).toNatClampNeg)) r1208.1.toInt64) = (0 : Int32) then
        kk h r1208.2 r1190.2
      else
        some (0 : Int32)
    else
      kk h r1208.2 r1190.2
  else
    some (0 : Int32)
  else none
  else none
  else none
  else none
set_option maxHeartbeats 4000000 in
set_option maxRecDepth 100000 in
theorem lc_15 {p : Program} {l : Launch} {e : Env} {s : State} {m : MethodId} {below : List Frame} {meth : Method} {c : Code} {Z : EnvT} {b0 L : Nat} {xs : Nat → Int32} (hst : l.stackTraces = false) (C0 : lw_At p s m meth c b0 L xs) (hK : va_K Z.1 vwCl (tyV Z) s) (hE : EV Z s) (hZ : ZQ (fun q : Nat => s.heap.size ≤ q) s s.heap) {CC SS : Nat} (hCC : CC + 5 ≤ 441704) (hSS : SS + 7200 ≤ 7770994) {x4 : Int32} {B : Nat → Nat → Nat} {h : Nat → ObS} {am ao : Nat → Nat} {mo w : ObS} {H : Heap} {locs : List Loc} {ls : Array Slot} (kk : ((Nat → ObS) → ObS → ObS → Option Int32))
    (ih : ∀ (B : Nat → Nat → Nat) (h : Nat → ObS) (mo w : ObS) (H : Heap) (locs : List Loc) (ls : Array Slot), lv_has ls 7 [(0, .ref b0), (1, .ref (B 0 0)), (2, .ref (am 0)), (3, .ref (ao 0)), (4, .int x4)] → va_P Z.1 vwCl (wH Z B h ++ (wX7 Z am mo ++ wO Z ao w)) H → va_D (fun q : Nat => s.heap.size ≤ q) (wH Z B h ++ (wX7 Z am mo ++ wO Z ao w)) → va_S (fun q : Nat => s.heap.size ≤ q) s.heap H locs → kk h mo w = some 1 → W p l e room_1 s m #[Value.ref b0] below meth c H locs (CC + 5) (SS + 7200) (lw_Z below #[Value.ref b0] s) (F0 m 1443 ls []))
    (hl : lv_has ls 7 [(0, .ref b0), (1, .ref (B 0 0)), (2, .ref (am 0)), (3, .ref (ao 0)), (4, .int x4)]) (hP : va_P Z.1 vwCl (wH Z B h ++ (wX7 Z am mo ++ wO Z ao w)) H) (hD : va_D (fun q : Nat => s.heap.size ≤ q) (wH Z B h ++ (wX7 Z am mo ++ wO Z ao w))) (hS : va_S (fun q : Nat => s.heap.size ≤ q) s.heap H locs) (hf : f_law_c15 xs L x4 h mo w kk = some 1) : W p l e room_1 s m #[Value.ref b0] below meth c H locs CC SS (lw_Z below #[Value.ref b0] s) (F0 m 1176 ls []) := by
  obtain ⟨hx, hb, hr, hml, hown, hts, hX, hbl, hlocks, hgv⟩ := C0
  have hown : s.vm.findClass RL = some m.cls := hown
  have htsL : ∀ w ∈ wsL_law, w.before #[Value.ref b0] s = true := fun w h9 => hts w (wsL_law_in w h9)
  have hA : ∀ q : Nat, s.heap.size ≤ q → (fun q : Nat => s.heap.size ≤ q) q := fun _ h9 => h9
  have hbA : ¬ (fun q : Nat => s.heap.size ≤ q) b0 := Nat.not_le.mpr hbl
  rw [f_law_c15] at hf
  refine lv_aload_n (pc := 1176) hx hb dL_law_1176 rfl (lv_at hl 1 rfl) ?_
  refine lv_aload_n (pc := 1177) hx hb dL_law_1177 rfl (lv_at hl 0 rfl) ?_
  refine lv_iload (pc := 1178) hx hb dL_law_1178 (lv_at hl 4 rfl) ?_
  refine lv_iconst (pc := 1180) (v := 1) hx hb dL_law_1180 (by decide) ?_
  refine lv_iadd (pc := 1181) hx hb dL_law_1181 ?_
  obtain ⟨g1182, hf⟩ := gd hf
  refine va_sld (pc := 1182) hx hb hX hbl hbA hS (inb_in g1182) dL_law_1182 ?_
  refine lv_aload_n (pc := 1183) hx hb dL_law_1183 rfl (lv_at hl 0 rfl) ?_
  refine lv_iload (pc := 1184) hx hb dL_law_1184 (lv_at hl 4 rfl) ?_
  refine lv_iconst (pc := 1186) (v := 2) hx hb dL_law_1186 (by decide) ?_
  refine lv_iadd (pc := 1187) hx hb dL_law_1187 ?_
  obtain ⟨g1188, hf⟩ := gd hf
  refine va_sld (pc := 1188) hx hb hX hbl hbA hS (inb_in g1188) dL_law_1188 ?_
  refine lv_aload_n (pc := 1189) hx hb dL_law_1189 rfl (lv_at hl 3 rfl) ?_
  obtain ⟨r1190, h_1190, hf⟩ := bd hf
  refine wr_S (pc := 1190) (As := [.ref (B 0 0), .int (xs (x4 + 1).toNatClampNeg), .int (xs (x4 + 2).toNatClampNeg), .ref (ao 0)]) (rest := []) (st1 := [.int r1190.1]) (wn := fun _ => wH Z B h ++ (wX7 Z am mo ++ wO Z ao r1190.2)) ⟨hx, hb, hml, hown, htsL⟩ (c_L_trend Z l hst B h (xs (x4 + 1).toNatClampNeg) (xs (x4 + 2).toNatClampNeg) ao w r1190 h_1190) (vx_cwSW 4 htsL gL_law_L_trend rfl rfl rfl hs_L_trend ⟨Nat.le_of_ble_eq_true rfl, Nat.le_of_ble_eq_true rfl⟩) hK hE hP hD hS hA hZ (List.range' 0 40 ++ List.range' (40 + 36) 1) (List.range' 40 36) (List.range' 36 40 ++ (List.range' 0 36 ++ List.range' (36 + 40) 1)) (by decide +kernel) (bC13 rfl rfl rfl) (bR2 rfl rfl) (fun _ => bN13 rfl rfl rfl rfl) rfl hl.1 rfl (lv_room (Nat.le_of_ble_eq_true rfl)) dL_law_1190 ⟨(show CC + 0 + 2 ≤ 441704 by omega), (show SS + 0 + 12 ≤ 7770994 by omega)⟩ rfl (fun _ H locs hP hD hS => ?_)
  refine lv_istore (pc := 1193) (lv' := [(5, .int r1190.1), (0, .ref b0), (1, .ref (B 0 0)), (2, .ref (am 0)), (3, .ref (ao 0)), (4, .int x4)]) hx hb dL_law_1193 hl (by decide) rfl (fun ls hl => ?_)
  refine lv_aload_n (pc := 1195) hx hb dL_law_1195 rfl (lv_at hl 3 rfl) ?_
  refine lv_aload_n (pc := 1196) hx hb dL_law_1196 rfl (lv_at hl 1 rfl) ?_
  refine lv_iload (pc := 1197) hx hb dL_law_1197 (lv_at hl 5 rfl) ?_
  refine lv_iconst (pc := 1199) (v := 1) hx hb dL_law_1199 (by decide) ?_
  refine lv_iadd (pc := 1200) hx hb dL_law_1200 ?_
  obtain ⟨g1201, hf⟩ := gd hf
  refine va_sld (pc := 1201) hx hb hX hbl hbA hS (inb_in g1201) dL_law_1201 ?_
  refine lv_aload_n (pc := 1202) hx hb dL_law_1202 rfl (lv_at hl 1 rfl) ?_
  refine lv_iload (pc := 1203) hx hb dL_law_1203 (lv_at hl 5 rfl) ?_
  refine lv_iconst (pc := 1205) (v := 2) hx hb dL_law_1205 (by decide) ?_
  refine lv_iadd (pc := 1206) hx hb dL_law_1206 ?_
  obtain ⟨g1207, hf⟩ := gd hf
  refine va_sld (pc := 1207) hx hb hX hbl hbA hS (inb_in g1207) dL_law_1207 ?_
  obtain ⟨r1208, h_1208, hf⟩ := bd hf
  refine rw_V (pc := 1208) (C := RX7) (As := [.int (xs (x4 + 1).toNatClampNeg), .int (xs (x4 + 2).toNatClampNeg)]) (rest := []) (st1 := [.int r1208.1]) (wn := fun _ => wH Z B h ++ (wX7 Z am r1208.2 ++ wO Z ao r1190.2)) ⟨hx, hb, hml, hown, htsL⟩ (c_X7_trend Z l am mo (xs (x4 + 1).toNatClampNeg) (xs (x4 + 2).toNatClampNeg) r1208 h_1208) (cwV 2 htsL gL_law_X7_trend rfl rfl rfl hv_X7_trend ⟨Nat.le_of_ble_eq_true rfl, Nat.le_of_ble_eq_true rfl⟩) hK hE hP hD hS hA (List.range' 40 36) (List.range' 0 40 ++ List.range' (40 + 36) 1) (List.range' 0 40 ++ (List.range' (40 + 1) 36 ++ List.range' 40 1)) (by decide +kernel) (bC2 rfl rfl) (bR13 rfl rfl rfl) (fun _ => bN2 rfl rfl rfl rfl) 7 rfl rfl rfl hl.1 rfl (lv_room (Nat.le_of_ble_eq_true rfl)) dL_law_1208 ⟨(show CC + 2 + 0 ≤ 441704 by omega), (show SS + 12 + 0 ≤ 7770994 by omega)⟩ rfl (fun _ H locs hP hD hS => ?_)
  refine lv_istore (pc := 1211) (lv' := [(6, .int r1208.1), (5, .int r1190.1), (0, .ref b0), (1, .ref (B 0 0)), (2, .ref (am 0)), (3, .ref (ao 0)), (4, .int x4)]) hx hb dL_law_1211 hl (by decide) rfl (fun ls hl => ?_)
  refine lv_aload_n (pc := 1213) hx hb dL_law_1213 rfl (lv_at hl 4 rfl) ?_
  refine ro_V (pc := 1214) (C := RX7) (As := []) (rest := []) (st1 := [.int (f_X7_thrown r1208.2)]) ⟨hx, hb, hml, hown, htsL⟩ (c_X7_thrown Z l am r1208.2 _ rfl) (cwV 0 htsL gL_law_X7_thrown rfl rfl rfl hv_X7_thrown ⟨Nat.le_of_ble_eq_true rfl, Nat.le_of_ble_eq_true rfl⟩) hK hE (hP.sub (ws' := wX7 Z am r1208.2) (List.range' 40 36) (bF2 rfl rfl)) 7 rfl rfl rfl hl.1 rfl (lv_room (Nat.le_of_ble_eq_true rfl)) dL_law_1214 ⟨(show CC + 2 ≤ 441704 by omega), (show SS + 12 ≤ 7770994 by omega)⟩ rfl ?_
  refine lv_iload (pc := 1217) hx hb dL_law_1217 (lv_at hl 1 rfl) ?_
  refine lv_icmp_eq (pc := 1219) (tgt := 1224) hx hb dL_law_1219 (by decide) (fun c1 => ?_) (fun c1 => ?_)
  · have hf := (if_pos c1).symm.trans hf
    refine lv_iload (pc := 1224) hx hb dL_law_1224 (lv_at hl 1 rfl) ?_
    refine lv_if_ne (pc := 1226) (tgt := 1241) hx hb dL_law_1226 (by decide) (fun c2 => ?_) (fun c2 => ?_)
    · have hf := (if_neg c2).symm.trans hf
      refine lv_goto (pc := 1241) (tgt := 1443) hx hb dL_law_1241 (by decide) ?_
      refine W.widen (k := CC + 5) (n := SS + 7200) (by omega) (by omega) ?_
      exact ih B h r1208.2 r1190.2 _ _ _ (lv_sub hl [2, 3, 4, 5, 6] rfl) hP hD hS hf
    · have hf := (if_pos c2).symm.trans hf
      refine lv_aload_n (pc := 1229) hx hb dL_law_1229 rfl (lv_at hl 5 rfl) ?_
      refine lv_iconst (pc := 1230) (v := 0) hx hb dL_law_1230 (by decide) ?_
      refine va_lald (pc := 1231) (D := Z.1) (n := 1) (f := r1190.2.2 0) hx hb hK hP 76 1 rfl rfl (inb_in (by decide)) dL_law_1231 ?_
      refine lv_iload (pc := 1232) hx hb dL_law_1232 (lv_at hl 0 rfl) ?_
      refine lv_i2l (pc := 1234) (v := r1208.1.toInt64) hx hb dL_law_1234 rfl ?_
      refine W.lcmp (pc := 1235) hx hb dL_law_1235 ?_
      refine lv_if_eq (pc := 1236) (tgt := 1241) hx hb dL_law_1236 (by decide) (fun c3 => ?_) (fun c3 => ?_)
      · have hf := (if_pos c3).symm.trans hf
        refine lv_goto (pc := 1241) (tgt := 1443) hx hb dL_law_1241 (by decide) ?_
        refine W.widen (k := CC + 5) (n := SS + 7200) (by omega) (by omega) ?_
        exact ih B h r1208.2 r1190.2 _ _ _ (lv_sub hl [2, 3, 4, 5, 6] rfl) hP hD hS hf
      · have hf := (if_neg c3).symm.trans hf
        refine lv_iconst (pc := 1239) (v := 0) hx hb dL_law_1239 (by decide) ?_
        exact absurd (Option.some.inj hf) (by decide)
  · have hf := (if_neg c1).symm.trans hf
    refine lv_iconst (pc := 1222) (v := 0) hx hb dL_law_1222 (by decide) ?_
    exact absurd (Option.some.inj hf) (by decide)
def f_law_c16 (xs : Nat → Int32) (L : Nat) (x4 : Int32) (h : Nat → ObS) (mo w : ObS) (kk : ((Nat → ObS) → ObS → ObS → Option Int32)) : Option Int32 :=
  (f_X6_balance h).bind fun r1245 =>
  (f_X7_balance mo).bind fun r1249 =>
  if r1245 = r1249.1 then
    kk h r1249.2 w
  else
    some (0 : Int32)
set_option maxHeartbeats 4000000 in
set_option maxRecDepth 100000 in
theorem lc_16 {p : Program} {l : Launch} {e : Env} {s : State} {m : MethodId} {below : List Frame} {meth : Method} {c : Code} {Z : EnvT} {b0 L : Nat} {xs : Nat → Int32} (hst : l.stackTraces = false) (C0 : lw_At p s m meth c b0 L xs) (hK : va_K Z.1 vwCl (tyV Z) s) (hE : EV Z s) (hZ : ZQ (fun q : Nat => s.heap.size ≤ q) s s.heap) {CC SS : Nat} (hCC : CC + 5 ≤ 441704) (hSS : SS + 7200 ≤ 7770994) {x4 : Int32} {B : Nat → Nat → Nat} {h : Nat → ObS} {am ao : Nat → Nat} {mo w : ObS} {H : Heap} {locs : List Loc} {ls : Array Slot} (kk : ((Nat → ObS) → ObS → ObS → Option Int32))
    (ih : ∀ (B : Nat → Nat → Nat) (h : Nat → ObS) (mo w : ObS) (H : Heap) (locs : List Loc) (ls : Array Slot), lv_has ls 7 [(0, .ref b0), (1, .ref (B 0 0)), (2, .ref (am 0)), (3, .ref (ao 0)), (4, .int x4)] → va_P Z.1 vwCl (wH Z B h ++ (wX7 Z am mo ++ wO Z ao w)) H → va_D (fun q : Nat => s.heap.size ≤ q) (wH Z B h ++ (wX7 Z am mo ++ wO Z ao w)) → va_S (fun q : Nat => s.heap.size ≤ q) s.heap H locs → kk h mo w = some 1 → W p l e room_1 s m #[Value.ref b0] below meth c H locs (CC + 5) (SS + 7200) (lw_Z below #[Value.ref b0] s) (F0 m 1443 ls []))
    (hl : lv_has ls 7 [(0, .ref b0), (1, .ref (B 0 0)), (2, .ref (am 0)), (3, .ref (ao 0)), (4, .int x4)]) (hP : va_P Z.1 vwCl (wH Z B h ++ (wX7 Z am mo ++ wO Z ao w)) H) (hD : va_D (fun q : Nat => s.heap.size ≤ q) (wH Z B h ++ (wX7 Z am mo ++ wO Z ao w))) (hS : va_S (fun q : Nat => s.heap.size ≤ q) s.heap H locs) (hf : f_law_c16 xs L x4 h mo w kk = some 1) : W p l e room_1 s m #[Value.ref b0] below meth c H locs CC SS (lw_Z below #[Value.ref b0] s) (F0 m 1244 ls []) := by
  obtain ⟨hx, hb, hr, hml, hown, hts, hX, hbl, hlocks, hgv⟩ := C0
  have hown : s.vm.findClass RL = some m.cls := hown
  have htsL : ∀ w ∈ wsL_law, w.before #[Value.ref b0] s = true := fun w h9 => hts w (wsL_law_in w h9)
  have hA : ∀ q : Nat, s.heap.size ≤ q → (fun q : Nat => s.heap.size ≤ q) q := fun _ h9 => h9
  have hbA : ¬ (fun q : Nat => s.heap.size ≤ q) b0 := Nat.not_le.mpr hbl
  rw [f_law_c16] at hf
  refine lv_aload_n (pc := 1244) hx hb dL_law_1244 rfl (lv_at hl 1 rfl) ?_
  obtain ⟨r1245, h_1245, hf⟩ := bd hf
  refine ro_V (pc := 1245) (C := RX6) (As := []) (rest := []) (st1 := [.int r1245]) ⟨hx, hb, hml, hown, htsL⟩ (c_X6_balance Z l B h r1245 h_1245) (cwV 0 htsL gL_law_X6_balance rfl rfl rfl hv_X6_balance ⟨Nat.le_of_ble_eq_true rfl, Nat.le_of_ble_eq_true rfl⟩) hK hE (hP.sub (ws' := wH Z B h) (List.range' 0 40) (bF1 rfl)) 6 rfl rfl rfl hl.1 rfl (lv_room (Nat.le_of_ble_eq_true rfl)) dL_law_1245 ⟨(show CC + 0 ≤ 441704 by omega), (show SS + 0 ≤ 7770994 by omega)⟩ rfl ?_
  refine lv_aload_n (pc := 1248) hx hb dL_law_1248 rfl (lv_at hl 2 rfl) ?_
  obtain ⟨r1249, h_1249, hf⟩ := bd hf
  refine rw_V (pc := 1249) (C := RX7) (As := []) (rest := [.int r1245]) (st1 := [.int r1249.1, .int r1245]) (wn := fun _ => wH Z B h ++ (wX7 Z am r1249.2 ++ wO Z ao w)) ⟨hx, hb, hml, hown, htsL⟩ (c_X7_balance Z l am mo r1249 h_1249) (cwV 0 htsL gL_law_X7_balance rfl rfl rfl hv_X7_balance ⟨Nat.le_of_ble_eq_true rfl, Nat.le_of_ble_eq_true rfl⟩) hK hE hP hD hS hA (List.range' 40 36) (List.range' 0 40 ++ List.range' (40 + 36) 1) (List.range' 0 40 ++ (List.range' (40 + 1) 36 ++ List.range' 40 1)) (by decide +kernel) (bC2 rfl rfl) (bR13 rfl rfl rfl) (fun _ => bN2 rfl rfl rfl rfl) 7 rfl rfl rfl hl.1 rfl (lv_room (Nat.le_of_ble_eq_true rfl)) dL_law_1249 ⟨(show CC + 0 + 0 ≤ 441704 by omega), (show SS + 0 + 0 ≤ 7770994 by omega)⟩ rfl (fun _ H locs hP hD hS => ?_)
  refine lv_icmp_eq (pc := 1252) (tgt := 1443) hx hb dL_law_1252 (by decide) (fun c1 => ?_) (fun c1 => ?_)
  · have hf := (if_pos c1).symm.trans hf
    refine W.widen (k := CC + 5) (n := SS + 7200) (by omega) (by omega) ?_
    exact ih B h r1249.2 w _ _ _ (lv_sub hl [0, 1, 2, 3, 4] rfl) hP hD hS hf
  · have hf := (if_neg c1).symm.trans hf
    refine lv_iconst (pc := 1255) (v := 0) hx hb dL_law_1255 (by decide) ?_
    exact absurd (Option.some.inj hf) (by decide)
def f_law_c17 (xs : Nat → Int32) (L : Nat) (x4 : Int32) (h : Nat → ObS) (mo w : ObS) (kk : ((Nat → ObS) → ObS → ObS → Option Int32)) : Option Int32 :=
  (f_X7_alarms mo).bind fun r1262 =>
  if (f_X6_alarms h) = r1262.1 then
    kk h r1262.2 w
  else
    some (0 : Int32)
set_option maxHeartbeats 4000000 in
set_option maxRecDepth 100000 in
theorem lc_17 {p : Program} {l : Launch} {e : Env} {s : State} {m : MethodId} {below : List Frame} {meth : Method} {c : Code} {Z : EnvT} {b0 L : Nat} {xs : Nat → Int32} (hst : l.stackTraces = false) (C0 : lw_At p s m meth c b0 L xs) (hK : va_K Z.1 vwCl (tyV Z) s) (hE : EV Z s) (hZ : ZQ (fun q : Nat => s.heap.size ≤ q) s s.heap) {CC SS : Nat} (hCC : CC + 5 ≤ 441704) (hSS : SS + 7200 ≤ 7770994) {x4 : Int32} {B : Nat → Nat → Nat} {h : Nat → ObS} {am ao : Nat → Nat} {mo w : ObS} {H : Heap} {locs : List Loc} {ls : Array Slot} (kk : ((Nat → ObS) → ObS → ObS → Option Int32))
    (ih : ∀ (B : Nat → Nat → Nat) (h : Nat → ObS) (mo w : ObS) (H : Heap) (locs : List Loc) (ls : Array Slot), lv_has ls 7 [(0, .ref b0), (1, .ref (B 0 0)), (2, .ref (am 0)), (3, .ref (ao 0)), (4, .int x4)] → va_P Z.1 vwCl (wH Z B h ++ (wX7 Z am mo ++ wO Z ao w)) H → va_D (fun q : Nat => s.heap.size ≤ q) (wH Z B h ++ (wX7 Z am mo ++ wO Z ao w)) → va_S (fun q : Nat => s.heap.size ≤ q) s.heap H locs → kk h mo w = some 1 → W p l e room_1 s m #[Value.ref b0] below meth c H locs (CC + 5) (SS + 7200) (lw_Z below #[Value.ref b0] s) (F0 m 1443 ls []))
    (hl : lv_has ls 7 [(0, .ref b0), (1, .ref (B 0 0)), (2, .ref (am 0)), (3, .ref (ao 0)), (4, .int x4)]) (hP : va_P Z.1 vwCl (wH Z B h ++ (wX7 Z am mo ++ wO Z ao w)) H) (hD : va_D (fun q : Nat => s.heap.size ≤ q) (wH Z B h ++ (wX7 Z am mo ++ wO Z ao w))) (hS : va_S (fun q : Nat => s.heap.size ≤ q) s.heap H locs) (hf : f_law_c17 xs L x4 h mo w kk = some 1) : W p l e room_1 s m #[Value.ref b0] below meth c H locs CC SS (lw_Z below #[Value.ref b0] s) (F0 m 1257 ls []) := by
  obtain ⟨hx, hb, hr, hml, hown, hts, hX, hbl, hlocks, hgv⟩ := C0
  have hown : s.vm.findClass RL = some m.cls := hown
  have htsL : ∀ w ∈ wsL_law, w.before #[Value.ref b0] s = true := fun w h9 => hts w (wsL_law_in w h9)
  have hA : ∀ q : Nat, s.heap.size ≤ q → (fun q : Nat => s.heap.size ≤ q) q := fun _ h9 => h9
  have hbA : ¬ (fun q : Nat => s.heap.size ≤ q) b0 := Nat.not_le.mpr hbl
  rw [f_law_c17] at hf
  refine lv_aload_n (pc := 1257) hx hb dL_law_1257 rfl (lv_at hl 1 rfl) ?_
  refine ro_V (pc := 1258) (C := RX6) (As := []) (rest := []) (st1 := [.int (f_X6_alarms h)]) ⟨hx, hb, hml, hown, htsL⟩ (c_X6_alarms Z l B h _ rfl) (cwV 0 htsL gL_law_X6_alarms rfl rfl rfl hv_X6_alarms ⟨Nat.le_of_ble_eq_true rfl, Nat.le_of_ble_eq_true rfl⟩) hK hE (hP.sub (ws' := wH Z B h) (List.range' 0 40) (bF1 rfl)) 6 rfl rfl rfl hl.1 rfl (lv_room (Nat.le_of_ble_eq_true rfl)) dL_law_1258 ⟨(show CC + 0 ≤ 441704 by omega), (show SS + 0 ≤ 7770994 by omega)⟩ rfl ?_
  refine lv_aload_n (pc := 1261) hx hb dL_law_1261 rfl (lv_at hl 2 rfl) ?_
  obtain ⟨r1262, h_1262, hf⟩ := bd hf
  refine rw_V (pc := 1262) (C := RX7) (As := []) (rest := [.int (f_X6_alarms h)]) (st1 := [.int r1262.1, .int (f_X6_alarms h)]) (wn := fun _ => wH Z B h ++ (wX7 Z am r1262.2 ++ wO Z ao w)) ⟨hx, hb, hml, hown, htsL⟩ (c_X7_alarms Z l am mo r1262 h_1262) (cwV 0 htsL gL_law_X7_alarms rfl rfl rfl hv_X7_alarms ⟨Nat.le_of_ble_eq_true rfl, Nat.le_of_ble_eq_true rfl⟩) hK hE hP hD hS hA (List.range' 40 36) (List.range' 0 40 ++ List.range' (40 + 36) 1) (List.range' 0 40 ++ (List.range' (40 + 1) 36 ++ List.range' 40 1)) (by decide +kernel) (bC2 rfl rfl) (bR13 rfl rfl rfl) (fun _ => bN2 rfl rfl rfl rfl) 7 rfl rfl rfl hl.1 rfl (lv_room (Nat.le_of_ble_eq_true rfl)) dL_law_1262 ⟨(show CC + 0 + 0 ≤ 441704 by omega), (show SS + 0 + 0 ≤ 7770994 by omega)⟩ rfl (fun _ H locs hP hD hS => ?_)
  refine lv_icmp_eq (pc := 1265) (tgt := 1443) hx hb dL_law_1265 (by decide) (fun c1 => ?_) (fun c1 => ?_)
  · have hf := (if_pos c1).symm.trans hf
    refine W.widen (k := CC + 5) (n := SS + 7200) (by omega) (by omega) ?_
    exact ih B h r1262.2 w _ _ _ (lv_sub hl [0, 1, 2, 3, 4] rfl) hP hD hS hf
  · have hf := (if_neg c1).symm.trans hf
    refine lv_iconst (pc := 1268) (v := 0) hx hb dL_law_1268 (by decide) ?_
    exact absurd (Option.some.inj hf) (by decide)
