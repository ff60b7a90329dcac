def f_law_c12 (xs : Nat → Int32) (L : Nat) (x4 : Int32) (h : Nat → ObS) (mo w : ObS) (kk : ((Nat → ObS) → ObS → ObS → Option Int32)) : Option Int32 :=
  if inb (x4 + 1) L then
  if inb (x4 + 2) L then
  (f_L_of h (xs (x4 + 1).toNatClampNeg) (xs (x4 + 2).toNatClampNeg) w).bind fun r986 =>
  if inb (x4 + 1) L then
  if inb (x4 + 2) L then
  (f_X7_of mo (xs (x4 + 1).toNatClampNeg) (xs (x4 + 2).toNatClampNeg)).bind fun r1004 =>
  if (f_X7_thrown r1004.2) = r986.1 then
    if r986.1 = (0 : Int32) then
      if (lg_cmp (r986.2.2 0 ((0 : Int32).toNatClampNeg)) r1004.1.toInt64) = (0 : Int32) then
        kk h r1004.2 r986.2
      else
        some (0 : Int32)
    else
      kk h r1004.2 r986.2
  else
    some (0 : Int32)
  else none
  else none
  else none
  else none
set_option maxHeartbeats 4000000 in
set_option maxRecDepth 100000 in
theorem lc_12 {p : Program} {l : Launch} {e : Env} {s : State} {m : MethodId} {below : List Frame} {meth : Method} {c : Code} {Z : EnvT} {b0 L : Nat} {xs : Nat → Int32} (hst : l.stackTraces = false) (C0 : lw_At p s m meth c b0 L xs) (hK : va_K Z.1 vwCl (tyV Z) s) (hE : EV Z s) (hZ : ZQ (fun q : Nat => s.heap.size ≤ q) s s.heap) {CC SS : Nat} (hCC : CC + 5 ≤ 441704) (hSS : SS + 7200 ≤ 7770994) {x4 : Int32} {B : Nat → Nat → Nat} {h : Nat → ObS} {am ao : Nat → Nat} {mo w : ObS} {H : Heap} {locs : List Loc} {ls : Array Slot} (kk : ((Nat → ObS) → ObS → ObS → Option Int32))
    (ih : ∀ (B : Nat → Nat → Nat) (h : Nat → ObS) (mo w : ObS) (H : Heap) (locs : List Loc) (ls : Array Slot), lv_has ls 7 [(0, .ref b0), (1, .ref (B 0 0)), (2, .ref (am 0)), (3, .ref (ao 0)), (4, .int x4)] → va_P Z.1 vwCl (wH Z B h ++ (wX7 Z am mo ++ wO Z ao w)) H → va_D (fun q : Nat => s.heap.size ≤ q) (wH Z B h ++ (wX7 Z am mo ++ wO Z ao w)) → va_S (fun q : Nat => s.heap.size ≤ q) s.heap H locs → kk h mo w = some 1 → W p l e room_1 s m #[Value.ref b0] below meth c H locs (CC + 5) (SS + 7200) (lw_Z below #[Value.ref b0] s) (F0 m 1443 ls []))
    (hl : lv_has ls 7 [(0, .ref b0), (1, .ref (B 0 0)), (2, .ref (am 0)), (3, .ref (ao 0)), (4, .int x4)]) (hP : va_P Z.1 vwCl (wH Z B h ++ (wX7 Z am mo ++ wO Z ao w)) H) (hD : va_D (fun q : Nat => s.heap.size ≤ q) (wH Z B h ++ (wX7 Z am mo ++ wO Z ao w))) (hS : va_S (fun q : Nat => s.heap.size ≤ q) s.heap H locs) (hf : f_law_c12 xs L x4 h mo w kk = some 1) : W p l e room_1 s m #[Value.ref b0] below meth c H locs CC SS (lw_Z below #[Value.ref b0] s) (F0 m 972 ls []) := by
  obtain ⟨hx, hb, hr, hml, hown, hts, hX, hbl, hlocks, hgv⟩ := C0
  have hown : s.vm.findClass RL = some m.cls := hown
  have htsL : ∀ w ∈ wsL_law, w.before #[Value.ref b0] s = true := fun w h9 => hts w (wsL_law_in w h9)
  have hA : ∀ q : Nat, s.heap.size ≤ q → (fun q : Nat => s.heap.size ≤ q) q := fun _ h9 => h9
  have hbA : ¬ (fun q : Nat => s.heap.size ≤ q) b0 := Nat.not_le.mpr hbl
  rw [f_law_c12] at hf
  refine lv_aload_n (pc := 972) hx hb dL_law_972 rfl (lv_at hl 1 rfl) ?_
  refine lv_aload_n (pc := 973) hx hb dL_law_973 rfl (lv_at hl 0 rfl) ?_
  refine lv_iload (pc := 974) hx hb dL_law_974 (lv_at hl 4 rfl) ?_
  refine lv_iconst (pc := 976) (v := 1) hx hb dL_law_976 (by decide) ?_
  refine lv_iadd (pc := 977) hx hb dL_law_977 ?_
  obtain ⟨g978, hf⟩ := gd hf
  refine va_sld (pc := 978) hx hb hX hbl hbA hS (inb_in g978) dL_law_978 ?_
  refine lv_aload_n (pc := 979) hx hb dL_law_979 rfl (lv_at hl 0 rfl) ?_
  refine lv_iload (pc := 980) hx hb dL_law_980 (lv_at hl 4 rfl) ?_
  refine lv_iconst (pc := 982) (v := 2) hx hb dL_law_982 (by decide) ?_
  refine lv_iadd (pc := 983) hx hb dL_law_983 ?_
  obtain ⟨g984, hf⟩ := gd hf
  refine va_sld (pc := 984) hx hb hX hbl hbA hS (inb_in g984) dL_law_984 ?_
  refine lv_aload_n (pc := 985) hx hb dL_law_985 rfl (lv_at hl 3 rfl) ?_
  obtain ⟨r986, h_986, hf⟩ := bd hf
  refine wr_S (pc := 986) (As := [.ref (B 0 0), .int (xs (x4 + 1).toNatClampNeg), .int (xs (x4 + 2).toNatClampNeg), .ref (ao 0)]) (rest := []) (st1 := [.int r986.1]) (wn := fun _ => wH Z B h ++ (wX7 Z am mo ++ wO Z ao r986.2)) ⟨hx, hb, hml, hown, htsL⟩ (c_L_of Z l hst B h (xs (x4 + 1).toNatClampNeg) (xs (x4 + 2).toNatClampNeg) ao w r986 h_986) (vx_cwSW 4 htsL gL_law_L_of rfl rfl rfl hs_L_of ⟨Nat.le_of_ble_eq_true rfl, Nat.le_of_ble_eq_true rfl⟩) hK hE hP hD hS hA hZ (List.range' 0 40 ++ List.range' (40 + 36) 1) (List.range' 40 36) (List.range' 36 40 ++ (List.range' 0 36 ++ List.range' (36 + 40) 1)) (by decide +kernel) (bC13 rfl rfl rfl) (bR2 rfl rfl) (fun _ => bN13 rfl rfl rfl rfl) rfl hl.1 rfl (lv_room (Nat.le_of_ble_eq_true rfl)) dL_law_986 ⟨(show CC + 0 + 2 ≤ 441704 by omega), (show SS + 0 + 12 ≤ 7770994 by omega)⟩ rfl (fun _ H locs hP hD hS => ?_)
  refine lv_istore (pc := 989) (lv' := [(5, .int r986.1), (0, .ref b0), (1, .ref (B 0 0)), (2, .ref (am 0)), (3, .ref (ao 0)), (4, .int x4)]) hx hb dL_law_989 hl (by decide) rfl (fun ls hl => ?_)
  refine lv_aload_n (pc := 991) hx hb dL_law_991 rfl (lv_at hl 3 rfl) ?_
  refine lv_aload_n (pc := 992) hx hb dL_law_992 rfl (lv_at hl 1 rfl) ?_
  refine lv_iload (pc := 993) hx hb dL_law_993 (lv_at hl 5 rfl) ?_
  refine lv_iconst (pc := 995) (v := 1) hx hb dL_law_995 (by decide) ?_
  refine lv_iadd (pc := 996) hx hb dL_law_996 ?_
  obtain ⟨g997, hf⟩ := gd hf
  refine va_sld (pc := 997) hx hb hX hbl hbA hS (inb_in g997) dL_law_997 ?_
  refine lv_aload_n (pc := 998) hx hb dL_law_998 rfl (lv_at hl 1 rfl) ?_
  refine lv_iload (pc := 999) hx hb dL_law_999 (lv_at hl 5 rfl) ?_
  refine lv_iconst (pc := 1001) (v := 2) hx hb dL_law_1001 (by decide) ?_
  refine lv_iadd (pc := 1002) hx hb dL_law_1002 ?_
  obtain ⟨g1003, hf⟩ := gd hf
  refine va_sld (pc := 1003) hx hb hX hbl hbA hS (inb_in g1003) dL_law_1003 ?_
  obtain ⟨r1004, h_1004, hf⟩ := bd hf
  refine rw_V (pc := 1004) (C := RX7) (As := [.int (xs (x4 + 1).toNatClampNeg), .int (xs (x4 + 2).toNatClampNeg)]) (rest := []) (st1 := [.int r1004.1]) (wn := fun _ => wH Z B h ++ (wX7 Z am r1004.2 ++ wO Z ao r986.2)) ⟨hx, hb, hml, hown, htsL⟩ (c_X7_of Z l am mo (xs (x4 + 1).toNatClampNeg) (xs (x4 + 2).toNatClampNeg) r1004 h_1004) (cwV 2 htsL gL_law_X7_of rfl rfl rfl hv_X7_of ⟨Nat.le_of_ble_eq_true rfl, Nat.le_of_ble_eq_true rfl⟩) hK hE hP hD hS hA (List.range' 40 36) (List.range' 0 40 ++ List.range' (40 + 36) 1) (List.range' 0 40 ++ (List.range' (40 + 1) 36 ++ List.range' 40 1)) (by decide +kernel) (bC2 rfl rfl) (bR13 rfl rfl rfl) (fun _ => bN2 rfl rfl rfl rfl) 7 rfl rfl rfl hl.1 rfl (lv_room (Nat.le_of_ble_eq_true rfl)) dL_law_1004 ⟨(show CC + 2 + 0 ≤ 441704 by omega), (show SS + 12 + 0 ≤ 7770994 by omega)⟩ rfl (fun _ H locs hP hD hS => ?_)
  refine lv_istore (pc := 1007) (lv' := [(6, .int r1004.1), (5, .int r986.1), (0, .ref b0), (1, .ref (B 0 0)), (2, .ref (am 0)), (3, .ref (ao 0)), (4, .int x4)]) hx hb dL_law_1007 hl (by decide) rfl (fun ls hl => ?_)
  refine lv_aload_n (pc := 1009) hx hb dL_law_1009 rfl (lv_at hl 4 rfl) ?_
  refine ro_V (pc := 1010) (C := RX7) (As := []) (rest := []) (st1 := [.int (f_X7_thrown r1004.2)]) ⟨hx, hb, hml, hown, htsL⟩ (c_X7_thrown Z l am r1004.2 _ rfl) (cwV 0 htsL gL_law_X7_thrown rfl rfl rfl hv_X7_thrown ⟨Nat.le_of_ble_eq_true rfl, Nat.le_of_ble_eq_true rfl⟩) hK hE (hP.sub (ws' := wX7 Z am r1004.2) (List.range' 40 36) (bF2 rfl rfl)) 7 rfl rfl rfl hl.1 rfl (lv_room (Nat.le_of_ble_eq_true rfl)) dL_law_1010 ⟨(show CC + 2 ≤ 441704 by omega), (show SS + 12 ≤ 7770994 by omega)⟩ rfl ?_
  refine lv_iload (pc := 1013) hx hb dL_law_1013 (lv_at hl 1 rfl) ?_
  refine lv_icmp_eq (pc := 1015) (tgt := 1020) hx hb dL_law_1015 (by decide) (fun c1 => ?_) (fun c1 => ?_)
  · have hf := (if_pos c1).symm.trans hf
    refine lv_iload (pc := 1020) hx hb dL_law_1020 (lv_at hl 1 rfl) ?_
    refine lv_if_ne (pc := 1022) (tgt := 1037) hx hb dL_law_1022 (by decide) (fun c2 => ?_) (fun c2 => ?_)
    · have hf := (if_neg c2).symm.trans hf
      refine lv_goto (pc := 1037) (tgt := 1443) hx hb dL_law_1037 (by decide) ?_
      refine W.widen (k := CC + 5) (n := SS + 7200) (by omega) (by omega) ?_
      exact ih B h r1004.2 r986.2 _ _ _ (lv_sub hl [2, 3, 4, 5, 6] rfl) hP hD hS hf
    · have hf := (if_pos c2).symm.trans hf
      refine lv_aload_n (pc := 1025) hx hb dL_law_1025 rfl (lv_at hl 5 rfl) ?_
      refine lv_iconst (pc := 1026) (v := 0) hx hb dL_law_1026 (by decide) ?_
      refine va_lald (pc := 1027) (D := Z.1) (n := 1) (f := r986.2.2 0) hx hb hK hP 76 1 rfl rfl (inb_in (by decide)) dL_law_1027 ?_
      refine lv_iload (pc := 1028) hx hb dL_law_1028 (lv_at hl 0 rfl) ?_
      refine lv_i2l (pc := 1030) (v := r1004.1.toInt64) hx hb dL_law_1030 rfl ?_
      refine W.lcmp (pc := 1031) hx hb dL_law_1031 ?_
      refine lv_if_eq (pc := 1032) (tgt := 1037) hx hb dL_law_1032 (by decide) (fun c3 => ?_) (fun c3 => ?_)
      · have hf := (if_pos c3).symm.trans hf
        refine lv_goto (pc := 1037) (tgt := 1443) hx hb dL_law_1037 (by decide) ?_
        refine W.widen (k := CC + 5) (n := SS + 7200) (by omega) (by omega) ?_
        exact ih B h r1004.2 r986.2 _ _ _ (lv_sub hl [2, 3, 4, 5, 6] rfl) hP hD hS hf
      · have hf := (if_neg c3).symm.trans hf
        refine lv_iconst (pc := 1035) (v := 0) hx hb dL_law_1035 (by decide) ?_
        exact absurd (Option.some.inj hf) (by decide)
  · have hf := (if_neg c1).symm.trans hf
    refine lv_iconst (pc := 1018) (v := 0) hx hb dL_law_1018 (by decide) ?_
    exact absurd (Option.some.inj hf) (by decide)
def f_law_c13 (xs : Nat → Int32) (L : Nat) (x4 : Int32) (h : Nat → ObS) (mo w : ObS) (kk : ((Nat → ObS) → ObS → ObS → Option Int32)) : Option Int32 :=
  if inb (x4 + 1) L then
  if inb (x4 + 2) L then
  (f_L_ofUnit h (xs (x4 + 1).toNatClampNeg) (xs (x4 + 2).toNatClampNeg) w).bind fun r1054 =>
  if inb (x4 + 1) L then
  if inb (x4 + 2) L then
  (f_X7_ofUnit mo (xs (x4 + 1).toNatClampNeg) (xs (x4 + 2).toNatClampNeg)).bind fun r1072 =>
  if (f_X7_thrown r1072.2) = r1054.1 then
    if r1054.1 = (0 : Int32) then
      if (lg_cmp (r1054.2.2 0 ((0 : Int32).toNatClampNeg)) r1072.1.toInt64) = (0 : Int32) then
        kk h r1072.2 r1054.2
      else
        some (0 : Int32)
    else
      kk h r1072.2 r1054.2
  else
    some (0 : Int32)
  else none
  else none
  else none
  else none
set_option maxHeartbeats 4000000 in
set_option maxRecDepth 100000 in
theorem lc_13 {p : Program} {l : Launch} {e : Env} {s : State} {m : MethodId} {below : List Frame} {meth : Method} {c : Code} {Z : EnvT} {b0 L : Nat} {xs : Nat → Int32} (hst : l.stackTraces = false) (C0 : lw_At p s m meth c b0 L xs) (hK : va_K Z.1 vwCl (tyV Z) s) (hE : EV Z s) (hZ : ZQ (fun q : Nat => s.heap.size ≤ q) s s.heap) {CC SS : Nat} (hCC : CC + 5 ≤ 441704) (hSS : SS + 7200 ≤ 7770994) {x4 : Int32} {B : Nat → Nat → Nat} {h : Nat → ObS} {am ao : Nat → Nat} {mo w : ObS} {H : Heap} {locs : List Loc} {ls : Array Slot} (kk : ((Nat → ObS) → ObS → ObS → Option Int32))
    (ih : ∀ (B : Nat → Nat → Nat) (h : Nat → ObS) (mo w : ObS) (H : Heap) (locs : List Loc) (ls : Array Slot), lv_has ls 7 [(0, .ref b0), (1, .ref (B 0 0)), (2, .ref (am 0)), (3, .ref (ao 0)), (4, .int x4)] → va_P Z.1 vwCl (wH Z B h ++ (wX7 Z am mo ++ wO Z ao w)) H → va_D (fun q : Nat => s.heap.size ≤ q) (wH Z B h ++ (wX7 Z am mo ++ wO Z ao w)) → va_S (fun q : Nat => s.heap.size ≤ q) s.heap H locs → kk h mo w = some 1 → W p l e room_1 s m #[Value.ref b0] below meth c H locs (CC + 5) (SS + 7200) (lw_Z below #[Value.ref b0] s) (F0 m 1443 ls []))
    (hl : lv_has ls 7 [(0, .ref b0), (1, .ref (B 0 0)), (2, .ref (am 0)), (3, .ref (ao 0)), (4, .int x4)]) (hP : va_P Z.1 vwCl (wH Z B h ++ (wX7 Z am mo ++ wO Z ao w)) H) (hD : va_D (fun q : Nat => s.heap.size ≤ q) (wH Z B h ++ (wX7 Z am mo ++ wO Z ao w))) (hS : va_S (fun q : Nat => s.heap.size ≤ q) s.heap H locs) (hf : f_law_c13 xs L x4 h mo w kk = some 1) : W p l e room_1 s m #[Value.ref b0] below meth c H locs CC SS (lw_Z below #[Value.ref b0] s) (F0 m 1040 ls []) := by
  obtain ⟨hx, hb, hr, hml, hown, hts, hX, hbl, hlocks, hgv⟩ := C0
  have hown : s.vm.findClass RL = some m.cls := hown
  have htsL : ∀ w ∈ wsL_law, w.before #[Value.ref b0] s = true := fun w h9 => hts w (wsL_law_in w h9)
  have hA : ∀ q : Nat, s.heap.size ≤ q → (fun q : Nat => s.heap.size ≤ q) q := fun _ h9 => h9
  have hbA : ¬ (fun q : Nat => s.heap.size ≤ q) b0 := Nat.not_le.mpr hbl
  rw [f_law_c13] at hf
  refine lv_aload_n (pc := 1040) hx hb dL_law_1040 rfl (lv_at hl 1 rfl) ?_
  refine lv_aload_n (pc := 1041) hx hb dL_law_1041 rfl (lv_at hl 0 rfl) ?_
  refine lv_iload (pc := 1042) hx hb dL_law_1042 (lv_at hl 4 rfl) ?_
  refine lv_iconst (pc := 1044) (v := 1) hx hb dL_law_1044 (by decide) ?_
  refine lv_iadd (pc := 1045) hx hb dL_law_1045 ?_
  obtain ⟨g1046, hf⟩ := gd hf
  refine va_sld (pc := 1046) hx hb hX hbl hbA hS (inb_in g1046) dL_law_1046 ?_
  refine lv_aload_n (pc := 1047) hx hb dL_law_1047 rfl (lv_at hl 0 rfl) ?_
  refine lv_iload (pc := 1048) hx hb dL_law_1048 (lv_at hl 4 rfl) ?_
  refine lv_iconst (pc := 1050) (v := 2) hx hb dL_law_1050 (by decide) ?_
  refine lv_iadd (pc := 1051) hx hb dL_law_1051 ?_
  obtain ⟨g1052, hf⟩ := gd hf
  refine va_sld (pc := 1052) hx hb hX hbl hbA hS (inb_in g1052) dL_law_1052 ?_
  refine lv_aload_n (pc := 1053) hx hb dL_law_1053 rfl (lv_at hl 3 rfl) ?_
  obtain ⟨r1054, h_1054, hf⟩ := bd hf
  refine wr_S (pc := 1054) (As := [.ref (B 0 0), .int (xs (x4 + 1).toNatClampNeg), .int (xs (x4 + 2).toNatClampNeg), .ref (ao 0)]) (rest := []) (st1 := [.int r1054.1]) (wn := fun _ => wH Z B h ++ (wX7 Z am mo ++ wO Z ao r1054.2)) ⟨hx, hb, hml, hown, htsL⟩ (c_L_ofUnit Z l hst B h (xs (x4 + 1).toNatClampNeg) (xs (x4 + 2).toNatClampNeg) ao w r1054 h_1054) (vx_cwSW 4 htsL gL_law_L_ofUnit rfl rfl rfl hs_L_ofUnit ⟨Nat.le_of_ble_eq_true rfl, Nat.le_of_ble_eq_true rfl⟩) hK hE hP hD hS hA hZ (List.range' 0 40 ++ List.range' (40 + 36) 1) (List.range' 40 36) (List.range' 36 40 ++ (List.range' 0 36 ++ List.range' (36 + 40) 1)) (by decide +kernel) (bC13 rfl rfl rfl) (bR2 rfl rfl) (fun _ => bN13 rfl rfl rfl rfl) rfl hl.1 rfl (lv_room (Nat.le_of_ble_eq_true rfl)) dL_law_1054 ⟨(show CC + 0 + 2 ≤ 441704 by omega), (show SS + 0 + 12 ≤ 7770994 by omega)⟩ rfl (fun _ H locs hP hD hS => ?_)
  refine lv_istore (pc := 1057) (lv' := [(5, .int r1054.1), (0, .ref b0), (1, .ref (B 0 0)), (2, .ref (am 0)), (3, .ref (ao 0)), (4, .int x4)]) hx hb dL_law_1057 hl (by decide) rfl (fun ls hl => ?_)
  refine lv_aload_n (pc := 1059) hx hb dL_law_1059 rfl (lv_at hl 3 rfl) ?_
  refine lv_aload_n (pc := 1060) hx hb dL_law_1060 rfl (lv_at hl 1 rfl) ?_
  refine lv_iload (pc := 1061) hx hb dL_law_1061 (lv_at hl 5 rfl) ?_
  refine lv_iconst (pc := 1063) (v := 1) hx hb dL_law_1063 (by decide) ?_
  refine lv_iadd (pc := 1064) hx hb dL_law_1064 ?_
  obtain ⟨g1065, hf⟩ := gd hf
  refine va_sld (pc := 1065) hx hb hX hbl hbA hS (inb_in g1065) dL_law_1065 ?_
  refine lv_aload_n (pc := 1066) hx hb dL_law_1066 rfl (lv_at hl 1 rfl) ?_
  refine lv_iload (pc := 1067) hx hb dL_law_1067 (lv_at hl 5 rfl) ?_
  refine lv_iconst (pc := 1069) (v := 2) hx hb dL_law_1069 (by decide) ?_
  refine lv_iadd (pc := 1070) hx hb dL_law_1070 ?_
  obtain ⟨g1071, hf⟩ := gd hf
  refine va_sld (pc := 1071) hx hb hX hbl hbA hS (inb_in g1071) dL_law_1071 ?_
  obtain ⟨r1072, h_1072, hf⟩ := bd hf
  refine rw_V (pc := 1072) (C := RX7) (As := [.int (xs (x4 + 1).toNatClampNeg), .int (xs (x4 + 2).toNatClampNeg)]) (rest := []) (st1 := [.int r1072.1]) (wn := fun _ => wH Z B h ++ (wX7 Z am r1072.2 ++ wO Z ao r1054.2)) ⟨hx, hb, hml, hown, htsL⟩ (c_X7_ofUnit Z l am mo (xs (x4 + 1).toNatClampNeg) (xs (x4 + 2).toNatClampNeg) r1072 h_1072) (cwV 2 htsL gL_law_X7_ofUnit rfl rfl rfl hv_X7_ofUnit ⟨Nat.le_of_ble_eq_true rfl, Nat.le_of_ble_eq_true rfl⟩) hK hE hP hD hS hA (List.range' 40 36) (List.range' 0 40 ++ List.range' (40 + 36) 1) (List.range' 0 40 ++ (List.range' (40 + 1) 36 ++ List.range' 40 1)) (by decide +kernel) (bC2 rfl rfl) (bR13 rfl rfl rfl) (fun _ => bN2 rfl rfl rfl rfl) 7 rfl rfl rfl hl.1 rfl (lv_room (Nat.le_of_ble_eq_true rfl)) dL_law_1072 ⟨(show CC + 2 + 0 ≤ 441704 by omega), (show SS + 12 + 0 ≤ 7770994 by omega)⟩ rfl (fun _ H locs hP hD hS => ?_)
  refine lv_istore (pc := 1075) (lv' := [(6, .int r1072.1), (5, .int r1054.1), (0, .ref b0), (1, .ref (B 0 0)), (2, .ref (am 0)), (3, .ref (ao 0)), (4, .int x4)]) hx hb dL_law_1075 hl (by decide) rfl (fun ls hl => ?_)
  refine lv_aload_n (pc := 1077) hx hb dL_law_1077 rfl (lv_at hl 4 rfl) ?_
  refine ro_V (pc := 1078) (C := RX7) (As := []) (rest := []) (st1 := [.int (f_X7_thrown r1072.2)]) ⟨hx, hb, hml, hown, htsL⟩ (c_X7_thrown Z l am r1072.2 _ rfl) (cwV 0 htsL gL_law_X7_thrown rfl rfl rfl hv_X7_thrown ⟨Nat.le_of_ble_eq_true rfl, Nat.le_of_ble_eq_true rfl⟩) hK hE (hP.sub (ws' := wX7 Z am r1072.2) (List.range' 40 36) (bF2 rfl rfl)) 7 rfl rfl rfl hl.1 rfl (lv_room (Nat.le_of_ble_eq_true rfl)) dL_law_1078 ⟨(show CC + 2 ≤ 441704 by omega), (show SS + 12 ≤ 7770994 by omega)⟩ rfl ?_
  refine lv_iload (pc := 1081) hx hb dL_law_1081 (lv_at hl 1 rfl) ?_
  refine lv_icmp_eq (pc := 1083) (tgt := 1088) hx hb dL_law_1083 (by decide) (fun c1 => ?_) (fun c1 => ?_)
  · have hf := (if_pos c1).symm.trans hf
    refine lv_iload (pc := 1088) hx hb dL_law_1088 (lv_at hl 1 rfl) ?_
    refine lv_if_ne (pc := 1090) (tgt := 1105) hx hb dL_law_1090 (by decide) (fun c2 => ?_) (fun c2 => ?_)
    · have hf := (if_neg c2).symm.trans hf
      refine lv_goto (pc := 1105) (tgt := 1443) hx hb dL_law_1105 (by decide) ?_
      refine W.widen (k := CC + 5) (n := SS + 7200) (by omega) (by omega) ?_
      exact ih B h r1072.2 r1054.2 _ _ _ (lv_sub hl [2, 3, 4, 5, 6] rfl) hP hD hS hf
    · have hf := (if_pos c2).symm.trans hf
      refine lv_aload_n (pc := 1093) hx hb dL_law_1093 rfl (lv_at hl 5 rfl) ?_
      refine lv_iconst (pc := 1094) (v := 0) hx hb dL_law_1094 (by decide) ?_
      refine va_lald (pc := 1095) (D := Z.1) (n := 1) (f := r1054.2.2 0) hx hb hK hP 76 1 rfl rfl (inb_in (by decide)) dL_law_1095 ?_
      refine lv_iload (pc := 1096) hx hb dL_law_1096 (lv_at hl 0 rfl) ?_
      refine lv_i2l (pc := 1098) (v := r1072.1.toInt64) hx hb dL_law_1098 rfl ?_
      refine W.lcmp (pc := 1099) hx hb dL_law_1099 ?_
      refine lv_if_eq (pc := 1100) (tgt := 1105) hx hb dL_law_1100 (by decide) (fun c3 => ?_) (fun c3 => ?_)
      · have hf := (if_pos c3).symm.trans hf
        refine lv_goto (pc := 1105) (tgt := 1443) hx hb dL_law_1105 (by decide) ?_
        refine W.widen (k := CC + 5) (n := SS + 7200) (by omega) (by omega) ?_
        exact ih B h r1072.2 r1054.2 _ _ _ (lv_sub hl [2, 3, 4, 5, 6] rfl) hP hD hS hf
      · have hf := (if_neg c3).symm.trans hf
        refine lv_iconst (pc := 1103) (v := 0) hx hb dL_law_1103 (by decide) ?_
        exact absurd (Option.some.inj hf) (by decide)
  · have hf := (if_neg c1).symm.trans hf
    refine lv_iconst (pc := 1086) (v := 0) hx hb dL_law_1086 (by decide) ?_
    exact absurd (Option.some.inj hf) (by decide)
def f_law_c14 (xs : Nat → Int32) (L : Nat) (x4 : Int32) (h : Nat → ObS) (mo w : ObS) (kk : ((Nat → ObS) → ObS → ObS → Option Int32)) : Option Int32 :=
  if inb (x4 + 1) L then
  if inb (x4 + 2) L then
  (f_L_ofController h (xs (x4 + 1).toNatClampNeg) (xs (x4 + 2).toNatClampNeg) w).bind fun r1122 =>
  if inb (x4 + 1) L then
  if inb (x4 + 2) L then
  (f_X7_ofController mo (xs (x4 + 1).toNatClampNeg) (xs (x4 + 2).toNatClampNeg)).bind fun r1140 =>
  if (f_X7_thrown r1140.2) = r1122.1 then
    if r1122.1 = (0 : Int32) then
      if (lg_cmp (r1122.2.2 0 ((0 : Int32).toNatClampNeg)) r1140.1.toInt64) = (0 : Int32) then
        kk h r1140.2 r1122.2
      else
        some (0 : Int32)
    else
      kk h r1140.2 r1122.2
  else
    some (0 : Int32)
  else none
  else none
  else none
  else none
set_option maxHeartbeats 4000000 in
set_option maxRecDepth 100000 in
theorem lc_14 {p : Program} {l : Launch} {e : Env} {s : State} {m : MethodId} {below : List Frame} {meth : Method} {c : Code} {Z : EnvT} {b0 L : Nat} {xs : Nat → Int32} (hst : l.stackTraces = false) (C0 : lw_At p s m meth c b0 L xs) (hK : va_K Z.1 vwCl (tyV Z) s) (hE : EV Z s) (hZ : ZQ (fun q : Nat => s.heap.size ≤ q) s s.heap) {CC SS : Nat} (hCC : CC + 5 ≤ 441704) (hSS : SS + 7200 ≤ 7770994) {x4 : Int32} {B : Nat → Nat → Nat} {h : Nat → ObS} {am ao : Nat → Nat} {mo w : ObS} {H : Heap} {locs : List Loc} {ls : Array Slot} (kk : ((Nat → ObS) → ObS → ObS → Option Int32))
    (ih : ∀ (B : Nat → Nat → Nat) (h : Nat → ObS) (mo w : ObS) (H : Heap) (locs : List Loc) (ls : Array Slot), lv_has ls 7 [(0, .ref b0), (1, .ref (B 0 0)), (2, .ref (am 0)), (3, .ref (ao 0)), (4, .int x4)] → va_P Z.1 vwCl (wH Z B h ++ (wX7 Z am mo ++ wO Z ao w)) H → va_D (fun q : Nat => s.heap.size ≤ q) (wH Z B h ++ (wX7 Z am mo ++ wO Z ao w)) → va_S (fun q : Nat => s.heap.size ≤ q) s.heap H locs → kk h mo w = some 1 → W p l e room_1 s m #[Value.ref b0] below meth c H locs (CC + 5) (SS + 7200) (lw_Z below #[Value.ref b0] s) (F0 m 1443 ls []))
    (hl : lv_has ls 7 [(0, .ref b0), (1, .ref (B 0 0)), (2, .ref (am 0)), (3, .ref (ao 0)), (4, .int x4)]) (hP : va_P Z.1 vwCl (wH Z B h ++ (wX7 Z am mo ++ wO Z ao w)) H) (hD : va_D (fun q : Nat => s.heap.size ≤ q) (wH Z B h ++ (wX7 Z am mo ++ wO Z ao w))) (hS : va_S (fun q : Nat => s.heap.size ≤ q) s.heap H locs) (hf : f_law_c14 xs L x4 h mo w kk = some 1) : W p l e room_1 s m #[Value.ref b0] below meth c H locs CC SS (lw_Z below #[Value.ref b0] s) (F0 m 1108 ls []) := by
  obtain ⟨hx, hb, hr, hml, hown, hts, hX, hbl, hlocks, hgv⟩ := C0
  have hown : s.vm.findClass RL = some m.cls := hown
  have htsL : ∀ w ∈ wsL_law, w.before #[Value.ref b0] s = true := fun w h9 => hts w (wsL_law_in w h9)
  have hA : ∀ q : Nat, s.heap.size ≤ q → (fun q : Nat => s.heap.size ≤ q) q := fun _ h9 => h9
  have hbA : ¬ (fun q : Nat => s.heap.size ≤ q) b0 := Nat.not_le.mpr hbl
  rw [f_law_c14] at hf
  refine lv_aload_n (pc := 1108) hx hb dL_law_1108 rfl (lv_at hl 1 rfl) ?_
  refine lv_aload_n (pc := 1109) hx hb dL_law_1109 rfl (lv_at hl 0 rfl) ?_
  refine lv_iload (pc := 1110) hx hb dL_law_1110 (lv_at hl 4 rfl) ?_
  refine lv_iconst (pc := 1112) (v := 1) hx hb dL_law_1112 (by decide) ?_
  refine lv_iadd (pc := 1113) hx hb dL_law_1113 ?_
  obtain ⟨g1114, hf⟩ := gd hf
  refine va_sld (pc := 1114) hx hb hX hbl hbA hS (inb_in g1114) dL_law_1114 ?_
  refine lv_aload_n (pc := 1115) hx hb dL_law_1115 rfl (lv_at hl 0 rfl) ?_
  refine lv_iload (pc := 1116) hx hb dL_law_1116 (lv_at hl 4 rfl) ?_
  refine lv_iconst (pc := 1118) (v := 2) hx hb dL_law_1118 (by decide) ?_
  refine lv_iadd (pc := 1119) hx hb dL_law_1119 ?_
  obtain ⟨g1120, hf⟩ := gd hf
  refine va_sld (pc := 1120) hx hb hX hbl hbA hS (inb_in g1120) dL_law_1120 ?_
  refine lv_aload_n (pc := 1121) hx hb dL_law_1121 rfl (lv_at hl 3 rfl) ?_
  obtain ⟨r1122, h_1122, hf⟩ := bd hf
  refine wr_S (pc := 1122) (As := [.ref (B 0 0), .int (xs (x4 + 1).toNatClampNeg), .int (xs (x4 + 2).toNatClampNeg), .ref (ao 0)]) (rest := []) (st1 := [.int r1122.1]) (wn := fun _ => wH Z B h ++ (wX7 Z am mo ++ wO Z ao r1122.2)) ⟨hx, hb, hml, hown, htsL⟩ (c_L_ofController Z l hst B h (xs (x4 + 1).toNatClampNeg) (xs (x4 + 2).toNatClampNeg) ao w r1122 h_1122) (vx_cwSW 4 htsL gL_law_L_ofController rfl rfl rfl hs_L_ofController ⟨Nat.le_of_ble_eq_true rfl, Nat.le_of_ble_eq_true rfl⟩) hK hE hP hD hS hA hZ (List.range' 0 40 ++ List.range' (40 + 36) 1) (List.range' 40 36) (List.range' 36 40 ++ (List.range' 0 36 ++ List.range' (36 + 40) 1)) (by decide +kernel) (bC13 rfl rfl rfl) (bR2 rfl rfl) (fun _ => bN13 rfl rfl rfl rfl) rfl hl.1 rfl (lv_room (Nat.le_of_ble_eq_true rfl)) dL_law_1122 ⟨(show CC + 0 + 2 ≤ 441704 by omega), (show SS + 0 + 12 ≤ 7770994 by omega)⟩ rfl (fun _ H locs hP hD hS => ?_)
  refine lv_istore (pc := 1125) (lv' := [(5, .int r1122.1), (0, .ref b0), (1, .ref (B 0 0)), (2, .ref (am 0)), (3, .ref (ao 0)), (4, .int x4)]) hx hb dL_law_1125 hl (by decide) rfl (fun ls hl => ?_)
  refine lv_aload_n (pc := 1127) hx hb dL_law_1127 rfl (lv_at hl 3 rfl) ?_
  refine lv_aload_n (pc := 1128) hx hb dL_law_1128 rfl (lv_at hl 1 rfl) ?_
  refine lv_iload (pc := 1129) hx hb dL_law_1129 (lv_at hl 5 rfl) ?_
  refine lv_iconst (pc := 1131) (v := 1) hx hb dL_law_1131 (by decide) ?_
  refine lv_iadd (pc := 1132) hx hb dL_law_1132 ?_
  obtain ⟨g1133, hf⟩ := gd hf
  refine va_sld (pc := 1133) hx hb hX hbl hbA hS (inb_in g1133) dL_law_1133 ?_
  refine lv_aload_n (pc := 1134) hx hb dL_law_1134 rfl (lv_at hl 1 rfl) ?_
  refine lv_iload (pc := 1135) hx hb dL_law_1135 (lv_at hl 5 rfl) ?_
  refine lv_iconst (pc := 1137) (v := 2) hx hb dL_law_1137 (by decide) ?_
  refine lv_iadd (pc := 1138) hx hb dL_law_1138 ?_
  obtain ⟨g1139, hf⟩ := gd hf
  refine va_sld (pc := 1139) hx hb hX hbl hbA hS (inb_in g1139) dL_law_1139 ?_
  obtain ⟨r1140, h_1140, hf⟩ := bd hf
  refine rw_V (pc := 1140) (C := RX7) (As := [.int (xs (x4 + 1).toNatClampNeg), .int (xs (x4 + 2).toNatClampNeg)]) (rest := []) (st1 := [.int r1140.1]) (wn := fun _ => wH Z B h ++ (wX7 Z am r1140.2 ++ wO Z ao r1122.2)) ⟨hx, hb, hml, hown, htsL⟩ (c_X7_ofController Z l am mo (xs (x4 + 1).toNatClampNeg) (xs (x4 + 2).toNatClampNeg) r1140 h_1140) (cwV 2 htsL gL_law_X7_ofController rfl rfl rfl hv_X7_ofController ⟨Nat.le_of_ble_eq_true rfl, Nat.le_of_ble_eq_true rfl⟩) hK hE hP hD hS hA (List.range' 40 36) (List.range' 0 40 ++ List.range' (40 + 36) 1) (List.range' 0 40 ++ (List.range' (40 + 1) 36 ++ List.range' 40 1)) (by decide +kernel) (bC2 rfl rfl) (bR13 rfl rfl rfl) (fun _ => bN2 rfl rfl rfl rfl) 7 rfl rfl rfl hl.1 rfl (lv_room (Nat.le_of_ble_eq_true rfl)) dL_law_1140 ⟨(show CC + 2 + 0 ≤ 441704 by omega), (show SS + 12 + 0 ≤ 7770994 by omega)⟩ rfl (fun _ H locs hP hD hS => ?_)
  refine lv_istore (pc := 1143) (lv' := [(6, .int r1140.1), (5, .int r1122.1), (0, .ref b0), (1, .ref (B 0 0)), (2, .ref (am 0)), (3, .ref (ao 0)), (4, .int x4)]) hx hb dL_law_1143 hl (by decide) rfl (fun ls hl => ?_)
  refine lv_aload_n (pc := 1145) hx hb dL_law_1145 rfl (lv_at hl 4 rfl) ?_
  refine ro_V (pc := 1146) (C := RX7) (As := []) (rest := []) (st1 := [.int (f_X7_thrown r1140.2)]) ⟨hx, hb, hml, hown, htsL⟩ (c_X7_thrown Z l am r1140.2 _ rfl) (cwV 0 htsL gL_law_X7_thrown rfl rfl rfl hv_X7_thrown ⟨Nat.le_of_ble_eq_true rfl, Nat.le_of_ble_eq_true rfl⟩) hK hE (hP.sub (ws' := wX7 Z am r1140.2) (List.range' 40 36) (bF2 rfl rfl)) 7 rfl rfl rfl hl.1 rfl (lv_room (Nat.le_of_ble_eq_true rfl)) dL_law_1146 ⟨(show CC + 2 ≤ 441704 by omega), (show SS + 12 ≤ 7770994 by omega)⟩ rfl ?_
  refine lv_iload (pc := 1149) hx hb dL_law_1149 (lv_at hl 1 rfl) ?_
  refine lv_icmp_eq (pc := 1151) (tgt := 1156) hx hb dL_law_1151 (by decide) (fun c1 => ?_) (fun c1 => ?_)
  · have hf := (if_pos c1).symm.trans hf
    refine lv_iload (pc := 1156) hx hb dL_law_1156 (lv_at hl 1 rfl) ?_
    refine lv_if_ne (pc := 1158) (tgt := 1173) hx hb dL_law_1158 (by decide) (fun c2 => ?_) (fun c2 => ?_)
    · have hf := (if_neg c2).symm.trans hf
      refine lv_goto (pc := 1173) (tgt := 1443) hx hb dL_law_1173 (by decide) ?_
      refine W.widen (k := CC + 5) (n := SS + 7200) (by omega) (by omega) ?_
      exact ih B h r1140.2 r1122.2 _ _ _ (lv_sub hl [2, 3, 4, 5, 6] rfl) hP hD hS hf
    · have hf := (if_pos c2).symm.trans hf
      refine lv_aload_n (pc := 1161) hx hb dL_law_1161 rfl (lv_at hl 5 rfl) ?_
      refine lv_iconst (pc := 1162) (v := 0) hx hb dL_law_1162 (by decide) ?_
      refine va_lald (pc := 1163) (D := Z.1) (n := 1) (f := r1122.2.2 0) hx hb hK hP 76 1 rfl rfl (inb_in (by decide)) dL_law_1163 ?_
      refine lv_iload (pc := 1164) hx hb dL_law_1164 (lv_at hl 0 rfl) ?_
      refine lv_i2l (pc := 1166) (v := r1140.1.toInt64) hx hb dL_law_1166 rfl ?_
      refine W.lcmp (pc := 1167) hx hb dL_law_1167 ?_
      refine lv_if_eq (pc := 1168) (tgt := 1173) hx hb dL_law_1168 (by decide) (fun c3 => ?_) (fun c3 => ?_)
      · have hf := (if_pos c3).symm.trans hf
        refine lv_goto (pc := 1173) (tgt := 1443) hx hb dL_law_1173 (by decide) ?_
        refine W.widen (k := CC + 5) (n := SS + 7200) (by omega) (by omega) ?_
        exact ih B h r1140.2 r1122.2 _ _ _ (lv_sub hl [2, 3, 4, 5, 6] rfl) hP hD hS hf
      · have hf := (if_neg c3).symm.trans hf
        refine lv_iconst (pc := 1171) (v := 0) hx hb dL_law_1171 (by decide) ?_
        exact absurd (Option.some.inj hf) (by decide)
  · have hf := (if_neg c1).symm.trans hf
    refine lv_iconst (pc := 1154) (v := 0) hx hb dL_law_1154 (by decide) ?_
    exact absurd (Option.some.inj hf) (by decide)
