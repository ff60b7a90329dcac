def f_law_c0 (xs : Nat → Int32) (L : Nat) (x4 : Int32) (h : Nat → ObS) (mo w : ObS) (kk : ((Nat → ObS) → ObS → ObS → Option Int32)) : Option Int32 :=
  if inb (x4 + 1) L then
  if inb (x4 + 2) L then
  (f_L_source h (xs (x4 + 1).toNatClampNeg) (xs (x4 + 2).toNatClampNeg) w).bind fun r154 =>
  if inb (x4 + 1) L then
  if inb (x4 + 2) L then
  (f_X7_source mo (xs (x4 + 1).toNatClampNeg) (xs (x4 + 2).toNatClampNeg)).bind fun r172 =>
  if (f_X7_thrown r172.2) = r154.1 then
    if r154.1 = (0 : Int32) then
      if (lg_cmp (r154.2.2.2 0 ((0 : Int32).toNatClampNeg)) r172.1.toInt64) = (0 : Int32) then
        kk r154.2.1 r172.2 r154.2.2
      else
        some (0 : Int32)
    else
      kk r154.2.1 r172.2 r154.2.2
  else
    some (0 : Int32)
  else none
  else none
  else none
  else none
set_option maxHeartbeats 4000000 in
set_option maxRecDepth 100000 in
theorem lc_0 {p : Program} {l : Launch} {e : Env} {s : State} {m : MethodId} {below : List Frame} {meth : Method} {c : Code} {Z : EnvT} {b0 L : Nat} {xs : Nat → Int32} (hst : l.stackTraces = false) (C0 : lw_At p s m meth c b0 L xs) (hK : va_K Z.1 vwCl (tyV Z) s) (hE : EV Z s) (hZ : ZQ (fun q : Nat => s.heap.size ≤ q) s s.heap) {CC SS : Nat} (hCC : CC + 5 ≤ 441704) (hSS : SS + 7200 ≤ 7770994) {x4 : Int32} {B : Nat → Nat → Nat} {h : Nat → ObS} {am ao : Nat → Nat} {mo w : ObS} {H : Heap} {locs : List Loc} {ls : Array Slot} (kk : ((Nat → ObS) → ObS → ObS → Option Int32))
    (ih : ∀ (B : Nat → Nat → Nat) (h : Nat → ObS) (mo w : ObS) (H : Heap) (locs : List Loc) (ls : Array Slot), lv_has ls 7 [(0, .ref b0), (1, .ref (B 0 0)), (2, .ref (am 0)), (3, .ref (ao 0)), (4, .int x4)] → va_P Z.1 vwCl (wH Z B h ++ (wX7 Z am mo ++ wO Z ao w)) H → va_D (fun q : Nat => s.heap.size ≤ q) (wH Z B h ++ (wX7 Z am mo ++ wO Z ao w)) → va_S (fun q : Nat => s.heap.size ≤ q) s.heap H locs → kk h mo w = some 1 → W p l e room_1 s m #[Value.ref b0] below meth c H locs (CC + 5) (SS + 7200) (lw_Z below #[Value.ref b0] s) (F0 m 1443 ls []))
    (hl : lv_has ls 7 [(0, .ref b0), (1, .ref (B 0 0)), (2, .ref (am 0)), (3, .ref (ao 0)), (4, .int x4)]) (hP : va_P Z.1 vwCl (wH Z B h ++ (wX7 Z am mo ++ wO Z ao w)) H) (hD : va_D (fun q : Nat => s.heap.size ≤ q) (wH Z B h ++ (wX7 Z am mo ++ wO Z ao w))) (hS : va_S (fun q : Nat => s.heap.size ≤ q) s.heap H locs) (hf : f_law_c0 xs L x4 h mo w kk = some 1) : W p l e room_1 s m #[Value.ref b0] below meth c H locs CC SS (lw_Z below #[Value.ref b0] s) (F0 m 140 ls []) := by
  obtain ⟨hx, hb, hr, hml, hown, hts, hX, hbl, hlocks, hgv⟩ := C0
  have hown : s.vm.findClass RL = some m.cls := hown
  have htsL : ∀ w ∈ wsL_law, w.before #[Value.ref b0] s = true := fun w h9 => hts w (wsL_law_in w h9)
  have hA : ∀ q : Nat, s.heap.size ≤ q → (fun q : Nat => s.heap.size ≤ q) q := fun _ h9 => h9
  have hbA : ¬ (fun q : Nat => s.heap.size ≤ q) b0 := Nat.not_le.mpr hbl
  rw [f_law_c0] at hf
  refine lv_aload_n (pc := 140) hx hb dL_law_140 rfl (lv_at hl 1 rfl) ?_
  refine lv_aload_n (pc := 141) hx hb dL_law_141 rfl (lv_at hl 0 rfl) ?_
  refine lv_iload (pc := 142) hx hb dL_law_142 (lv_at hl 4 rfl) ?_
  refine lv_iconst (pc := 144) (v := 1) hx hb dL_law_144 (by decide) ?_
  refine lv_iadd (pc := 145) hx hb dL_law_145 ?_
  obtain ⟨g146, hf⟩ := gd hf
  refine va_sld (pc := 146) hx hb hX hbl hbA hS (inb_in g146) dL_law_146 ?_
  refine lv_aload_n (pc := 147) hx hb dL_law_147 rfl (lv_at hl 0 rfl) ?_
  refine lv_iload (pc := 148) hx hb dL_law_148 (lv_at hl 4 rfl) ?_
  refine lv_iconst (pc := 150) (v := 2) hx hb dL_law_150 (by decide) ?_
  refine lv_iadd (pc := 151) hx hb dL_law_151 ?_
  obtain ⟨g152, hf⟩ := gd hf
  refine va_sld (pc := 152) hx hb hX hbl hbA hS (inb_in g152) dL_law_152 ?_
  refine lv_aload_n (pc := 153) hx hb dL_law_153 rfl (lv_at hl 3 rfl) ?_
  obtain ⟨r154, h_154, hf⟩ := bd hf
  refine wr_S (pc := 154) (As := [.ref (B 0 0), .int (xs (x4 + 1).toNatClampNeg), .int (xs (x4 + 2).toNatClampNeg), .ref (ao 0)]) (rest := []) (st1 := [.int r154.1]) (wn := fun _ => wH Z B r154.2.1 ++ (wX7 Z am mo ++ wO Z ao r154.2.2)) ⟨hx, hb, hml, hown, htsL⟩ (c_L_source Z l hst B h (xs (x4 + 1).toNatClampNeg) (xs (x4 + 2).toNatClampNeg) ao w r154 h_154) (vx_cwSW 4 htsL gL_law_L_source rfl rfl rfl hs_L_source ⟨Nat.le_of_ble_eq_true rfl, Nat.le_of_ble_eq_true rfl⟩) hK hE hP hD hS hA hZ (List.range' 0 40 ++ List.range' (40 + 36) 1) (List.range' 40 36) (List.range' 36 40 ++ (List.range' 0 36 ++ List.range' (36 + 40) 1)) (by decide +kernel) (bC13 rfl rfl rfl) (bR2 rfl rfl) (fun _ => bN13 rfl rfl rfl rfl) rfl hl.1 rfl (lv_room (Nat.le_of_ble_eq_true rfl)) dL_law_154 ⟨(show CC + 0 + 1 ≤ 441704 by omega), (show SS + 0 + 6 ≤ 7770994 by omega)⟩ rfl (fun _ H locs hP hD hS => ?_)
  refine lv_istore (pc := 157) (lv' := [(5, .int r154.1), (0, .ref b0), (1, .ref (B 0 0)), (2, .ref (am 0)), (3, .ref (ao 0)), (4, .int x4)]) hx hb dL_law_157 hl (by decide) rfl (fun ls hl => ?_)
  refine lv_aload_n (pc := 159) hx hb dL_law_159 rfl (lv_at hl 3 rfl) ?_
  refine lv_aload_n (pc := 160) hx hb dL_law_160 rfl (lv_at hl 1 rfl) ?_
  refine lv_iload (pc := 161) hx hb dL_law_161 (lv_at hl 5 rfl) ?_
  refine lv_iconst (pc := 163) (v := 1) hx hb dL_law_163 (by decide) ?_
  refine lv_iadd (pc := 164) hx hb dL_law_164 ?_
  obtain ⟨g165, hf⟩ := gd hf
  refine va_sld (pc := 165) hx hb hX hbl hbA hS (inb_in g165) dL_law_165 ?_
  refine lv_aload_n (pc := 166) hx hb dL_law_166 rfl (lv_at hl 1 rfl) ?_
  refine lv_iload (pc := 167) hx hb dL_law_167 (lv_at hl 5 rfl) ?_
  refine lv_iconst (pc := 169) (v := 2) hx hb dL_law_169 (by decide) ?_
  refine lv_iadd (pc := 170) hx hb dL_law_170 ?_
  obtain ⟨g171, hf⟩ := gd hf
  refine va_sld (pc := 171) hx hb hX hbl hbA hS (inb_in g171) dL_law_171 ?_
  obtain ⟨r172, h_172, hf⟩ := bd hf
  refine rw_V (pc := 172) (C := RX7) (As := [.int (xs (x4 + 1).toNatClampNeg), .int (xs (x4 + 2).toNatClampNeg)]) (rest := []) (st1 := [.int r172.1]) (wn := fun _ => wH Z B r154.2.1 ++ (wX7 Z am r172.2 ++ wO Z ao r154.2.2)) ⟨hx, hb, hml, hown, htsL⟩ (c_X7_source Z l am mo (xs (x4 + 1).toNatClampNeg) (xs (x4 + 2).toNatClampNeg) r172 h_172) (cwV 2 htsL gL_law_X7_source rfl rfl rfl hv_X7_source ⟨Nat.le_of_ble_eq_true rfl, Nat.le_of_ble_eq_true rfl⟩) hK hE hP hD hS hA (List.range' 40 36) (List.range' 0 40 ++ List.range' (40 + 36) 1) (List.range' 0 40 ++ (List.range' (40 + 1) 36 ++ List.range' 40 1)) (by decide +kernel) (bC2 rfl rfl) (bR13 rfl rfl rfl) (fun _ => bN2 rfl rfl rfl rfl) 7 rfl rfl rfl hl.1 rfl (lv_room (Nat.le_of_ble_eq_true rfl)) dL_law_172 ⟨(show CC + 1 + 0 ≤ 441704 by omega), (show SS + 6 + 0 ≤ 7770994 by omega)⟩ rfl (fun _ H locs hP hD hS => ?_)
  refine lv_istore (pc := 175) (lv' := [(6, .int r172.1), (5, .int r154.1), (0, .ref b0), (1, .ref (B 0 0)), (2, .ref (am 0)), (3, .ref (ao 0)), (4, .int x4)]) hx hb dL_law_175 hl (by decide) rfl (fun ls hl => ?_)
  refine lv_aload_n (pc := 177) hx hb dL_law_177 rfl (lv_at hl 4 rfl) ?_
  refine ro_V (pc := 178) (C := RX7) (As := []) (rest := []) (st1 := [.int (f_X7_thrown r172.2)]) ⟨hx, hb, hml, hown, htsL⟩ (c_X7_thrown Z l am r172.2 _ rfl) (cwV 0 htsL gL_law_X7_thrown rfl rfl rfl hv_X7_thrown ⟨Nat.le_of_ble_eq_true rfl, Nat.le_of_ble_eq_true rfl⟩) hK hE (hP.sub (ws' := wX7 Z am r172.2) (List.range' 40 36) (bF2 rfl rfl)) 7 rfl rfl rfl hl.1 rfl (lv_room (Nat.le_of_ble_eq_true rfl)) dL_law_178 ⟨(show CC + 1 ≤ 441704 by omega), (show SS + 6 ≤ 7770994 by omega)⟩ rfl ?_
  refine lv_iload (pc := 181) hx hb dL_law_181 (lv_at hl 1 rfl) ?_
  refine lv_icmp_eq (pc := 183) (tgt := 188) hx hb dL_law_183 (by decide) (fun c1 => ?_) (fun c1 => ?_)
  · have hf := (if_pos c1).symm.trans hf
    refine lv_iload (pc := 188) hx hb dL_law_188 (lv_at hl 1 rfl) ?_
    refine lv_if_ne (pc := 190) (tgt := 205) hx hb dL_law_190 (by decide) (fun c2 => ?_) (fun c2 => ?_)
    · have hf := (if_neg c2).symm.trans hf
      refine lv_goto (pc := 205) (tgt := 1443) hx hb dL_law_205 (by decide) ?_
      refine W.widen (k := CC + 5) (n := SS + 7200) (by omega) (by omega) ?_
      exact ih B r154.2.1 r172.2 r154.2.2 _ _ _ (lv_sub hl [2, 3, 4, 5, 6] rfl) hP hD hS hf
    · have hf := (if_pos c2).symm.trans hf
      refine lv_aload_n (pc := 193) hx hb dL_law_193 rfl (lv_at hl 5 rfl) ?_
      refine lv_iconst (pc := 194) (v := 0) hx hb dL_law_194 (by decide) ?_
      refine va_lald (pc := 195) (D := Z.1) (n := 1) (f := r154.2.2.2 0) hx hb hK hP 76 1 rfl rfl (inb_in (by decide)) dL_law_195 ?_
      refine lv_iload (pc := 196) hx hb dL_law_196 (lv_at hl 0 rfl) ?_
      refine lv_i2l (pc := 198) (v := r172.1.toInt64) hx hb dL_law_198 rfl ?_
      refine W.lcmp (pc := 199) hx hb dL_law_199 ?_
      refine lv_if_eq (pc := 200) (tgt := 205) hx hb dL_law_200 (by decide) (fun c3 => ?_) (fun c3 => ?_)
      · have hf := (if_pos c3).symm.trans hf
        refine lv_goto (pc := 205) (tgt := 1443) hx hb dL_law_205 (by decide) ?_
        refine W.widen (k := CC + 5) (n := SS + 7200) (by omega) (by omega) ?_
        exact ih B r154.2.1 r172.2 r154.2.2 _ _ _ (lv_sub hl [2, 3, 4, 5, 6] rfl) hP hD hS hf
      · have hf := (if_neg c3).symm.trans hf
        refine lv_iconst (pc := 203) (v := 0) hx hb dL_law_203 (by decide) ?_
        exact absurd (Option.some.inj hf) (by decide)
  · have hf := (if_neg c1).symm.trans hf
    refine lv_iconst (pc := 186) (v := 0) hx hb dL_law_186 (by decide) ?_
    exact absurd (Option.some.inj hf) (by decide)
def f_law_c1 (xs : Nat → Int32) (L : Nat) (x4 : Int32) (h : Nat → ObS) (mo w : ObS) (kk : ((Nat → ObS) → ObS → ObS → Option Int32)) : Option Int32 :=
  if inb (x4 + 1) L then
  if inb (x4 + 2) L then
  if inb (x4 + 3) L then
  if inb (x4 + 4) L then
  (f_L_unit h (xs (x4 + 1).toNatClampNeg) (xs (x4 + 2).toNatClampNeg) (xs (x4 + 3).toNatClampNeg) (xs (x4 + 4).toNatClampNeg) w).bind fun r234 =>
  if inb (x4 + 1) L then
  if inb (x4 + 2) L then
  if inb (x4 + 3) L then
  if inb (x4 + 4) L then
  (f_X7_unit mo (xs (x4 + 1).toNatClampNeg) (xs (x4 + 2).toNatClampNeg) (xs (x4 + 3).toNatClampNeg) (xs (x4 + 4).toNatClampNeg)).bind fun r264 =>
  if (f_X7_thrown r264.2) = r234.1 then
    if r234.1 = (0 : Int32) then
      if (lg_cmp (r234.2.2.2 0 ((0 : Int32).toNatClampNeg)) r264.1.toInt64) = (0 : Int32) then
        kk r234.2.1 r264.2 r234.2.2
      else
        some (0 : Int32)
    else
      kk r234.2.1 r264.2 r234.2.2
  else
    some (0 : Int32)
  else none
  else none
  else none
  else none
  else none
  else none
  else none
  else none
set_option maxHeartbeats 4000000 in
set_option maxRecDepth 100000 in
theorem lc_1 {p : Program} {l : Launch} {e : Env} {s : State} {m : MethodId} {below : List Frame} {meth : Method} {c : Code} {Z : EnvT} {b0 L : Nat} {xs : Nat → Int32} (hst : l.stackTraces = false) (C0 : lw_At p s m meth c b0 L xs) (hK : va_K Z.1 vwCl (tyV Z) s) (hE : EV Z s) (hZ : ZQ (fun q : Nat => s.heap.size ≤ q) s s.heap) {CC SS : Nat} (hCC : CC + 5 ≤ 441704) (hSS : SS + 7200 ≤ 7770994) {x4 : Int32} {B : Nat → Nat → Nat} {h : Nat → ObS} {am ao : Nat → Nat} {mo w : ObS} {H : Heap} {locs : List Loc} {ls : Array Slot} (kk : ((Nat → ObS) → ObS → ObS → Option Int32))
    (ih : ∀ (B : Nat → Nat → Nat) (h : Nat → ObS) (mo w : ObS) (H : Heap) (locs : List Loc) (ls : Array Slot), lv_has ls 7 [(0, .ref b0), (1, .ref (B 0 0)), (2, .ref (am 0)), (3, .ref (ao 0)), (4, .int x4)] → va_P Z.1 vwCl (wH Z B h ++ (wX7 Z am mo ++ wO Z ao w)) H → va_D (fun q : Nat => s.heap.size ≤ q) (wH Z B h ++ (wX7 Z am mo ++ wO Z ao w)) → va_S (fun q : Nat => s.heap.size ≤ q) s.heap H locs → kk h mo w = some 1 → W p l e room_1 s m #[Value.ref b0] below meth c H locs (CC + 5) (SS + 7200) (lw_Z below #[Value.ref b0] s) (F0 m 1443 ls []))
    (hl : lv_has ls 7 [(0, .ref b0), (1, .ref (B 0 0)), (2, .ref (am 0)), (3, .ref (ao 0)), (4, .int x4)]) (hP : va_P Z.1 vwCl (wH Z B h ++ (wX7 Z am mo ++ wO Z ao w)) H) (hD : va_D (fun q : Nat => s.heap.size ≤ q) (wH Z B h ++ (wX7 Z am mo ++ wO Z ao w))) (hS : va_S (fun q : Nat => s.heap.size ≤ q) s.heap H locs) (hf : f_law_c1 xs L x4 h mo w kk = some 1) : W p l e room_1 s m #[Value.ref b0] below meth c H locs CC SS (lw_Z below #[Value.ref b0] s) (F0 m 208 ls []) := by
  obtain ⟨hx, hb, hr, hml, hown, hts, hX, hbl, hlocks, hgv⟩ := C0
  have hown : s.vm.findClass RL = some m.cls := hown
  have htsL : ∀ w ∈ wsL_law, w.before #[Value.ref b0] s = true := fun w h9 => hts w (wsL_law_in w h9)
  have hA : ∀ q : Nat, s.heap.size ≤ q → (fun q : Nat => s.heap.size ≤ q) q := fun _ h9 => h9
  have hbA : ¬ (fun q : Nat => s.heap.size ≤ q) b0 := Nat.not_le.mpr hbl
  rw [f_law_c1] at hf
  refine lv_aload_n (pc := 208) hx hb dL_law_208 rfl (lv_at hl 1 rfl) ?_
  refine lv_aload_n (pc := 209) hx hb dL_law_209 rfl (lv_at hl 0 rfl) ?_
  refine lv_iload (pc := 210) hx hb dL_law_210 (lv_at hl 4 rfl) ?_
  refine lv_iconst (pc := 212) (v := 1) hx hb dL_law_212 (by decide) ?_
  refine lv_iadd (pc := 213) hx hb dL_law_213 ?_
  obtain ⟨g214, hf⟩ := gd hf
  refine va_sld (pc := 214) hx hb hX hbl hbA hS (inb_in g214) dL_law_214 ?_
  refine lv_aload_n (pc := 215) hx hb dL_law_215 rfl (lv_at hl 0 rfl) ?_
  refine lv_iload (pc := 216) hx hb dL_law_216 (lv_at hl 4 rfl) ?_
  refine lv_iconst (pc := 218) (v := 2) hx hb dL_law_218 (by decide) ?_
  refine lv_iadd (pc := 219) hx hb dL_law_219 ?_
  obtain ⟨g220, hf⟩ := gd hf
  refine va_sld (pc := 220) hx hb hX hbl hbA hS (inb_in g220) dL_law_220 ?_
  refine lv_aload_n (pc := 221) hx hb dL_law_221 rfl (lv_at hl 0 rfl) ?_
  refine lv_iload (pc := 222) hx hb dL_law_222 (lv_at hl 4 rfl) ?_
  refine lv_iconst (pc := 224) (v := 3) hx hb dL_law_224 (by decide) ?_
  refine lv_iadd (pc := 225) hx hb dL_law_225 ?_
  obtain ⟨g226, hf⟩ := gd hf
  refine va_sld (pc := 226) hx hb hX hbl hbA hS (inb_in g226) dL_law_226 ?_
  refine lv_aload_n (pc := 227) hx hb dL_law_227 rfl (lv_at hl 0 rfl) ?_
  refine lv_iload (pc := 228) hx hb dL_law_228 (lv_at hl 4 rfl) ?_
  refine lv_iconst (pc := 230) (v := 4) hx hb dL_law_230 (by decide) ?_
  refine lv_iadd (pc := 231) hx hb dL_law_231 ?_
  obtain ⟨g232, hf⟩ := gd hf
  refine va_sld (pc := 232) hx hb hX hbl hbA hS (inb_in g232) dL_law_232 ?_
  refine lv_aload_n (pc := 233) hx hb dL_law_233 rfl (lv_at hl 3 rfl) ?_
  obtain ⟨r234, h_234, hf⟩ := bd hf
  refine wr_S (pc := 234) (As := [.ref (B 0 0), .int (xs (x4 + 1).toNatClampNeg), .int (xs (x4 + 2).toNatClampNeg), .int (xs (x4 + 3).toNatClampNeg), .int (xs (x4 + 4).toNatClampNeg), .ref (ao 0)]) (rest := []) (st1 := [.int r234.1]) (wn := fun _ => wH Z B r234.2.1 ++ (wX7 Z am mo ++ wO Z ao r234.2.2)) ⟨hx, hb, hml, hown, htsL⟩ (c_L_unit Z l hst B h (xs (x4 + 1).toNatClampNeg) (xs (x4 + 2).toNatClampNeg) (xs (x4 + 3).toNatClampNeg) (xs (x4 + 4).toNatClampNeg) ao w r234 h_234) (vx_cwSW 6 htsL gL_law_L_unit rfl rfl rfl hs_L_unit ⟨Nat.le_of_ble_eq_true rfl, Nat.le_of_ble_eq_true rfl⟩) hK hE hP hD hS hA hZ (List.range' 0 40 ++ List.range' (40 + 36) 1) (List.range' 40 36) (List.range' 36 40 ++ (List.range' 0 36 ++ List.range' (36 + 40) 1)) (by decide +kernel) (bC13 rfl rfl rfl) (bR2 rfl rfl) (fun _ => bN13 rfl rfl rfl rfl) rfl hl.1 rfl (lv_room (Nat.le_of_ble_eq_true rfl)) dL_law_234 ⟨(show CC + 0 + 5 ≤ 441704 by omega), (show SS + 0 + 30 ≤ 7770994 by omega)⟩ rfl (fun _ H locs hP hD hS => ?_)
  refine lv_istore (pc := 237) (lv' := [(5, .int r234.1), (0, .ref b0), (1, .ref (B 0 0)), (2, .ref (am 0)), (3, .ref (ao 0)), (4, .int x4)]) hx hb dL_law_237 hl (by decide) rfl (fun ls hl => ?_)
  refine lv_aload_n (pc := 239) hx hb dL_law_239 rfl (lv_at hl 3 rfl) ?_
  refine lv_aload_n (pc := 240) hx hb dL_law_240 rfl (lv_at hl 1 rfl) ?_
  refine lv_iload (pc := 241) hx hb dL_law_241 (lv_at hl 5 rfl) ?_
  refine lv_iconst (pc := 243) (v := 1) hx hb dL_law_243 (by decide) ?_
  refine lv_iadd (pc := 244) hx hb dL_law_244 ?_
  obtain ⟨g245, hf⟩ := gd hf
  refine va_sld (pc := 245) hx hb hX hbl hbA hS (inb_in g245) dL_law_245 ?_
  refine lv_aload_n (pc := 246) hx hb dL_law_246 rfl (lv_at hl 1 rfl) ?_
  refine lv_iload (pc := 247) hx hb dL_law_247 (lv_at hl 5 rfl) ?_
  refine lv_iconst (pc := 249) (v := 2) hx hb dL_law_249 (by decide) ?_
  refine lv_iadd (pc := 250) hx hb dL_law_250 ?_
  obtain ⟨g251, hf⟩ := gd hf
  refine va_sld (pc := 251) hx hb hX hbl hbA hS (inb_in g251) dL_law_251 ?_
  refine lv_aload_n (pc := 252) hx hb dL_law_252 rfl (lv_at hl 1 rfl) ?_
  refine lv_iload (pc := 253) hx hb dL_law_253 (lv_at hl 5 rfl) ?_
  refine lv_iconst (pc := 255) (v := 3) hx hb dL_law_255 (by decide) ?_
  refine lv_iadd (pc := 256) hx hb dL_law_256 ?_
  obtain ⟨g257, hf⟩ := gd hf
  refine va_sld (pc := 257) hx hb hX hbl hbA hS (inb_in g257) dL_law_257 ?_
  refine lv_aload_n (pc := 258) hx hb dL_law_258 rfl (lv_at hl 1 rfl) ?_
  refine lv_iload (pc := 259) hx hb dL_law_259 (lv_at hl 5 rfl) ?_
  refine lv_iconst (pc := 261) (v := 4) hx hb dL_law_261 (by decide) ?_
  refine lv_iadd (pc := 262) hx hb dL_law_262 ?_
  obtain ⟨g263, hf⟩ := gd hf
  refine va_sld (pc := 263) hx hb hX hbl hbA hS (inb_in g263) dL_law_263 ?_
  obtain ⟨r264, h_264, hf⟩ := bd hf
  refine rw_V (pc := 264) (C := RX7) (As := [.int (xs (x4 + 1).toNatClampNeg), .int (xs (x4 + 2).toNatClampNeg), .int (xs (x4 + 3).toNatClampNeg), .int (xs (x4 + 4).toNatClampNeg)]) (rest := []) (st1 := [.int r264.1]) (wn := fun _ => wH Z B r234.2.1 ++ (wX7 Z am r264.2 ++ wO Z ao r234.2.2)) ⟨hx, hb, hml, hown, htsL⟩ (c_X7_unit Z l am mo (xs (x4 + 1).toNatClampNeg) (xs (x4 + 2).toNatClampNeg) (xs (x4 + 3).toNatClampNeg) (xs (x4 + 4).toNatClampNeg) r264 h_264) (cwV 4 htsL gL_law_X7_unit rfl rfl rfl hv_X7_unit ⟨Nat.le_of_ble_eq_true rfl, Nat.le_of_ble_eq_true rfl⟩) hK hE hP hD hS hA (List.range' 40 36) (List.range' 0 40 ++ List.range' (40 + 36) 1) (List.range' 0 40 ++ (List.range' (40 + 1) 36 ++ List.range' 40 1)) (by decide +kernel) (bC2 rfl rfl) (bR13 rfl rfl rfl) (fun _ => bN2 rfl rfl rfl rfl) 7 rfl rfl rfl hl.1 rfl (lv_room (Nat.le_of_ble_eq_true rfl)) dL_law_264 ⟨(show CC + 5 + 0 ≤ 441704 by omega), (show SS + 30 + 0 ≤ 7770994 by omega)⟩ rfl (fun _ H locs hP hD hS => ?_)
  refine lv_istore (pc := 267) (lv' := [(6, .int r264.1), (5, .int r234.1), (0, .ref b0), (1, .ref (B 0 0)), (2, .ref (am 0)), (3, .ref (ao 0)), (4, .int x4)]) hx hb dL_law_267 hl (by decide) rfl (fun ls hl => ?_)
  refine lv_aload_n (pc := 269) hx hb dL_law_269 rfl (lv_at hl 4 rfl) ?_
  refine ro_V (pc := 270) (C := RX7) (As := []) (rest := []) (st1 := [.int (f_X7_thrown r264.2)]) ⟨hx, hb, hml, hown, htsL⟩ (c_X7_thrown Z l am r264.2 _ rfl) (cwV 0 htsL gL_law_X7_thrown rfl rfl rfl hv_X7_thrown ⟨Nat.le_of_ble_eq_true rfl, Nat.le_of_ble_eq_true rfl⟩) hK hE (hP.sub (ws' := wX7 Z am r264.2) (List.range' 40 36) (bF2 rfl rfl)) 7 rfl rfl rfl hl.1 rfl (lv_room (Nat.le_of_ble_eq_true rfl)) dL_law_270 ⟨(show CC + 5 ≤ 441704 by omega), (show SS + 30 ≤ 7770994 by omega)⟩ rfl ?_
  refine lv_iload (pc := 273) hx hb dL_law_273 (lv_at hl 1 rfl) ?_
  refine lv_icmp_eq (pc := 275) (tgt := 280) hx hb dL_law_275 (by decide) (fun c1 => ?_) (fun c1 => ?_)
  · have hf := (if_pos c1).symm.trans hf
    refine lv_iload (pc := 280) hx hb dL_law_280 (lv_at hl 1 rfl) ?_
    refine lv_if_ne (pc := 282) (tgt := 297) hx hb dL_law_282 (by decide) (fun c2 => ?_) (fun c2 => ?_)
    · have hf := (if_neg c2).symm.trans hf
      refine lv_goto (pc := 297) (tgt := 1443) hx hb dL_law_297 (by decide) ?_
      refine W.widen (k := CC + 5) (n := SS + 7200) (by omega) (by omega) ?_
      exact ih B r234.2.1 r264.2 r234.2.2 _ _ _ (lv_sub hl [2, 3, 4, 5, 6] rfl) hP hD hS hf
    · have hf := (if_pos c2).symm.trans hf
      refine lv_aload_n (pc := 285) hx hb dL_law_285 rfl (lv_at hl 5 rfl) ?_
      refine lv_iconst (pc := 286) (v := 0) hx hb dL_law_286 (by decide) ?_
      refine va_lald (pc := 287) (D := Z.1) (n := 1) (f := r234.2.2.2 0) hx hb hK hP 76 1 rfl rfl (inb_in (by decide)) dL_law_287 ?_
      refine lv_iload (pc := 288) hx hb dL_law_288 (lv_at hl 0 rfl) ?_
      refine lv_i2l (pc := 290) (v := r264.1.toInt64) hx hb dL_law_290 rfl ?_
      refine W.lcmp (pc := 291) hx hb dL_law_291 ?_
      refine lv_if_eq (pc := 292) (tgt := 297) hx hb dL_law_292 (by decide) (fun c3 => ?_) (fun c3 => ?_)
      · have hf := (if_pos c3).symm.trans hf
        refine lv_goto (pc := 297) (tgt := 1443) hx hb dL_law_297 (by decide) ?_
        refine W.widen (k := CC + 5) (n := SS + 7200) (by omega) (by omega) ?_
        exact ih B r234.2.1 r264.2 r234.2.2 _ _ _ (lv_sub hl [2, 3, 4, 5, 6] rfl) hP hD hS hf
      · have hf := (if_neg c3).symm.trans hf
        refine lv_iconst (pc := 295) (v := 0) hx hb dL_law_295 (by decide) ?_
        exact absurd (Option.some.inj hf) (by decide)
  · have hf := (if_neg c1).symm.trans hf
    refine lv_iconst (pc := 278) (v := 0) hx hb dL_law_278 (by decide) ?_
    exact absurd (Option.some.inj hf) (by decide)
def f_law_c2 (xs : Nat → Int32) (L : Nat) (x4 : Int32) (h : Nat → ObS) (mo w : ObS) (kk : ((Nat → ObS) → ObS → ObS → Option Int32)) : Option Int32 :=
  if inb (x4 + 1) L then
  if inb (x4 + 2) L then
  (f_L_back h (xs (x4 + 1).toNatClampNeg) (xs (x4 + 2).toNatClampNeg) w).bind fun r314 =>
  if inb (x4 + 1) L then
  if inb (x4 + 2) L then
  (f_X7_back mo (xs (x4 + 1).toNatClampNeg) (xs (x4 + 2).toNatClampNeg)).bind fun r332 =>
  if (f_X7_thrown r332.2) = r314.1 then
    if r314.1 = (0 : Int32) then
      if (lg_cmp (r314.2.2.2 0 ((0 : Int32).toNatClampNeg)) r332.1.toInt64) = (0 : Int32) then
        kk r314.2.1 r332.2 r314.2.2
      else
        some (0 : Int32)
    else
      kk r314.2.1 r332.2 r314.2.2
  else
    some (0 : Int32)
  else none
  else none
  else none
  else none
set_option maxHeartbeats 4000000 in
set_option maxRecDepth 100000 in
theorem lc_2 {p : Program} {l : Launch} {e : Env} {s : State} {m : MethodId} {below : List Frame} {meth : Method} {c : Code} {Z : EnvT} {b0 L : Nat} {xs : Nat → Int32} (hst : l.stackTraces = false) (C0 : lw_At p s m meth c b0 L xs) (hK : va_K Z.1 vwCl (tyV Z) s) (hE : EV Z s) (hZ : ZQ (fun q : Nat => s.heap.size ≤ q) s s.heap) {CC SS : Nat} (hCC : CC + 5 ≤ 441704) (hSS : SS + 7200 ≤ 7770994) {x4 : Int32} {B : Nat → Nat → Nat} {h : Nat → ObS} {am ao : Nat → Nat} {mo w : ObS} {H : Heap} {locs : List Loc} {ls : Array Slot} (kk : ((Nat → ObS) → ObS → ObS → Option Int32))
    (ih : ∀ (B : Nat → Nat → Nat) (h : Nat → ObS) (mo w : ObS) (H : Heap) (locs : List Loc) (ls : Array Slot), lv_has ls 7 [(0, .ref b0), (1, .ref (B 0 0)), (2, .ref (am 0)), (3, .ref (ao 0)), (4, .int x4)] → va_P Z.1 vwCl (wH Z B h ++ (wX7 Z am mo ++ wO Z ao w)) H → va_D (fun q : Nat => s.heap.size ≤ q) (wH Z B h ++ (wX7 Z am mo ++ wO Z ao w)) → va_S (fun q : Nat => s.heap.size ≤ q) s.heap H locs → kk h mo w = some 1 → W p l e room_1 s m #[Value.ref b0] below meth c H locs (CC + 5) (SS + 7200) (lw_Z below #[Value.ref b0] s) (F0 m 1443 ls []))
    (hl : lv_has ls 7 [(0, .ref b0), (1, .ref (B 0 0)), (2, .ref (am 0)), (3, .ref (ao 0)), (4, .int x4)]) (hP : va_P Z.1 vwCl (wH Z B h ++ (wX7 Z am mo ++ wO Z ao w)) H) (hD : va_D (fun q : Nat => s.heap.size ≤ q) (wH Z B h ++ (wX7 Z am mo ++ wO Z ao w))) (hS : va_S (fun q : Nat => s.heap.size ≤ q) s.heap H locs) (hf : f_law_c2 xs L x4 h mo w kk = some 1) : W p l e room_1 s m #[Value.ref b0] below meth c H locs CC SS (lw_Z below #[Value.ref b0] s) (F0 m 300 ls []) := by
  obtain ⟨hx, hb, hr, hml, hown, hts, hX, hbl, hlocks, hgv⟩ := C0
  have hown : s.vm.findClass RL = some m.cls := hown
  have htsL : ∀ w ∈ wsL_law, w.before #[Value.ref b0] s = true := fun w h9 => hts w (wsL_law_in w h9)
  have hA : ∀ q : Nat, s.heap.size ≤ q → (fun q : Nat => s.heap.size ≤ q) q := fun _ h9 => h9
  have hbA : ¬ (fun q : Nat => s.heap.size ≤ q) b0 := Nat.not_le.mpr hbl
  rw [f_law_c2] at hf
  refine lv_aload_n (pc := 300) hx hb dL_law_300 rfl (lv_at hl 1 rfl) ?_
  refine lv_aload_n (pc := 301) hx hb dL_law_301 rfl (lv_at hl 0 rfl) ?_
  refine lv_iload (pc := 302) hx hb dL_law_302 (lv_at hl 4 rfl) ?_
  refine lv_iconst (pc := 304) (v := 1) hx hb dL_law_304 (by decide) ?_
  refine lv_iadd (pc := 305) hx hb dL_law_305 ?_
  obtain ⟨g306, hf⟩ := gd hf
  refine va_sld (pc := 306) hx hb hX hbl hbA hS (inb_in g306) dL_law_306 ?_
  refine lv_aload_n (pc := 307) hx hb dL_law_307 rfl (lv_at hl 0 rfl) ?_
  refine lv_iload (pc := 308) hx hb dL_law_308 (lv_at hl 4 rfl) ?_
  refine lv_iconst (pc := 310) (v := 2) hx hb dL_law_310 (by decide) ?_
  refine lv_iadd (pc := 311) hx hb dL_law_311 ?_
  obtain ⟨g312, hf⟩ := gd hf
  refine va_sld (pc := 312) hx hb hX hbl hbA hS (inb_in g312) dL_law_312 ?_
  refine lv_aload_n (pc := 313) hx hb dL_law_313 rfl (lv_at hl 3 rfl) ?_
  obtain ⟨r314, h_314, hf⟩ := bd hf
  refine wr_S (pc := 314) (As := [.ref (B 0 0), .int (xs (x4 + 1).toNatClampNeg), .int (xs (x4 + 2).toNatClampNeg), .ref (ao 0)]) (rest := []) (st1 := [.int r314.1]) (wn := fun _ => wH Z B r314.2.1 ++ (wX7 Z am mo ++ wO Z ao r314.2.2)) ⟨hx, hb, hml, hown, htsL⟩ (c_L_back Z l hst B h (xs (x4 + 1).toNatClampNeg) (xs (x4 + 2).toNatClampNeg) ao w r314 h_314) (vx_cwSW 4 htsL gL_law_L_back rfl rfl rfl hs_L_back ⟨Nat.le_of_ble_eq_true rfl, Nat.le_of_ble_eq_true rfl⟩) hK hE hP hD hS hA hZ (List.range' 0 40 ++ List.range' (40 + 36) 1) (List.range' 40 36) (List.range' 36 40 ++ (List.range' 0 36 ++ List.range' (36 + 40) 1)) (by decide +kernel) (bC13 rfl rfl rfl) (bR2 rfl rfl) (fun _ => bN13 rfl rfl rfl rfl) rfl hl.1 rfl (lv_room (Nat.le_of_ble_eq_true rfl)) dL_law_314 ⟨(show CC + 0 + 4 ≤ 441704 by omega), (show SS + 0 + 24 ≤ 7770994 by omega)⟩ rfl (fun _ H locs hP hD hS => ?_)
  refine lv_istore (pc := 317) (lv' := [(5, .int r314.1), (0, .ref b0), (1, .ref (B 0 0)), (2, .ref (am 0)), (3, .ref (ao 0)), (4, .int x4)]) hx hb dL_law_317 hl (by decide) rfl (fun ls hl => ?_)
  refine lv_aload_n (pc := 319) hx hb dL_law_319 rfl (lv_at hl 3 rfl) ?_
  refine lv_aload_n (pc := 320) hx hb dL_law_320 rfl (lv_at hl 1 rfl) ?_
  refine lv_iload (pc := 321) hx hb dL_law_321 (lv_at hl 5 rfl) ?_
  refine lv_iconst (pc := 323) (v := 1) hx hb dL_law_323 (by decide) ?_
  refine lv_iadd (pc := 324) hx hb dL_law_324 ?_
  obtain ⟨g325, hf⟩ := gd hf
  refine va_sld (pc := 325) hx hb hX hbl hbA hS (inb_in g325) dL_law_325 ?_
  refine lv_aload_n (pc := 326) hx hb dL_law_326 rfl (lv_at hl 1 rfl) ?_
  refine lv_iload (pc := 327) hx hb dL_law_327 (lv_at hl 5 rfl) ?_
  refine lv_iconst (pc := 329) (v := 2) hx hb dL_law_329 (by decide) ?_
  refine lv_iadd (pc := 330) hx hb dL_law_330 ?_
  obtain ⟨g331, hf⟩ := gd hf
  refine va_sld (pc := 331) hx hb hX hbl hbA hS (inb_in g331) dL_law_331 ?_
  obtain ⟨r332, h_332, hf⟩ := bd hf
  refine rw_V (pc := 332) (C := RX7) (As := [.int (xs (x4 + 1).toNatClampNeg), .int (xs (x4 + 2).toNatClampNeg)]) (rest := []) (st1 := [.int r332.1]) (wn := fun _ => wH Z B r314.2.1 ++ (wX7 Z am r332.2 ++ wO Z ao r314.2.2)) ⟨hx, hb, hml, hown, htsL⟩ (c_X7_back Z l am mo (xs (x4 + 1).toNatClampNeg) (xs (x4 + 2).toNatClampNeg) r332 h_332) (cwV 2 htsL gL_law_X7_back rfl rfl rfl hv_X7_back ⟨Nat.le_of_ble_eq_true rfl, Nat.le_of_ble_eq_true rfl⟩) hK hE hP hD hS hA (List.range' 40 36) (List.range' 0 40 ++ List.range' (40 + 36) 1) (List.range' 0 40 ++ (List.range' (40 + 1) 36 ++ List.range' 40 1)) (by decide +kernel) (bC2 rfl rfl) (bR13 rfl rfl rfl) (fun _ => bN2 rfl rfl rfl rfl) 7 rfl rfl rfl hl.1 rfl (lv_room (Nat.le_of_ble_eq_true rfl)) dL_law_332 ⟨(show CC + 4 + 0 ≤ 441704 by omega), (show SS + 24 + 0 ≤ 7770994 by omega)⟩ rfl (fun _ H locs hP hD hS => ?_)
  refine lv_istore (pc := 335) (lv' := [(6, .int r332.1), (5, .int r314.1), (0, .ref b0), (1, .ref (B 0 0)), (2, .ref (am 0)), (3, .ref (ao 0)), (4, .int x4)]) hx hb dL_law_335 hl (by decide) rfl (fun ls hl => ?_)
  refine lv_aload_n (pc := 337) hx hb dL_law_337 rfl (lv_at hl 4 rfl) ?_
  refine ro_V (pc := 338) (C := RX7) (As := []) (rest := []) (st1 := [.int (f_X7_thrown r332.2)]) ⟨hx, hb, hml, hown, htsL⟩ (c_X7_thrown Z l am r332.2 _ rfl) (cwV 0 htsL gL_law_X7_thrown rfl rfl rfl hv_X7_thrown ⟨Nat.le_of_ble_eq_true rfl, Nat.le_of_ble_eq_true rfl⟩) hK hE (hP.sub (ws' := wX7 Z am r332.2) (List.range' 40 36) (bF2 rfl rfl)) 7 rfl rfl rfl hl.1 rfl (lv_room (Nat.le_of_ble_eq_true rfl)) dL_law_338 ⟨(show CC + 4 ≤ 441704 by omega), (show SS + 24 ≤ 7770994 by omega)⟩ rfl ?_
  refine lv_iload (pc := 341) hx hb dL_law_341 (lv_at hl 1 rfl) ?_
  refine lv_icmp_eq (pc := 343) (tgt := 348) hx hb dL_law_343 (by decide) (fun c1 => ?_) (fun c1 => ?_)
  · have hf := (if_pos c1).symm.trans hf
    refine lv_iload (pc := 348) hx hb dL_law_348 (lv_at hl 1 rfl) ?_
    refine lv_if_ne (pc := 350) (tgt := 365) hx hb dL_law_350 (by decide) (fun c2 => ?_) (fun c2 => ?_)
    · have hf := (if_neg c2).symm.trans hf
      refine lv_goto (pc := 365) (tgt := 1443) hx hb dL_law_365 (by decide) ?_
      refine W.widen (k := CC + 5) (n := SS + 7200) (by omega) (by omega) ?_
      exact ih B r314.2.1 r332.2 r314.2.2 _ _ _ (lv_sub hl [2, 3, 4, 5, 6] rfl) hP hD hS hf
    · have hf := (if_pos c2).symm.trans hf
      refine lv_aload_n (pc := 353) hx hb dL_law_353 rfl (lv_at hl 5 rfl) ?_
      refine lv_iconst (pc := 354) (v := 0) hx hb dL_law_354 (by decide) ?_
      refine va_lald (pc := 355) (D := Z.1) (n := 1) (f := r314.2.2.2 0) hx hb hK hP 76 1 rfl rfl (inb_in (by decide)) dL_law_355 ?_
      refine lv_iload (pc := 356) hx hb dL_law_356 (lv_at hl 0 rfl) ?_
      refine lv_i2l (pc := 358) (v := r332.1.toInt64) hx hb dL_law_358 rfl ?_
      refine W.lcmp (pc := 359) hx hb dL_law_359 ?_
      refine lv_if_eq (pc := 360) (tgt := 365) hx hb dL_law_360 (by decide) (fun c3 => ?_) (fun c3 => ?_)
      · have hf := (if_pos c3).symm.trans hf
        refine lv_goto (pc := 365) (tgt := 1443) hx hb dL_law_365 (by decide) ?_
        refine W.widen (k := CC + 5) (n := SS + 7200) (by omega) (by omega) ?_
        exact ih B r314.2.1 r332.2 r314.2.2 _ _ _ (lv_sub hl [2, 3, 4, 5, 6] rfl) hP hD hS hf
      · have hf := (if_neg c3).symm.trans hf
        refine lv_iconst (pc := 363) (v := 0) hx hb dL_law_363 (by decide) ?_
        exact absurd (Option.some.inj hf) (by decide)
  · have hf := (if_neg c1).symm.trans hf
    refine lv_iconst (pc := 346) (v := 0) hx hb dL_law_346 (by decide) ?_
    exact absurd (Option.some.inj hf) (by decide)
