def f_X7_driven_b103 (x1 : Int32) (v4_2 : Int32) : Nat → Int32 → ObS → Option (ObS)
  | 0, _, _ => none
  | n + 1, v103_3, o103_0 =>
  if (o103_0.1 22 0) ≤ v103_3 then
    if inb v4_2 6 then
    if inb x1 12 then
    if inb x1 12 then
    (some (oi o103_0 4 (x1).toNatClampNeg ((f_X7_held (o103_0.2 33 (v4_2).toNatClampNeg) 0 (((f_X7_mostOf (o103_0.1 3 (x1).toNatClampNeg))).toInt64)).toInt32))).bind fun s217 =>
    some (s217)
    else none
    else none
    else none
  else
    if inb v103_3 6 then
    if (o103_0.1 27 (v103_3).toNatClampNeg) = x1 then
      (f_X7_isRatio o103_0 v103_3).bind fun r123 =>
      if r123 = (0 : Int32) then
        if inb v103_3 6 then
        if inb v4_2 6 then
        if (lg_cmp (o103_0.2 33 (v103_3).toNatClampNeg) (o103_0.2 33 (v4_2).toNatClampNeg)) = (0 : Int32) then
          f_X7_driven_b103 x1 v4_2 n (v103_3 + 1) o103_0
        else
          if inb v4_2 6 then
          if inb v103_3 6 then
          if inb v103_3 6 then
          if inb v103_3 6 then
          (some (oj o103_0 32 (v103_3).toNatClampNeg (f_X7_held ((((o103_0.2 33 (v4_2).toNatClampNeg) - ((o103_0.1 26 (v103_3).toNatClampNeg).toInt64)) - (o103_0.2 36 (v103_3).toNatClampNeg)) * 1000) (-10000000) 10000000))).bind fun s184 =>
          f_X7_driven_b103 x1 v4_2 n (v103_3 + 1) s184
          else none
          else none
          else none
          else none
        else none
        else none
      else
        f_X7_driven_b103 x1 v4_2 n (v103_3 + 1) o103_0
    else
      f_X7_driven_b103 x1 v4_2 n (v103_3 + 1) o103_0
    else none
def f_X7_driven_b71 (k : Int32 → Int32 → Option (ObS)) (v4_3 : Int32)  : Option (ObS) :=
  k (v4_3 + 1) v4_3
def f_X7_driven_b4 (o0 : ObS) (x1 : Int32) : Nat → Int32 → Int32 → Option (ObS)
  | 0, _, _ => none
  | n + 1, v4_3, v4_2 =>
  if (o0.1 22 0) ≤ v4_3 then
    if v4_2 = (-1) then
      some (o0)
    else
      f_X7_driven_b103 x1 v4_2 64 0 o0
  else
    if inb v4_3 6 then
    if (o0.1 27 (v4_3).toNatClampNeg) = x1 then
      if v4_2 = (-1) then
        f_X7_driven_b71 (f_X7_driven_b4 o0 x1 n) v4_3
      else
        if inb x1 12 then
        if (o0.1 9 (x1).toNatClampNeg) = (0 : Int32) then
          if inb v4_3 6 then
          if inb v4_2 6 then
          if (0 : Int32) ≤ (lg_cmp (o0.2 33 (v4_3).toNatClampNeg) (o0.2 33 (v4_2).toNatClampNeg)) then
            f_X7_driven_b4 o0 x1 n (v4_3 + 1) v4_2
          else
            f_X7_driven_b71 (f_X7_driven_b4 o0 x1 n) v4_3
          else none
          else none
        else
          if inb v4_3 6 then
          if inb v4_2 6 then
          if (lg_cmp (o0.2 33 (v4_3).toNatClampNeg) (o0.2 33 (v4_2).toNatClampNeg)) ≤ (0 : Int32) then
            f_X7_driven_b4 o0 x1 n (v4_3 + 1) v4_2
          else
            f_X7_driven_b71 (f_X7_driven_b4 o0 x1 n) v4_3
          else none
          else none
        else none
    else
      f_X7_driven_b4 o0 x1 n (v4_3 + 1) v4_2
    else none
def f_X7_driven (o0 : ObS) (x1 : Int32) : Option (ObS) :=
  f_X7_driven_b4 o0 x1 64 0 (-1)
set_option maxHeartbeats 4000000 in
set_option maxRecDepth 100000 in
theorem c_X7_driven (Z : EnvT) (l : Launch) (a0 : Nat → Nat) (o0 : ObS) (x1 : Int32) (R : ObS) (hf : f_X7_driven o0 x1 = some R) : RW Z l yX7_driven wsX7_driven { frames := 1, cells := 0, slots := 0, locals := 25 } [.ref (a0 0), .int x1] (wX7 Z a0 o0) none (fun _ => wX7 Z a0 R) 0 0 := by
  refine rw_of (cc := cX7_driven) (maxL := 5) (ret := none) (by decide) rfl (Nat.le_of_ble_eq_true rfl) ?_
  intro p e s m below meth c A ls hx hb hr hml hts hown hlk hin hP hK hE hD hA hS hl
  have hown : s.vm.findClass RX7 = some m.cls := hown
  have hl : lv_has ls 5 [(0, .ref (a0 0)), (1, .int x1)] := hl
  have w0 := hts (.fieldLink RX7 128 "HeatTrainModel" "controllers" "I") (by decide +kernel)
  have w1 := hts (.fieldLink RX7 78 "HeatTrainModel" "drives" "[I") (by decide +kernel)
  have w2 := hts (.fieldLink RX7 28 "HeatTrainModel" "areGreatest" "[Z") (by decide +kernel)
  have w3 := hts (.fieldLink RX7 96 "HeatTrainModel" "outputs" "[J") (by decide +kernel)
  have w4 := hts (.fieldLink RX7 13 "HeatTrainModel" "numbers" "[I") (by decide +kernel)
  have w5 := hts (.fieldLink RX7 7 "HeatTrainModel" "kinds" "[I") (by decide +kernel)
  have w6 := hts (.fieldLink RX7 93 "HeatTrainModel" "sums" "[J") (by decide +kernel)
  have w7 := hts (.fieldLink RX7 75 "HeatTrainModel" "bases" "[I") (by decide +kernel)
  have w8 := hts (.fieldLink RX7 105 "HeatTrainModel" "feeds" "[J") (by decide +kernel)
  have w9 := hts (.constantLong RX7 204 (1000)) (by decide +kernel)
  have w10 := hts (.constantLong RX7 196 (-10000000)) (by decide +kernel)
  have w11 := hts (.constantLong RX7 198 (10000000)) (by decide +kernel)
  have u7 : ∀ w ∈ wsX70, w ∈ wsX7_driven := by decide +kernel
  have B103 : ∀ (v4_2 : Int32) (n : Nat), ∀ (v103_3 : Int32) (o103_0 : ObS) (ls : Array Slot), lv_has ls 5 [(0, .ref (a0 0)), (1, .int x1), (2, .int v4_2), (3, .int v103_3)] → ∀ (H : Heap) (locs : List Loc), va_P Z.1 vwCl (wX7 Z a0 o103_0) H → va_D A (wX7 Z a0 o103_0) → va_S A s.heap H locs → f_X7_driven_b103 x1 v4_2 n v103_3 o103_0 = some R → W p l e { frames := 1, cells := 0, slots := 0, locals := 25 } s m ([.ref (a0 0), .int x1] : List Value).toArray below meth c H locs 0 0 (MQ below (rwQ Z none (fun _ => wX7 Z a0 R) A) ([.ref (a0 0), .int x1] : List Value).toArray s 0 0 A) (F0 m 103 ls []) := by
    intro v4_2 n
    induction n with
    | zero => intro v103_3 o103_0 ls hl H locs hP hD hS hf; rw [f_X7_driven_b103] at hf; exact nomatch hf
    | succ n ih =>
      intro v103_3 o103_0 ls hl H locs hP hD hS hf
      rw [f_X7_driven_b103] at hf
      refine lv_iload_n (pc := 103) hx hb dX7_driven_103 rfl (lv_at hl 3 rfl) ?_
      refine lv_aload_n (pc := 104) hx hb dX7_driven_104 rfl (lv_at hl 0 rfl) ?_
      refine va_get (pc := 105) (D := Z.1) (ci := 7) (v := .int (o103_0.1 22 0)) (C := RX7) (T := TX7) (N := 41) hx hb hts u7 hown hK hP 0 rfl rfl 22 (by decide) w0 (fun _ h9 => h9) rfl dX7_driven_105 ?_
      refine lv_icmp_ge (pc := 108) (tgt := 191) hx hb dX7_driven_108 (by decide) (fun c1 => ?_) (fun c1 => ?_)
      · have hf := (if_pos c1).symm.trans hf
        refine lv_aload_n (pc := 191) hx hb dX7_driven_191 rfl (lv_at hl 0 rfl) ?_
        refine va_get (pc := 192) (D := Z.1) (ci := 7) (v := .ref (a0 5)) (C := RX7) (T := TX7) (N := 41) hx hb hts u7 hown hK hP 0 rfl rfl 4 (by decide) w4 (fun _ h9 => h9) rfl dX7_driven_192 ?_
        refine lv_iload_n (pc := 195) hx hb dX7_driven_195 rfl (lv_at hl 1 rfl) ?_
        refine lv_aload_n (pc := 196) hx hb dX7_driven_196 rfl (lv_at hl 0 rfl) ?_
        refine va_get (pc := 197) (D := Z.1) (ci := 7) (v := .ref (a0 34)) (C := RX7) (T := TX7) (N := 41) hx hb hts u7 hown hK hP 0 rfl rfl 33 (by decide) w3 (fun _ h9 => h9) rfl dX7_driven_197 ?_
        refine lv_iload_n (pc := 200) hx hb dX7_driven_200 rfl (lv_at hl 2 rfl) ?_
        obtain ⟨g201, hf⟩ := gd hf
        refine va_lald (pc := 201) (D := Z.1) (n := 6) (f := o103_0.2 33) hx hb hK hP 29 1 rfl rfl (inb_in g201) dX7_driven_201 ?_
        refine lv_lconst (pc := 202) (v := 0) hx hb dX7_driven_202 (by decide) ?_
        refine lv_aload_n (pc := 203) hx hb dX7_driven_203 rfl (lv_at hl 0 rfl) ?_
        refine va_get (pc := 204) (D := Z.1) (ci := 7) (v := .ref (a0 4)) (C := RX7) (T := TX7) (N := 41) hx hb hts u7 hown hK hP 0 rfl rfl 3 (by decide) w5 (fun _ h9 => h9) rfl dX7_driven_204 ?_
        refine lv_iload_n (pc := 207) hx hb dX7_driven_207 rfl (lv_at hl 1 rfl) ?_
        obtain ⟨g208, hf⟩ := gd hf
        refine va_iald (pc := 208) (D := Z.1) (n := 12) (f := o103_0.1 3) hx hb hK hP 1 0 rfl rfl (inb_in g208) dX7_driven_208 ?_
        refine ro_S (pc := 209) (As := [.int (o103_0.1 3 (x1).toNatClampNeg)]) (rest := [.long 0, .long (o103_0.2 33 (v4_2).toNatClampNeg), .int x1, .ref (a0 5)]) (st1 := [.int (f_X7_mostOf (o103_0.1 3 (x1).toNatClampNeg)), .long 0, .long (o103_0.2 33 (v4_2).toNatClampNeg), .int x1, .ref (a0 5)]) ⟨hx, hb, hml, hown, hts⟩ (c_X7_mostOf Z l (o103_0.1 3 (x1).toNatClampNeg) _ rfl) (va_cwS 1 hts gX7_driven_X7_mostOf rfl rfl rfl hs_X7_mostOf ⟨Nat.le_of_ble_eq_true rfl, Nat.le_of_ble_eq_true rfl⟩) hK hE (hP.sub (ws' := []) [] rfl) rfl hl.1 rfl (lv_room (Nat.le_of_ble_eq_true rfl)) dX7_driven_209 ⟨Nat.le_of_ble_eq_true rfl, Nat.le_of_ble_eq_true rfl⟩ rfl ?_
        refine lv_i2l (pc := 212) (v := ((f_X7_mostOf (o103_0.1 3 (x1).toNatClampNeg))).toInt64) hx hb dX7_driven_212 rfl ?_
        refine ro_S (pc := 213) (As := [.long (o103_0.2 33 (v4_2).toNatClampNeg), .long 0, .long (((f_X7_mostOf (o103_0.1 3 (x1).toNatClampNeg))).toInt64)]) (rest := [.int x1, .ref (a0 5)]) (st1 := [.long (f_X7_held (o103_0.2 33 (v4_2).toNatClampNeg) 0 (((f_X7_mostOf (o103_0.1 3 (x1).toNatClampNeg))).toInt64)), .int x1, .ref (a0 5)]) ⟨hx, hb, hml, hown, hts⟩ (c_X7_held Z l (o103_0.2 33 (v4_2).toNatClampNeg) 0 (((f_X7_mostOf (o103_0.1 3 (x1).toNatClampNeg))).toInt64) _ rfl) (va_cwS 3 hts gX7_driven_X7_held rfl rfl rfl hs_X7_held ⟨Nat.le_of_ble_eq_true rfl, Nat.le_of_ble_eq_true rfl⟩) hK hE (hP.sub (ws' := []) [] rfl) rfl hl.1 rfl (lv_room (Nat.le_of_ble_eq_true rfl)) dX7_driven_213 ⟨Nat.le_of_ble_eq_true rfl, Nat.le_of_ble_eq_true rfl⟩ rfl ?_
        refine lv_l2i (pc := 216) (v := (f_X7_held (o103_0.2 33 (v4_2).toNatClampNeg) 0 (((f_X7_mostOf (o103_0.1 3 (x1).toNatClampNeg))).toInt64)).toInt32) hx hb dX7_driven_216 rfl ?_
        obtain ⟨g217, hf⟩ := gd hf
        refine va_iast (pc := 217) (D := Z.1) (n := 12) (f := o103_0.1 4) hx hb hK hP hD hS 2 0 rfl rfl (inb_in g217) dX7_driven_217 (fun H locs hP hD hS => ?_)
        obtain ⟨s217, h_217, hf⟩ := bd hf
        have hP : va_P Z.1 vwCl (wX7 Z a0 s217) H := st_P (f := fun z => wX7 Z a0 z) h_217 hP
        have hD : va_D A (wX7 Z a0 s217) := st_D (f := fun z => wX7 Z a0 z) h_217 hD
        have hf := (Option.some.inj hf)
        subst hf
        exact rw_v (fun _ => 0) hx hb hr hlk hP hD hS dX7_driven_218
      · have hf := (if_neg c1).symm.trans hf
        refine lv_aload_n (pc := 111) hx hb dX7_driven_111 rfl (lv_at hl 0 rfl) ?_
        refine va_get (pc := 112) (D := Z.1) (ci := 7) (v := .ref (a0 28)) (C := RX7) (T := TX7) (N := 41) hx hb hts u7 hown hK hP 0 rfl rfl 27 (by decide) w1 (fun _ h9 => h9) rfl dX7_driven_112 ?_
        refine lv_iload_n (pc := 115) hx hb dX7_driven_115 rfl (lv_at hl 3 rfl) ?_
        obtain ⟨g116, hf⟩ := gd hf
        refine va_iald (pc := 116) (D := Z.1) (n := 6) (f := o103_0.1 27) hx hb hK hP 23 0 rfl rfl (inb_in g116) dX7_driven_116 ?_
        refine lv_iload_n (pc := 117) hx hb dX7_driven_117 rfl (lv_at hl 1 rfl) ?_
        refine lv_icmp_ne (pc := 118) (tgt := 185) hx hb dX7_driven_118 (by decide) (fun c2 => ?_) (fun c2 => ?_)
        · have hf := (if_neg c2).symm.trans hf
          refine lv_iinc (pc := 185) (v := v103_3 + 1) (lv' := [(3, .int (v103_3 + 1)), (0, .ref (a0 0)), (1, .int x1), (2, .int v4_2)]) hx hb dX7_driven_185 hl (k := 3) rfl rfl (by decide) rfl (fun ls hl => ?_)
          refine lv_goto (pc := 188) (tgt := 103) hx hb dX7_driven_188 (by decide) ?_
          exact ih (v103_3 + 1) o103_0 _ (lv_sub hl [1, 2, 3, 0] rfl) _ _ hP hD hS hf
        · have hf := (if_pos c2).symm.trans hf
          refine lv_aload_n (pc := 121) hx hb dX7_driven_121 rfl (lv_at hl 0 rfl) ?_
          refine lv_iload_n (pc := 122) hx hb dX7_driven_122 rfl (lv_at hl 3 rfl) ?_
          obtain ⟨r123, h_123, hf⟩ := bd hf
          refine ro_V (pc := 123) (C := RX7) (As := [.int v103_3]) (rest := []) (st1 := [.int r123]) ⟨hx, hb, hml, hown, hts⟩ (c_X7_isRatio Z l a0 o103_0 v103_3 r123 h_123) (cwV 1 hts gX7_driven_X7_isRatio rfl rfl rfl hv_X7_isRatio ⟨Nat.le_of_ble_eq_true rfl, Nat.le_of_ble_eq_true rfl⟩) hK hE hP 7 rfl rfl rfl hl.1 rfl (lv_room (Nat.le_of_ble_eq_true rfl)) dX7_driven_123 ⟨Nat.le_of_ble_eq_true rfl, Nat.le_of_ble_eq_true rfl⟩ rfl ?_
          refine lv_if_ne (pc := 126) (tgt := 185) hx hb dX7_driven_126 (by decide) (fun c3 => ?_) (fun c3 => ?_)
          · have hf := (if_neg c3).symm.trans hf
            refine lv_iinc (pc := 185) (v := v103_3 + 1) (lv' := [(3, .int (v103_3 + 1)), (0, .ref (a0 0)), (1, .int x1), (2, .int v4_2)]) hx hb dX7_driven_185 hl (k := 3) rfl rfl (by decide) rfl (fun ls hl => ?_)
            refine lv_goto (pc := 188) (tgt := 103) hx hb dX7_driven_188 (by decide) ?_
            exact ih (v103_3 + 1) o103_0 _ (lv_sub hl [1, 2, 3, 0] rfl) _ _ hP hD hS hf
          · have hf := (if_pos c3).symm.trans hf
            refine lv_aload_n (pc := 129) hx hb dX7_driven_129 rfl (lv_at hl 0 rfl) ?_
            refine va_get (pc := 130) (D := Z.1) (ci := 7) (v := .ref (a0 34)) (C := RX7) (T := TX7) (N := 41) hx hb hts u7 hown hK hP 0 rfl rfl 33 (by decide) w3 (fun _ h9 => h9) rfl dX7_driven_130 ?_
            refine lv_iload_n (pc := 133) hx hb dX7_driven_133 rfl (lv_at hl 3 rfl) ?_
            obtain ⟨g134, hf⟩ := gd hf
            refine va_lald (pc := 134) (D := Z.1) (n := 6) (f := o103_0.2 33) hx hb hK hP 29 1 rfl rfl (inb_in g134) dX7_driven_134 ?_
            refine lv_aload_n (pc := 135) hx hb dX7_driven_135 rfl (lv_at hl 0 rfl) ?_
            refine va_get (pc := 136) (D := Z.1) (ci := 7) (v := .ref (a0 34)) (C := RX7) (T := TX7) (N := 41) hx hb hts u7 hown hK hP 0 rfl rfl 33 (by decide) w3 (fun _ h9 => h9) rfl dX7_driven_136 ?_
            refine lv_iload_n (pc := 139) hx hb dX7_driven_139 rfl (lv_at hl 2 rfl) ?_
            obtain ⟨g140, hf⟩ := gd hf
            refine va_lald (pc := 140) (D := Z.1) (n := 6) (f := o103_0.2 33) hx hb hK hP 29 1 rfl rfl (inb_in g140) dX7_driven_140 ?_
            refine W.lcmp (pc := 141) hx hb dX7_driven_141 ?_
            refine lv_if_eq (pc := 142) (tgt := 185) hx hb dX7_driven_142 (by decide) (fun c4 => ?_) (fun c4 => ?_)
            · have hf := (if_pos c4).symm.trans hf
              refine lv_iinc (pc := 185) (v := v103_3 + 1) (lv' := [(3, .int (v103_3 + 1)), (0, .ref (a0 0)), (1, .int x1), (2, .int v4_2)]) hx hb dX7_driven_185 hl (k := 3) rfl rfl (by decide) rfl (fun ls hl => ?_)
              refine lv_goto (pc := 188) (tgt := 103) hx hb dX7_driven_188 (by decide) ?_
              exact ih (v103_3 + 1) o103_0 _ (lv_sub hl [1, 2, 3, 0] rfl) _ _ hP hD hS hf
            · have hf := (if_neg c4).symm.trans hf
              refine lv_aload_n (pc := 145) hx hb dX7_driven_145 rfl (lv_at hl 0 rfl) ?_
              refine va_get (pc := 146) (D := Z.1) (ci := 7) (v := .ref (a0 33)) (C := RX7) (T := TX7) (N := 41) hx hb hts u7 hown hK hP 0 rfl rfl 32 (by decide) w6 (fun _ h9 => h9) rfl dX7_driven_146 ?_
              refine lv_iload_n (pc := 149) hx hb dX7_driven_149 rfl (lv_at hl 3 rfl) ?_
              refine lv_aload_n (pc := 150) hx hb dX7_driven_150 rfl (lv_at hl 0 rfl) ?_
              refine va_get (pc := 151) (D := Z.1) (ci := 7) (v := .ref (a0 34)) (C := RX7) (T := TX7) (N := 41) hx hb hts u7 hown hK hP 0 rfl rfl 33 (by decide) w3 (fun _ h9 => h9) rfl dX7_driven_151 ?_
              refine lv_iload_n (pc := 154) hx hb dX7_driven_154 rfl (lv_at hl 2 rfl) ?_
              obtain ⟨g155, hf⟩ := gd hf
              refine va_lald (pc := 155) (D := Z.1) (n := 6) (f := o103_0.2 33) hx hb hK hP 29 1 rfl rfl (inb_in g155) dX7_driven_155 ?_
              refine lv_aload_n (pc := 156) hx hb dX7_driven_156 rfl (lv_at hl 0 rfl) ?_
              refine va_get (pc := 157) (D := Z.1) (ci := 7) (v := .ref (a0 27)) (C := RX7) (T := TX7) (N := 41) hx hb hts u7 hown hK hP 0 rfl rfl 26 (by decide) w7 (fun _ h9 => h9) rfl dX7_driven_157 ?_
              refine lv_iload_n (pc := 160) hx hb dX7_driven_160 rfl (lv_at hl 3 rfl) ?_
              obtain ⟨g161, hf⟩ := gd hf
              refine va_iald (pc := 161) (D := Z.1) (n := 6) (f := o103_0.1 26) hx hb hK hP 22 0 rfl rfl (inb_in g161) dX7_driven_161 ?_
              refine lv_i2l (pc := 162) (v := (o103_0.1 26 (v103_3).toNatClampNeg).toInt64) hx hb dX7_driven_162 rfl ?_
              refine lv_lsub (pc := 163) hx hb dX7_driven_163 ?_
              refine lv_aload_n (pc := 164) hx hb dX7_driven_164 rfl (lv_at hl 0 rfl) ?_
              refine va_get (pc := 165) (D := Z.1) (ci := 7) (v := .ref (a0 37)) (C := RX7) (T := TX7) (N := 41) hx hb hts u7 hown hK hP 0 rfl rfl 36 (by decide) w8 (fun _ h9 => h9) rfl dX7_driven_165 ?_
              refine lv_iload_n (pc := 168) hx hb dX7_driven_168 rfl (lv_at hl 3 rfl) ?_
              obtain ⟨g169, hf⟩ := gd hf
              refine va_lald (pc := 169) (D := Z.1) (n := 6) (f := o103_0.2 36) hx hb hK hP 32 1 rfl rfl (inb_in g169) dX7_driven_169 ?_
              refine lv_lsub (pc := 170) hx hb dX7_driven_170 ?_
              refine lv_ldc2 (pc := 171) (v := 1000) hx hb hown w9 dX7_driven_171 ?_
              refine lv_lmul (pc := 174) hx hb dX7_driven_174 ?_
              refine lv_ldc2 (pc := 175) (v := (-10000000)) hx hb hown w10 dX7_driven_175 ?_
              refine lv_ldc2 (pc := 178) (v := 10000000) hx hb hown w11 dX7_driven_178 ?_
              refine ro_S (pc := 181) (As := [.long ((((o103_0.2 33 (v4_2).toNatClampNeg) - ((o103_0.1 26 (v103_3).toNatClampNeg).toInt64)) - (o103_0.2 36 (v103_3).toNatClampNeg)) * 1000), .long (-10000000), .long 10000000]) (rest := [.int v103_3, .ref (a0 33)]) (st1 := [.long (f_X7_held ((((o103_0.2 33 (v4_2).toNatClampNeg) - ((o103_0.1 26 (v103_3).toNatClampNeg).toInt64)) - (o103_0.2 36 (v103_3).toNatClampNeg)) * 1000) (-10000000) 10000000), .int v103_3, .ref (a0 33)]) ⟨hx, hb, hml, hown, hts⟩ (c_X7_held Z l ((((o103_0.2 33 (v4_2).toNatClampNeg) - ((o103_0.1 26 (v103_3).toNatClampNeg).toInt64)) - (o103_0.2 36 (v103_3).toNatClampNeg)) * 1000) (-10000000) 10000000 _ rfl) (va_cwS 3 hts gX7_driven_X7_held rfl rfl rfl hs_X7_held ⟨Nat.le_of_ble_eq_true rfl, Nat.le_of_ble_eq_true rfl⟩) hK hE (hP.sub (ws' := []) [] rfl) rfl hl.1 rfl (lv_room (Nat.le_of_ble_eq_true rfl)) dX7_driven_181 ⟨Nat.le_of_ble_eq_true rfl, Nat.le_of_ble_eq_true rfl⟩ rfl ?_
              obtain ⟨g184, hf⟩ := gd hf
              refine va_last (pc := 184) (D := Z.1) (n := 6) (f := o103_0.2 32) hx hb hK hP hD hS 28 1 rfl rfl (inb_in g184) dX7_driven_184 (fun H locs hP hD hS => ?_)
              obtain ⟨s184, h_184, hf⟩ := bd hf
              have hP : va_P Z.1 vwCl (wX7 Z a0 s184) H := st_P (f := fun z => wX7 Z a0 z) h_184 hP
              have hD : va_D A (wX7 Z a0 s184) := st_D (f := fun z => wX7 Z a0 z) h_184 hD
              refine lv_iinc (pc := 185) (v := v103_3 + 1) (lv' := [(3, .int (v103_3 + 1)), (0, .ref (a0 0)), (1, .int x1), (2, .int v4_2)]) hx hb dX7_driven_185 hl (k := 3) rfl rfl (by decide) rfl (fun ls hl => ?_)
              refine lv_goto (pc := 188) (tgt := 103) hx hb dX7_driven_188 (by decide) ?_
              exact ih (v103_3 + 1) s184 _ (lv_sub hl [1, 2, 3, 0] rfl) _ _ hP hD hS hf
  have B71 : ∀ (v4_3 : Int32) (v4_2 : Int32) (k : Int32 → Int32 → Option (ObS)) (hk : ∀ (v4_3 : Int32) (v4_2 : Int32) (ls : Array Slot), lv_has ls 5 [(0, .ref (a0 0)), (1, .int x1), (2, .int v4_2), (3, .int v4_3)] → ∀ (H : Heap) (locs : List Loc), va_P Z.1 vwCl (wX7 Z a0 o0) H → va_D A (wX7 Z a0 o0) → va_S A s.heap H locs → k v4_3 v4_2 = some R → W p l e { frames := 1, cells := 0, slots := 0, locals := 25 } s m ([.ref (a0 0), .int x1] : List Value).toArray below meth c H locs 0 0 (MQ below (rwQ Z none (fun _ => wX7 Z a0 R) A) ([.ref (a0 0), .int x1] : List Value).toArray s 0 0 A) (F0 m 4 ls [])), ∀ (ls : Array Slot), lv_has ls 5 [(0, .ref (a0 0)), (1, .int x1), (2, .int v4_2), (3, .int v4_3)] → ∀ (H : Heap) (locs : List Loc), va_P Z.1 vwCl (wX7 Z a0 o0) H → va_D A (wX7 Z a0 o0) → va_S A s.heap H locs → f_X7_driven_b71 k v4_3 = some R → W p l e { frames := 1, cells := 0, slots := 0, locals := 25 } s m ([.ref (a0 0), .int x1] : List Value).toArray below meth c H locs 0 0 (MQ below (rwQ Z none (fun _ => wX7 Z a0 R) A) ([.ref (a0 0), .int x1] : List Value).toArray s 0 0 A) (F0 m 71 ls []) := by
    intro v4_3 v4_2 k hk ls hl H locs hP hD hS hf
    rw [f_X7_driven_b71] at hf
    refine lv_iconst (pc := 71) (v := 1) hx hb dX7_driven_71 (by decide) ?_
    refine lv_goto (pc := 72) (tgt := 76) hx hb dX7_driven_72 (by decide) ?_
    refine lv_istore (pc := 76) (lv' := [(4, .int 1), (0, .ref (a0 0)), (1, .int x1), (2, .int v4_2), (3, .int v4_3)]) hx hb dX7_driven_76 hl (by decide) rfl (fun ls hl => ?_)
    refine lv_iload (pc := 78) hx hb dX7_driven_78 (lv_at hl 0 rfl) ?_
    refine lv_if_eq (pc := 80) (tgt := 87) hx hb dX7_driven_80 (by decide) (fun c1 => ?_) (fun c1 => ?_)
    · exact absurd c1 (by decide)
    · refine lv_iload_n (pc := 83) hx hb dX7_driven_83 rfl (lv_at hl 4 rfl) ?_
      refine lv_goto (pc := 84) (tgt := 88) hx hb dX7_driven_84 (by decide) ?_
      refine lv_istore_n (pc := 88) (lv' := [(2, .int v4_3), (4, .int 1), (0, .ref (a0 0)), (1, .int x1), (3, .int v4_3)]) hx hb dX7_driven_88 rfl hl (by decide) rfl (fun ls hl => ?_)
      refine lv_iinc (pc := 89) (v := v4_3 + 1) (lv' := [(3, .int (v4_3 + 1)), (2, .int v4_3), (4, .int 1), (0, .ref (a0 0)), (1, .int x1)]) hx hb dX7_driven_89 hl (k := 4) rfl rfl (by decide) rfl (fun ls hl => ?_)
      refine lv_goto (pc := 92) (tgt := 4) hx hb dX7_driven_92 (by decide) ?_
      exact hk (v4_3 + 1) v4_3 _ (lv_sub hl [3, 4, 1, 0] rfl) _ _ hP hD hS hf
  have B4 : ∀ (n : Nat), ∀ (v4_3 : Int32) (v4_2 : Int32) (ls : Array Slot), lv_has ls 5 [(0, .ref (a0 0)), (1, .int x1), (2, .int v4_2), (3, .int v4_3)] → ∀ (H : Heap) (locs : List Loc), va_P Z.1 vwCl (wX7 Z a0 o0) H → va_D A (wX7 Z a0 o0) → va_S A s.heap H locs → f_X7_driven_b4 o0 x1 n v4_3 v4_2 = some R → W p l e { frames := 1, cells := 0, slots := 0, locals := 25 } s m ([.ref (a0 0), .int x1] : List Value).toArray below meth c H locs 0 0 (MQ below (rwQ Z none (fun _ => wX7 Z a0 R) A) ([.ref (a0 0), .int x1] : List Value).toArray s 0 0 A) (F0 m 4 ls []) := by
    intro n
    induction n with
    | zero => intro v4_3 v4_2 ls hl H locs hP hD hS hf; rw [f_X7_driven_b4] at hf; exact nomatch hf
    | succ n ih =>
      intro v4_3 v4_2 ls hl H locs hP hD hS hf
      rw [f_X7_driven_b4] at hf
      refine lv_iload_n (pc := 4) hx hb dX7_driven_4 rfl (lv_at hl 3 rfl) ?_
      refine lv_aload_n (pc := 5) hx hb dX7_driven_5 rfl (lv_at hl 0 rfl) ?_
      refine va_get (pc := 6) (D := Z.1) (ci := 7) (v := .int (o0.1 22 0)) (C := RX7) (T := TX7) (N := 41) hx hb hts u7 hown hK hP 0 rfl rfl 22 (by decide) w0 (fun _ h9 => h9) rfl dX7_driven_6 ?_
      refine lv_icmp_ge (pc := 9) (tgt := 95) hx hb dX7_driven_9 (by decide) (fun c1 => ?_) (fun c1 => ?_)
      · have hf := (if_pos c1).symm.trans hf
        refine lv_iload_n (pc := 95) hx hb dX7_driven_95 rfl (lv_at hl 2 rfl) ?_
        refine lv_iconst (pc := 96) (v := (-1)) hx hb dX7_driven_96 (by decide) ?_
        refine lv_icmp_ne (pc := 97) (tgt := 101) hx hb dX7_driven_97 (by decide) (fun c2 => ?_) (fun c2 => ?_)
        · have hf := (if_neg c2).symm.trans hf
          refine lv_iconst (pc := 101) (v := 0) hx hb dX7_driven_101 (by decide) ?_
          refine lv_istore_n (pc := 102) (lv' := [(3, .int 0), (0, .ref (a0 0)), (1, .int x1), (2, .int v4_2)]) hx hb dX7_driven_102 rfl hl (by decide) rfl (fun ls hl => ?_)
          exact B103 v4_2 64 0 o0 _ (lv_sub hl [1, 2, 3, 0] rfl) _ _ hP hD hS hf
        · have hf := (if_pos c2).symm.trans hf
          have hf := (Option.some.inj hf)
          subst hf
          exact rw_v (fun _ => 0) hx hb hr hlk hP hD hS dX7_driven_100
      · have hf := (if_neg c1).symm.trans hf
        refine lv_aload_n (pc := 12) hx hb dX7_driven_12 rfl (lv_at hl 0 rfl) ?_
        refine va_get (pc := 13) (D := Z.1) (ci := 7) (v := .ref (a0 28)) (C := RX7) (T := TX7) (N := 41) hx hb hts u7 hown hK hP 0 rfl rfl 27 (by decide) w1 (fun _ h9 => h9) rfl dX7_driven_13 ?_
        refine lv_iload_n (pc := 16) hx hb dX7_driven_16 rfl (lv_at hl 3 rfl) ?_
        obtain ⟨g17, hf⟩ := gd hf
        refine va_iald (pc := 17) (D := Z.1) (n := 6) (f := o0.1 27) hx hb hK hP 23 0 rfl rfl (inb_in g17) dX7_driven_17 ?_
        refine lv_iload_n (pc := 18) hx hb dX7_driven_18 rfl (lv_at hl 1 rfl) ?_
        refine lv_icmp_ne (pc := 19) (tgt := 75) hx hb dX7_driven_19 (by decide) (fun c3 => ?_) (fun c3 => ?_)
        · have hf := (if_neg c3).symm.trans hf
          refine lv_iconst (pc := 75) (v := 0) hx hb dX7_driven_75 (by decide) ?_
          refine lv_istore (pc := 76) (lv' := [(4, .int 0), (0, .ref (a0 0)), (1, .int x1), (2, .int v4_2), (3, .int v4_3)]) hx hb dX7_driven_76 hl (by decide) rfl (fun ls hl => ?_)
          refine lv_iload (pc := 78) hx hb dX7_driven_78 (lv_at hl 0 rfl) ?_
          refine lv_if_eq (pc := 80) (tgt := 87) hx hb dX7_driven_80 (by decide) (fun c4 => ?_) (fun c4 => ?_)
          · refine lv_iload_n (pc := 87) hx hb dX7_driven_87 rfl (lv_at hl 3 rfl) ?_
            refine lv_istore_n (pc := 88) (lv' := [(2, .int v4_2), (4, .int 0), (0, .ref (a0 0)), (1, .int x1), (3, .int v4_3)]) hx hb dX7_driven_88 rfl hl (by decide) rfl (fun ls hl => ?_)
            refine lv_iinc (pc := 89) (v := v4_3 + 1) (lv' := [(3, .int (v4_3 + 1)), (2, .int v4_2), (4, .int 0), (0, .ref (a0 0)), (1, .int x1)]) hx hb dX7_driven_89 hl (k := 4) rfl rfl (by decide) rfl (fun ls hl => ?_)
            refine lv_goto (pc := 92) (tgt := 4) hx hb dX7_driven_92 (by decide) ?_
            exact ih (v4_3 + 1) v4_2 _ (lv_sub hl [3, 4, 1, 0] rfl) _ _ hP hD hS hf
          · exact absurd c4 (by decide)
        · have hf := (if_pos c3).symm.trans hf
          refine lv_iload_n (pc := 22) hx hb dX7_driven_22 rfl (lv_at hl 2 rfl) ?_
          refine lv_iconst (pc := 23) (v := (-1)) hx hb dX7_driven_23 (by decide) ?_
          refine lv_icmp_eq (pc := 24) (tgt := 71) hx hb dX7_driven_24 (by decide) (fun c5 => ?_) (fun c5 => ?_)
          · have hf := (if_pos c5).symm.trans hf
            exact B71 v4_3 v4_2 (f_X7_driven_b4 o0 x1 n) ih _ (lv_sub hl [0, 1, 2, 3] rfl) _ _ hP hD hS hf
          · have hf := (if_neg c5).symm.trans hf
            refine lv_aload_n (pc := 27) hx hb dX7_driven_27 rfl (lv_at hl 0 rfl) ?_
            refine va_get (pc := 28) (D := Z.1) (ci := 7) (v := .ref (a0 10)) (C := RX7) (T := TX7) (N := 41) hx hb hts u7 hown hK hP 0 rfl rfl 9 (by decide) w2 (fun _ h9 => h9) rfl dX7_driven_28 ?_
            refine lv_iload_n (pc := 31) hx hb dX7_driven_31 rfl (lv_at hl 1 rfl) ?_
            obtain ⟨g32, hf⟩ := gd hf
            refine va_zald (pc := 32) (D := Z.1) (n := 12) (f := o0.1 9) hx hb hK hP 7 2 rfl rfl (inb_in g32) dX7_driven_32 ?_
            refine lv_if_eq (pc := 33) (tgt := 55) hx hb dX7_driven_33 (by decide) (fun c6 => ?_) (fun c6 => ?_)
            · have hf := (if_pos c6).symm.trans hf
              refine lv_aload_n (pc := 55) hx hb dX7_driven_55 rfl (lv_at hl 0 rfl) ?_
              refine va_get (pc := 56) (D := Z.1) (ci := 7) (v := .ref (a0 34)) (C := RX7) (T := TX7) (N := 41) hx hb hts u7 hown hK hP 0 rfl rfl 33 (by decide) w3 (fun _ h9 => h9) rfl dX7_driven_56 ?_
              refine lv_iload_n (pc := 59) hx hb dX7_driven_59 rfl (lv_at hl 3 rfl) ?_
              obtain ⟨g60, hf⟩ := gd hf
              refine va_lald (pc := 60) (D := Z.1) (n := 6) (f := o0.2 33) hx hb hK hP 29 1 rfl rfl (inb_in g60) dX7_driven_60 ?_
              refine lv_aload_n (pc := 61) hx hb dX7_driven_61 rfl (lv_at hl 0 rfl) ?_
              refine va_get (pc := 62) (D := Z.1) (ci := 7) (v := .ref (a0 34)) (C := RX7) (T := TX7) (N := 41) hx hb hts u7 hown hK hP 0 rfl rfl 33 (by decide) w3 (fun _ h9 => h9) rfl dX7_driven_62 ?_
              refine lv_iload_n (pc := 65) hx hb dX7_driven_65 rfl (lv_at hl 2 rfl) ?_
              obtain ⟨g66, hf⟩ := gd hf
              refine va_lald (pc := 66) (D := Z.1) (n := 6) (f := o0.2 33) hx hb hK hP 29 1 rfl rfl (inb_in g66) dX7_driven_66 ?_
              refine W.lcmp (pc := 67) hx hb dX7_driven_67 ?_
              refine lv_if_ge (pc := 68) (tgt := 75) hx hb dX7_driven_68 (by decide) (fun c7 => ?_) (fun c7 => ?_)
              · have hf := (if_pos c7).symm.trans hf
                refine lv_iconst (pc := 75) (v := 0) hx hb dX7_driven_75 (by decide) ?_
                refine lv_istore (pc := 76) (lv' := [(4, .int 0), (0, .ref (a0 0)), (1, .int x1), (2, .int v4_2), (3, .int v4_3)]) hx hb dX7_driven_76 hl (by decide) rfl (fun ls hl => ?_)
                refine lv_iload (pc := 78) hx hb dX7_driven_78 (lv_at hl 0 rfl) ?_
                refine lv_if_eq (pc := 80) (tgt := 87) hx hb dX7_driven_80 (by decide) (fun c8 => ?_) (fun c8 => ?_)
                · refine lv_iload_n (pc := 87) hx hb dX7_driven_87 rfl (lv_at hl 3 rfl) ?_
                  refine lv_istore_n (pc := 88) (lv' := [(2, .int v4_2), (4, .int 0), (0, .ref (a0 0)), (1, .int x1), (3, .int v4_3)]) hx hb dX7_driven_88 rfl hl (by decide) rfl (fun ls hl => ?_)
                  refine lv_iinc (pc := 89) (v := v4_3 + 1) (lv' := [(3, .int (v4_3 + 1)), (2, .int v4_2), (4, .int 0), (0, .ref (a0 0)), (1, .int x1)]) hx hb dX7_driven_89 hl (k := 4) rfl rfl (by decide) rfl (fun ls hl => ?_)
                  refine lv_goto (pc := 92) (tgt := 4) hx hb dX7_driven_92 (by decide) ?_
                  exact ih (v4_3 + 1) v4_2 _ (lv_sub hl [3, 4, 1, 0] rfl) _ _ hP hD hS hf
                · exact absurd c8 (by decide)
              · have hf := (if_neg c7).symm.trans hf
                exact B71 v4_3 v4_2 (f_X7_driven_b4 o0 x1 n) ih _ (lv_sub hl [0, 1, 2, 3] rfl) _ _ hP hD hS hf
            · have hf := (if_neg c6).symm.trans hf
              refine lv_aload_n (pc := 36) hx hb dX7_driven_36 rfl (lv_at hl 0 rfl) ?_
              refine va_get (pc := 37) (D := Z.1) (ci := 7) (v := .ref (a0 34)) (C := RX7) (T := TX7) (N := 41) hx hb hts u7 hown hK hP 0 rfl rfl 33 (by decide) w3 (fun _ h9 => h9) rfl dX7_driven_37 ?_
              refine lv_iload_n (pc := 40) hx hb dX7_driven_40 rfl (lv_at hl 3 rfl) ?_
              obtain ⟨g41, hf⟩ := gd hf
              refine va_lald (pc := 41) (D := Z.1) (n := 6) (f := o0.2 33) hx hb hK hP 29 1 rfl rfl (inb_in g41) dX7_driven_41 ?_
              refine lv_aload_n (pc := 42) hx hb dX7_driven_42 rfl (lv_at hl 0 rfl) ?_
              refine va_get (pc := 43) (D := Z.1) (ci := 7) (v := .ref (a0 34)) (C := RX7) (T := TX7) (N := 41) hx hb hts u7 hown hK hP 0 rfl rfl 33 (by decide) w3 (fun _ h9 => h9) rfl dX7_driven_43 ?_
              refine lv_iload_n (pc := 46) hx hb dX7_driven_46 rfl (lv_at hl 2 rfl) ?_
              obtain ⟨g47, hf⟩ := gd hf
              refine va_lald (pc := 47) (D := Z.1) (n := 6) (f := o0.2 33) hx hb hK hP 29 1 rfl rfl (inb_in g47) dX7_driven_47 ?_
              refine W.lcmp (pc := 48) hx hb dX7_driven_48 ?_
              refine lv_if_le (pc := 49) (tgt := 75) hx hb dX7_driven_49 (by decide) (fun c9 => ?_) (fun c9 => ?_)
              · have hf := (if_pos c9).symm.trans hf
                refine lv_iconst (pc := 75) (v := 0) hx hb dX7_driven_75 (by decide) ?_
                refine lv_istore (pc := 76) (lv' := [(4, .int 0), (0, .ref (a0 0)), (1, .int x1), (2, .int v4_2), (3, .int v4_3)]) hx hb dX7_driven_76 hl (by decide) rfl (fun ls hl => ?_)
                refine lv_iload (pc := 78) hx hb dX7_driven_78 (lv_at hl 0 rfl) ?_
                refine lv_if_eq (pc := 80) (tgt := 87) hx hb dX7_driven_80 (by decide) (fun c10 => ?_) (fun c10 => ?_)
                · refine lv_iload_n (pc := 87) hx hb dX7_driven_87 rfl (lv_at hl 3 rfl) ?_
                  refine lv_istore_n (pc := 88) (lv' := [(2, .int v4_2), (4, .int 0), (0, .ref (a0 0)), (1, .int x1), (3, .int v4_3)]) hx hb dX7_driven_88 rfl hl (by decide) rfl (fun ls hl => ?_)
                  refine lv_iinc (pc := 89) (v := v4_3 + 1) (lv' := [(3, .int (v4_3 + 1)), (2, .int v4_2), (4, .int 0), (0, .ref (a0 0)), (1, .int x1)]) hx hb dX7_driven_89 hl (k := 4) rfl rfl (by decide) rfl (fun ls hl => ?_)
                  refine lv_goto (pc := 92) (tgt := 4) hx hb dX7_driven_92 (by decide) ?_
                  exact ih (v4_3 + 1) v4_2 _ (lv_sub hl [3, 4, 1, 0] rfl) _ _ hP hD hS hf
                · exact absurd c10 (by decide)
              · have hf := (if_neg c9).symm.trans hf
                refine lv_goto (pc := 52) (tgt := 71) hx hb dX7_driven_52 (by decide) ?_
                exact B71 v4_3 v4_2 (f_X7_driven_b4 o0 x1 n) ih _ (lv_sub hl [0, 1, 2, 3] rfl) _ _ hP hD hS hf
  rw [f_X7_driven] at hf
  refine lv_iconst (pc := 0) (v := (-1)) hx hb dX7_driven_0 (by decide) ?_
  refine lv_istore_n (pc := 1) (lv' := [(2, .int (-1)), (0, .ref (a0 0)), (1, .int x1)]) hx hb dX7_driven_1 rfl hl (by decide) rfl (fun ls hl => ?_)
  refine lv_iconst (pc := 2) (v := 0) hx hb dX7_driven_2 (by decide) ?_
  refine lv_istore_n (pc := 3) (lv' := [(3, .int 0), (2, .int (-1)), (0, .ref (a0 0)), (1, .int x1)]) hx hb dX7_driven_3 rfl hl (by decide) rfl (fun ls hl => ?_)
  exact B4 64 0 (-1) _ (lv_sub hl [2, 3, 1, 0] rfl) _ _ hP hD hS hf
def f_X7_takenFlow (o0 : ObS) (x1 : Int32) (x2 : Int32) : Option (Int64) :=
  if x1 ≤ (x2 / 2) then
    if inb x2 24 then
    some (o0.2 12 (x2).toNatClampNeg)
    else none
  else
    if inb x2 24 then
    some (o0.2 10 (x2).toNatClampNeg)
    else none
set_option maxHeartbeats 4000000 in
set_option maxRecDepth 100000 in
theorem c_X7_takenFlow (Z : EnvT) (l : Launch) (a0 : Nat → Nat) (o0 : ObS) (x1 : Int32) (x2 : Int32) (R : Int64) (hf : f_X7_takenFlow o0 x1 x2 = some R) : RO Z l yX7_takenFlow wsX7_takenFlow { frames := 0, cells := 0, slots := 0, locals := 0 } [.ref (a0 0), .int x1, .int x2] (wX7 Z a0 o0) (some (.long R)) := by
  refine ro_of (cc := cX7_takenFlow) (maxL := 3) (ret := (some .long)) (by decide) rfl (Nat.le_of_ble_eq_true rfl) ?_
  intro p e s m below meth c ls hx hb hr hml hts hown hlk hP hK hE hl
  have hown : s.vm.findClass RX7 = some m.cls := hown
  have hl : lv_has ls 3 [(0, .ref (a0 0)), (1, .int x1), (2, .int x2)] := hl
  have w0 := hts (.fieldLink RX7 39 "HeatTrainModel" "oldFlows" "[J") (by decide +kernel)
  have w1 := hts (.fieldLink RX7 32 "HeatTrainModel" "flows" "[J") (by decide +kernel)
  have u7 : ∀ w ∈ wsX70, w ∈ wsX7_takenFlow := by decide +kernel
  rw [f_X7_takenFlow] at hf
  refine lv_iload_n (pc := 0) hx hb dX7_takenFlow_0 rfl (lv_at hl 2 rfl) ?_
  refine lv_iconst (pc := 1) (v := 2) hx hb dX7_takenFlow_1 (by decide) ?_
  refine lv_idiv (pc := 2) hx hb dX7_takenFlow_2 (by decide) ?_
  refine lv_iload_n (pc := 3) hx hb dX7_takenFlow_3 rfl (lv_at hl 1 rfl) ?_
  refine lv_icmp_ge (pc := 4) (tgt := 16) hx hb dX7_takenFlow_4 (by decide) (fun c1 => ?_) (fun c1 => ?_)
  · have hf := (if_pos c1).symm.trans hf
    refine lv_aload_n (pc := 16) hx hb dX7_takenFlow_16 rfl (lv_at hl 0 rfl) ?_
    refine va_get (pc := 17) (D := Z.1) (ci := 7) (v := .ref (a0 13)) (C := RX7) (T := TX7) (N := 41) hx hb hts u7 hown hK hP 0 rfl rfl 12 (by decide) w0 (fun _ h9 => h9) rfl dX7_takenFlow_17 ?_
    refine lv_iload_n (pc := 20) hx hb dX7_takenFlow_20 rfl (lv_at hl 2 rfl) ?_
    obtain ⟨g21, hf⟩ := gd hf
    refine va_lald (pc := 21) (D := Z.1) (n := 24) (f := o0.2 12) hx hb hK hP 10 1 rfl rfl (inb_in g21) dX7_takenFlow_21 ?_
    exact ro_l hx hb hr hlk (Option.some.inj hf) dX7_takenFlow_22
  · have hf := (if_neg c1).symm.trans hf
    refine lv_aload_n (pc := 7) hx hb dX7_takenFlow_7 rfl (lv_at hl 0 rfl) ?_
    refine va_get (pc := 8) (D := Z.1) (ci := 7) (v := .ref (a0 11)) (C := RX7) (T := TX7) (N := 41) hx hb hts u7 hown hK hP 0 rfl rfl 10 (by decide) w1 (fun _ h9 => h9) rfl dX7_takenFlow_8 ?_
    refine lv_iload_n (pc := 11) hx hb dX7_takenFlow_11 rfl (lv_at hl 2 rfl) ?_
    obtain ⟨g12, hf⟩ := gd hf
    refine va_lald (pc := 12) (D := Z.1) (n := 24) (f := o0.2 10) hx hb hK hP 8 1 rfl rfl (inb_in g12) dX7_takenFlow_12 ?_
    refine lv_goto (pc := 13) (tgt := 22) hx hb dX7_takenFlow_13 (by decide) ?_
    exact ro_l hx hb hr hlk (Option.some.inj hf) dX7_takenFlow_22
def f_X7_takenHeat (o0 : ObS) (x1 : Int32) (x2 : Int32) : Option (Int64) :=
  if x1 ≤ (x2 / 2) then
    if inb x2 24 then
    some (o0.2 13 (x2).toNatClampNeg)
    else none
  else
    if inb x2 24 then
    some (o0.2 11 (x2).toNatClampNeg)
    else none
set_option maxHeartbeats 4000000 in
set_option maxRecDepth 100000 in
theorem c_X7_takenHeat (Z : EnvT) (l : Launch) (a0 : Nat → Nat) (o0 : ObS) (x1 : Int32) (x2 : Int32) (R : Int64) (hf : f_X7_takenHeat o0 x1 x2 = some R) : RO Z l yX7_takenHeat wsX7_takenHeat { frames := 0, cells := 0, slots := 0, locals := 0 } [.ref (a0 0), .int x1, .int x2] (wX7 Z a0 o0) (some (.long R)) := by
  refine ro_of (cc := cX7_takenHeat) (maxL := 3) (ret := (some .long)) (by decide) rfl (Nat.le_of_ble_eq_true rfl) ?_
  intro p e s m below meth c ls hx hb hr hml hts hown hlk hP hK hE hl
  have hown : s.vm.findClass RX7 = some m.cls := hown
  have hl : lv_has ls 3 [(0, .ref (a0 0)), (1, .int x1), (2, .int x2)] := hl
  have w0 := hts (.fieldLink RX7 42 "HeatTrainModel" "oldHeats" "[J") (by decide +kernel)
  have w1 := hts (.fieldLink RX7 36 "HeatTrainModel" "heats" "[J") (by decide +kernel)
  have u7 : ∀ w ∈ wsX70, w ∈ wsX7_takenHeat := by decide +kernel
  rw [f_X7_takenHeat] at hf
  refine lv_iload_n (pc := 0) hx hb dX7_takenHeat_0 rfl (lv_at hl 2 rfl) ?_
  refine lv_iconst (pc := 1) (v := 2) hx hb dX7_takenHeat_1 (by decide) ?_
  refine lv_idiv (pc := 2) hx hb dX7_takenHeat_2 (by decide) ?_
  refine lv_iload_n (pc := 3) hx hb dX7_takenHeat_3 rfl (lv_at hl 1 rfl) ?_
  refine lv_icmp_ge (pc := 4) (tgt := 16) hx hb dX7_takenHeat_4 (by decide) (fun c1 => ?_) (fun c1 => ?_)
  · have hf := (if_pos c1).symm.trans hf
    refine lv_aload_n (pc := 16) hx hb dX7_takenHeat_16 rfl (lv_at hl 0 rfl) ?_
    refine va_get (pc := 17) (D := Z.1) (ci := 7) (v := .ref (a0 14)) (C := RX7) (T := TX7) (N := 41) hx hb hts u7 hown hK hP 0 rfl rfl 13 (by decide) w0 (fun _ h9 => h9) rfl dX7_takenHeat_17 ?_
    refine lv_iload_n (pc := 20) hx hb dX7_takenHeat_20 rfl (lv_at hl 2 rfl) ?_
    obtain ⟨g21, hf⟩ := gd hf
    refine va_lald (pc := 21) (D := Z.1) (n := 24) (f := o0.2 13) hx hb hK hP 11 1 rfl rfl (inb_in g21) dX7_takenHeat_21 ?_
    exact ro_l hx hb hr hlk (Option.some.inj hf) dX7_takenHeat_22
  · have hf := (if_neg c1).symm.trans hf
    refine lv_aload_n (pc := 7) hx hb dX7_takenHeat_7 rfl (lv_at hl 0 rfl) ?_
    refine va_get (pc := 8) (D := Z.1) (ci := 7) (v := .ref (a0 12)) (C := RX7) (T := TX7) (N := 41) hx hb hts u7 hown hK hP 0 rfl rfl 11 (by decide) w1 (fun _ h9 => h9) rfl dX7_takenHeat_8 ?_
    refine lv_iload_n (pc := 11) hx hb dX7_takenHeat_11 rfl (lv_at hl 2 rfl) ?_
    obtain ⟨g12, hf⟩ := gd hf
    refine va_lald (pc := 12) (D := Z.1) (n := 24) (f := o0.2 11) hx hb hK hP 9 1 rfl rfl (inb_in g12) dX7_takenHeat_12 ?_
    refine lv_goto (pc := 13) (tgt := 22) hx hb dX7_takenHeat_13 (by decide) ?_
    exact ro_l hx hb hr hlk (Option.some.inj hf) dX7_takenHeat_22
def f_X7_gives (o0 : ObS) (x1 : Int32) (x2 : Int64) (x3 : Int64) (x4 : Int64) (x5 : Int64) : Option (ObS) :=
  if inb (2 * x1) 24 then
  (some (oj o0 10 (2 * x1).toNatClampNeg x2)).bind fun s8 =>
  if inb (2 * x1) 24 then
  (some (oj s8 11 (2 * x1).toNatClampNeg x3)).bind fun s18 =>
  if inb ((2 * x1) + 1) 24 then
  (some (oj s18 10 ((2 * x1) + 1).toNatClampNeg x4)).bind fun s30 =>
  if inb ((2 * x1) + 1) 24 then
  (some (oj s30 11 ((2 * x1) + 1).toNatClampNeg x5)).bind fun s42 =>
  some (s42)
  else none
  else none
  else none
  else none
set_option maxHeartbeats 4000000 in
set_option maxRecDepth 100000 in
theorem c_X7_gives (Z : EnvT) (l : Launch) (a0 : Nat → Nat) (o0 : ObS) (x1 : Int32) (x2 : Int64) (x3 : Int64) (x4 : Int64) (x5 : Int64) (R : ObS) (hf : f_X7_gives o0 x1 x2 x3 x4 x5 = some R) : RW Z l yX7_gives wsX7_gives { frames := 0, cells := 0, slots := 0, locals := 0 } [.ref (a0 0), .int x1, .long x2, .long x3, .long x4, .long x5] (wX7 Z a0 o0) none (fun _ => wX7 Z a0 R) 0 0 := by
  refine rw_of (cc := cX7_gives) (maxL := 10) (ret := none) (by decide) rfl (Nat.le_of_ble_eq_true rfl) ?_
  intro p e s m below meth c A ls hx hb hr hml hts hown hlk hin hP hK hE hD hA hS hl
  have hown : s.vm.findClass RX7 = some m.cls := hown
  have hl : lv_has ls 10 [(0, .ref (a0 0)), (1, .int x1), (2, .long x2), (4, .long x3), (6, .long x4), (8, .long x5)] := hl
  have w0 := hts (.fieldLink RX7 32 "HeatTrainModel" "flows" "[J") (by decide +kernel)
  have w1 := hts (.fieldLink RX7 36 "HeatTrainModel" "heats" "[J") (by decide +kernel)
  have u7 : ∀ w ∈ wsX70, w ∈ wsX7_gives := by decide +kernel
  rw [f_X7_gives] at hf
  refine lv_aload_n (pc := 0) hx hb dX7_gives_0 rfl (lv_at hl 0 rfl) ?_
  refine va_get (pc := 1) (D := Z.1) (ci := 7) (v := .ref (a0 11)) (C := RX7) (T := TX7) (N := 41) hx hb hts u7 hown hK hP 0 rfl rfl 10 (by decide) w0 (fun _ h9 => h9) rfl dX7_gives_1 ?_
  refine lv_iconst (pc := 4) (v := 2) hx hb dX7_gives_4 (by decide) ?_
  refine lv_iload_n (pc := 5) hx hb dX7_gives_5 rfl (lv_at hl 1 rfl) ?_
  refine lv_imul (pc := 6) hx hb dX7_gives_6 ?_
  refine lv_lload_n (pc := 7) hx hb dX7_gives_7 rfl (lv_at hl 2 rfl) ?_
  obtain ⟨g8, hf⟩ := gd hf
  refine va_last (pc := 8) (D := Z.1) (n := 24) (f := o0.2 10) hx hb hK hP hD hS 8 1 rfl rfl (inb_in g8) dX7_gives_8 (fun H locs hP hD hS => ?_)
  obtain ⟨s8, h_8, hf⟩ := bd hf
  have hP : va_P Z.1 vwCl (wX7 Z a0 s8) H := st_P (f := fun z => wX7 Z a0 z) h_8 hP
  have hD : va_D A (wX7 Z a0 s8) := st_D (f := fun z => wX7 Z a0 z) h_8 hD
  refine lv_aload_n (pc := 9) hx hb dX7_gives_9 rfl (lv_at hl 0 rfl) ?_
  refine va_get (pc := 10) (D := Z.1) (ci := 7) (v := .ref (a0 12)) (C := RX7) (T := TX7) (N := 41) hx hb hts u7 hown hK hP 0 rfl rfl 11 (by decide) w1 (fun _ h9 => h9) rfl dX7_gives_10 ?_
  refine lv_iconst (pc := 13) (v := 2) hx hb dX7_gives_13 (by decide) ?_
  refine lv_iload_n (pc := 14) hx hb dX7_gives_14 rfl (lv_at hl 1 rfl) ?_
  refine lv_imul (pc := 15) hx hb dX7_gives_15 ?_
  refine lv_lload (pc := 16) hx hb dX7_gives_16 (lv_at hl 3 rfl) ?_
  obtain ⟨g18, hf⟩ := gd hf
  refine va_last (pc := 18) (D := Z.1) (n := 24) (f := s8.2 11) hx hb hK hP hD hS 9 1 rfl rfl (inb_in g18) dX7_gives_18 (fun H locs hP hD hS => ?_)
  obtain ⟨s18, h_18, hf⟩ := bd hf
  have hP : va_P Z.1 vwCl (wX7 Z a0 s18) H := st_P (f := fun z => wX7 Z a0 z) h_18 hP
  have hD : va_D A (wX7 Z a0 s18) := st_D (f := fun z => wX7 Z a0 z) h_18 hD
  refine lv_aload_n (pc := 19) hx hb dX7_gives_19 rfl (lv_at hl 0 rfl) ?_
  refine va_get (pc := 20) (D := Z.1) (ci := 7) (v := .ref (a0 11)) (C := RX7) (T := TX7) (N := 41) hx hb hts u7 hown hK hP 0 rfl rfl 10 (by decide) w0 (fun _ h9 => h9) rfl dX7_gives_20 ?_
  refine lv_iconst (pc := 23) (v := 2) hx hb dX7_gives_23 (by decide) ?_
  refine lv_iload_n (pc := 24) hx hb dX7_gives_24 rfl (lv_at hl 1 rfl) ?_
  refine lv_imul (pc := 25) hx hb dX7_gives_25 ?_
  refine lv_iconst (pc := 26) (v := 1) hx hb dX7_gives_26 (by decide) ?_
  refine lv_iadd (pc := 27) hx hb dX7_gives_27 ?_
  refine lv_lload (pc := 28) hx hb dX7_gives_28 (lv_at hl 4 rfl) ?_
  obtain ⟨g30, hf⟩ := gd hf
  refine va_last (pc := 30) (D := Z.1) (n := 24) (f := s18.2 10) hx hb hK hP hD hS 8 1 rfl rfl (inb_in g30) dX7_gives_30 (fun H locs hP hD hS => ?_)
  obtain ⟨s30, h_30, hf⟩ := bd hf
  have hP : va_P Z.1 vwCl (wX7 Z a0 s30) H := st_P (f := fun z => wX7 Z a0 z) h_30 hP
  have hD : va_D A (wX7 Z a0 s30) := st_D (f := fun z => wX7 Z a0 z) h_30 hD
  refine lv_aload_n (pc := 31) hx hb dX7_gives_31 rfl (lv_at hl 0 rfl) ?_
  refine va_get (pc := 32) (D := Z.1) (ci := 7) (v := .ref (a0 12)) (C := RX7) (T := TX7) (N := 41) hx hb hts u7 hown hK hP 0 rfl rfl 11 (by decide) w1 (fun _ h9 => h9) rfl dX7_gives_32 ?_
  refine lv_iconst (pc := 35) (v := 2) hx hb dX7_gives_35 (by decide) ?_
  refine lv_iload_n (pc := 36) hx hb dX7_gives_36 rfl (lv_at hl 1 rfl) ?_
  refine lv_imul (pc := 37) hx hb dX7_gives_37 ?_
  refine lv_iconst (pc := 38) (v := 1) hx hb dX7_gives_38 (by decide) ?_
  refine lv_iadd (pc := 39) hx hb dX7_gives_39 ?_
  refine lv_lload (pc := 40) hx hb dX7_gives_40 (lv_at hl 5 rfl) ?_
  obtain ⟨g42, hf⟩ := gd hf
  refine va_last (pc := 42) (D := Z.1) (n := 24) (f := s30.2 11) hx hb hK hP hD hS 9 1 rfl rfl (inb_in g42) dX7_gives_42 (fun H locs hP hD hS => ?_)
  obtain ⟨s42, h_42, hf⟩ := bd hf
  have hP : va_P Z.1 vwCl (wX7 Z a0 s42) H := st_P (f := fun z => wX7 Z a0 z) h_42 hP
  have hD : va_D A (wX7 Z a0 s42) := st_D (f := fun z => wX7 Z a0 z) h_42 hD
  have hf := (Option.some.inj hf)
  subst hf
  exact rw_v (fun _ => 0) hx hb hr hlk hP hD hS dX7_gives_43
