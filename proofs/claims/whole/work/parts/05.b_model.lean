def f_X7_unit_b152 (o0 : ObS) (x1 : Int32) (x2 : Int32) (x3 : Int32) (x4 : Int32) (k152_0 : Int32) : Option (Int32 × ObS) :=
  (f_X7_holds o0 k152_0).bind fun r152 =>
  if r152.1 = (0 : Int32) then
    some ((0 : Int32), r152.2)
  else
    if (f_X7_takesTwo x1) = (0 : Int32) then
      (f_X7_makes r152.2 x1 x2 (-1) x4 0).bind fun r176 =>
      some (r176.1, r176.2)
    else
      (f_X7_makes r152.2 x1 x2 x3 x4 0).bind fun r176 =>
      some (r176.1, r176.2)
def f_X7_unit_b147 (o0 : ObS) (x1 : Int32) (x2 : Int32) (x3 : Int32) (x4 : Int32)  : Option (Int32 × ObS) :=
  f_X7_unit_b152 o0 x1 x2 x3 x4 3
def f_X7_unit_b105 (o0 : ObS) (x1 : Int32) (x2 : Int32) (x3 : Int32) (x4 : Int32) (k54_0 : Int32) (k105_0 : Int32) : Option (Int32 × ObS) :=
  if (f_X7_in x1 1 4) = (0 : Int32) then
    f_X7_unit_b152 o0 x1 x2 x3 x4 1
  else
    if k54_0 = (0 : Int32) then
      f_X7_unit_b152 o0 x1 x2 x3 x4 2
    else
      if k105_0 = (0 : Int32) then
        if (o0.1 2 0) = 12 then
          f_X7_unit_b147 o0 x1 x2 x3 x4
        else
          if (o0.1 1 0) ≤ (0 : Int32) then
            f_X7_unit_b152 o0 x1 x2 x3 x4 0
          else
            f_X7_unit_b147 o0 x1 x2 x3 x4
      else
        f_X7_unit_b147 o0 x1 x2 x3 x4
def f_X7_unit_b104 (o0 : ObS) (x1 : Int32) (x2 : Int32) (x3 : Int32) (x4 : Int32) (k54_0 : Int32)  : Option (Int32 × ObS) :=
  f_X7_unit_b105 o0 x1 x2 x3 x4 k54_0 0
def f_X7_unit_b100 (o0 : ObS) (x1 : Int32) (x2 : Int32) (x3 : Int32) (x4 : Int32) (k54_0 : Int32)  : Option (Int32 × ObS) :=
  f_X7_unit_b105 o0 x1 x2 x3 x4 k54_0 1
def f_X7_unit_b74 (o0 : ObS) (x1 : Int32) (x2 : Int32) (x3 : Int32) (x4 : Int32) (k54_0 : Int32)  : Option (Int32 × ObS) :=
  (f_X7_isTaken o0 x2).bind fun r76 =>
  if r76 = (0 : Int32) then
    if (f_X7_takesTwo x1) = (0 : Int32) then
      f_X7_unit_b104 o0 x1 x2 x3 x4 k54_0
    else
      (f_X7_isTaken o0 x3).bind fun r89 =>
      if r89 = (0 : Int32) then
        if x2 = x3 then
          f_X7_unit_b100 o0 x1 x2 x3 x4 k54_0
        else
          f_X7_unit_b104 o0 x1 x2 x3 x4 k54_0
      else
        f_X7_unit_b100 o0 x1 x2 x3 x4 k54_0
  else
    f_X7_unit_b100 o0 x1 x2 x3 x4 k54_0
def f_X7_unit_b54 (o0 : ObS) (x1 : Int32) (x2 : Int32) (x3 : Int32) (x4 : Int32) (k54_0 : Int32) : Option (Int32 × ObS) :=
  if x1 = 2 then
    f_X7_unit_b74 o0 x1 x2 x3 x4 k54_0
  else
    if (f_X7_in x4 0 (f_X7_mostOf x1)) = (0 : Int32) then
      f_X7_unit_b100 o0 x1 x2 x3 x4 k54_0
    else
      f_X7_unit_b74 o0 x1 x2 x3 x4 k54_0
def f_X7_unit_b53 (o0 : ObS) (x1 : Int32) (x2 : Int32) (x3 : Int32) (x4 : Int32)  : Option (Int32 × ObS) :=
  f_X7_unit_b54 o0 x1 x2 x3 x4 0
def f_X7_unit_b49 (o0 : ObS) (x1 : Int32) (x2 : Int32) (x3 : Int32) (x4 : Int32)  : Option (Int32 × ObS) :=
  f_X7_unit_b54 o0 x1 x2 x3 x4 1
def f_X7_unit (o0 : ObS) (x1 : Int32) (x2 : Int32) (x3 : Int32) (x4 : Int32) : Option (Int32 × ObS) :=
  if (f_X7_in x2 0 ((2 * (o0.1 2 0)) + 1)) = (0 : Int32) then
    f_X7_unit_b53 o0 x1 x2 x3 x4
  else
    if (f_X7_takesTwo x1) = (0 : Int32) then
      f_X7_unit_b49 o0 x1 x2 x3 x4
    else
      if (f_X7_in x3 0 ((2 * (o0.1 2 0)) + 1)) = (0 : Int32) then
        f_X7_unit_b53 o0 x1 x2 x3 x4
      else
        f_X7_unit_b49 o0 x1 x2 x3 x4
set_option maxHeartbeats 4000000 in
set_option maxRecDepth 100000 in
theorem c_X7_unit (Z : EnvT) (l : Launch) (a0 : Nat → Nat) (o0 : ObS) (x1 : Int32) (x2 : Int32) (x3 : Int32) (x4 : Int32) (R : Int32 × ObS) (hf : f_X7_unit o0 x1 x2 x3 x4 = some R) : RW Z l yX7_unit wsX7_unit { frames := 1, cells := 0, slots := 0, locals := 25 } [.ref (a0 0), .int x1, .int x2, .int x3, .int x4] (wX7 Z a0 o0) (some (.int R.1)) (fun _ => wX7 Z a0 R.2) 0 0 := by
  refine rw_of (cc := cX7_unit) (maxL := 10) (ret := (some .int)) (by decide) rfl (Nat.le_of_ble_eq_true rfl) ?_
  intro p e s m below meth c A ls hx hb hr hml hts hown hlk hin hP hK hE hD hA hS hl
  have hown : s.vm.findClass RX7 = some m.cls := hown
  have hl : lv_has ls 10 [(0, .ref (a0 0)), (1, .int x1), (2, .int x2), (3, .int x3), (4, .int x4)] := hl
  have w0 := hts (.fieldLink RX7 121 "HeatTrainModel" "units" "I") (by decide +kernel)
  have w1 := hts (.fieldLink RX7 132 "HeatTrainModel" "now" "I") (by decide +kernel)
  have u7 : ∀ w ∈ wsX70, w ∈ wsX7_unit := by decide +kernel
  have B152 : ∀ (k152_0 : Int32) (ls : Array Slot), lv_has ls 10 [(0, .ref (a0 0)), (1, .int x1), (2, .int x2), (3, .int x3), (4, .int x4), (6, .int (f_X7_takesTwo x1))] → ∀ (H : Heap) (locs : List Loc), va_P Z.1 vwCl (wX7 Z a0 o0) H → va_D A (wX7 Z a0 o0) → va_S A s.heap H locs → f_X7_unit_b152 o0 x1 x2 x3 x4 k152_0 = some R → W p l e { frames := 1, cells := 0, slots := 0, locals := 25 } s m ([.ref (a0 0), .int x1, .int x2, .int x3, .int x4] : List Value).toArray below meth c H locs 0 0 (MQ below (rwQ Z (some (.int R.1)) (fun _ => wX7 Z a0 R.2) A) ([.ref (a0 0), .int x1, .int x2, .int x3, .int x4] : List Value).toArray s 0 0 A) (F0 m 152 ls [.int k152_0, .ref (a0 0)]) := by
    intro k152_0 ls hl H locs hP hD hS hf
    rw [f_X7_unit_b152] at hf
    obtain ⟨r152, h_152, hf⟩ := bd hf
    refine rw_V (pc := 152) (C := RX7) (As := [.int k152_0]) (rest := []) (st1 := [.int r152.1]) (wn := fun _ => wX7 Z a0 r152.2) ⟨hx, hb, hml, hown, hts⟩ (c_X7_holds Z l a0 o0 k152_0 r152 h_152) (cwV 1 hts gX7_unit_X7_holds rfl rfl rfl hv_X7_holds ⟨Nat.le_of_ble_eq_true rfl, Nat.le_of_ble_eq_true rfl⟩) hK hE hP hD hS hA [0, 1, 2, 3, 4, 5, 6, 7, 8, 9, 10, 11, 12, 13, 14, 15, 16, 17, 18, 19, 20, 21, 22, 23, 24, 25, 26, 27, 28, 29, 30, 31, 32, 33, 34, 35] [] [0, 1, 2, 3, 4, 5, 6, 7, 8, 9, 10, 11, 12, 13, 14, 15, 16, 17, 18, 19, 20, 21, 22, 23, 24, 25, 26, 27, 28, 29, 30, 31, 32, 33, 34, 35] rfl rfl rfl (fun _ => rfl) 7 rfl rfl rfl hl.1 rfl (lv_room (Nat.le_of_ble_eq_true rfl)) dX7_unit_152 ⟨Nat.le_of_ble_eq_true rfl, Nat.le_of_ble_eq_true rfl⟩ rfl (fun _ H locs hP hD hS => ?_)
    refine lv_if_ne (pc := 155) (tgt := 160) hx hb dX7_unit_155 (by decide) (fun c1 => ?_) (fun c1 => ?_)
    · have hf := (if_neg c1).symm.trans hf
      refine lv_aload_n (pc := 160) hx hb dX7_unit_160 rfl (lv_at hl 0 rfl) ?_
      refine lv_iload_n (pc := 161) hx hb dX7_unit_161 rfl (lv_at hl 1 rfl) ?_
      refine lv_iload_n (pc := 162) hx hb dX7_unit_162 rfl (lv_at hl 2 rfl) ?_
      refine lv_iload (pc := 163) hx hb dX7_unit_163 (lv_at hl 5 rfl) ?_
      refine lv_if_eq (pc := 165) (tgt := 172) hx hb dX7_unit_165 (by decide) (fun c2 => ?_) (fun c2 => ?_)
      · have hf := (if_pos c2).symm.trans hf
        refine lv_iconst (pc := 172) (v := (-1)) hx hb dX7_unit_172 (by decide) ?_
        refine lv_iload (pc := 173) hx hb dX7_unit_173 (lv_at hl 4 rfl) ?_
        refine lv_iconst (pc := 175) (v := 0) hx hb dX7_unit_175 (by decide) ?_
        obtain ⟨r176, h_176, hf⟩ := bd hf
        refine rw_V (pc := 176) (C := RX7) (As := [.int x1, .int x2, .int (-1), .int x4, .int 0]) (rest := []) (st1 := [.int r176.1]) (wn := fun _ => wX7 Z a0 r176.2) ⟨hx, hb, hml, hown, hts⟩ (c_X7_makes Z l a0 r152.2 x1 x2 (-1) x4 0 r176 h_176) (cwV 5 hts gX7_unit_X7_makes rfl rfl rfl hv_X7_makes ⟨Nat.le_of_ble_eq_true rfl, Nat.le_of_ble_eq_true rfl⟩) hK hE hP hD hS hA [0, 1, 2, 3, 4, 5, 6, 7, 8, 9, 10, 11, 12, 13, 14, 15, 16, 17, 18, 19, 20, 21, 22, 23, 24, 25, 26, 27, 28, 29, 30, 31, 32, 33, 34, 35] [] [0, 1, 2, 3, 4, 5, 6, 7, 8, 9, 10, 11, 12, 13, 14, 15, 16, 17, 18, 19, 20, 21, 22, 23, 24, 25, 26, 27, 28, 29, 30, 31, 32, 33, 34, 35] rfl rfl rfl (fun _ => rfl) 7 rfl rfl rfl hl.1 rfl (lv_room (Nat.le_of_ble_eq_true rfl)) dX7_unit_176 ⟨Nat.le_of_ble_eq_true rfl, Nat.le_of_ble_eq_true rfl⟩ rfl (fun _ H locs hP hD hS => ?_)
        have hf := (Option.some.inj hf)
        subst hf
        exact rw_i (fun _ => 0) hx hb hr hlk rfl hP hD hS dX7_unit_179
      · have hf := (if_neg c2).symm.trans hf
        refine lv_iload_n (pc := 168) hx hb dX7_unit_168 rfl (lv_at hl 3 rfl) ?_
        refine lv_goto (pc := 169) (tgt := 173) hx hb dX7_unit_169 (by decide) ?_
        refine lv_iload (pc := 173) hx hb dX7_unit_173 (lv_at hl 4 rfl) ?_
        refine lv_iconst (pc := 175) (v := 0) hx hb dX7_unit_175 (by decide) ?_
        obtain ⟨r176, h_176, hf⟩ := bd hf
        refine rw_V (pc := 176) (C := RX7) (As := [.int x1, .int x2, .int x3, .int x4, .int 0]) (rest := []) (st1 := [.int r176.1]) (wn := fun _ => wX7 Z a0 r176.2) ⟨hx, hb, hml, hown, hts⟩ (c_X7_makes Z l a0 r152.2 x1 x2 x3 x4 0 r176 h_176) (cwV 5 hts gX7_unit_X7_makes rfl rfl rfl hv_X7_makes ⟨Nat.le_of_ble_eq_true rfl, Nat.le_of_ble_eq_true rfl⟩) hK hE hP hD hS hA [0, 1, 2, 3, 4, 5, 6, 7, 8, 9, 10, 11, 12, 13, 14, 15, 16, 17, 18, 19, 20, 21, 22, 23, 24, 25, 26, 27, 28, 29, 30, 31, 32, 33, 34, 35] [] [0, 1, 2, 3, 4, 5, 6, 7, 8, 9, 10, 11, 12, 13, 14, 15, 16, 17, 18, 19, 20, 21, 22, 23, 24, 25, 26, 27, 28, 29, 30, 31, 32, 33, 34, 35] rfl rfl rfl (fun _ => rfl) 7 rfl rfl rfl hl.1 rfl (lv_room (Nat.le_of_ble_eq_true rfl)) dX7_unit_176 ⟨Nat.le_of_ble_eq_true rfl, Nat.le_of_ble_eq_true rfl⟩ rfl (fun _ H locs hP hD hS => ?_)
        have hf := (Option.some.inj hf)
        subst hf
        exact rw_i (fun _ => 0) hx hb hr hlk rfl hP hD hS dX7_unit_179
    · have hf := (if_pos c1).symm.trans hf
      refine lv_iconst (pc := 158) (v := 0) hx hb dX7_unit_158 (by decide) ?_
      have hf := (Option.some.inj hf)
      subst hf
      exact rw_i (fun _ => 0) hx hb hr hlk rfl hP hD hS dX7_unit_159
  have B147 : ∀ (ls : Array Slot), lv_has ls 10 [(0, .ref (a0 0)), (1, .int x1), (2, .int x2), (3, .int x3), (4, .int x4), (6, .int (f_X7_takesTwo x1))] → ∀ (H : Heap) (locs : List Loc), va_P Z.1 vwCl (wX7 Z a0 o0) H → va_D A (wX7 Z a0 o0) → va_S A s.heap H locs → f_X7_unit_b147 o0 x1 x2 x3 x4 = some R → W p l e { frames := 1, cells := 0, slots := 0, locals := 25 } s m ([.ref (a0 0), .int x1, .int x2, .int x3, .int x4] : List Value).toArray below meth c H locs 0 0 (MQ below (rwQ Z (some (.int R.1)) (fun _ => wX7 Z a0 R.2) A) ([.ref (a0 0), .int x1, .int x2, .int x3, .int x4] : List Value).toArray s 0 0 A) (F0 m 147 ls [.ref (a0 0)]) := by
    intro ls hl H locs hP hD hS hf
    rw [f_X7_unit_b147] at hf
    refine lv_iconst (pc := 147) (v := 3) hx hb dX7_unit_147 (by decide) ?_
    refine lv_goto (pc := 148) (tgt := 152) hx hb dX7_unit_148 (by decide) ?_
    exact B152 3 _ (lv_sub hl [0, 1, 2, 3, 4, 5] rfl) _ _ hP hD hS hf
  have B105 : ∀ (k54_0 : Int32), ∀ (k105_0 : Int32) (ls : Array Slot), lv_has ls 10 [(0, .ref (a0 0)), (1, .int x1), (2, .int x2), (3, .int x3), (4, .int x4), (5, .int (f_X7_in x1 1 4)), (6, .int (f_X7_takesTwo x1)), (8, .int k54_0)] → ∀ (H : Heap) (locs : List Loc), va_P Z.1 vwCl (wX7 Z a0 o0) H → va_D A (wX7 Z a0 o0) → va_S A s.heap H locs → f_X7_unit_b105 o0 x1 x2 x3 x4 k54_0 k105_0 = some R → W p l e { frames := 1, cells := 0, slots := 0, locals := 25 } s m ([.ref (a0 0), .int x1, .int x2, .int x3, .int x4] : List Value).toArray below meth c H locs 0 0 (MQ below (rwQ Z (some (.int R.1)) (fun _ => wX7 Z a0 R.2) A) ([.ref (a0 0), .int x1, .int x2, .int x3, .int x4] : List Value).toArray s 0 0 A) (F0 m 105 ls [.int k105_0]) := by
    intro k54_0 k105_0 ls hl H locs hP hD hS hf
    rw [f_X7_unit_b105] at hf
    refine lv_istore (pc := 105) (lv' := [(9, .int k105_0), (0, .ref (a0 0)), (1, .int x1), (2, .int x2), (3, .int x3), (4, .int x4), (5, .int (f_X7_in x1 1 4)), (6, .int (f_X7_takesTwo x1)), (8, .int k54_0)]) hx hb dX7_unit_105 hl (by decide) rfl (fun ls hl => ?_)
    refine lv_aload_n (pc := 107) hx hb dX7_unit_107 rfl (lv_at hl 1 rfl) ?_
    refine lv_iload (pc := 108) hx hb dX7_unit_108 (lv_at hl 6 rfl) ?_
    refine lv_if_ne (pc := 110) (tgt := 117) hx hb dX7_unit_110 (by decide) (fun c1 => ?_) (fun c1 => ?_)
    · have hf := (if_neg c1).symm.trans hf
      refine lv_iload (pc := 117) hx hb dX7_unit_117 (lv_at hl 8 rfl) ?_
      refine lv_if_ne (pc := 119) (tgt := 126) hx hb dX7_unit_119 (by decide) (fun c2 => ?_) (fun c2 => ?_)
      · have hf := (if_neg c2).symm.trans hf
        refine lv_iload (pc := 126) hx hb dX7_unit_126 (lv_at hl 0 rfl) ?_
        refine lv_if_ne (pc := 128) (tgt := 147) hx hb dX7_unit_128 (by decide) (fun c3 => ?_) (fun c3 => ?_)
        · have hf := (if_neg c3).symm.trans hf
          exact B147 _ (lv_sub hl [1, 2, 3, 4, 5, 7] rfl) _ _ hP hD hS hf
        · have hf := (if_pos c3).symm.trans hf
          refine lv_aload_n (pc := 131) hx hb dX7_unit_131 rfl (lv_at hl 1 rfl) ?_
          refine va_get (pc := 132) (D := Z.1) (ci := 7) (v := .int (o0.1 2 0)) (C := RX7) (T := TX7) (N := 41) hx hb hts u7 hown hK hP 0 rfl rfl 2 (by decide) w0 (fun _ h9 => h9) rfl dX7_unit_132 ?_
          refine lv_bipush (pc := 135) (v := 12) hx hb dX7_unit_135 (by decide) ?_
          refine lv_icmp_eq (pc := 137) (tgt := 147) hx hb dX7_unit_137 (by decide) (fun c4 => ?_) (fun c4 => ?_)
          · have hf := (if_pos c4).symm.trans hf
            exact B147 _ (lv_sub hl [1, 2, 3, 4, 5, 7] rfl) _ _ hP hD hS hf
          · have hf := (if_neg c4).symm.trans hf
            refine lv_aload_n (pc := 140) hx hb dX7_unit_140 rfl (lv_at hl 1 rfl) ?_
            refine va_get (pc := 141) (D := Z.1) (ci := 7) (v := .int (o0.1 1 0)) (C := RX7) (T := TX7) (N := 41) hx hb hts u7 hown hK hP 0 rfl rfl 1 (by decide) w1 (fun _ h9 => h9) rfl dX7_unit_141 ?_
            refine lv_if_le (pc := 144) (tgt := 151) hx hb dX7_unit_144 (by decide) (fun c5 => ?_) (fun c5 => ?_)
            · have hf := (if_pos c5).symm.trans hf
              refine lv_iconst (pc := 151) (v := 0) hx hb dX7_unit_151 (by decide) ?_
              exact B152 0 _ (lv_sub hl [1, 2, 3, 4, 5, 7] rfl) _ _ hP hD hS hf
            · have hf := (if_neg c5).symm.trans hf
              exact B147 _ (lv_sub hl [1, 2, 3, 4, 5, 7] rfl) _ _ hP hD hS hf
      · have hf := (if_pos c2).symm.trans hf
        refine lv_iconst (pc := 122) (v := 2) hx hb dX7_unit_122 (by decide) ?_
        refine lv_goto (pc := 123) (tgt := 152) hx hb dX7_unit_123 (by decide) ?_
        exact B152 2 _ (lv_sub hl [1, 2, 3, 4, 5, 7] rfl) _ _ hP hD hS hf
    · have hf := (if_pos c1).symm.trans hf
      refine lv_iconst (pc := 113) (v := 1) hx hb dX7_unit_113 (by decide) ?_
      refine lv_goto (pc := 114) (tgt := 152) hx hb dX7_unit_114 (by decide) ?_
      exact B152 1 _ (lv_sub hl [1, 2, 3, 4, 5, 7] rfl) _ _ hP hD hS hf
  have B104 : ∀ (k54_0 : Int32), ∀ (ls : Array Slot), lv_has ls 10 [(0, .ref (a0 0)), (1, .int x1), (2, .int x2), (3, .int x3), (4, .int x4), (5, .int (f_X7_in x1 1 4)), (6, .int (f_X7_takesTwo x1)), (8, .int k54_0)] → ∀ (H : Heap) (locs : List Loc), va_P Z.1 vwCl (wX7 Z a0 o0) H → va_D A (wX7 Z a0 o0) → va_S A s.heap H locs → f_X7_unit_b104 o0 x1 x2 x3 x4 k54_0 = some R → W p l e { frames := 1, cells := 0, slots := 0, locals := 25 } s m ([.ref (a0 0), .int x1, .int x2, .int x3, .int x4] : List Value).toArray below meth c H locs 0 0 (MQ below (rwQ Z (some (.int R.1)) (fun _ => wX7 Z a0 R.2) A) ([.ref (a0 0), .int x1, .int x2, .int x3, .int x4] : List Value).toArray s 0 0 A) (F0 m 104 ls []) := by
    intro k54_0 ls hl H locs hP hD hS hf
    rw [f_X7_unit_b104] at hf
    refine lv_iconst (pc := 104) (v := 0) hx hb dX7_unit_104 (by decide) ?_
    exact B105 k54_0 0 _ (lv_sub hl [0, 1, 2, 3, 4, 5, 6, 7] rfl) _ _ hP hD hS hf
  have B100 : ∀ (k54_0 : Int32), ∀ (ls : Array Slot), lv_has ls 10 [(0, .ref (a0 0)), (1, .int x1), (2, .int x2), (3, .int x3), (4, .int x4), (5, .int (f_X7_in x1 1 4)), (6, .int (f_X7_takesTwo x1)), (8, .int k54_0)] → ∀ (H : Heap) (locs : List Loc), va_P Z.1 vwCl (wX7 Z a0 o0) H → va_D A (wX7 Z a0 o0) → va_S A s.heap H locs → f_X7_unit_b100 o0 x1 x2 x3 x4 k54_0 = some R → W p l e { frames := 1, cells := 0, slots := 0, locals := 25 } s m ([.ref (a0 0), .int x1, .int x2, .int x3, .int x4] : List Value).toArray below meth c H locs 0 0 (MQ below (rwQ Z (some (.int R.1)) (fun _ => wX7 Z a0 R.2) A) ([.ref (a0 0), .int x1, .int x2, .int x3, .int x4] : List Value).toArray s 0 0 A) (F0 m 100 ls []) := by
    intro k54_0 ls hl H locs hP hD hS hf
    rw [f_X7_unit_b100] at hf
    refine lv_iconst (pc := 100) (v := 1) hx hb dX7_unit_100 (by decide) ?_
    refine lv_goto (pc := 101) (tgt := 105) hx hb dX7_unit_101 (by decide) ?_
    exact B105 k54_0 1 _ (lv_sub hl [0, 1, 2, 3, 4, 5, 6, 7] rfl) _ _ hP hD hS hf
  have B74 : ∀ (k54_0 : Int32), ∀ (ls : Array Slot), lv_has ls 10 [(0, .ref (a0 0)), (1, .int x1), (2, .int x2), (3, .int x3), (4, .int x4), (5, .int (f_X7_in x1 1 4)), (6, .int (f_X7_takesTwo x1)), (8, .int k54_0)] → ∀ (H : Heap) (locs : List Loc), va_P Z.1 vwCl (wX7 Z a0 o0) H → va_D A (wX7 Z a0 o0) → va_S A s.heap H locs → f_X7_unit_b74 o0 x1 x2 x3 x4 k54_0 = some R → W p l e { frames := 1, cells := 0, slots := 0, locals := 25 } s m ([.ref (a0 0), .int x1, .int x2, .int x3, .int x4] : List Value).toArray below meth c H locs 0 0 (MQ below (rwQ Z (some (.int R.1)) (fun _ => wX7 Z a0 R.2) A) ([.ref (a0 0), .int x1, .int x2, .int x3, .int x4] : List Value).toArray s 0 0 A) (F0 m 74 ls []) := by
    intro k54_0 ls hl H locs hP hD hS hf
    rw [f_X7_unit_b74] at hf
    refine lv_aload_n (pc := 74) hx hb dX7_unit_74 rfl (lv_at hl 0 rfl) ?_
    refine lv_iload_n (pc := 75) hx hb dX7_unit_75 rfl (lv_at hl 2 rfl) ?_
    obtain ⟨r76, h_76, hf⟩ := bd hf
    refine ro_V (pc := 76) (C := RX7) (As := [.int x2]) (rest := []) (st1 := [.int r76]) ⟨hx, hb, hml, hown, hts⟩ (c_X7_isTaken Z l a0 o0 x2 r76 h_76) (cwV 1 hts gX7_unit_X7_isTaken rfl rfl rfl hv_X7_isTaken ⟨Nat.le_of_ble_eq_true rfl, Nat.le_of_ble_eq_true rfl⟩) hK hE hP 7 rfl rfl rfl hl.1 rfl (lv_room (Nat.le_of_ble_eq_true rfl)) dX7_unit_76 ⟨Nat.le_of_ble_eq_true rfl, Nat.le_of_ble_eq_true rfl⟩ rfl ?_
    refine lv_if_ne (pc := 79) (tgt := 100) hx hb dX7_unit_79 (by decide) (fun c1 => ?_) (fun c1 => ?_)
    · have hf := (if_neg c1).symm.trans hf
      exact B100 k54_0 _ (lv_sub hl [0, 1, 2, 3, 4, 5, 6, 7] rfl) _ _ hP hD hS hf
    · have hf := (if_pos c1).symm.trans hf
      refine lv_iload (pc := 82) hx hb dX7_unit_82 (lv_at hl 6 rfl) ?_
      refine lv_if_eq (pc := 84) (tgt := 104) hx hb dX7_unit_84 (by decide) (fun c2 => ?_) (fun c2 => ?_)
      · have hf := (if_pos c2).symm.trans hf
        exact B104 k54_0 _ (lv_sub hl [0, 1, 2, 3, 4, 5, 6, 7] rfl) _ _ hP hD hS hf
      · have hf := (if_neg c2).symm.trans hf
        refine lv_aload_n (pc := 87) hx hb dX7_unit_87 rfl (lv_at hl 0 rfl) ?_
        refine lv_iload_n (pc := 88) hx hb dX7_unit_88 rfl (lv_at hl 3 rfl) ?_
        obtain ⟨r89, h_89, hf⟩ := bd hf
        refine ro_V (pc := 89) (C := RX7) (As := [.int x3]) (rest := []) (st1 := [.int r89]) ⟨hx, hb, hml, hown, hts⟩ (c_X7_isTaken Z l a0 o0 x3 r89 h_89) (cwV 1 hts gX7_unit_X7_isTaken rfl rfl rfl hv_X7_isTaken ⟨Nat.le_of_ble_eq_true rfl, Nat.le_of_ble_eq_true rfl⟩) hK hE hP 7 rfl rfl rfl hl.1 rfl (lv_room (Nat.le_of_ble_eq_true rfl)) dX7_unit_89 ⟨Nat.le_of_ble_eq_true rfl, Nat.le_of_ble_eq_true rfl⟩ rfl ?_
        refine lv_if_ne (pc := 92) (tgt := 100) hx hb dX7_unit_92 (by decide) (fun c3 => ?_) (fun c3 => ?_)
        · have hf := (if_neg c3).symm.trans hf
          exact B100 k54_0 _ (lv_sub hl [0, 1, 2, 3, 4, 5, 6, 7] rfl) _ _ hP hD hS hf
        · have hf := (if_pos c3).symm.trans hf
          refine lv_iload_n (pc := 95) hx hb dX7_unit_95 rfl (lv_at hl 2 rfl) ?_
          refine lv_iload_n (pc := 96) hx hb dX7_unit_96 rfl (lv_at hl 3 rfl) ?_
          refine lv_icmp_ne (pc := 97) (tgt := 104) hx hb dX7_unit_97 (by decide) (fun c4 => ?_) (fun c4 => ?_)
          · have hf := (if_neg c4).symm.trans hf
            exact B104 k54_0 _ (lv_sub hl [0, 1, 2, 3, 4, 5, 6, 7] rfl) _ _ hP hD hS hf
          · have hf := (if_pos c4).symm.trans hf
            exact B100 k54_0 _ (lv_sub hl [0, 1, 2, 3, 4, 5, 6, 7] rfl) _ _ hP hD hS hf
  have B54 : ∀ (k54_0 : Int32) (ls : Array Slot), lv_has ls 10 [(0, .ref (a0 0)), (1, .int x1), (2, .int x2), (3, .int x3), (4, .int x4), (5, .int (f_X7_in x1 1 4)), (6, .int (f_X7_takesTwo x1))] → ∀ (H : Heap) (locs : List Loc), va_P Z.1 vwCl (wX7 Z a0 o0) H → va_D A (wX7 Z a0 o0) → va_S A s.heap H locs → f_X7_unit_b54 o0 x1 x2 x3 x4 k54_0 = some R → W p l e { frames := 1, cells := 0, slots := 0, locals := 25 } s m ([.ref (a0 0), .int x1, .int x2, .int x3, .int x4] : List Value).toArray below meth c H locs 0 0 (MQ below (rwQ Z (some (.int R.1)) (fun _ => wX7 Z a0 R.2) A) ([.ref (a0 0), .int x1, .int x2, .int x3, .int x4] : List Value).toArray s 0 0 A) (F0 m 54 ls [.int k54_0]) := by
    intro k54_0 ls hl H locs hP hD hS hf
    rw [f_X7_unit_b54] at hf
    refine lv_istore (pc := 54) (lv' := [(8, .int k54_0), (0, .ref (a0 0)), (1, .int x1), (2, .int x2), (3, .int x3), (4, .int x4), (5, .int (f_X7_in x1 1 4)), (6, .int (f_X7_takesTwo x1))]) hx hb dX7_unit_54 hl (by decide) rfl (fun ls hl => ?_)
    refine lv_iload_n (pc := 56) hx hb dX7_unit_56 rfl (lv_at hl 2 rfl) ?_
    refine lv_iconst (pc := 57) (v := 2) hx hb dX7_unit_57 (by decide) ?_
    refine lv_icmp_eq (pc := 58) (tgt := 74) hx hb dX7_unit_58 (by decide) (fun c1 => ?_) (fun c1 => ?_)
    · have hf := (if_pos c1).symm.trans hf
      exact B74 k54_0 _ (lv_sub hl [1, 2, 3, 4, 5, 6, 7, 0] rfl) _ _ hP hD hS hf
    · have hf := (if_neg c1).symm.trans hf
      refine lv_iload (pc := 61) hx hb dX7_unit_61 (lv_at hl 5 rfl) ?_
      refine lv_iconst (pc := 63) (v := 0) hx hb dX7_unit_63 (by decide) ?_
      refine lv_iload_n (pc := 64) hx hb dX7_unit_64 rfl (lv_at hl 2 rfl) ?_
      refine ro_S (pc := 65) (As := [.int x1]) (rest := [.int 0, .int x4]) (st1 := [.int (f_X7_mostOf x1), .int 0, .int x4]) ⟨hx, hb, hml, hown, hts⟩ (c_X7_mostOf Z l x1 _ rfl) (va_cwS 1 hts gX7_unit_X7_mostOf rfl rfl rfl hs_X7_mostOf ⟨Nat.le_of_ble_eq_true rfl, Nat.le_of_ble_eq_true rfl⟩) hK hE (hP.sub (ws' := []) [] rfl) rfl hl.1 rfl (lv_room (Nat.le_of_ble_eq_true rfl)) dX7_unit_65 ⟨Nat.le_of_ble_eq_true rfl, Nat.le_of_ble_eq_true rfl⟩ rfl ?_
      refine ro_S (pc := 68) (As := [.int x4, .int 0, .int (f_X7_mostOf x1)]) (rest := []) (st1 := [.int (f_X7_in x4 0 (f_X7_mostOf x1))]) ⟨hx, hb, hml, hown, hts⟩ (c_X7_in Z l x4 0 (f_X7_mostOf x1) _ rfl) (va_cwS 3 hts gX7_unit_X7_in rfl rfl rfl hs_X7_in ⟨Nat.le_of_ble_eq_true rfl, Nat.le_of_ble_eq_true rfl⟩) hK hE (hP.sub (ws' := []) [] rfl) rfl hl.1 rfl (lv_room (Nat.le_of_ble_eq_true rfl)) dX7_unit_68 ⟨Nat.le_of_ble_eq_true rfl, Nat.le_of_ble_eq_true rfl⟩ rfl ?_
      refine lv_if_eq (pc := 71) (tgt := 100) hx hb dX7_unit_71 (by decide) (fun c2 => ?_) (fun c2 => ?_)
      · have hf := (if_pos c2).symm.trans hf
        exact B100 k54_0 _ (lv_sub hl [1, 2, 3, 4, 5, 6, 7, 0] rfl) _ _ hP hD hS hf
      · have hf := (if_neg c2).symm.trans hf
        exact B74 k54_0 _ (lv_sub hl [1, 2, 3, 4, 5, 6, 7, 0] rfl) _ _ hP hD hS hf
  have B53 : ∀ (ls : Array Slot), lv_has ls 10 [(0, .ref (a0 0)), (1, .int x1), (2, .int x2), (3, .int x3), (4, .int x4), (5, .int (f_X7_in x1 1 4)), (6, .int (f_X7_takesTwo x1))] → ∀ (H : Heap) (locs : List Loc), va_P Z.1 vwCl (wX7 Z a0 o0) H → va_D A (wX7 Z a0 o0) → va_S A s.heap H locs → f_X7_unit_b53 o0 x1 x2 x3 x4 = some R → W p l e { frames := 1, cells := 0, slots := 0, locals := 25 } s m ([.ref (a0 0), .int x1, .int x2, .int x3, .int x4] : List Value).toArray below meth c H locs 0 0 (MQ below (rwQ Z (some (.int R.1)) (fun _ => wX7 Z a0 R.2) A) ([.ref (a0 0), .int x1, .int x2, .int x3, .int x4] : List Value).toArray s 0 0 A) (F0 m 53 ls []) := by
    intro ls hl H locs hP hD hS hf
    rw [f_X7_unit_b53] at hf
    refine lv_iconst (pc := 53) (v := 0) hx hb dX7_unit_53 (by decide) ?_
    exact B54 0 _ (lv_sub hl [0, 1, 2, 3, 4, 5, 6] rfl) _ _ hP hD hS hf
  have B49 : ∀ (ls : Array Slot), lv_has ls 10 [(0, .ref (a0 0)), (1, .int x1), (2, .int x2), (3, .int x3), (4, .int x4), (5, .int (f_X7_in x1 1 4)), (6, .int (f_X7_takesTwo x1))] → ∀ (H : Heap) (locs : List Loc), va_P Z.1 vwCl (wX7 Z a0 o0) H → va_D A (wX7 Z a0 o0) → va_S A s.heap H locs → f_X7_unit_b49 o0 x1 x2 x3 x4 = some R → W p l e { frames := 1, cells := 0, slots := 0, locals := 25 } s m ([.ref (a0 0), .int x1, .int x2, .int x3, .int x4] : List Value).toArray below meth c H locs 0 0 (MQ below (rwQ Z (some (.int R.1)) (fun _ => wX7 Z a0 R.2) A) ([.ref (a0 0), .int x1, .int x2, .int x3, .int x4] : List Value).toArray s 0 0 A) (F0 m 49 ls []) := by
    intro ls hl H locs hP hD hS hf
    rw [f_X7_unit_b49] at hf
    refine lv_iconst (pc := 49) (v := 1) hx hb dX7_unit_49 (by decide) ?_
    refine lv_goto (pc := 50) (tgt := 54) hx hb dX7_unit_50 (by decide) ?_
    exact B54 1 _ (lv_sub hl [0, 1, 2, 3, 4, 5, 6] rfl) _ _ hP hD hS hf
  rw [f_X7_unit] at hf
  refine lv_iload_n (pc := 0) hx hb dX7_unit_0 rfl (lv_at hl 1 rfl) ?_
  refine lv_iconst (pc := 1) (v := 1) hx hb dX7_unit_1 (by decide) ?_
  refine lv_iconst (pc := 2) (v := 4) hx hb dX7_unit_2 (by decide) ?_
  refine ro_S (pc := 3) (As := [.int x1, .int 1, .int 4]) (rest := []) (st1 := [.int (f_X7_in x1 1 4)]) ⟨hx, hb, hml, hown, hts⟩ (c_X7_in Z l x1 1 4 _ rfl) (va_cwS 3 hts gX7_unit_X7_in rfl rfl rfl hs_X7_in ⟨Nat.le_of_ble_eq_true rfl, Nat.le_of_ble_eq_true rfl⟩) hK hE (hP.sub (ws' := []) [] rfl) rfl hl.1 rfl (lv_room (Nat.le_of_ble_eq_true rfl)) dX7_unit_3 ⟨Nat.le_of_ble_eq_true rfl, Nat.le_of_ble_eq_true rfl⟩ rfl ?_
  refine lv_istore (pc := 6) (lv' := [(5, .int (f_X7_in x1 1 4)), (0, .ref (a0 0)), (1, .int x1), (2, .int x2), (3, .int x3), (4, .int x4)]) hx hb dX7_unit_6 hl (by decide) rfl (fun ls hl => ?_)
  refine lv_iload_n (pc := 8) hx hb dX7_unit_8 rfl (lv_at hl 2 rfl) ?_
  refine ro_S (pc := 9) (As := [.int x1]) (rest := []) (st1 := [.int (f_X7_takesTwo x1)]) ⟨hx, hb, hml, hown, hts⟩ (c_X7_takesTwo Z l x1 _ rfl) (va_cwS 1 hts gX7_unit_X7_takesTwo rfl rfl rfl hs_X7_takesTwo ⟨Nat.le_of_ble_eq_true rfl, Nat.le_of_ble_eq_true rfl⟩) hK hE (hP.sub (ws' := []) [] rfl) rfl hl.1 rfl (lv_room (Nat.le_of_ble_eq_true rfl)) dX7_unit_9 ⟨Nat.le_of_ble_eq_true rfl, Nat.le_of_ble_eq_true rfl⟩ rfl ?_
  refine lv_istore (pc := 12) (lv' := [(6, .int (f_X7_takesTwo x1)), (5, .int (f_X7_in x1 1 4)), (0, .ref (a0 0)), (1, .int x1), (2, .int x2), (3, .int x3), (4, .int x4)]) hx hb dX7_unit_12 hl (by decide) rfl (fun ls hl => ?_)
  refine lv_iconst (pc := 14) (v := 2) hx hb dX7_unit_14 (by decide) ?_
  refine lv_aload_n (pc := 15) hx hb dX7_unit_15 rfl (lv_at hl 2 rfl) ?_
  refine va_get (pc := 16) (D := Z.1) (ci := 7) (v := .int (o0.1 2 0)) (C := RX7) (T := TX7) (N := 41) hx hb hts u7 hown hK hP 0 rfl rfl 2 (by decide) w0 (fun _ h9 => h9) rfl dX7_unit_16 ?_
  refine lv_imul (pc := 19) hx hb dX7_unit_19 ?_
  refine lv_iconst (pc := 20) (v := 1) hx hb dX7_unit_20 (by decide) ?_
  refine lv_iadd (pc := 21) hx hb dX7_unit_21 ?_
  refine lv_istore (pc := 22) (lv' := [(7, .int ((2 * (o0.1 2 0)) + 1)), (6, .int (f_X7_takesTwo x1)), (5, .int (f_X7_in x1 1 4)), (0, .ref (a0 0)), (1, .int x1), (2, .int x2), (3, .int x3), (4, .int x4)]) hx hb dX7_unit_22 hl (by decide) rfl (fun ls hl => ?_)
  refine lv_iload_n (pc := 24) hx hb dX7_unit_24 rfl (lv_at hl 5 rfl) ?_
  refine lv_iconst (pc := 25) (v := 0) hx hb dX7_unit_25 (by decide) ?_
  refine lv_iload (pc := 26) hx hb dX7_unit_26 (lv_at hl 0 rfl) ?_
  refine ro_S (pc := 28) (As := [.int x2, .int 0, .int ((2 * (o0.1 2 0)) + 1)]) (rest := []) (st1 := [.int (f_X7_in x2 0 ((2 * (o0.1 2 0)) + 1))]) ⟨hx, hb, hml, hown, hts⟩ (c_X7_in Z l x2 0 ((2 * (o0.1 2 0)) + 1) _ rfl) (va_cwS 3 hts gX7_unit_X7_in rfl rfl rfl hs_X7_in ⟨Nat.le_of_ble_eq_true rfl, Nat.le_of_ble_eq_true rfl⟩) hK hE (hP.sub (ws' := []) [] rfl) rfl hl.1 rfl (lv_room (Nat.le_of_ble_eq_true rfl)) dX7_unit_28 ⟨Nat.le_of_ble_eq_true rfl, Nat.le_of_ble_eq_true rfl⟩ rfl ?_
  refine lv_if_eq (pc := 31) (tgt := 53) hx hb dX7_unit_31 (by decide) (fun c1 => ?_) (fun c1 => ?_)
  · have hf := (if_pos c1).symm.trans hf
    exact B53 _ (lv_sub hl [3, 4, 5, 6, 7, 2, 1] rfl) _ _ hP hD hS hf
  · have hf := (if_neg c1).symm.trans hf
    refine lv_iload (pc := 34) hx hb dX7_unit_34 (lv_at hl 1 rfl) ?_
    refine lv_if_eq (pc := 36) (tgt := 49) hx hb dX7_unit_36 (by decide) (fun c2 => ?_) (fun c2 => ?_)
    · have hf := (if_pos c2).symm.trans hf
      exact B49 _ (lv_sub hl [3, 4, 5, 6, 7, 2, 1] rfl) _ _ hP hD hS hf
    · have hf := (if_neg c2).symm.trans hf
      refine lv_iload_n (pc := 39) hx hb dX7_unit_39 rfl (lv_at hl 6 rfl) ?_
      refine lv_iconst (pc := 40) (v := 0) hx hb dX7_unit_40 (by decide) ?_
      refine lv_iload (pc := 41) hx hb dX7_unit_41 (lv_at hl 0 rfl) ?_
      refine ro_S (pc := 43) (As := [.int x3, .int 0, .int ((2 * (o0.1 2 0)) + 1)]) (rest := []) (st1 := [.int (f_X7_in x3 0 ((2 * (o0.1 2 0)) + 1))]) ⟨hx, hb, hml, hown, hts⟩ (c_X7_in Z l x3 0 ((2 * (o0.1 2 0)) + 1) _ rfl) (va_cwS 3 hts gX7_unit_X7_in rfl rfl rfl hs_X7_in ⟨Nat.le_of_ble_eq_true rfl, Nat.le_of_ble_eq_true rfl⟩) hK hE (hP.sub (ws' := []) [] rfl) rfl hl.1 rfl (lv_room (Nat.le_of_ble_eq_true rfl)) dX7_unit_43 ⟨Nat.le_of_ble_eq_true rfl, Nat.le_of_ble_eq_true rfl⟩ rfl ?_
      refine lv_if_eq (pc := 46) (tgt := 53) hx hb dX7_unit_46 (by decide) (fun c3 => ?_) (fun c3 => ?_)
      · have hf := (if_pos c3).symm.trans hf
        exact B53 _ (lv_sub hl [3, 4, 5, 6, 7, 2, 1] rfl) _ _ hP hD hS hf
      · have hf := (if_neg c3).symm.trans hf
        exact B49 _ (lv_sub hl [3, 4, 5, 6, 7, 2, 1] rfl) _ _ hP hD hS hf
def f_X7_back_b60 (o0 : ObS) (x1 : Int32) (x2 : Int32) (k60_0 : Int32) : Option (Int32 × ObS) :=
  (f_X7_holds o0 k60_0).bind fun r60 =>
  if r60.1 = (0 : Int32) then
    some ((0 : Int32), r60.2)
  else
    if inb x1 12 then
    if inb x1 12 then
    (some (oi r60.2 6 (x1).toNatClampNeg x2)).bind fun s82 =>
    some (r60.2.1 6 (x1).toNatClampNeg, s82)
    else none
    else none
def f_X7_back_b55 (o0 : ObS) (x1 : Int32) (x2 : Int32)  : Option (Int32 × ObS) :=
  f_X7_back_b60 o0 x1 x2 2
def f_X7_back_b21 (o0 : ObS) (x1 : Int32) (x2 : Int32) (k21_0 : Int32) : Option (Int32 × ObS) :=
  if k21_0 = (0 : Int32) then
    f_X7_back_b60 o0 x1 x2 1
  else
    if inb x1 12 then
    if (o0.1 3 (x1).toNatClampNeg) = (0 : Int32) then
      f_X7_back_b55 o0 x1 x2
    else
      (f_X7_isTaken o0 x2).bind fun r42 =>
      if r42 = (0 : Int32) then
        if (o0.1 1 0) ≤ (0 : Int32) then
          f_X7_back_b60 o0 x1 x2 0
        else
          f_X7_back_b55 o0 x1 x2
      else
        f_X7_back_b55 o0 x1 x2
    else none
def f_X7_back_b20 (o0 : ObS) (x1 : Int32) (x2 : Int32)  : Option (Int32 × ObS) :=
  f_X7_back_b21 o0 x1 x2 0
def f_X7_back (o0 : ObS) (x1 : Int32) (x2 : Int32) : Option (Int32 × ObS) :=
  (f_X7_isUnit o0 x1).bind fun r2 =>
  if r2 = (0 : Int32) then
    f_X7_back_b20 o0 x1 x2
  else
    (f_X7_isStream o0 x2).bind fun r10 =>
    if r10 = (0 : Int32) then
      f_X7_back_b20 o0 x1 x2
    else
      f_X7_back_b21 o0 x1 x2 1
set_option maxHeartbeats 4000000 in
set_option maxRecDepth 100000 in
theorem c_X7_back (Z : EnvT) (l : Launch) (a0 : Nat → Nat) (o0 : ObS) (x1 : Int32) (x2 : Int32) (R : Int32 × ObS) (hf : f_X7_back o0 x1 x2 = some R) : RW Z l yX7_back wsX7_back { frames := 2, cells := 0, slots := 0, locals := 43 } [.ref (a0 0), .int x1, .int x2] (wX7 Z a0 o0) (some (.int R.1)) (fun _ => wX7 Z a0 R.2) 0 0 := by
  refine rw_of (cc := cX7_back) (maxL := 5) (ret := (some .int)) (by decide) rfl (Nat.le_of_ble_eq_true rfl) ?_
  intro p e s m below meth c A ls hx hb hr hml hts hown hlk hin hP hK hE hD hA hS hl
  have hown : s.vm.findClass RX7 = some m.cls := hown
  have hl : lv_has ls 5 [(0, .ref (a0 0)), (1, .int x1), (2, .int x2)] := hl
  have w0 := hts (.fieldLink RX7 7 "HeatTrainModel" "kinds" "[I") (by decide +kernel)
  have w1 := hts (.fieldLink RX7 132 "HeatTrainModel" "now" "I") (by decide +kernel)
  have w2 := hts (.fieldLink RX7 19 "HeatTrainModel" "firsts" "[I") (by decide +kernel)
  have u7 : ∀ w ∈ wsX70, w ∈ wsX7_back := by decide +kernel
  have B60 : ∀ (k60_0 : Int32) (ls : Array Slot), lv_has ls 5 [(0, .ref (a0 0)), (1, .int x1), (2, .int x2)] → ∀ (H : Heap) (locs : List Loc), va_P Z.1 vwCl (wX7 Z a0 o0) H → va_D A (wX7 Z a0 o0) → va_S A s.heap H locs → f_X7_back_b60 o0 x1 x2 k60_0 = some R → W p l e { frames := 2, cells := 0, slots := 0, locals := 43 } s m ([.ref (a0 0), .int x1, .int x2] : List Value).toArray below meth c H locs 0 0 (MQ below (rwQ Z (some (.int R.1)) (fun _ => wX7 Z a0 R.2) A) ([.ref (a0 0), .int x1, .int x2] : List Value).toArray s 0 0 A) (F0 m 60 ls [.int k60_0, .ref (a0 0)]) := by
    intro k60_0 ls hl H locs hP hD hS hf
    rw [f_X7_back_b60] at hf
    obtain ⟨r60, h_60, hf⟩ := bd hf
    refine rw_V (pc := 60) (C := RX7) (As := [.int k60_0]) (rest := []) (st1 := [.int r60.1]) (wn := fun _ => wX7 Z a0 r60.2) ⟨hx, hb, hml, hown, hts⟩ (c_X7_holds Z l a0 o0 k60_0 r60 h_60) (cwV 1 hts gX7_back_X7_holds rfl rfl rfl hv_X7_holds ⟨Nat.le_of_ble_eq_true rfl, Nat.le_of_ble_eq_true rfl⟩) hK hE hP hD hS hA [0, 1, 2, 3, 4, 5, 6, 7, 8, 9, 10, 11, 12, 13, 14, 15, 16, 17, 18, 19, 20, 21, 22, 23, 24, 25, 26, 27, 28, 29, 30, 31, 32, 33, 34, 35] [] [0, 1, 2, 3, 4, 5, 6, 7, 8, 9, 10, 11, 12, 13, 14, 15, 16, 17, 18, 19, 20, 21, 22, 23, 24, 25, 26, 27, 28, 29, 30, 31, 32, 33, 34, 35] rfl rfl rfl (fun _ => rfl) 7 rfl rfl rfl hl.1 rfl (lv_room (Nat.le_of_ble_eq_true rfl)) dX7_back_60 ⟨Nat.le_of_ble_eq_true rfl, Nat.le_of_ble_eq_true rfl⟩ rfl (fun _ H locs hP hD hS => ?_)
    refine lv_if_ne (pc := 63) (tgt := 68) hx hb dX7_back_63 (by decide) (fun c1 => ?_) (fun c1 => ?_)
    · have hf := (if_neg c1).symm.trans hf
      refine lv_aload_n (pc := 68) hx hb dX7_back_68 rfl (lv_at hl 0 rfl) ?_
      refine va_get (pc := 69) (D := Z.1) (ci := 7) (v := .ref (a0 7)) (C := RX7) (T := TX7) (N := 41) hx hb hts u7 hown hK hP 0 rfl rfl 6 (by decide) w2 (fun _ h9 => h9) rfl dX7_back_69 ?_
      refine lv_iload_n (pc := 72) hx hb dX7_back_72 rfl (lv_at hl 1 rfl) ?_
      obtain ⟨g73, hf⟩ := gd hf
      refine va_iald (pc := 73) (D := Z.1) (n := 12) (f := r60.2.1 6) hx hb hK hP 4 0 rfl rfl (inb_in g73) dX7_back_73 ?_
      refine lv_istore (pc := 74) (lv' := [(4, .int (r60.2.1 6 (x1).toNatClampNeg)), (0, .ref (a0 0)), (1, .int x1), (2, .int x2)]) hx hb dX7_back_74 hl (by decide) rfl (fun ls hl => ?_)
      refine lv_aload_n (pc := 76) hx hb dX7_back_76 rfl (lv_at hl 1 rfl) ?_
      refine va_get (pc := 77) (D := Z.1) (ci := 7) (v := .ref (a0 7)) (C := RX7) (T := TX7) (N := 41) hx hb hts u7 hown hK hP 0 rfl rfl 6 (by decide) w2 (fun _ h9 => h9) rfl dX7_back_77 ?_
      refine lv_iload_n (pc := 80) hx hb dX7_back_80 rfl (lv_at hl 2 rfl) ?_
      refine lv_iload_n (pc := 81) hx hb dX7_back_81 rfl (lv_at hl 3 rfl) ?_
      obtain ⟨g82, hf⟩ := gd hf
      refine va_iast (pc := 82) (D := Z.1) (n := 12) (f := r60.2.1 6) hx hb hK hP hD hS 4 0 rfl rfl (inb_in g82) dX7_back_82 (fun H locs hP hD hS => ?_)
      obtain ⟨s82, h_82, hf⟩ := bd hf
      have hP : va_P Z.1 vwCl (wX7 Z a0 s82) H := st_P (f := fun z => wX7 Z a0 z) h_82 hP
      have hD : va_D A (wX7 Z a0 s82) := st_D (f := fun z => wX7 Z a0 z) h_82 hD
      refine lv_iload (pc := 83) hx hb dX7_back_83 (lv_at hl 0 rfl) ?_
      have hf := (Option.some.inj hf)
      subst hf
      exact rw_i (fun _ => 0) hx hb hr hlk rfl hP hD hS dX7_back_85
    · have hf := (if_pos c1).symm.trans hf
      refine lv_iconst (pc := 66) (v := 0) hx hb dX7_back_66 (by decide) ?_
      have hf := (Option.some.inj hf)
      subst hf
      exact rw_i (fun _ => 0) hx hb hr hlk rfl hP hD hS dX7_back_67
  have B55 : ∀ (ls : Array Slot), lv_has ls 5 [(0, .ref (a0 0)), (1, .int x1), (2, .int x2)] → ∀ (H : Heap) (locs : List Loc), va_P Z.1 vwCl (wX7 Z a0 o0) H → va_D A (wX7 Z a0 o0) → va_S A s.heap H locs → f_X7_back_b55 o0 x1 x2 = some R → W p l e { frames := 2, cells := 0, slots := 0, locals := 43 } s m ([.ref (a0 0), .int x1, .int x2] : List Value).toArray below meth c H locs 0 0 (MQ below (rwQ Z (some (.int R.1)) (fun _ => wX7 Z a0 R.2) A) ([.ref (a0 0), .int x1, .int x2] : List Value).toArray s 0 0 A) (F0 m 55 ls [.ref (a0 0)]) := by
    intro ls hl H locs hP hD hS hf
    rw [f_X7_back_b55] at hf
    refine lv_iconst (pc := 55) (v := 2) hx hb dX7_back_55 (by decide) ?_
    refine lv_goto (pc := 56) (tgt := 60) hx hb dX7_back_56 (by decide) ?_
    exact B60 2 _ (lv_sub hl [0, 1, 2] rfl) _ _ hP hD hS hf
  have B21 : ∀ (k21_0 : Int32) (ls : Array Slot), lv_has ls 5 [(0, .ref (a0 0)), (1, .int x1), (2, .int x2)] → ∀ (H : Heap) (locs : List Loc), va_P Z.1 vwCl (wX7 Z a0 o0) H → va_D A (wX7 Z a0 o0) → va_S A s.heap H locs → f_X7_back_b21 o0 x1 x2 k21_0 = some R → W p l e { frames := 2, cells := 0, slots := 0, locals := 43 } s m ([.ref (a0 0), .int x1, .int x2] : List Value).toArray below meth c H locs 0 0 (MQ below (rwQ Z (some (.int R.1)) (fun _ => wX7 Z a0 R.2) A) ([.ref (a0 0), .int x1, .int x2] : List Value).toArray s 0 0 A) (F0 m 21 ls [.int k21_0]) := by
    intro k21_0 ls hl H locs hP hD hS hf
    rw [f_X7_back_b21] at hf
    refine lv_istore_n (pc := 21) (lv' := [(3, .int k21_0), (0, .ref (a0 0)), (1, .int x1), (2, .int x2)]) hx hb dX7_back_21 rfl hl (by decide) rfl (fun ls hl => ?_)
    refine lv_aload_n (pc := 22) hx hb dX7_back_22 rfl (lv_at hl 1 rfl) ?_
    refine lv_iload_n (pc := 23) hx hb dX7_back_23 rfl (lv_at hl 0 rfl) ?_
    refine lv_if_ne (pc := 24) (tgt := 31) hx hb dX7_back_24 (by decide) (fun c1 => ?_) (fun c1 => ?_)
    · have hf := (if_neg c1).symm.trans hf
      refine lv_aload_n (pc := 31) hx hb dX7_back_31 rfl (lv_at hl 1 rfl) ?_
      refine va_get (pc := 32) (D := Z.1) (ci := 7) (v := .ref (a0 4)) (C := RX7) (T := TX7) (N := 41) hx hb hts u7 hown hK hP 0 rfl rfl 3 (by decide) w0 (fun _ h9 => h9) rfl dX7_back_32 ?_
      refine lv_iload_n (pc := 35) hx hb dX7_back_35 rfl (lv_at hl 2 rfl) ?_
      obtain ⟨g36, hf⟩ := gd hf
      refine va_iald (pc := 36) (D := Z.1) (n := 12) (f := o0.1 3) hx hb hK hP 1 0 rfl rfl (inb_in g36) dX7_back_36 ?_
      refine lv_if_eq (pc := 37) (tgt := 55) hx hb dX7_back_37 (by decide) (fun c2 => ?_) (fun c2 => ?_)
      · have hf := (if_pos c2).symm.trans hf
        exact B55 _ (lv_sub hl [1, 2, 3] rfl) _ _ hP hD hS hf
      · have hf := (if_neg c2).symm.trans hf
        refine lv_aload_n (pc := 40) hx hb dX7_back_40 rfl (lv_at hl 1 rfl) ?_
        refine lv_iload_n (pc := 41) hx hb dX7_back_41 rfl (lv_at hl 3 rfl) ?_
        obtain ⟨r42, h_42, hf⟩ := bd hf
        refine ro_V (pc := 42) (C := RX7) (As := [.int x2]) (rest := [.ref (a0 0)]) (st1 := [.int r42, .ref (a0 0)]) ⟨hx, hb, hml, hown, hts⟩ (c_X7_isTaken Z l a0 o0 x2 r42 h_42) (cwV 1 hts gX7_back_X7_isTaken rfl rfl rfl hv_X7_isTaken ⟨Nat.le_of_ble_eq_true rfl, Nat.le_of_ble_eq_true rfl⟩) hK hE hP 7 rfl rfl rfl hl.1 rfl (lv_room (Nat.le_of_ble_eq_true rfl)) dX7_back_42 ⟨Nat.le_of_ble_eq_true rfl, Nat.le_of_ble_eq_true rfl⟩ rfl ?_
        refine lv_if_ne (pc := 45) (tgt := 55) hx hb dX7_back_45 (by decide) (fun c3 => ?_) (fun c3 => ?_)
        · have hf := (if_neg c3).symm.trans hf
          exact B55 _ (lv_sub hl [1, 2, 3] rfl) _ _ hP hD hS hf
        · have hf := (if_pos c3).symm.trans hf
          refine lv_aload_n (pc := 48) hx hb dX7_back_48 rfl (lv_at hl 1 rfl) ?_
          refine va_get (pc := 49) (D := Z.1) (ci := 7) (v := .int (o0.1 1 0)) (C := RX7) (T := TX7) (N := 41) hx hb hts u7 hown hK hP 0 rfl rfl 1 (by decide) w1 (fun _ h9 => h9) rfl dX7_back_49 ?_
          refine lv_if_le (pc := 52) (tgt := 59) hx hb dX7_back_52 (by decide) (fun c4 => ?_) (fun c4 => ?_)
          · have hf := (if_pos c4).symm.trans hf
            refine lv_iconst (pc := 59) (v := 0) hx hb dX7_back_59 (by decide) ?_
            exact B60 0 _ (lv_sub hl [1, 2, 3] rfl) _ _ hP hD hS hf
          · have hf := (if_neg c4).symm.trans hf
            exact B55 _ (lv_sub hl [1, 2, 3] rfl) _ _ hP hD hS hf
    · have hf := (if_pos c1).symm.trans hf
      refine lv_iconst (pc := 27) (v := 1) hx hb dX7_back_27 (by decide) ?_
      refine lv_goto (pc := 28) (tgt := 60) hx hb dX7_back_28 (by decide) ?_
      exact B60 1 _ (lv_sub hl [1, 2, 3] rfl) _ _ hP hD hS hf
  have B20 : ∀ (ls : Array Slot), lv_has ls 5 [(0, .ref (a0 0)), (1, .int x1), (2, .int x2)] → ∀ (H : Heap) (locs : List Loc), va_P Z.1 vwCl (wX7 Z a0 o0) H → va_D A (wX7 Z a0 o0) → va_S A s.heap H locs → f_X7_back_b20 o0 x1 x2 = some R → W p l e { frames := 2, cells := 0, slots := 0, locals := 43 } s m ([.ref (a0 0), .int x1, .int x2] : List Value).toArray below meth c H locs 0 0 (MQ below (rwQ Z (some (.int R.1)) (fun _ => wX7 Z a0 R.2) A) ([.ref (a0 0), .int x1, .int x2] : List Value).toArray s 0 0 A) (F0 m 20 ls []) := by
    intro ls hl H locs hP hD hS hf
    rw [f_X7_back_b20] at hf
    refine lv_iconst (pc := 20) (v := 0) hx hb dX7_back_20 (by decide) ?_
    exact B21 0 _ (lv_sub hl [0, 1, 2] rfl) _ _ hP hD hS hf
  rw [f_X7_back] at hf
  refine lv_aload_n (pc := 0) hx hb dX7_back_0 rfl (lv_at hl 0 rfl) ?_
  refine lv_iload_n (pc := 1) hx hb dX7_back_1 rfl (lv_at hl 1 rfl) ?_
  obtain ⟨r2, h_2, hf⟩ := bd hf
  refine ro_V (pc := 2) (C := RX7) (As := [.int x1]) (rest := []) (st1 := [.int r2]) ⟨hx, hb, hml, hown, hts⟩ (c_X7_isUnit Z l a0 o0 x1 r2 h_2) (cwV 1 hts gX7_back_X7_isUnit rfl rfl rfl hv_X7_isUnit ⟨Nat.le_of_ble_eq_true rfl, Nat.le_of_ble_eq_true rfl⟩) hK hE hP 7 rfl rfl rfl hl.1 rfl (lv_room (Nat.le_of_ble_eq_true rfl)) dX7_back_2 ⟨Nat.le_of_ble_eq_true rfl, Nat.le_of_ble_eq_true rfl⟩ rfl ?_
  refine lv_if_eq (pc := 5) (tgt := 20) hx hb dX7_back_5 (by decide) (fun c1 => ?_) (fun c1 => ?_)
  · have hf := (if_pos c1).symm.trans hf
    exact B20 _ (lv_sub hl [0, 1, 2] rfl) _ _ hP hD hS hf
  · have hf := (if_neg c1).symm.trans hf
    refine lv_aload_n (pc := 8) hx hb dX7_back_8 rfl (lv_at hl 0 rfl) ?_
    refine lv_iload_n (pc := 9) hx hb dX7_back_9 rfl (lv_at hl 2 rfl) ?_
    obtain ⟨r10, h_10, hf⟩ := bd hf
    refine ro_V (pc := 10) (C := RX7) (As := [.int x2]) (rest := []) (st1 := [.int r10]) ⟨hx, hb, hml, hown, hts⟩ (c_X7_isStream Z l a0 o0 x2 r10 h_10) (cwV 1 hts gX7_back_X7_isStream rfl rfl rfl hv_X7_isStream ⟨Nat.le_of_ble_eq_true rfl, Nat.le_of_ble_eq_true rfl⟩) hK hE hP 7 rfl rfl rfl hl.1 rfl (lv_room (Nat.le_of_ble_eq_true rfl)) dX7_back_10 ⟨Nat.le_of_ble_eq_true rfl, Nat.le_of_ble_eq_true rfl⟩ rfl ?_
    refine lv_if_eq (pc := 13) (tgt := 20) hx hb dX7_back_13 (by decide) (fun c2 => ?_) (fun c2 => ?_)
    · have hf := (if_pos c2).symm.trans hf
      exact B20 _ (lv_sub hl [0, 1, 2] rfl) _ _ hP hD hS hf
    · have hf := (if_neg c2).symm.trans hf
      refine lv_iconst (pc := 16) (v := 1) hx hb dX7_back_16 (by decide) ?_
      refine lv_goto (pc := 17) (tgt := 21) hx hb dX7_back_17 (by decide) ?_
      exact B21 1 _ (lv_sub hl [0, 1, 2] rfl) _ _ hP hD hS hf
def f_X7_canBe (o0 : ObS) (x1 : Int32) (x2 : Int32) : Option (Int32) :=
  if inb x1 12 then
  if (o0.1 3 (x1).toNatClampNeg) = 2 then
    some ((0 : Int32))
  else
    if inb x1 12 then
    if (f_X7_in x2 0 (f_X7_mostOf (o0.1 3 (x1).toNatClampNeg))) = (0 : Int32) then
      some ((0 : Int32))
    else
      some ((1 : Int32))
    else none
  else none
set_option maxHeartbeats 4000000 in
set_option maxRecDepth 100000 in
theorem c_X7_canBe (Z : EnvT) (l : Launch) (a0 : Nat → Nat) (o0 : ObS) (x1 : Int32) (x2 : Int32) (R : Int32) (hf : f_X7_canBe o0 x1 x2 = some R) : RO Z l yX7_canBe wsX7_canBe { frames := 1, cells := 0, slots := 0, locals := 22 } [.ref (a0 0), .int x1, .int x2] (wX7 Z a0 o0) (some (.int R)) := by
  refine ro_of (cc := cX7_canBe) (maxL := 3) (ret := (some .boolean)) (by decide) rfl (Nat.le_of_ble_eq_true rfl) ?_
  intro p e s m below meth c ls hx hb hr hml hts hown hlk hP hK hE hl
  have hown : s.vm.findClass RX7 = some m.cls := hown
  have hl : lv_has ls 3 [(0, .ref (a0 0)), (1, .int x1), (2, .int x2)] := hl
  have w0 := hts (.fieldLink RX7 7 "HeatTrainModel" "kinds" "[I") (by decide +kernel)
  have u7 : ∀ w ∈ wsX70, w ∈ wsX7_canBe := by decide +kernel
  rw [f_X7_canBe] at hf
  refine lv_aload_n (pc := 0) hx hb dX7_canBe_0 rfl (lv_at hl 0 rfl) ?_
  refine va_get (pc := 1) (D := Z.1) (ci := 7) (v := .ref (a0 4)) (C := RX7) (T := TX7) (N := 41) hx hb hts u7 hown hK hP 0 rfl rfl 3 (by decide) w0 (fun _ h9 => h9) rfl dX7_canBe_1 ?_
  refine lv_iload_n (pc := 4) hx hb dX7_canBe_4 rfl (lv_at hl 1 rfl) ?_
  obtain ⟨g5, hf⟩ := gd hf
  refine va_iald (pc := 5) (D := Z.1) (n := 12) (f := o0.1 3) hx hb hK hP 1 0 rfl rfl (inb_in g5) dX7_canBe_5 ?_
  refine lv_iconst (pc := 6) (v := 2) hx hb dX7_canBe_6 (by decide) ?_
  refine lv_icmp_eq (pc := 7) (tgt := 31) hx hb dX7_canBe_7 (by decide) (fun c1 => ?_) (fun c1 => ?_)
  · have hf := (if_pos c1).symm.trans hf
    refine lv_iconst (pc := 31) (v := 0) hx hb dX7_canBe_31 (by decide) ?_
    exact ro_z hx hb hr hlk (Option.some.inj hf) rfl dX7_canBe_32
  · have hf := (if_neg c1).symm.trans hf
    refine lv_iload_n (pc := 10) hx hb dX7_canBe_10 rfl (lv_at hl 2 rfl) ?_
    refine lv_iconst (pc := 11) (v := 0) hx hb dX7_canBe_11 (by decide) ?_
    refine lv_aload_n (pc := 12) hx hb dX7_canBe_12 rfl (lv_at hl 0 rfl) ?_
    refine va_get (pc := 13) (D := Z.1) (ci := 7) (v := .ref (a0 4)) (C := RX7) (T := TX7) (N := 41) hx hb hts u7 hown hK hP 0 rfl rfl 3 (by decide) w0 (fun _ h9 => h9) rfl dX7_canBe_13 ?_
    refine lv_iload_n (pc := 16) hx hb dX7_canBe_16 rfl (lv_at hl 1 rfl) ?_
    obtain ⟨g17, hf⟩ := gd hf
    refine va_iald (pc := 17) (D := Z.1) (n := 12) (f := o0.1 3) hx hb hK hP 1 0 rfl rfl (inb_in g17) dX7_canBe_17 ?_
    refine ro_S (pc := 18) (As := [.int (o0.1 3 (x1).toNatClampNeg)]) (rest := [.int 0, .int x2]) (st1 := [.int (f_X7_mostOf (o0.1 3 (x1).toNatClampNeg)), .int 0, .int x2]) ⟨hx, hb, hml, hown, hts⟩ (c_X7_mostOf Z l (o0.1 3 (x1).toNatClampNeg) _ rfl) (va_cwS 1 hts gX7_canBe_X7_mostOf rfl rfl rfl hs_X7_mostOf ⟨Nat.le_of_ble_eq_true rfl, Nat.le_of_ble_eq_true rfl⟩) hK hE (hP.sub (ws' := []) [] rfl) rfl hl.1 rfl (lv_room (Nat.le_of_ble_eq_true rfl)) dX7_canBe_18 ⟨Nat.le_of_ble_eq_true rfl, Nat.le_of_ble_eq_true rfl⟩ rfl ?_
    refine ro_S (pc := 21) (As := [.int x2, .int 0, .int (f_X7_mostOf (o0.1 3 (x1).toNatClampNeg))]) (rest := []) (st1 := [.int (f_X7_in x2 0 (f_X7_mostOf (o0.1 3 (x1).toNatClampNeg)))]) ⟨hx, hb, hml, hown, hts⟩ (c_X7_in Z l x2 0 (f_X7_mostOf (o0.1 3 (x1).toNatClampNeg)) _ rfl) (va_cwS 3 hts gX7_canBe_X7_in rfl rfl rfl hs_X7_in ⟨Nat.le_of_ble_eq_true rfl, Nat.le_of_ble_eq_true rfl⟩) hK hE (hP.sub (ws' := []) [] rfl) rfl hl.1 rfl (lv_room (Nat.le_of_ble_eq_true rfl)) dX7_canBe_21 ⟨Nat.le_of_ble_eq_true rfl, Nat.le_of_ble_eq_true rfl⟩ rfl ?_
    refine lv_if_eq (pc := 24) (tgt := 31) hx hb dX7_canBe_24 (by decide) (fun c2 => ?_) (fun c2 => ?_)
    · have hf := (if_pos c2).symm.trans hf
      refine lv_iconst (pc := 31) (v := 0) hx hb dX7_canBe_31 (by decide) ?_
      exact ro_z hx hb hr hlk (Option.some.inj hf) rfl dX7_canBe_32
    · have hf := (if_neg c2).symm.trans hf
      refine lv_iconst (pc := 27) (v := 1) hx hb dX7_canBe_27 (by decide) ?_
      refine lv_goto (pc := 28) (tgt := 32) hx hb dX7_canBe_28 (by decide) ?_
      exact ro_z hx hb hr hlk (Option.some.inj hf) rfl dX7_canBe_32
def f_X7_set_b29 (o0 : ObS) (x1 : Int32) (x2 : Int32) (k29_0 : Int32) : Option (Int32 × ObS) :=
  (f_X7_holds o0 k29_0).bind fun r29 =>
  if r29.1 = (0 : Int32) then
    some ((0 : Int32), r29.2)
  else
    if inb x1 12 then
    if inb x1 12 then
    (some (oi r29.2 4 (x1).toNatClampNeg x2)).bind fun s51 =>
    some (r29.2.1 4 (x1).toNatClampNeg, s51)
    else none
    else none
def f_X7_set (o0 : ObS) (x1 : Int32) (x2 : Int32) : Option (Int32 × ObS) :=
  (f_X7_isUnit o0 x1).bind fun r2 =>
  if r2 = (0 : Int32) then
    f_X7_set_b29 o0 x1 x2 1
  else
    (f_X7_canBe o0 x1 x2).bind fun r18 =>
    if r18 = (0 : Int32) then
      f_X7_set_b29 o0 x1 x2 2
    else
      f_X7_set_b29 o0 x1 x2 0
set_option maxHeartbeats 4000000 in
set_option maxRecDepth 100000 in
theorem c_X7_set (Z : EnvT) (l : Launch) (a0 : Nat → Nat) (o0 : ObS) (x1 : Int32) (x2 : Int32) (R : Int32 × ObS) (hf : f_X7_set o0 x1 x2 = some R) : RW Z l yX7_set wsX7_set { frames := 2, cells := 0, slots := 0, locals := 44 } [.ref (a0 0), .int x1, .int x2] (wX7 Z a0 o0) (some (.int R.1)) (fun _ => wX7 Z a0 R.2) 0 0 := by
  refine rw_of (cc := cX7_set) (maxL := 5) (ret := (some .int)) (by decide) rfl (Nat.le_of_ble_eq_true rfl) ?_
  intro p e s m below meth c A ls hx hb hr hml hts hown hlk hin hP hK hE hD hA hS hl
  have hown : s.vm.findClass RX7 = some m.cls := hown
  have hl : lv_has ls 5 [(0, .ref (a0 0)), (1, .int x1), (2, .int x2)] := hl
  have w0 := hts (.fieldLink RX7 13 "HeatTrainModel" "numbers" "[I") (by decide +kernel)
  have u7 : ∀ w ∈ wsX70, w ∈ wsX7_set := by decide +kernel
  have B29 : ∀ (k29_0 : Int32) (ls : Array Slot), lv_has ls 5 [(0, .ref (a0 0)), (1, .int x1), (2, .int x2)] → ∀ (H : Heap) (locs : List Loc), va_P Z.1 vwCl (wX7 Z a0 o0) H → va_D A (wX7 Z a0 o0) → va_S A s.heap H locs → f_X7_set_b29 o0 x1 x2 k29_0 = some R → W p l e { frames := 2, cells := 0, slots := 0, locals := 44 } s m ([.ref (a0 0), .int x1, .int x2] : List Value).toArray below meth c H locs 0 0 (MQ below (rwQ Z (some (.int R.1)) (fun _ => wX7 Z a0 R.2) A) ([.ref (a0 0), .int x1, .int x2] : List Value).toArray s 0 0 A) (F0 m 29 ls [.int k29_0, .ref (a0 0)]) := by
    intro k29_0 ls hl H locs hP hD hS hf
    rw [f_X7_set_b29] at hf
    obtain ⟨r29, h_29, hf⟩ := bd hf
    refine rw_V (pc := 29) (C := RX7) (As := [.int k29_0]) (rest := []) (st1 := [.int r29.1]) (wn := fun _ => wX7 Z a0 r29.2) ⟨hx, hb, hml, hown, hts⟩ (c_X7_holds Z l a0 o0 k29_0 r29 h_29) (cwV 1 hts gX7_set_X7_holds rfl rfl rfl hv_X7_holds ⟨Nat.le_of_ble_eq_true rfl, Nat.le_of_ble_eq_true rfl⟩) hK hE hP hD hS hA [0, 1, 2, 3, 4, 5, 6, 7, 8, 9, 10, 11, 12, 13, 14, 15, 16, 17, 18, 19, 20, 21, 22, 23, 24, 25, 26, 27, 28, 29, 30, 31, 32, 33, 34, 35] [] [0, 1, 2, 3, 4, 5, 6, 7, 8, 9, 10, 11, 12, 13, 14, 15, 16, 17, 18, 19, 20, 21, 22, 23, 24, 25, 26, 27, 28, 29, 30, 31, 32, 33, 34, 35] rfl rfl rfl (fun _ => rfl) 7 rfl rfl rfl hl.1 rfl (lv_room (Nat.le_of_ble_eq_true rfl)) dX7_set_29 ⟨Nat.le_of_ble_eq_true rfl, Nat.le_of_ble_eq_true rfl⟩ rfl (fun _ H locs hP hD hS => ?_)
    refine lv_if_ne (pc := 32) (tgt := 37) hx hb dX7_set_32 (by decide) (fun c1 => ?_) (fun c1 => ?_)
    · have hf := (if_neg c1).symm.trans hf
      refine lv_aload_n (pc := 37) hx hb dX7_set_37 rfl (lv_at hl 0 rfl) ?_
      refine va_get (pc := 38) (D := Z.1) (ci := 7) (v := .ref (a0 5)) (C := RX7) (T := TX7) (N := 41) hx hb hts u7 hown hK hP 0 rfl rfl 4 (by decide) w0 (fun _ h9 => h9) rfl dX7_set_38 ?_
      refine lv_iload_n (pc := 41) hx hb dX7_set_41 rfl (lv_at hl 1 rfl) ?_
      obtain ⟨g42, hf⟩ := gd hf
      refine va_iald (pc := 42) (D := Z.1) (n := 12) (f := r29.2.1 4) hx hb hK hP 2 0 rfl rfl (inb_in g42) dX7_set_42 ?_
      refine lv_istore (pc := 43) (lv' := [(4, .int (r29.2.1 4 (x1).toNatClampNeg)), (0, .ref (a0 0)), (1, .int x1), (2, .int x2)]) hx hb dX7_set_43 hl (by decide) rfl (fun ls hl => ?_)
      refine lv_aload_n (pc := 45) hx hb dX7_set_45 rfl (lv_at hl 1 rfl) ?_
      refine va_get (pc := 46) (D := Z.1) (ci := 7) (v := .ref (a0 5)) (C := RX7) (T := TX7) (N := 41) hx hb hts u7 hown hK hP 0 rfl rfl 4 (by decide) w0 (fun _ h9 => h9) rfl dX7_set_46 ?_
      refine lv_iload_n (pc := 49) hx hb dX7_set_49 rfl (lv_at hl 2 rfl) ?_
      refine lv_iload_n (pc := 50) hx hb dX7_set_50 rfl (lv_at hl 3 rfl) ?_
      obtain ⟨g51, hf⟩ := gd hf
      refine va_iast (pc := 51) (D := Z.1) (n := 12) (f := r29.2.1 4) hx hb hK hP hD hS 2 0 rfl rfl (inb_in g51) dX7_set_51 (fun H locs hP hD hS => ?_)
      obtain ⟨s51, h_51, hf⟩ := bd hf
      have hP : va_P Z.1 vwCl (wX7 Z a0 s51) H := st_P (f := fun z => wX7 Z a0 z) h_51 hP
      have hD : va_D A (wX7 Z a0 s51) := st_D (f := fun z => wX7 Z a0 z) h_51 hD
      refine lv_iload (pc := 52) hx hb dX7_set_52 (lv_at hl 0 rfl) ?_
      have hf := (Option.some.inj hf)
      subst hf
      exact rw_i (fun _ => 0) hx hb hr hlk rfl hP hD hS dX7_set_54
    · have hf := (if_pos c1).symm.trans hf
      refine lv_iconst (pc := 35) (v := 0) hx hb dX7_set_35 (by decide) ?_
      have hf := (Option.some.inj hf)
      subst hf
      exact rw_i (fun _ => 0) hx hb hr hlk rfl hP hD hS dX7_set_36
  rw [f_X7_set] at hf
  refine lv_aload_n (pc := 0) hx hb dX7_set_0 rfl (lv_at hl 0 rfl) ?_
  refine lv_iload_n (pc := 1) hx hb dX7_set_1 rfl (lv_at hl 1 rfl) ?_
  obtain ⟨r2, h_2, hf⟩ := bd hf
  refine ro_V (pc := 2) (C := RX7) (As := [.int x1]) (rest := []) (st1 := [.int r2]) ⟨hx, hb, hml, hown, hts⟩ (c_X7_isUnit Z l a0 o0 x1 r2 h_2) (cwV 1 hts gX7_set_X7_isUnit rfl rfl rfl hv_X7_isUnit ⟨Nat.le_of_ble_eq_true rfl, Nat.le_of_ble_eq_true rfl⟩) hK hE hP 7 rfl rfl rfl hl.1 rfl (lv_room (Nat.le_of_ble_eq_true rfl)) dX7_set_2 ⟨Nat.le_of_ble_eq_true rfl, Nat.le_of_ble_eq_true rfl⟩ rfl ?_
  refine lv_istore_n (pc := 5) (lv' := [(3, .int r2), (0, .ref (a0 0)), (1, .int x1), (2, .int x2)]) hx hb dX7_set_5 rfl hl (by decide) rfl (fun ls hl => ?_)
  refine lv_aload_n (pc := 6) hx hb dX7_set_6 rfl (lv_at hl 1 rfl) ?_
  refine lv_iload_n (pc := 7) hx hb dX7_set_7 rfl (lv_at hl 0 rfl) ?_
  refine lv_if_ne (pc := 8) (tgt := 15) hx hb dX7_set_8 (by decide) (fun c1 => ?_) (fun c1 => ?_)
  · have hf := (if_neg c1).symm.trans hf
    refine lv_aload_n (pc := 15) hx hb dX7_set_15 rfl (lv_at hl 1 rfl) ?_
    refine lv_iload_n (pc := 16) hx hb dX7_set_16 rfl (lv_at hl 2 rfl) ?_
    refine lv_iload_n (pc := 17) hx hb dX7_set_17 rfl (lv_at hl 3 rfl) ?_
    obtain ⟨r18, h_18, hf⟩ := bd hf
    refine ro_V (pc := 18) (C := RX7) (As := [.int x1, .int x2]) (rest := [.ref (a0 0)]) (st1 := [.int r18, .ref (a0 0)]) ⟨hx, hb, hml, hown, hts⟩ (c_X7_canBe Z l a0 o0 x1 x2 r18 h_18) (cwV 2 hts gX7_set_X7_canBe rfl rfl rfl hv_X7_canBe ⟨Nat.le_of_ble_eq_true rfl, Nat.le_of_ble_eq_true rfl⟩) hK hE hP 7 rfl rfl rfl hl.1 rfl (lv_room (Nat.le_of_ble_eq_true rfl)) dX7_set_18 ⟨Nat.le_of_ble_eq_true rfl, Nat.le_of_ble_eq_true rfl⟩ rfl ?_
    refine lv_if_eq (pc := 21) (tgt := 28) hx hb dX7_set_21 (by decide) (fun c2 => ?_) (fun c2 => ?_)
    · have hf := (if_pos c2).symm.trans hf
      refine lv_iconst (pc := 28) (v := 2) hx hb dX7_set_28 (by decide) ?_
      exact B29 2 _ (lv_sub hl [1, 2, 3] rfl) _ _ hP hD hS hf
    · have hf := (if_neg c2).symm.trans hf
      refine lv_iconst (pc := 24) (v := 0) hx hb dX7_set_24 (by decide) ?_
      refine lv_goto (pc := 25) (tgt := 29) hx hb dX7_set_25 (by decide) ?_
      exact B29 0 _ (lv_sub hl [1, 2, 3] rfl) _ _ hP hD hS hf
  · have hf := (if_pos c1).symm.trans hf
    refine lv_iconst (pc := 11) (v := 1) hx hb dX7_set_11 (by decide) ?_
    refine lv_goto (pc := 12) (tgt := 29) hx hb dX7_set_12 (by decide) ?_
    exact B29 1 _ (lv_sub hl [1, 2, 3] rfl) _ _ hP hD hS hf
def f_X7_disturb_b60 (o0 : ObS) (x1 : Int32) (x2 : Int32) (x3 : Int32) (k60_0 : Int32) : Option (Int32 × ObS) :=
  (f_X7_holds o0 k60_0).bind fun r60 =>
  if r60.1 = (0 : Int32) then
    some ((0 : Int32), r60.2)
  else
    if inb (r60.2.1 18 0) 40 then
    (some (oi r60.2 19 (r60.2.1 18 0).toNatClampNeg x1)).bind fun s77 =>
    if inb (s77.1 18 0) 40 then
    (some (oi s77 20 (s77.1 18 0).toNatClampNeg x2)).bind fun s87 =>
    if inb (s87.1 18 0) 40 then
    (some (oi s87 21 (s87.1 18 0).toNatClampNeg x3)).bind fun s97 =>
    (some (oi s97 18 0 ((s97.1 18 0) + 1))).bind fun s105 =>
    some (s105.1 18 0, s105)
    else none
    else none
    else none
def f_X7_disturb_b42 (o0 : ObS) (x1 : Int32) (x2 : Int32) (x3 : Int32)  : Option (Int32 × ObS) :=
  f_X7_disturb_b60 o0 x1 x2 x3 2
def f_X7_disturb (o0 : ObS) (x1 : Int32) (x2 : Int32) (x3 : Int32) : Option (Int32 × ObS) :=
  (f_X7_isUnit o0 x2).bind fun r2 =>
  if r2 = (0 : Int32) then
    f_X7_disturb_b60 o0 x1 x2 x3 1
  else
    if (f_X7_in x1 ((o0.1 1 0) + 1) 300) = (0 : Int32) then
      f_X7_disturb_b42 o0 x1 x2 x3
    else
      (f_X7_canBe o0 x2 x3).bind fun r36 =>
      if r36 = (0 : Int32) then
        f_X7_disturb_b42 o0 x1 x2 x3
      else
        if (o0.1 18 0) = 40 then
          f_X7_disturb_b60 o0 x1 x2 x3 3
        else
          f_X7_disturb_b60 o0 x1 x2 x3 0
set_option maxHeartbeats 4000000 in
set_option maxRecDepth 100000 in
theorem c_X7_disturb (Z : EnvT) (l : Launch) (a0 : Nat → Nat) (o0 : ObS) (x1 : Int32) (x2 : Int32) (x3 : Int32) (R : Int32 × ObS) (hf : f_X7_disturb o0 x1 x2 x3 = some R) : RW Z l yX7_disturb wsX7_disturb { frames := 2, cells := 0, slots := 0, locals := 44 } [.ref (a0 0), .int x1, .int x2, .int x3] (wX7 Z a0 o0) (some (.int R.1)) (fun _ => wX7 Z a0 R.2) 0 0 := by
  refine rw_of (cc := cX7_disturb) (maxL := 5) (ret := (some .int)) (by decide) rfl (Nat.le_of_ble_eq_true rfl) ?_
  intro p e s m below meth c A ls hx hb hr hml hts hown hlk hin hP hK hE hD hA hS hl
  have hown : s.vm.findClass RX7 = some m.cls := hown
  have hl : lv_has ls 5 [(0, .ref (a0 0)), (1, .int x1), (2, .int x2), (3, .int x3)] := hl
  have w0 := hts (.fieldLink RX7 132 "HeatTrainModel" "now" "I") (by decide +kernel)
  have w1 := hts (.fieldLink RX7 163 "HeatTrainModel" "coming" "I") (by decide +kernel)
  have w2 := hts (.fieldLink RX7 57 "HeatTrainModel" "comesIn" "[I") (by decide +kernel)
  have w3 := hts (.fieldLink RX7 60 "HeatTrainModel" "comesTo" "[I") (by decide +kernel)
  have w4 := hts (.fieldLink RX7 63 "HeatTrainModel" "comesAs" "[I") (by decide +kernel)
  have u7 : ∀ w ∈ wsX70, w ∈ wsX7_disturb := by decide +kernel
  have B60 : ∀ (k60_0 : Int32) (ls : Array Slot), lv_has ls 5 [(0, .ref (a0 0)), (1, .int x1), (2, .int x2), (3, .int x3)] → ∀ (H : Heap) (locs : List Loc), va_P Z.1 vwCl (wX7 Z a0 o0) H → va_D A (wX7 Z a0 o0) → va_S A s.heap H locs → f_X7_disturb_b60 o0 x1 x2 x3 k60_0 = some R → W p l e { frames := 2, cells := 0, slots := 0, locals := 44 } s m ([.ref (a0 0), .int x1, .int x2, .int x3] : List Value).toArray below meth c H locs 0 0 (MQ below (rwQ Z (some (.int R.1)) (fun _ => wX7 Z a0 R.2) A) ([.ref (a0 0), .int x1, .int x2, .int x3] : List Value).toArray s 0 0 A) (F0 m 60 ls [.int k60_0, .ref (a0 0)]) := by
    intro k60_0 ls hl H locs hP hD hS hf
    rw [f_X7_disturb_b60] at hf
    obtain ⟨r60, h_60, hf⟩ := bd hf
    refine rw_V (pc := 60) (C := RX7) (As := [.int k60_0]) (rest := []) (st1 := [.int r60.1]) (wn := fun _ => wX7 Z a0 r60.2) ⟨hx, hb, hml, hown, hts⟩ (c_X7_holds Z l a0 o0 k60_0 r60 h_60) (cwV 1 hts gX7_disturb_X7_holds rfl rfl rfl hv_X7_holds ⟨Nat.le_of_ble_eq_true rfl, Nat.le_of_ble_eq_true rfl⟩) hK hE hP hD hS hA [0, 1, 2, 3, 4, 5, 6, 7, 8, 9, 10, 11, 12, 13, 14, 15, 16, 17, 18, 19, 20, 21, 22, 23, 24, 25, 26, 27, 28, 29, 30, 31, 32, 33, 34, 35] [] [0, 1, 2, 3, 4, 5, 6, 7, 8, 9, 10, 11, 12, 13, 14, 15, 16, 17, 18, 19, 20, 21, 22, 23, 24, 25, 26, 27, 28, 29, 30, 31, 32, 33, 34, 35] rfl rfl rfl (fun _ => rfl) 7 rfl rfl rfl hl.1 rfl (lv_room (Nat.le_of_ble_eq_true rfl)) dX7_disturb_60 ⟨Nat.le_of_ble_eq_true rfl, Nat.le_of_ble_eq_true rfl⟩ rfl (fun _ H locs hP hD hS => ?_)
    refine lv_if_ne (pc := 63) (tgt := 68) hx hb dX7_disturb_63 (by decide) (fun c1 => ?_) (fun c1 => ?_)
    · have hf := (if_neg c1).symm.trans hf
      refine lv_aload_n (pc := 68) hx hb dX7_disturb_68 rfl (lv_at hl 0 rfl) ?_
      refine va_get (pc := 69) (D := Z.1) (ci := 7) (v := .ref (a0 20)) (C := RX7) (T := TX7) (N := 41) hx hb hts u7 hown hK hP 0 rfl rfl 19 (by decide) w2 (fun _ h9 => h9) rfl dX7_disturb_69 ?_
      refine lv_aload_n (pc := 72) hx hb dX7_disturb_72 rfl (lv_at hl 0 rfl) ?_
      refine va_get (pc := 73) (D := Z.1) (ci := 7) (v := .int (r60.2.1 18 0)) (C := RX7) (T := TX7) (N := 41) hx hb hts u7 hown hK hP 0 rfl rfl 18 (by decide) w1 (fun _ h9 => h9) rfl dX7_disturb_73 ?_
      refine lv_iload_n (pc := 76) hx hb dX7_disturb_76 rfl (lv_at hl 1 rfl) ?_
      obtain ⟨g77, hf⟩ := gd hf
      refine va_iast (pc := 77) (D := Z.1) (n := 40) (f := r60.2.1 19) hx hb hK hP hD hS 16 0 rfl rfl (inb_in g77) dX7_disturb_77 (fun H locs hP hD hS => ?_)
      obtain ⟨s77, h_77, hf⟩ := bd hf
      have hP : va_P Z.1 vwCl (wX7 Z a0 s77) H := st_P (f := fun z => wX7 Z a0 z) h_77 hP
      have hD : va_D A (wX7 Z a0 s77) := st_D (f := fun z => wX7 Z a0 z) h_77 hD
      refine lv_aload_n (pc := 78) hx hb dX7_disturb_78 rfl (lv_at hl 0 rfl) ?_
      refine va_get (pc := 79) (D := Z.1) (ci := 7) (v := .ref (a0 21)) (C := RX7) (T := TX7) (N := 41) hx hb hts u7 hown hK hP 0 rfl rfl 20 (by decide) w3 (fun _ h9 => h9) rfl dX7_disturb_79 ?_
      refine lv_aload_n (pc := 82) hx hb dX7_disturb_82 rfl (lv_at hl 0 rfl) ?_
      refine va_get (pc := 83) (D := Z.1) (ci := 7) (v := .int (s77.1 18 0)) (C := RX7) (T := TX7) (N := 41) hx hb hts u7 hown hK hP 0 rfl rfl 18 (by decide) w1 (fun _ h9 => h9) rfl dX7_disturb_83 ?_
      refine lv_iload_n (pc := 86) hx hb dX7_disturb_86 rfl (lv_at hl 2 rfl) ?_
      obtain ⟨g87, hf⟩ := gd hf
      refine va_iast (pc := 87) (D := Z.1) (n := 40) (f := s77.1 20) hx hb hK hP hD hS 17 0 rfl rfl (inb_in g87) dX7_disturb_87 (fun H locs hP hD hS => ?_)
      obtain ⟨s87, h_87, hf⟩ := bd hf
      have hP : va_P Z.1 vwCl (wX7 Z a0 s87) H := st_P (f := fun z => wX7 Z a0 z) h_87 hP
      have hD : va_D A (wX7 Z a0 s87) := st_D (f := fun z => wX7 Z a0 z) h_87 hD
      refine lv_aload_n (pc := 88) hx hb dX7_disturb_88 rfl (lv_at hl 0 rfl) ?_
      refine va_get (pc := 89) (D := Z.1) (ci := 7) (v := .ref (a0 22)) (C := RX7) (T := TX7) (N := 41) hx hb hts u7 hown hK hP 0 rfl rfl 21 (by decide) w4 (fun _ h9 => h9) rfl dX7_disturb_89 ?_
      refine lv_aload_n (pc := 92) hx hb dX7_disturb_92 rfl (lv_at hl 0 rfl) ?_
      refine va_get (pc := 93) (D := Z.1) (ci := 7) (v := .int (s87.1 18 0)) (C := RX7) (T := TX7) (N := 41) hx hb hts u7 hown hK hP 0 rfl rfl 18 (by decide) w1 (fun _ h9 => h9) rfl dX7_disturb_93 ?_
      refine lv_iload_n (pc := 96) hx hb dX7_disturb_96 rfl (lv_at hl 3 rfl) ?_
      obtain ⟨g97, hf⟩ := gd hf
      refine va_iast (pc := 97) (D := Z.1) (n := 40) (f := s87.1 21) hx hb hK hP hD hS 18 0 rfl rfl (inb_in g97) dX7_disturb_97 (fun H locs hP hD hS => ?_)
      obtain ⟨s97, h_97, hf⟩ := bd hf
      have hP : va_P Z.1 vwCl (wX7 Z a0 s97) H := st_P (f := fun z => wX7 Z a0 z) h_97 hP
      have hD : va_D A (wX7 Z a0 s97) := st_D (f := fun z => wX7 Z a0 z) h_97 hD
      refine lv_aload_n (pc := 98) hx hb dX7_disturb_98 rfl (lv_at hl 0 rfl) ?_
      refine lv_dup (pc := 99) hx hb dX7_disturb_99 rfl ?_
      refine va_get (pc := 100) (D := Z.1) (ci := 7) (v := .int (s97.1 18 0)) (C := RX7) (T := TX7) (N := 41) hx hb hts u7 hown hK hP 0 rfl rfl 18 (by decide) w1 (fun _ h9 => h9) rfl dX7_disturb_100 ?_
      refine lv_iconst (pc := 103) (v := 1) hx hb dX7_disturb_103 (by decide) ?_
      refine lv_iadd (pc := 104) hx hb dX7_disturb_104 ?_
      refine va_put (pc := 105) (D := Z.1) (ci := 7) (v := .int ((s97.1 18 0) + 1)) (ty := .int) (C := RX7) (T := TX7) (N := 41) hx hb hts u7 tyX7 tyX7_ok nmX7 hown hK hP hD hS 0 rfl rfl 18 (by decide) w1 (fun _ h9 => h9) rfl (by decide +kernel) rfl rfl (Nat.le_of_ble_eq_true rfl) dX7_disturb_105 (fun H locs hP hD hS => ?_)
      obtain ⟨s105, h_105, hf⟩ := bd hf
      have hP : va_P Z.1 vwCl (wX7 Z a0 s105) H := st_P (f := fun z => wX7 Z a0 z) h_105 hP
      have hD : va_D A (wX7 Z a0 s105) := st_D (f := fun z => wX7 Z a0 z) h_105 hD
      refine lv_aload_n (pc := 108) hx hb dX7_disturb_108 rfl (lv_at hl 0 rfl) ?_
      refine va_get (pc := 109) (D := Z.1) (ci := 7) (v := .int (s105.1 18 0)) (C := RX7) (T := TX7) (N := 41) hx hb hts u7 hown hK hP 0 rfl rfl 18 (by decide) w1 (fun _ h9 => h9) rfl dX7_disturb_109 ?_
      have hf := (Option.some.inj hf)
      subst hf
      exact rw_i (fun _ => 0) hx hb hr hlk rfl hP hD hS dX7_disturb_112
    · have hf := (if_pos c1).symm.trans hf
      refine lv_iconst (pc := 66) (v := 0) hx hb dX7_disturb_66 (by decide) ?_
      have hf := (Option.some.inj hf)
      subst hf
      exact rw_i (fun _ => 0) hx hb hr hlk rfl hP hD hS dX7_disturb_67
  have B42 : ∀ (ls : Array Slot), lv_has ls 5 [(0, .ref (a0 0)), (1, .int x1), (2, .int x2), (3, .int x3)] → ∀ (H : Heap) (locs : List Loc), va_P Z.1 vwCl (wX7 Z a0 o0) H → va_D A (wX7 Z a0 o0) → va_S A s.heap H locs → f_X7_disturb_b42 o0 x1 x2 x3 = some R → W p l e { frames := 2, cells := 0, slots := 0, locals := 44 } s m ([.ref (a0 0), .int x1, .int x2, .int x3] : List Value).toArray below meth c H locs 0 0 (MQ below (rwQ Z (some (.int R.1)) (fun _ => wX7 Z a0 R.2) A) ([.ref (a0 0), .int x1, .int x2, .int x3] : List Value).toArray s 0 0 A) (F0 m 42 ls [.ref (a0 0)]) := by
    intro ls hl H locs hP hD hS hf
    rw [f_X7_disturb_b42] at hf
    refine lv_iconst (pc := 42) (v := 2) hx hb dX7_disturb_42 (by decide) ?_
    refine lv_goto (pc := 43) (tgt := 60) hx hb dX7_disturb_43 (by decide) ?_
    exact B60 2 _ (lv_sub hl [0, 1, 2, 3] rfl) _ _ hP hD hS hf
  rw [f_X7_disturb] at hf
  refine lv_aload_n (pc := 0) hx hb dX7_disturb_0 rfl (lv_at hl 0 rfl) ?_
  refine lv_iload_n (pc := 1) hx hb dX7_disturb_1 rfl (lv_at hl 2 rfl) ?_
  obtain ⟨r2, h_2, hf⟩ := bd hf
  refine ro_V (pc := 2) (C := RX7) (As := [.int x2]) (rest := []) (st1 := [.int r2]) ⟨hx, hb, hml, hown, hts⟩ (c_X7_isUnit Z l a0 o0 x2 r2 h_2) (cwV 1 hts gX7_disturb_X7_isUnit rfl rfl rfl hv_X7_isUnit ⟨Nat.le_of_ble_eq_true rfl, Nat.le_of_ble_eq_true rfl⟩) hK hE hP 7 rfl rfl rfl hl.1 rfl (lv_room (Nat.le_of_ble_eq_true rfl)) dX7_disturb_2 ⟨Nat.le_of_ble_eq_true rfl, Nat.le_of_ble_eq_true rfl⟩ rfl ?_
  refine lv_istore (pc := 5) (lv' := [(4, .int r2), (0, .ref (a0 0)), (1, .int x1), (2, .int x2), (3, .int x3)]) hx hb dX7_disturb_5 hl (by decide) rfl (fun ls hl => ?_)
  refine lv_aload_n (pc := 7) hx hb dX7_disturb_7 rfl (lv_at hl 1 rfl) ?_
  refine lv_iload (pc := 8) hx hb dX7_disturb_8 (lv_at hl 0 rfl) ?_
  refine lv_if_ne (pc := 10) (tgt := 17) hx hb dX7_disturb_10 (by decide) (fun c1 => ?_) (fun c1 => ?_)
  · have hf := (if_neg c1).symm.trans hf
    refine lv_iload_n (pc := 17) hx hb dX7_disturb_17 rfl (lv_at hl 2 rfl) ?_
    refine lv_aload_n (pc := 18) hx hb dX7_disturb_18 rfl (lv_at hl 1 rfl) ?_
    refine va_get (pc := 19) (D := Z.1) (ci := 7) (v := .int (o0.1 1 0)) (C := RX7) (T := TX7) (N := 41) hx hb hts u7 hown hK hP 0 rfl rfl 1 (by decide) w0 (fun _ h9 => h9) rfl dX7_disturb_19 ?_
    refine lv_iconst (pc := 22) (v := 1) hx hb dX7_disturb_22 (by decide) ?_
    refine lv_iadd (pc := 23) hx hb dX7_disturb_23 ?_
    refine lv_sipush (pc := 24) (v := 300) hx hb dX7_disturb_24 (by decide) ?_
    refine ro_S (pc := 27) (As := [.int x1, .int ((o0.1 1 0) + 1), .int 300]) (rest := [.ref (a0 0)]) (st1 := [.int (f_X7_in x1 ((o0.1 1 0) + 1) 300), .ref (a0 0)]) ⟨hx, hb, hml, hown, hts⟩ (c_X7_in Z l x1 ((o0.1 1 0) + 1) 300 _ rfl) (va_cwS 3 hts gX7_disturb_X7_in rfl rfl rfl hs_X7_in ⟨Nat.le_of_ble_eq_true rfl, Nat.le_of_ble_eq_true rfl⟩) hK hE (hP.sub (ws' := []) [] rfl) rfl hl.1 rfl (lv_room (Nat.le_of_ble_eq_true rfl)) dX7_disturb_27 ⟨Nat.le_of_ble_eq_true rfl, Nat.le_of_ble_eq_true rfl⟩ rfl ?_
    refine lv_if_eq (pc := 30) (tgt := 42) hx hb dX7_disturb_30 (by decide) (fun c2 => ?_) (fun c2 => ?_)
    · have hf := (if_pos c2).symm.trans hf
      exact B42 _ (lv_sub hl [1, 2, 3, 4] rfl) _ _ hP hD hS hf
    · have hf := (if_neg c2).symm.trans hf
      refine lv_aload_n (pc := 33) hx hb dX7_disturb_33 rfl (lv_at hl 1 rfl) ?_
      refine lv_iload_n (pc := 34) hx hb dX7_disturb_34 rfl (lv_at hl 3 rfl) ?_
      refine lv_iload_n (pc := 35) hx hb dX7_disturb_35 rfl (lv_at hl 4 rfl) ?_
      obtain ⟨r36, h_36, hf⟩ := bd hf
      refine ro_V (pc := 36) (C := RX7) (As := [.int x2, .int x3]) (rest := [.ref (a0 0)]) (st1 := [.int r36, .ref (a0 0)]) ⟨hx, hb, hml, hown, hts⟩ (c_X7_canBe Z l a0 o0 x2 x3 r36 h_36) (cwV 2 hts gX7_disturb_X7_canBe rfl rfl rfl hv_X7_canBe ⟨Nat.le_of_ble_eq_true rfl, Nat.le_of_ble_eq_true rfl⟩) hK hE hP 7 rfl rfl rfl hl.1 rfl (lv_room (Nat.le_of_ble_eq_true rfl)) dX7_disturb_36 ⟨Nat.le_of_ble_eq_true rfl, Nat.le_of_ble_eq_true rfl⟩ rfl ?_
      refine lv_if_ne (pc := 39) (tgt := 46) hx hb dX7_disturb_39 (by decide) (fun c3 => ?_) (fun c3 => ?_)
      · have hf := (if_neg c3).symm.trans hf
        refine lv_aload_n (pc := 46) hx hb dX7_disturb_46 rfl (lv_at hl 1 rfl) ?_
        refine va_get (pc := 47) (D := Z.1) (ci := 7) (v := .int (o0.1 18 0)) (C := RX7) (T := TX7) (N := 41) hx hb hts u7 hown hK hP 0 rfl rfl 18 (by decide) w1 (fun _ h9 => h9) rfl dX7_disturb_47 ?_
        refine lv_bipush (pc := 50) (v := 40) hx hb dX7_disturb_50 (by decide) ?_
        refine lv_icmp_ne (pc := 52) (tgt := 59) hx hb dX7_disturb_52 (by decide) (fun c4 => ?_) (fun c4 => ?_)
        · have hf := (if_neg c4).symm.trans hf
          refine lv_iconst (pc := 59) (v := 0) hx hb dX7_disturb_59 (by decide) ?_
          exact B60 0 _ (lv_sub hl [1, 2, 3, 4] rfl) _ _ hP hD hS hf
        · have hf := (if_pos c4).symm.trans hf
          refine lv_iconst (pc := 55) (v := 3) hx hb dX7_disturb_55 (by decide) ?_
          refine lv_goto (pc := 56) (tgt := 60) hx hb dX7_disturb_56 (by decide) ?_
          exact B60 3 _ (lv_sub hl [1, 2, 3, 4] rfl) _ _ hP hD hS hf
      · have hf := (if_pos c3).symm.trans hf
        exact B42 _ (lv_sub hl [1, 2, 3, 4] rfl) _ _ hP hD hS hf
  · have hf := (if_pos c1).symm.trans hf
    refine lv_iconst (pc := 13) (v := 1) hx hb dX7_disturb_13 (by decide) ?_
    refine lv_goto (pc := 14) (tgt := 60) hx hb dX7_disturb_14 (by decide) ?_
    exact B60 1 _ (lv_sub hl [1, 2, 3, 4] rfl) _ _ hP hD hS hf
