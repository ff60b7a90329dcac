def f_X6_isOutside (x1 : Int32) (x2 : Int32) (x3 : Int32) : Int32 :=
  if x1 < x2 then
    (1 : Int32)
  else
    if x1 ≤ x3 then
      (0 : Int32)
    else
      (1 : Int32)
set_option maxHeartbeats 4000000 in
set_option maxRecDepth 100000 in
theorem c_X6_isOutside (Z : EnvT) (l : Launch) (x1 : Int32) (x2 : Int32) (x3 : Int32) (R : Int32) (hf : f_X6_isOutside x1 x2 x3 = R) : RO Z l yX6_isOutside wsX6_isOutside { frames := 0, cells := 0, slots := 0, locals := 0 } [.int x1, .int x2, .int x3] ([]) (some (.int R)) := by
  refine ro_of (cc := cX6_isOutside) (maxL := 3) (ret := (some .boolean)) (by decide) rfl (Nat.le_of_ble_eq_true rfl) ?_
  intro p e s m below meth c ls hx hb hr hml hts hown hlk hP hK hE hl
  have hown : s.vm.findClass RX6 = some m.cls := hown
  have hl : lv_has ls 3 [(0, .int x1), (1, .int x2), (2, .int x3)] := hl
  rw [f_X6_isOutside] at hf
  refine lv_iload_n (pc := 0) hx hb dX6_isOutside_0 rfl (lv_at hl 0 rfl) ?_
  refine lv_iload_n (pc := 1) hx hb dX6_isOutside_1 rfl (lv_at hl 1 rfl) ?_
  refine lv_icmp_lt (pc := 2) (tgt := 10) hx hb dX6_isOutside_2 (by decide) (fun c1 => ?_) (fun c1 => ?_)
  · have hf := (if_pos c1).symm.trans hf
    refine lv_iconst (pc := 10) (v := 1) hx hb dX6_isOutside_10 (by decide) ?_
    refine lv_goto (pc := 11) (tgt := 15) hx hb dX6_isOutside_11 (by decide) ?_
    exact ro_z hx hb hr hlk hf rfl dX6_isOutside_15
  · have hf := (if_neg c1).symm.trans hf
    refine lv_iload_n (pc := 5) hx hb dX6_isOutside_5 rfl (lv_at hl 0 rfl) ?_
    refine lv_iload_n (pc := 6) hx hb dX6_isOutside_6 rfl (lv_at hl 2 rfl) ?_
    refine lv_icmp_le (pc := 7) (tgt := 14) hx hb dX6_isOutside_7 (by decide) (fun c2 => ?_) (fun c2 => ?_)
    · have hf := (if_pos c2).symm.trans hf
      refine lv_iconst (pc := 14) (v := 0) hx hb dX6_isOutside_14 (by decide) ?_
      exact ro_z hx hb hr hlk hf rfl dX6_isOutside_15
    · have hf := (if_neg c2).symm.trans hf
      refine lv_iconst (pc := 10) (v := 1) hx hb dX6_isOutside_10 (by decide) ?_
      refine lv_goto (pc := 11) (tgt := 15) hx hb dX6_isOutside_11 (by decide) ?_
      exact ro_z hx hb hr hlk hf rfl dX6_isOutside_15
def f_X6_held (x1 : Int64) (x2 : Int64) (x3 : Int64) : Int64 :=
  if (0 : Int32) ≤ (lg_cmp x1 x2) then
    if (lg_cmp x1 x3) ≤ (0 : Int32) then
      x1
    else
      x3
  else
    x2
set_option maxHeartbeats 4000000 in
set_option maxRecDepth 100000 in
theorem c_X6_held (Z : EnvT) (l : Launch) (x1 : Int64) (x2 : Int64) (x3 : Int64) (R : Int64) (hf : f_X6_held x1 x2 x3 = R) : RO Z l yX6_held wsX6_held { frames := 0, cells := 0, slots := 0, locals := 0 } [.long x1, .long x2, .long x3] ([]) (some (.long R)) := by
  refine ro_of (cc := cX6_held) (maxL := 6) (ret := (some .long)) (by decide) rfl (Nat.le_of_ble_eq_true rfl) ?_
  intro p e s m below meth c ls hx hb hr hml hts hown hlk hP hK hE hl
  have hown : s.vm.findClass RX6 = some m.cls := hown
  have hl : lv_has ls 6 [(0, .long x1), (2, .long x2), (4, .long x3)] := hl
  rw [f_X6_held] at hf
  refine lv_lload_n (pc := 0) hx hb dX6_held_0 rfl (lv_at hl 0 rfl) ?_
  refine lv_lload_n (pc := 1) hx hb dX6_held_1 rfl (lv_at hl 1 rfl) ?_
  refine W.lcmp (pc := 2) hx hb dX6_held_2 ?_
  refine lv_if_ge (pc := 3) (tgt := 8) hx hb dX6_held_3 (by decide) (fun c1 => ?_) (fun c1 => ?_)
  · have hf := (if_pos c1).symm.trans hf
    refine lv_lload_n (pc := 8) hx hb dX6_held_8 rfl (lv_at hl 0 rfl) ?_
    refine lv_lload (pc := 9) hx hb dX6_held_9 (lv_at hl 2 rfl) ?_
    refine W.lcmp (pc := 11) hx hb dX6_held_11 ?_
    refine lv_if_le (pc := 12) (tgt := 20) hx hb dX6_held_12 (by decide) (fun c2 => ?_) (fun c2 => ?_)
    · have hf := (if_pos c2).symm.trans hf
      refine lv_lload_n (pc := 20) hx hb dX6_held_20 rfl (lv_at hl 0 rfl) ?_
      exact ro_l hx hb hr hlk hf dX6_held_21
    · have hf := (if_neg c2).symm.trans hf
      refine lv_lload (pc := 15) hx hb dX6_held_15 (lv_at hl 2 rfl) ?_
      refine lv_goto (pc := 17) (tgt := 21) hx hb dX6_held_17 (by decide) ?_
      exact ro_l hx hb hr hlk hf dX6_held_21
  · have hf := (if_neg c1).symm.trans hf
    refine lv_lload_n (pc := 6) hx hb dX6_held_6 rfl (lv_at hl 1 rfl) ?_
    exact ro_l hx hb hr hlk hf dX6_held_7
def f_X6_mostOf (x1 : Int32) : Int32 :=
  if x1 = 0 then
    (999 : Int32)
  else
    if x1 = 1 then
      (100 : Int32)
    else
      if x1 = 2 then
        (-1 : Int32)
      else
        if x1 = 3 then
          (9999 : Int32)
        else
          if x1 = 4 then
            (99999 : Int32)
          else
            (-1 : Int32)
set_option maxHeartbeats 4000000 in
set_option maxRecDepth 100000 in
theorem c_X6_mostOf (Z : EnvT) (l : Launch) (x1 : Int32) (R : Int32) (hf : f_X6_mostOf x1 = R) : RO Z l yX6_mostOf wsX6_mostOf { frames := 0, cells := 0, slots := 0, locals := 0 } [.int x1] ([]) (some (.int R)) := by
  refine ro_of (cc := cX6_mostOf) (maxL := 1) (ret := (some .int)) (by decide) rfl (Nat.le_of_ble_eq_true rfl) ?_
  intro p e s m below meth c ls hx hb hr hml hts hown hlk hP hK hE hl
  have hown : s.vm.findClass RX6 = some m.cls := hown
  have hl : lv_has ls 1 [(0, .int x1)] := hl
  have w0 := hts (.constant RX6 147 (99999)) (by decide +kernel)
  rw [f_X6_mostOf] at hf
  refine lv_iload_n (pc := 0) hx hb dX6_mostOf_0 rfl (lv_at hl 0 rfl) ?_
  by_cases c1 : x1 = 0
  · have hf := (if_pos c1).symm.trans hf
    refine lv_tableIn (pc := 1) (off := 35) (tgt := 36) hx hb dX6_mostOf_1 (by rw [c1]; decide) (by rw [c1]; decide) (by rw [c1]; rfl) (by decide) ?_
    refine lv_sipush (pc := 36) (v := 999) hx hb dX6_mostOf_36 (by decide) ?_
    exact ro_i hx hb hr hlk hf dX6_mostOf_39
  · have hf := (if_neg c1).symm.trans hf
    by_cases c2 : x1 = 1
    · have hf := (if_pos c2).symm.trans hf
      refine lv_tableIn (pc := 1) (off := 39) (tgt := 40) hx hb dX6_mostOf_1 (by rw [c2]; decide) (by rw [c2]; decide) (by rw [c2]; rfl) (by decide) ?_
      refine lv_bipush (pc := 40) (v := 100) hx hb dX6_mostOf_40 (by decide) ?_
      exact ro_i hx hb hr hlk hf dX6_mostOf_42
    · have hf := (if_neg c2).symm.trans hf
      by_cases c3 : x1 = 2
      · have hf := (if_pos c3).symm.trans hf
        refine lv_tableIn (pc := 1) (off := 49) (tgt := 50) hx hb dX6_mostOf_1 (by rw [c3]; decide) (by rw [c3]; decide) (by rw [c3]; rfl) (by decide) ?_
        refine lv_iconst (pc := 50) (v := (-1)) hx hb dX6_mostOf_50 (by decide) ?_
        exact ro_i hx hb hr hlk hf dX6_mostOf_51
      · have hf := (if_neg c3).symm.trans hf
        by_cases c4 : x1 = 3
        · have hf := (if_pos c4).symm.trans hf
          refine lv_tableIn (pc := 1) (off := 42) (tgt := 43) hx hb dX6_mostOf_1 (by rw [c4]; decide) (by rw [c4]; decide) (by rw [c4]; rfl) (by decide) ?_
          refine lv_sipush (pc := 43) (v := 9999) hx hb dX6_mostOf_43 (by decide) ?_
          exact ro_i hx hb hr hlk hf dX6_mostOf_46
        · have hf := (if_neg c4).symm.trans hf
          by_cases c5 : x1 = 4
          · have hf := (if_pos c5).symm.trans hf
            refine lv_tableIn (pc := 1) (off := 46) (tgt := 47) hx hb dX6_mostOf_1 (by rw [c5]; decide) (by rw [c5]; decide) (by rw [c5]; rfl) (by decide) ?_
            refine lv_ldc (pc := 47) (v := 99999) hx hb hown w0 dX6_mostOf_47 ?_
            exact ro_i hx hb hr hlk hf dX6_mostOf_49
          · have hf := (if_neg c5).symm.trans hf
            refine lv_tableOut (pc := 1) (tgt := 50) hx hb dX6_mostOf_1 (by have := tne c1 (show (0 : Int32).toInt = 0 by decide); have := tne c2 (show (1 : Int32).toInt = 1 by decide); have := tne c3 (show (2 : Int32).toInt = 2 by decide); have := tne c4 (show (3 : Int32).toInt = 3 by decide); have := tne c5 (show (4 : Int32).toInt = 4 by decide); omega) (by decide) ?_
            refine lv_iconst (pc := 50) (v := (-1)) hx hb dX6_mostOf_50 (by decide) ?_
            exact ro_i hx hb hr hlk hf dX6_mostOf_51
def f_X6_isNumberOf (x1 : Int32) (x2 : Int32) : Int32 :=
  if (f_X6_isOutside x2 0 (f_X6_mostOf x1)) = (0 : Int32) then
    (1 : Int32)
  else
    (0 : Int32)
set_option maxHeartbeats 4000000 in
set_option maxRecDepth 100000 in
theorem c_X6_isNumberOf (Z : EnvT) (l : Launch) (x1 : Int32) (x2 : Int32) (R : Int32) (hf : f_X6_isNumberOf x1 x2 = R) : RO Z l yX6_isNumberOf wsX6_isNumberOf { frames := 1, cells := 0, slots := 0, locals := 22 } [.int x1, .int x2] ([]) (some (.int R)) := by
  refine ro_of (cc := cX6_isNumberOf) (maxL := 2) (ret := (some .boolean)) (by decide) rfl (Nat.le_of_ble_eq_true rfl) ?_
  intro p e s m below meth c ls hx hb hr hml hts hown hlk hP hK hE hl
  have hown : s.vm.findClass RX6 = some m.cls := hown
  have hl : lv_has ls 2 [(0, .int x1), (1, .int x2)] := hl
  rw [f_X6_isNumberOf] at hf
  refine lv_iload_n (pc := 0) hx hb dX6_isNumberOf_0 rfl (lv_at hl 1 rfl) ?_
  refine lv_iconst (pc := 1) (v := 0) hx hb dX6_isNumberOf_1 (by decide) ?_
  refine lv_iload_n (pc := 2) hx hb dX6_isNumberOf_2 rfl (lv_at hl 0 rfl) ?_
  refine ro_S (pc := 3) (As := [.int x1]) (rest := [.int 0, .int x2]) (st1 := [.int (f_X6_mostOf x1), .int 0, .int x2]) ⟨hx, hb, hml, hown, hts⟩ (c_X6_mostOf Z l x1 _ rfl) (va_cwS 1 hts gX6_isNumberOf_X6_mostOf rfl rfl rfl hs_X6_mostOf ⟨Nat.le_of_ble_eq_true rfl, Nat.le_of_ble_eq_true rfl⟩) hK hE hP rfl hl.1 rfl (lv_room (Nat.le_of_ble_eq_true rfl)) dX6_isNumberOf_3 ⟨Nat.le_of_ble_eq_true rfl, Nat.le_of_ble_eq_true rfl⟩ rfl ?_
  refine ro_S (pc := 6) (As := [.int x2, .int 0, .int (f_X6_mostOf x1)]) (rest := []) (st1 := [.int (f_X6_isOutside x2 0 (f_X6_mostOf x1))]) ⟨hx, hb, hml, hown, hts⟩ (c_X6_isOutside Z l x2 0 (f_X6_mostOf x1) _ rfl) (va_cwS 3 hts gX6_isNumberOf_X6_isOutside rfl rfl rfl hs_X6_isOutside ⟨Nat.le_of_ble_eq_true rfl, Nat.le_of_ble_eq_true rfl⟩) hK hE hP rfl hl.1 rfl (lv_room (Nat.le_of_ble_eq_true rfl)) dX6_isNumberOf_6 ⟨Nat.le_of_ble_eq_true rfl, Nat.le_of_ble_eq_true rfl⟩ rfl ?_
  refine lv_if_ne (pc := 9) (tgt := 16) hx hb dX6_isNumberOf_9 (by decide) (fun c1 => ?_) (fun c1 => ?_)
  · have hf := (if_neg c1).symm.trans hf
    refine lv_iconst (pc := 16) (v := 0) hx hb dX6_isNumberOf_16 (by decide) ?_
    exact ro_z hx hb hr hlk hf rfl dX6_isNumberOf_17
  · have hf := (if_pos c1).symm.trans hf
    refine lv_iconst (pc := 12) (v := 1) hx hb dX6_isNumberOf_12 (by decide) ?_
    refine lv_goto (pc := 13) (tgt := 17) hx hb dX6_isNumberOf_13 (by decide) ?_
    exact ro_z hx hb hr hlk hf rfl dX6_isNumberOf_17
