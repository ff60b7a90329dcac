def f_law_c6 (xs : Nat → Int32) (L : Nat) (x4 : Int32) (h : Nat → ObS) (mo w : ObS) (kk : ((Nat → ObS) → ObS → ObS → Option Int32)) : Option Int32 :=
  if inb (x4 + 1) L then
  if inb (x4 + 2) L then
  if inb (x4 + 3) L then
  (f_L_ratio h (xs (x4 + 1).toNatClampNeg) (xs (x4 + 2).toNatClampNeg) (xs (x4 + 3).toNatClampNeg) w).bind fun r640 =>
  if inb (x4 + 1) L then
  if inb (x4 + 2) L then
  if inb (x4 + 3) L then
  (f_X7_ratio mo (xs (x4 + 1).toNatClampNeg) (xs (x4 + 2).toNatClampNeg) (xs (x4 + 3).toNatClampNeg)).bind fun r664 =>
  if (f_X7_thrown r664.2) = r640.1 then
    if r640.1 = (0 : Int32) then
      if (lg_cmp (r640.2.2.2 0 ((0 : Int32).toNatClampNeg)) r664.1.toInt64) = (0 : Int32) then
        kk r640.2.1 r664.2 r640.2.2
      else
        some (0 : Int32)
    else
      kk r640.2.1 r664.2 r640.2.2
  else
    some (0 : Int32)
  else none
  else none
  else none
  else none
  else none
  else none
set_option maxHeartbeats 4000000 in
set_option maxRecDepth 100000 in
theorem lc_6 {p : Program} {l : Launch} {e : Env} {s : State} {m : MethodId} {below : List Frame} {meth : Method} {c : Code} {Z : EnvT} {b0 L : Nat} {xs : Nat → Int32} (hst : l.stackTraces = false) (C0 : lw_At p s m meth c b0 L xs) (hK : va_K Z.1 vwCl (tyV Z) s) (hE : EV Z s) (hZ : ZQ (fun q : Nat => s.heap.size ≤ q) s s.heap) {CC SS : Nat} (hCC : CC + 5 ≤ 441704) (hSS : SS + 7200 ≤ 7770994) {x4 : Int32} {B : Nat → Nat → Nat} {h : Nat → ObS} {am ao : Nat → Nat} {mo w : ObS} {H : Heap} {locs : List Loc} {ls : Array Slot} (kk : ((Nat → ObS) → ObS → ObS → Option Int32))
    (ih : ∀ (B : Nat → Nat → Nat) (h : Nat → ObS) (mo w : ObS) (H : Heap) (locs : List Loc) (ls : Array Slot), lv_has ls 7 [(0, .ref b0), (1, .ref (B 0 0)), (2, .ref (am 0)), (3, .ref (ao 0)), (4, .int x4)] → va_P Z.1 vwCl (wH Z B h ++ (wX7 Z am mo ++ wO Z ao w)) H → va_D (fun q : Nat => s.heap.size ≤ q) (wH Z B h ++ (wX7 Z am mo ++ wO Z ao w)) → va_S (fun q : Nat => s.heap.size ≤ q) s.heap H locs → kk h mo w = some 1 → W p l e room_1 s m #[Value.ref b0] below meth c H locs (CC + 5) (SS + 7200) (lw_Z below #[Value.ref b0] s) (F0 m 1443 ls []))
    (hl : lv_has ls 7 [(0, .ref b0), (1, .ref (B 0 0)), (2, .ref (am 0)), (3, .ref (ao 0)), (4, .int x4)]) (hP : va_P Z.1 vwCl (wH Z B h ++ (wX7 Z am mo ++ wO Z ao w)) H) (hD : va_D (fun q : Nat => s.heap.size ≤ q) (wH Z B h ++ (wX7 Z am mo ++ wO Z ao w))) (hS : va_S (fun q : Nat => s.heap.size ≤ q) s.heap H locs) (hf : f_law_c6 xs L x4 h mo w kk = some 1) : W p l e room_1 s m #[Value.ref b0] below meth c H locs CC SS (lw_Z below #[Value.ref b0] s) (F0 m 620 ls []) := by
  obtain ⟨hx, hb, hr, hml, hown, hts, hX, hbl, hlocks, hgv⟩ := C0
  have hown : s.vm.findClass RL = some m.cls := hown
  have htsL : ∀ w ∈ wsL_law, w.before #[Value.ref b0] s = true := fun w h9 => hts w (wsL_law_in w h9)
  have hA : ∀ q : Nat, s.heap.size ≤ q → (fun q : Nat => s.heap.size ≤ q) q := fun _ h9 => h9
  have hbA : ¬ (fun q : Nat => s.heap.size ≤ q) b0 := Nat.not_le.mpr hbl
  rw [f_law_c6] at hf
  refine lv_aload_n (pc := 620) hx hb dL_law_620 rfl (lv_at hl 1 rfl) ?_
  refine lv_aload_n (pc := 621) hx hb dL_law_621 rfl (lv_at hl 0 rfl) ?_
  refine lv_iload (pc := 622) hx hb dL_law_622 (lv_at hl 4 rfl) ?_
  refine lv_iconst (pc := 624) (v := 1) hx hb dL_law_624 (by decide) ?_
  refine lv_iadd (pc := 625) hx hb dL_law_625 ?_
  obtain ⟨g626, hf⟩ := gd hf
  refine va_sld (pc := 626) hx hb hX hbl hbA hS (inb_in g626) dL_law_626 ?_
  refine lv_aload_n (pc := 627) hx hb dL_law_627 rfl (lv_at hl 0 rfl) ?_
  refine lv_iload (pc := 628) hx hb dL_law_628 (lv_at hl 4 rfl) ?_
  refine lv_iconst (pc := 630) (v := 2) hx hb dL_law_630 (by decide) ?_
  refine lv_iadd (pc := 631) hx hb dL_law_631 ?_
  obtain ⟨g632, hf⟩ := gd hf
  refine va_sld (pc := 632) hx hb hX hbl hbA hS (inb_in g632) dL_law_632 ?_
  refine lv_aload_n (pc := 633) hx hb dL_law_633 rfl (lv_at hl 0 rfl) ?_
  refine lv_iload (pc := 634) hx hb dL_law_634 (lv_at hl 4 rfl) ?_
  refine lv_iconst (pc := 636) (v := 3) hx hb dL_law_636 (by decide) ?_
  refine lv_iadd (pc := 637) hx hb dL_law_637 ?_
  obtain ⟨g638, hf⟩ := gd hf
  refine va_sld (pc := 638) hx hb hX hbl hbA hS (inb_in g638) dL_law_638 ?_
  refine lv_aload_n (pc := 639) hx hb dL_law_639 rfl (lv_at hl 3 rfl) ?_
  obtain ⟨r640, h_640, hf⟩ := bd hf
  refine wr_S (pc := 640) (As := [.ref (B 0 0), .int (xs (x4 + 1).toNatClampNeg), .int (xs (x4 + 2).toNatClampNeg), .int (xs (x4 + 3).toNatClampNeg), .ref (ao 0)]) (rest := []) (st1 := [.int r640.1]) (wn := fun _ => wH Z B r640.2.1 ++ (wX7 Z am mo ++ wO Z ao r640.2.2)) ⟨hx, hb, hml, hown, htsL⟩ (c_L_ratio Z l hst B h (xs (x4 + 1).toNatClampNeg) (xs (x4 + 2).toNatClampNeg) (xs (x4 + 3).toNatClampNeg) ao w r640 h_640) (vx_cwSW 5 htsL gL_law_L_ratio rfl rfl rfl hs_L_ratio ⟨Nat.le_of_ble_eq_true rfl, Nat.le_of_ble_eq_true rfl⟩) hK hE hP hD hS hA hZ (List.range' 0 40 ++ List.range' (40 + 36) 1) (List.range' 40 36) (List.range' 36 40 ++ (List.range' 0 36 ++ List.range' (36 + 40) 1)) (by decide +kernel) (bC13 rfl rfl rfl) (bR2 rfl rfl) (fun _ => bN13 rfl rfl rfl rfl) rfl hl.1 rfl (lv_room (Nat.le_of_ble_eq_true rfl)) dL_law_640 ⟨(show CC + 0 + 4 ≤ 441704 by omega), (show SS + 0 + 24 ≤ 7770994 by omega)⟩ rfl (fun _ H locs hP hD hS => ?_)
  refine lv_istore (pc := 643) (lv' := [(5, .int r640.1), (0, .ref b0), (1, .ref (B 0 0)), (2, .ref (am 0)), (3, .ref (ao 0)), (4, .int x4)]) hx hb dL_law_643 hl (by decide) rfl (fun ls hl => ?_)
  refine lv_aload_n (pc := 645) hx hb dL_law_645 rfl (lv_at hl 3 rfl) ?_
  refine lv_aload_n (pc := 646) hx hb dL_law_646 rfl (lv_at hl 1 rfl) ?_
  refine lv_iload (pc := 647) hx hb dL_law_647 (lv_at hl 5 rfl) ?_
  refine lv_iconst (pc := 649) (v := 1) hx hb dL_law_649 (by decide) ?_
  refine lv_iadd (pc := 650) hx hb dL_law_650 ?_
  obtain ⟨g651, hf⟩ := gd hf
  refine va_sld (pc := 651) hx hb hX hbl hbA hS (inb_in g651) dL_law_651 ?_
  refine lv_aload_n (pc := 652) hx hb dL_law_652 rfl (lv_at hl 1 rfl) ?_
  refine lv_iload (pc := 653) hx hb dL_law_653 (lv_at hl 5 rfl) ?_
  refine lv_iconst (pc := 655) (v := 2) hx hb dL_law_655 (by decide) ?_
  refine lv_iadd (pc := 656) hx hb dL_law_656 ?_
  obtain ⟨g657, hf⟩ := gd hf
  refine va_sld (pc := 657) hx hb hX hbl hbA hS (inb_in g657) dL_law_657 ?_
  refine lv_aload_n (pc := 658) hx hb dL_law_658 rfl (lv_at hl 1 rfl) ?_
  refine lv_iload (pc := 659) hx hb dL_law_659 (lv_at hl 5 rfl) ?_
  refine lv_iconst (pc := 661) (v := 3) hx hb dL_law_661 (by decide) ?_
  refine lv_iadd (pc := 662) hx hb dL_law_662 ?_
  obtain ⟨g663, hf⟩ := gd hf
  refine va_sld (pc := 663) hx hb hX hbl hbA hS (inb_in g663) dL_law_663 ?_
  obtain ⟨r664, h_664, hf⟩ := bd hf
  refine rw_V (pc := 664) (C := RX7) (As := [.int (xs (x4 + 1).toNatClampNeg), .int (xs (x4 + 2).toNatClampNeg), .int (xs (x4 + 3).toNatClampNeg)]) (rest := []) (st1 := [.int r664.1]) (wn := fun _ => wH Z B r640.2.1 ++ (wX7 Z am r664.2 ++ wO Z ao r640.2.2)) ⟨hx, hb, hml, hown, htsL⟩ (c_X7_ratio Z l am mo (xs (x4 + 1).toNatClampNeg) (xs (x4 + 2).toNatClampNeg) (xs (x4 + 3).toNatClampNeg) r664 h_664) (cwV 3 htsL gL_law_X7_ratio rfl rfl rfl hv_X7_ratio ⟨Nat.le_of_ble_eq_true rfl, Nat.le_of_ble_eq_true rfl⟩) hK hE hP hD hS hA (List.range' 40 36) (List.range' 0 40 ++ List.range' (40 + 36) 1) (List.range' 0 40 ++ (List.range' (40 + 1) 36 ++ List.range' 40 1)) (by decide +kernel) (bC2 rfl rfl) (bR13 rfl rfl rfl) (fun _ => bN2 rfl rfl rfl rfl) 7 rfl rfl rfl hl.1 rfl (lv_room (Nat.le_of_ble_eq_true rfl)) dL_law_664 ⟨(show CC + 4 + 0 ≤ 441704 by omega), (show SS + 24 + 0 ≤ 7770994 by omega)⟩ rfl (fun _ H locs hP hD hS => ?_)
  refine lv_istore (pc := 667) (lv' := [(6, .int r664.1), (5, .int r640.1), (0, .ref b0), (1, .ref (B 0 0)), (2, .ref (am 0)), (3, .ref (ao 0)), (4, .int x4)]) hx hb dL_law_667 hl (by decide) rfl (fun ls hl => ?_)
  refine lv_aload_n (pc := 669) hx hb dL_law_669 rfl (lv_at hl 4 rfl) ?_
  refine ro_V (pc := 670) (C := RX7) (As := []) (rest := []) (st1 := [.int (f_X7_thrown r664.2)]) ⟨hx, hb, hml, hown, htsL⟩ (c_X7_thrown Z l am r664.2 _ rfl) (cwV 0 htsL gL_law_X7_thrown rfl rfl rfl hv_X7_thrown ⟨Nat.le_of_ble_eq_true rfl, Nat.le_of_ble_eq_true rfl⟩) hK hE (hP.sub (ws' := wX7 Z am r664.2) (List.range' 40 36) (bF2 rfl rfl)) 7 rfl rfl rfl hl.1 rfl (lv_room (Nat.le_of_ble_eq_true rfl)) dL_law_670 ⟨(show CC + 4 ≤ 441704 by omega), (show SS + 24 ≤ 7770994 by omega)⟩ rfl ?_
  refine lv_iload (pc := 673) hx hb dL_law_673 (lv_at hl 1 rfl) ?_
  refine lv_icmp_eq (pc := 675) (tgt := 680) hx hb dL_law_675 (by decide) (fun c1 => ?_) (fun c1 => ?_)
  · have hf := (if_pos c1).symm.trans hf
    refine lv_iload (pc := 680) hx hb dL_law_680 (lv_at hl 1 rfl) ?_
    refine lv_if_ne (pc := 682) (tgt := 697) hx hb dL_law_682 (by decide) (fun c2 => ?_) (fun c2 => ?_)
    · have hf := (if_neg c2).symm.trans hf
      refine lv_goto (pc := 697) (tgt := 1443) hx hb dL_law_697 (by decide) ?_
      refine W.widen (k := CC + 5) (n := SS + 7200) (by omega) (by omega) ?_
      exact ih B r640.2.1 r664.2 r640.2.2 _ _ _ (lv_sub hl [2, 3, 4, 5, 6] rfl) hP hD hS hf
    · have hf := (if_pos c2).symm.trans hf
      refine lv_aload_n (pc := 685) hx hb dL_law_685 rfl (lv_at hl 5 rfl) ?_
      refine lv_iconst (pc := 686) (v := 0) hx hb dL_law_686 (by decide) ?_
      refine va_lald (pc := 687) (D := Z.1) (n := 1) (f := r640.2.2.2 0) hx hb hK hP 76 1 rfl rfl (inb_in (by decide)) dL_law_687 ?_
      refine lv_iload (pc := 688) hx hb dL_law_688 (lv_at hl 0 rfl) ?_
      refine lv_i2l (pc := 690) (v := r664.1.toInt64) hx hb dL_law_690 rfl ?_
      refine W.lcmp (pc := 691) hx hb dL_law_691 ?_
      refine lv_if_eq (pc := 692) (tgt := 697) hx hb dL_law_692 (by decide) (fun c3 => ?_) (fun c3 => ?_)
      · have hf := (if_pos c3).symm.trans hf
        refine lv_goto (pc := 697) (tgt := 1443) hx hb dL_law_697 (by decide) ?_
        refine W.widen (k := CC + 5) (n := SS + 7200) (by omega) (by omega) ?_
        exact ih B r640.2.1 r664.2 r640.2.2 _ _ _ (lv_sub hl [2, 3, 4, 5, 6] rfl) hP hD hS hf
      · have hf := (if_neg c3).symm.trans hf
        refine lv_iconst (pc := 695) (v := 0) hx hb dL_law_695 (by decide) ?_
        exact absurd (Option.some.inj hf) (by decide)
  · have hf := (if_neg c1).symm.trans hf
    refine lv_iconst (pc := 678) (v := 0) hx hb dL_law_678 (by decide) ?_
    exact absurd (Option.some.inj hf) (by decide)
def f_law_c7 (xs : Nat → Int32) (L : Nat) (x4 : Int32) (h : Nat → ObS) (mo w : ObS) (kk : ((Nat → ObS) → ObS → ObS → Option Int32)) : Option Int32 :=
  if inb (x4 + 1) L then
  if inb (x4 + 2) L then
  if inb (x4 + 3) L then
  (f_L_feed h (xs (x4 + 1).toNatClampNeg) (xs (x4 + 2).toNatClampNeg) (xs (x4 + 3).toNatClampNeg)).bind fun r719 =>
  if inb (x4 + 1) L then
  if inb (x4 + 2) L then
  if inb (x4 + 3) L then
  (f_X7_feed mo (xs (x4 + 1).toNatClampNeg) (xs (x4 + 2).toNatClampNeg) (xs (x4 + 3).toNatClampNeg)).bind fun r743 =>
  if (f_X7_thrown r743) = r719.1 then
    kk r719.2 r743 w
  else
    some (0 : Int32)
  else none
  else none
  else none
  else none
  else none
  else none
set_option maxHeartbeats 4000000 in
set_option maxRecDepth 100000 in
theorem lc_7 {p : Program} {l : Launch} {e : Env} {s : State} {m : MethodId} {below : List Frame} {meth : Method} {c : Code} {Z : EnvT} {b0 L : Nat} {xs : Nat → Int32} (hst : l.stackTraces = false) (C0 : lw_At p s m meth c b0 L xs) (hK : va_K Z.1 vwCl (tyV Z) s) (hE : EV Z s) (hZ : ZQ (fun q : Nat => s.heap.size ≤ q) s s.heap) {CC SS : Nat} (hCC : CC + 5 ≤ 441704) (hSS : SS + 7200 ≤ 7770994) {x4 : Int32} {B : Nat → Nat → Nat} {h : Nat → ObS} {am ao : Nat → Nat} {mo w : ObS} {H : Heap} {locs : List Loc} {ls : Array Slot} (kk : ((Nat → ObS) → ObS → ObS → Option Int32))
    (ih : ∀ (B : Nat → Nat → Nat) (h : Nat → ObS) (mo w : ObS) (H : Heap) (locs : List Loc) (ls : Array Slot), lv_has ls 7 [(0, .ref b0), (1, .ref (B 0 0)), (2, .ref (am 0)), (3, .ref (ao 0)), (4, .int x4)] → va_P Z.1 vwCl (wH Z B h ++ (wX7 Z am mo ++ wO Z ao w)) H → va_D (fun q : Nat => s.heap.size ≤ q) (wH Z B h ++ (wX7 Z am mo ++ wO Z ao w)) → va_S (fun q : Nat => s.heap.size ≤ q) s.heap H locs → kk h mo w = some 1 → W p l e room_1 s m #[Value.ref b0] below meth c H locs (CC + 5) (SS + 7200) (lw_Z below #[Value.ref b0] s) (F0 m 1443 ls []))
    (hl : lv_has ls 7 [(0, .ref b0), (1, .ref (B 0 0)), (2, .ref (am 0)), (3, .ref (ao 0)), (4, .int x4)]) (hP : va_P Z.1 vwCl (wH Z B h ++ (wX7 Z am mo ++ wO Z ao w)) H) (hD : va_D (fun q : Nat => s.heap.size ≤ q) (wH Z B h ++ (wX7 Z am mo ++ wO Z ao w))) (hS : va_S (fun q : Nat => s.heap.size ≤ q) s.heap H locs) (hf : f_law_c7 xs L x4 h mo w kk = some 1) : W p l e room_1 s m #[Value.ref b0] below meth c H locs CC SS (lw_Z below #[Value.ref b0] s) (F0 m 700 ls []) := by
  obtain ⟨hx, hb, hr, hml, hown, hts, hX, hbl, hlocks, hgv⟩ := C0
  have hown : s.vm.findClass RL = some m.cls := hown
  have htsL : ∀ w ∈ wsL_law, w.before #[Value.ref b0] s = true := fun w h9 => hts w (wsL_law_in w h9)
  have hA : ∀ q : Nat, s.heap.size ≤ q → (fun q : Nat => s.heap.size ≤ q) q := fun _ h9 => h9
  have hbA : ¬ (fun q : Nat => s.heap.size ≤ q) b0 := Nat.not_le.mpr hbl
  rw [f_law_c7] at hf
  refine lv_aload_n (pc := 700) hx hb dL_law_700 rfl (lv_at hl 1 rfl) ?_
  refine lv_aload_n (pc := 701) hx hb dL_law_701 rfl (lv_at hl 0 rfl) ?_
  refine lv_iload (pc := 702) hx hb dL_law_702 (lv_at hl 4 rfl) ?_
  refine lv_iconst (pc := 704) (v := 1) hx hb dL_law_704 (by decide) ?_
  refine lv_iadd (pc := 705) hx hb dL_law_705 ?_
  obtain ⟨g706, hf⟩ := gd hf
  refine va_sld (pc := 706) hx hb hX hbl hbA hS (inb_in g706) dL_law_706 ?_
  refine lv_aload_n (pc := 707) hx hb dL_law_707 rfl (lv_at hl 0 rfl) ?_
  refine lv_iload (pc := 708) hx hb dL_law_708 (lv_at hl 4 rfl) ?_
  refine lv_iconst (pc := 710) (v := 2) hx hb dL_law_710 (by decide) ?_
  refine lv_iadd (pc := 711) hx hb dL_law_711 ?_
  obtain ⟨g712, hf⟩ := gd hf
  refine va_sld (pc := 712) hx hb hX hbl hbA hS (inb_in g712) dL_law_712 ?_
  refine lv_aload_n (pc := 713) hx hb dL_law_713 rfl (lv_at hl 0 rfl) ?_
  refine lv_iload (pc := 714) hx hb dL_law_714 (lv_at hl 4 rfl) ?_
  refine lv_iconst (pc := 716) (v := 3) hx hb dL_law_716 (by decide) ?_
  refine lv_iadd (pc := 717) hx hb dL_law_717 ?_
  obtain ⟨g718, hf⟩ := gd hf
  refine va_sld (pc := 718) hx hb hX hbl hbA hS (inb_in g718) dL_law_718 ?_
  obtain ⟨r719, h_719, hf⟩ := bd hf
  refine wr_S (pc := 719) (As := [.ref (B 0 0), .int (xs (x4 + 1).toNatClampNeg), .int (xs (x4 + 2).toNatClampNeg), .int (xs (x4 + 3).toNatClampNeg)]) (rest := []) (st1 := [.int r719.1]) (wn := fun _ => wH Z B r719.2 ++ (wX7 Z am mo ++ wO Z ao w)) ⟨hx, hb, hml, hown, htsL⟩ (c_L_feed Z l hst B h (xs (x4 + 1).toNatClampNeg) (xs (x4 + 2).toNatClampNeg) (xs (x4 + 3).toNatClampNeg) r719 h_719) (vx_cwSW 4 htsL gL_law_L_feed rfl rfl rfl hs_L_feed ⟨Nat.le_of_ble_eq_true rfl, Nat.le_of_ble_eq_true rfl⟩) hK hE hP hD hS hA hZ (List.range' 0 40) (List.range' 40 (36 + 1)) (List.range' (36 + 1) 40 ++ List.range' 0 (36 + 1)) (by decide +kernel) (bC1 rfl) (bR1 rfl rfl rfl) (fun _ => bN1 rfl rfl rfl rfl) rfl hl.1 rfl (lv_room (Nat.le_of_ble_eq_true rfl)) dL_law_719 ⟨(show CC + 0 + 3 ≤ 441704 by omega), (show SS + 0 + 18 ≤ 7770994 by omega)⟩ rfl (fun _ H locs hP hD hS => ?_)
  refine lv_istore (pc := 722) (lv' := [(5, .int r719.1), (0, .ref b0), (1, .ref (B 0 0)), (2, .ref (am 0)), (3, .ref (ao 0)), (4, .int x4)]) hx hb dL_law_722 hl (by decide) rfl (fun ls hl => ?_)
  refine lv_aload_n (pc := 724) hx hb dL_law_724 rfl (lv_at hl 3 rfl) ?_
  refine lv_aload_n (pc := 725) hx hb dL_law_725 rfl (lv_at hl 1 rfl) ?_
  refine lv_iload (pc := 726) hx hb dL_law_726 (lv_at hl 5 rfl) ?_
  refine lv_iconst (pc := 728) (v := 1) hx hb dL_law_728 (by decide) ?_
  refine lv_iadd (pc := 729) hx hb dL_law_729 ?_
  obtain ⟨g730, hf⟩ := gd hf
  refine va_sld (pc := 730) hx hb hX hbl hbA hS (inb_in g730) dL_law_730 ?_
  refine lv_aload_n (pc := 731) hx hb dL_law_731 rfl (lv_at hl 1 rfl) ?_
  refine lv_iload (pc := 732) hx hb dL_law_732 (lv_at hl 5 rfl) ?_
  refine lv_iconst (pc := 734) (v := 2) hx hb dL_law_734 (by decide) ?_
  refine lv_iadd (pc := 735) hx hb dL_law_735 ?_
  obtain ⟨g736, hf⟩ := gd hf
  refine va_sld (pc := 736) hx hb hX hbl hbA hS (inb_in g736) dL_law_736 ?_
  refine lv_aload_n (pc := 737) hx hb dL_law_737 rfl (lv_at hl 1 rfl) ?_
  refine lv_iload (pc := 738) hx hb dL_law_738 (lv_at hl 5 rfl) ?_
  refine lv_iconst (pc := 740) (v := 3) hx hb dL_law_740 (by decide) ?_
  refine lv_iadd (pc := 741) hx hb dL_law_741 ?_
  obtain ⟨g742, hf⟩ := gd hf
  refine va_sld (pc := 742) hx hb hX hbl hbA hS (inb_in g742) dL_law_742 ?_
  obtain ⟨r743, h_743, hf⟩ := bd hf
  refine rw_V (pc := 743) (C := RX7) (As := [.int (xs (x4 + 1).toNatClampNeg), .int (xs (x4 + 2).toNatClampNeg), .int (xs (x4 + 3).toNatClampNeg)]) (rest := []) (st1 := []) (wn := fun _ => wH Z B r719.2 ++ (wX7 Z am r743 ++ wO Z ao w)) ⟨hx, hb, hml, hown, htsL⟩ (c_X7_feed Z l am mo (xs (x4 + 1).toNatClampNeg) (xs (x4 + 2).toNatClampNeg) (xs (x4 + 3).toNatClampNeg) r743 h_743) (cwV 3 htsL gL_law_X7_feed rfl rfl rfl hv_X7_feed ⟨Nat.le_of_ble_eq_true rfl, Nat.le_of_ble_eq_true rfl⟩) hK hE hP hD hS hA (List.range' 40 36) (List.range' 0 40 ++ List.range' (40 + 36) 1) (List.range' 0 40 ++ (List.range' (40 + 1) 36 ++ List.range' 40 1)) (by decide +kernel) (bC2 rfl rfl) (bR13 rfl rfl rfl) (fun _ => bN2 rfl rfl rfl rfl) 7 rfl rfl rfl hl.1 rfl (lv_room (Nat.le_of_ble_eq_true rfl)) dL_law_743 ⟨(show CC + 3 + 0 ≤ 441704 by omega), (show SS + 18 + 0 ≤ 7770994 by omega)⟩ rfl (fun _ H locs hP hD hS => ?_)
  refine lv_aload_n (pc := 746) hx hb dL_law_746 rfl (lv_at hl 3 rfl) ?_
  refine ro_V (pc := 747) (C := RX7) (As := []) (rest := []) (st1 := [.int (f_X7_thrown r743)]) ⟨hx, hb, hml, hown, htsL⟩ (c_X7_thrown Z l am r743 _ rfl) (cwV 0 htsL gL_law_X7_thrown rfl rfl rfl hv_X7_thrown ⟨Nat.le_of_ble_eq_true rfl, Nat.le_of_ble_eq_true rfl⟩) hK hE (hP.sub (ws' := wX7 Z am r743) (List.range' 40 36) (bF2 rfl rfl)) 7 rfl rfl rfl hl.1 rfl (lv_room (Nat.le_of_ble_eq_true rfl)) dL_law_747 ⟨(show CC + 3 ≤ 441704 by omega), (show SS + 18 ≤ 7770994 by omega)⟩ rfl ?_
  refine lv_iload (pc := 750) hx hb dL_law_750 (lv_at hl 0 rfl) ?_
  refine lv_icmp_eq (pc := 752) (tgt := 757) hx hb dL_law_752 (by decide) (fun c1 => ?_) (fun c1 => ?_)
  · have hf := (if_pos c1).symm.trans hf
    refine lv_goto (pc := 757) (tgt := 1443) hx hb dL_law_757 (by decide) ?_
    refine W.widen (k := CC + 5) (n := SS + 7200) (by omega) (by omega) ?_
    exact ih B r719.2 r743 w _ _ _ (lv_sub hl [1, 2, 3, 4, 5] rfl) hP hD hS hf
  · have hf := (if_neg c1).symm.trans hf
    refine lv_iconst (pc := 755) (v := 0) hx hb dL_law_755 (by decide) ?_
    exact absurd (Option.some.inj hf) (by decide)
def f_law_c8 (xs : Nat → Int32) (L : Nat) (x4 : Int32) (h : Nat → ObS) (mo w : ObS) (kk : ((Nat → ObS) → ObS → ObS → Option Int32)) : Option Int32 :=
  if inb (x4 + 1) L then
  if inb (x4 + 2) L then
  if inb (x4 + 3) L then
  (f_L_aim h (xs (x4 + 1).toNatClampNeg) (xs (x4 + 2).toNatClampNeg) (xs (x4 + 3).toNatClampNeg) w).bind fun r780 =>
  if inb (x4 + 1) L then
  if inb (x4 + 2) L then
  if inb (x4 + 3) L then
  (f_X7_aim mo (xs (x4 + 1).toNatClampNeg) (xs (x4 + 2).toNatClampNeg) (xs (x4 + 3).toNatClampNeg)).bind fun r804 =>
  if (f_X7_thrown r804.2) = r780.1 then
    if r780.1 = (0 : Int32) then
      if (lg_cmp (r780.2.2.2 0 ((0 : Int32).toNatClampNeg)) r804.1.toInt64) = (0 : Int32) then
        kk r780.2.1 r804.2 r780.2.2
      else
        some (0 : Int32)
    else
      kk r780.2.1 r804.2 r780.2.2
  else
    some (0 : Int32)
  else none
  else none
  else none
  else none
  else none
  else none
set_option maxHeartbeats 4000000 in
set_option maxRecDepth 100000 in
theorem lc_8 {p : Program} {l : Launch} {e : Env} {s : State} {m : MethodId} {below : List Frame} {meth : Method} {c : Code} {Z : EnvT} {b0 L : Nat} {xs : Nat → Int32} (hst : l.stackTraces = false) (C0 : lw_At p s m meth c b0 L xs) (hK : va_K Z.1 vwCl (tyV Z) s) (hE : EV Z s) (hZ : ZQ (fun q : Nat => s.heap.size ≤ q) s s.heap) {CC SS : Nat} (hCC : CC + 5 ≤ 441704) (hSS : SS + 7200 ≤ 7770994) {x4 : Int32} {B : Nat → Nat → Nat} {h : Nat → ObS} {am ao : Nat → Nat} {mo w : ObS} {H : Heap} {locs : List Loc} {ls : Array Slot} (kk : ((Nat → ObS) → ObS → ObS → Option Int32))
    (ih : ∀ (B : Nat → Nat → Nat) (h : Nat → ObS) (mo w : ObS) (H : Heap) (locs : List Loc) (ls : Array Slot), lv_has ls 7 [(0, .ref b0), (1, .ref (B 0 0)), (2, .ref (am 0)), (3, .ref (ao 0)), (4, .int x4)] → va_P Z.1 vwCl (wH Z B h ++ (wX7 Z am mo ++ wO Z ao w)) H → va_D (fun q : Nat => s.heap.size ≤ q) (wH Z B h ++ (wX7 Z am mo ++ wO Z ao w)) → va_S (fun q : Nat => s.heap.size ≤ q) s.heap H locs → kk h mo w = some 1 → W p l e room_1 s m #[Value.ref b0] below meth c H locs (CC + 5) (SS + 7200) (lw_Z below #[Value.ref b0] s) (F0 m 1443 ls []))
    (hl : lv_has ls 7 [(0, .ref b0), (1, .ref (B 0 0)), (2, .ref (am 0)), (3, .ref (ao 0)), (4, .int x4)]) (hP : va_P Z.1 vwCl (wH Z B h ++ (wX7 Z am mo ++ wO Z ao w)) H) (hD : va_D (fun q : Nat => s.heap.size ≤ q) (wH Z B h ++ (wX7 Z am mo ++ wO Z ao w))) (hS : va_S (fun q : Nat => s.heap.size ≤ q) s.heap H locs) (hf : f_law_c8 xs L x4 h mo w kk = some 1) : W p l e room_1 s m #[Value.ref b0] below meth c H locs CC SS (lw_Z below #[Value.ref b0] s) (F0 m 760 ls []) := by
  obtain ⟨hx, hb, hr, hml, hown, hts, hX, hbl, hlocks, hgv⟩ := C0
  have hown : s.vm.findClass RL = some m.cls := hown
  have htsL : ∀ w ∈ wsL_law, w.before #[Value.ref b0] s = true := fun w h9 => hts w (wsL_law_in w h9)
  have hA : ∀ q : Nat, s.heap.size ≤ q → (fun q : Nat => s.heap.size ≤ q) q := fun _ h9 => h9
  have hbA : ¬ (fun q : Nat => s.heap.size ≤ q) b0 := Nat.not_le.mpr hbl
  rw [f_law_c8] at hf
  refine lv_aload_n (pc := 760) hx hb dL_law_760 rfl (lv_at hl 1 rfl) ?_
  refine lv_aload_n (pc := 761) hx hb dL_law_761 rfl (lv_at hl 0 rfl) ?_
  refine lv_iload (pc := 762) hx hb dL_law_762 (lv_at hl 4 rfl) ?_
  refine lv_iconst (pc := 764) (v := 1) hx hb dL_law_764 (by decide) ?_
  refine lv_iadd (pc := 765) hx hb dL_law_765 ?_
  obtain ⟨g766, hf⟩ := gd hf
  refine va_sld (pc := 766) hx hb hX hbl hbA hS (inb_in g766) dL_law_766 ?_
  refine lv_aload_n (pc := 767) hx hb dL_law_767 rfl (lv_at hl 0 rfl) ?_
  refine lv_iload (pc := 768) hx hb dL_law_768 (lv_at hl 4 rfl) ?_
  refine lv_iconst (pc := 770) (v := 2) hx hb dL_law_770 (by decide) ?_
  refine lv_iadd (pc := 771) hx hb dL_law_771 ?_
  obtain ⟨g772, hf⟩ := gd hf
  refine va_sld (pc := 772) hx hb hX hbl hbA hS (inb_in g772) dL_law_772 ?_
  refine lv_aload_n (pc := 773) hx hb dL_law_773 rfl (lv_at hl 0 rfl) ?_
  refine lv_iload (pc := 774) hx hb dL_law_774 (lv_at hl 4 rfl) ?_
  refine lv_iconst (pc := 776) (v := 3) hx hb dL_law_776 (by decide) ?_
  refine lv_iadd (pc := 777) hx hb dL_law_777 ?_
  obtain ⟨g778, hf⟩ := gd hf
  refine va_sld (pc := 778) hx hb hX hbl hbA hS (inb_in g778) dL_law_778 ?_
  refine lv_aload_n (pc := 779) hx hb dL_law_779 rfl (lv_at hl 3 rfl) ?_
  obtain ⟨r780, h_780, hf⟩ := bd hf
  refine wr_S (pc := 780) (As := [.ref (B 0 0), .int (xs (x4 + 1).toNatClampNeg), .int (xs (x4 + 2).toNatClampNeg), .int (xs (x4 + 3).toNatClampNeg), .ref (ao 0)]) (rest := []) (st1 := [.int r780.1]) (wn := fun _ => wH Z B r780.2.1 ++ (wX7 Z am mo ++ wO Z ao r780.2.2)) ⟨hx, hb, hml, hown, htsL⟩ (c_L_aim Z l hst B h (xs (x4 + 1).toNatClampNeg) (xs (x4 + 2).toNatClampNeg) (xs (x4 + 3).toNatClampNeg) ao w r780 h_780) (vx_cwSW 5 htsL gL_law_L_aim rfl rfl rfl hs_L_aim ⟨Nat.le_of_ble_eq_true rfl, Nat.le_of_ble_eq_true rfl⟩) hK hE hP hD hS hA hZ (List.range' 0 40 ++ List.range' (40 + 36) 1) (List.range' 40 36) (List.range' 36 40 ++ (List.range' 0 36 ++ List.range' (36 + 40) 1)) (by decide +kernel) (bC13 rfl rfl rfl) (bR2 rfl rfl) (fun _ => bN13 rfl rfl rfl rfl) rfl hl.1 rfl (lv_room (Nat.le_of_ble_eq_true rfl)) dL_law_780 ⟨(show CC + 0 + 2 ≤ 441704 by omega), (show SS + 0 + 12 ≤ 7770994 by omega)⟩ rfl (fun _ H locs hP hD hS => ?_)
  refine lv_istore (pc := 783) (lv' := [(5, .int r780.1), (0, .ref b0), (1, .ref (B 0 0)), (2, .ref (am 0)), (3, .ref (ao 0)), (4, .int x4)]) hx hb dL_law_783 hl (by decide) rfl (fun ls hl => ?_)
  refine lv_aload_n (pc := 785) hx hb dL_law_785 rfl (lv_at hl 3 rfl) ?_
  refine lv_aload_n (pc := 786) hx hb dL_law_786 rfl (lv_at hl 1 rfl) ?_
  refine lv_iload (pc := 787) hx hb dL_law_787 (lv_at hl 5 rfl) ?_
  refine lv_iconst (pc := 789) (v := 1) hx hb dL_law_789 (by decide) ?_
  refine lv_iadd (pc := 790) hx hb dL_law_790 ?_
  obtain ⟨g791, hf⟩ := gd hf
  refine va_sld (pc := 791) hx hb hX hbl hbA hS (inb_in g791) dL_law_791 ?_
  refine lv_aload_n (pc := 792) hx hb dL_law_792 rfl (lv_at hl 1 rfl) ?_
  refine lv_iload (pc := 793) hx hb dL_law_793 (lv_at hl 5 rfl) ?_
  refine lv_iconst (pc := 795) (v := 2) hx hb dL_law_795 (by decide) ?_
  refine lv_iadd (pc := 796) hx hb dL_law_796 ?_
  obtain ⟨g797, hf⟩ := gd hf
  refine va_sld (pc := 797) hx hb hX hbl hbA hS (inb_in g797) dL_law_797 ?_
  refine lv_aload_n (pc := 798) hx hb dL_law_798 rfl (lv_at hl 1 rfl) ?_
  refine lv_iload (pc := 799) hx hb dL_law_799 (lv_at hl 5 rfl) ?_
  refine lv_iconst (pc := 801) (v := 3) hx hb dL_law_801 (by decide) ?_
  refine lv_iadd (pc := 802) hx hb dL_law_802 ?_
  obtain ⟨g803, hf⟩ := gd hf
  refine va_sld (pc := 803) hx hb hX hbl hbA hS (inb_in g803) dL_law_803 ?_
  obtain ⟨r804, h_804, hf⟩ := bd hf
  refine rw_V (pc := 804) (C := RX7) (As := [.int (xs (x4 + 1).toNatClampNeg), .int (xs (x4 + 2).toNatClampNeg), .int (xs (x4 + 3).toNatClampNeg)]) (rest := []) (st1 := [.int r804.1]) (wn := fun _ => wH Z B r780.2.1 ++ (wX7 Z am r804.2 ++ wO Z ao r780.2.2)) ⟨hx, hb, hml, hown, htsL⟩ (c_X7_aim Z l am mo (xs (x4 + 1).toNatClampNeg) (xs (x4 + 2).toNatClampNeg) (xs (x4 + 3).toNatClampNeg) r804 h_804) (cwV 3 htsL gL_law_X7_aim rfl rfl rfl hv_X7_aim ⟨Nat.le_of_ble_eq_true rfl, Nat.le_of_ble_eq_true rfl⟩) hK hE hP hD hS hA (List.range' 40 36) (List.range' 0 40 ++ List.range' (40 + 36) 1) (List.range' 0 40 ++ (List.range' (40 + 1) 36 ++ List.range' 40 1)) (by decide +kernel) (bC2 rfl rfl) (bR13 rfl rfl rfl) (fun _ => bN2 rfl rfl rfl rfl) 7 rfl rfl rfl hl.1 rfl (lv_room (Nat.le_of_ble_eq_true rfl)) dL_law_804 ⟨(show CC + 2 + 0 ≤ 441704 by omega), (show SS + 12 + 0 ≤ 7770994 by omega)⟩ rfl (fun _ H locs hP hD hS => ?_)
  refine lv_istore (pc := 807) (lv' := [(6, .int r804.1), (5, .int r780.1), (0, .ref b0), (1, .ref (B 0 0)), (2, .ref (am 0)), (3, .ref (ao 0)), (4, .int x4)]) hx hb dL_law_807 hl (by decide) rfl (fun ls hl => ?_)
  refine lv_aload_n (pc := 809) hx hb dL_law_809 rfl (lv_at hl 4 rfl) ?_
  refine ro_V (pc := 810) (C := RX7) (As := []) (rest := []) (st1 := [.int (f_X7_thrown r804.2)]) ⟨hx, hb, hml, hown, htsL⟩ (c_X7_thrown Z l am r804.2 _ rfl) (cwV 0 htsL gL_law_X7_thrown rfl rfl rfl hv_X7_thrown ⟨Nat.le_of_ble_eq_true rfl, Nat.le_of_ble_eq_true rfl⟩) hK hE (hP.sub (ws' := wX7 Z am r804.2) (List.range' 40 36) (bF2 rfl rfl)) 7 rfl rfl rfl hl.1 rfl (lv_room (Nat.le_of_ble_eq_true rfl)) dL_law_810 ⟨(show CC + 2 ≤ 441704 by omega), (show SS + 12 ≤ 7770994 by omega)⟩ rfl ?_
  refine lv_iload (pc := 813) hx hb dL_law_813 (lv_at hl 1 rfl) ?_
  refine lv_icmp_eq (pc := 815) (tgt := 820) hx hb dL_law_815 (by decide) (fun c1 => ?_) (fun c1 => ?_)
  · have hf := (if_pos c1).symm.trans hf
    refine lv_iload (pc := 820) hx hb dL_law_820 (lv_at hl 1 rfl) ?_
    refine lv_if_ne (pc := 822) (tgt := 837) hx hb dL_law_822 (by decide) (fun c2 => ?_) (fun c2 => ?_)
    · have hf := (if_neg c2).symm.trans hf
      refine lv_goto (pc := 837) (tgt := 1443) hx hb dL_law_837 (by decide) ?_
      refine W.widen (k := CC + 5) (n := SS + 7200) (by omega) (by omega) ?_
      exact ih B r780.2.1 r804.2 r780.2.2 _ _ _ (lv_sub hl [2, 3, 4, 5, 6] rfl) hP hD hS hf
    · have hf := (if_pos c2).symm.trans hf
      refine lv_aload_n (pc := 825) hx hb dL_law_825 rfl (lv_at hl 5 rfl) ?_
      refine lv_iconst (pc := 826) (v := 0) hx hb dL_law_826 (by decide) ?_
      refine va_lald (pc := 827) (D := Z.1) (n := 1) (f := r780.2.2.2 0) hx hb hK hP 76 1 rfl rfl (inb_in (by decide)) dL_law_827 ?_
      refine lv_iload (pc := 828) hx hb dL_law_828 (lv_at hl 0 rfl) ?_
      refine lv_i2l (pc := 830) (v := r804.1.toInt64) hx hb dL_law_830 rfl ?_
      refine W.lcmp (pc := 831) hx hb dL_law_831 ?_
      refine lv_if_eq (pc := 832) (tgt := 837) hx hb dL_law_832 (by decide) (fun c3 => ?_) (fun c3 => ?_)
      · have hf := (if_pos c3).symm.trans hf
        refine lv_goto (pc := 837) (tgt := 1443) hx hb dL_law_837 (by decide) ?_
        refine W.widen (k := CC + 5) (n := SS + 7200) (by omega) (by omega) ?_
        exact ih B r780.2.1 r804.2 r780.2.2 _ _ _ (lv_sub hl [2, 3, 4, 5, 6] rfl) hP hD hS hf
      · have hf := (if_neg c3).symm.trans hf
        refine lv_iconst (pc := 835) (v := 0) hx hb dL_law_835 (by decide) ?_
        exact absurd (Option.some.inj hf) (by decide)
  · have hf := (if_neg c1).symm.trans hf
    refine lv_iconst (pc := 818) (v := 0) hx hb dL_law_818 (by decide) ?_
    exact absurd (Option.some.inj hf) (by decide)
