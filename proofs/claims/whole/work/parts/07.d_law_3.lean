def f_law_c9 (xs : Nat → Int32) (L : Nat) (x4 : Int32) (h : Nat → ObS) (mo w : ObS) (kk : ((Nat → ObS) → ObS → ObS → Option Int32)) : Option Int32 :=
  if inb (x4 + 1) L then
  (f_L_select h (xs (x4 + 1).toNatClampNeg) w).bind fun r848 =>
  if inb (x4 + 1) L then
  (f_X7_select mo (xs (x4 + 1).toNatClampNeg)).bind fun r860 =>
  if (f_X7_thrown r860.2) = r848.1 then
    if r848.1 = (0 : Int32) then
      if r860.1 = (0 : Int32) then
        if (lg_cmp (r848.2.2.2 0 ((0 : Int32).toNatClampNeg)) 0) = (0 : Int32) then
          kk r848.2.1 r860.2 r848.2.2
        else
          some (0 : Int32)
      else
        if (lg_cmp (r848.2.2.2 0 ((0 : Int32).toNatClampNeg)) 1) = (0 : Int32) then
          kk r848.2.1 r860.2 r848.2.2
        else
          some (0 : Int32)
    else
      kk r848.2.1 r860.2 r848.2.2
  else
    some (0 : Int32)
  else none
  else none
set_option maxHeartbeats 4000000 in
set_option maxRecDepth 100000 in
theorem lc_9 {p : Program} {l : Launch} {e : Env} {s : State} {m : MethodId} {below : List Frame} {meth : Method} {c : Code} {Z : EnvT} {b0 L : Nat} {xs : Nat → Int32} (hst : l.stackTraces = false) (C0 : lw_At p s m meth c b0 L xs) (hK : va_K Z.1 vwCl (tyV Z) s) (hE : EV Z s) (hZ : ZQ (fun q : Nat => s.heap.size ≤ q) s s.heap) {CC SS : Nat} (hCC : CC + 5 ≤ 441704) (hSS : SS + 7200 ≤ 7770994) {x4 : Int32} {B : Nat → Nat → Nat} {h : Nat → ObS} {am ao : Nat → Nat} {mo w : ObS} {H : Heap} {locs : List Loc} {ls : Array Slot} (kk : ((Nat → ObS) → ObS → ObS → Option Int32))
    (ih : ∀ (B : Nat → Nat → Nat) (h : Nat → ObS) (mo w : ObS) (H : Heap) (locs : List Loc) (ls : Array Slot), lv_has ls 7 [(0, .ref b0), (1, .ref (B 0 0)), (2, .ref (am 0)), (3, .ref (ao 0)), (4, .int x4)] → va_P Z.1 vwCl (wH Z B h ++ (wX7 Z am mo ++ wO Z ao w)) H → va_D (fun q : Nat => s.heap.size ≤ q) (wH Z B h ++ (wX7 Z am mo ++ wO Z ao w)) → va_S (fun q : Nat => s.heap.size ≤ q) s.heap H locs → kk h mo w = some 1 → W p l e room_1 s m #[Value.ref b0] below meth c H locs (CC + 5) (SS + 7200) (lw_Z below #[Value.ref b0] s) (F0 m 1443 ls []))
    (hl : lv_has ls 7 [(0, .ref b0), (1, .ref (B 0 0)), (2, .ref (am 0)), (3, .ref (ao 0)), (4, .int x4)]) (hP : va_P Z.1 vwCl (wH Z B h ++ (wX7 Z am mo ++ wO Z ao w)) H) (hD : va_D (fun q : Nat => s.heap.size ≤ q) (wH Z B h ++ (wX7 Z am mo ++ wO Z ao w))) (hS : va_S (fun q : Nat => s.heap.size ≤ q) s.heap H locs) (hf : f_law_c9 xs L x4 h mo w kk = some 1) : W p l e room_1 s m #[Value.ref b0] below meth c H locs CC SS (lw_Z below #[Value.ref b0] s) (F0 m 840 ls []) := by
  obtain ⟨hx, hb, hr, hml, hown, hts, hX, hbl, hlocks, hgv⟩ := C0
  have hown : s.vm.findClass RL = some m.cls := hown
  have htsL : ∀ w ∈ wsL_law, w.before #[Value.ref b0] s = true := fun w h9 => hts w (wsL_law_in w h9)
  have hA : ∀ q : Nat, s.heap.size ≤ q → (fun q : Nat => s.heap.size ≤ q) q := fun _ h9 => h9
  have hbA : ¬ (fun q : Nat => s.heap.size ≤ q) b0 := Nat.not_le.mpr hbl
  rw [f_law_c9] at hf
  refine lv_aload_n (pc := 840) hx hb dL_law_840 rfl (lv_at hl 1 rfl) ?_
  refine lv_aload_n (pc := 841) hx hb dL_law_841 rfl (lv_at hl 0 rfl) ?_
  refine lv_iload (pc := 842) hx hb dL_law_842 (lv_at hl 4 rfl) ?_
  refine lv_iconst (pc := 844) (v := 1) hx hb dL_law_844 (by decide) ?_
  refine lv_iadd (pc := 845) hx hb dL_law_845 ?_
  obtain ⟨g846, hf⟩ := gd hf
  refine va_sld (pc := 846) hx hb hX hbl hbA hS (inb_in g846) dL_law_846 ?_
  refine lv_aload_n (pc := 847) hx hb dL_law_847 rfl (lv_at hl 3 rfl) ?_
  obtain ⟨r848, h_848, hf⟩ := bd hf
  refine wr_S (pc := 848) (As := [.ref (B 0 0), .int (xs (x4 + 1).toNatClampNeg), .ref (ao 0)]) (rest := []) (st1 := [.int r848.1]) (wn := fun _ => wH Z B r848.2.1 ++ (wX7 Z am mo ++ wO Z ao r848.2.2)) ⟨hx, hb, hml, hown, htsL⟩ (c_L_select Z l hst B h (xs (x4 + 1).toNatClampNeg) ao w r848 h_848) (vx_cwSW 3 htsL gL_law_L_select rfl rfl rfl hs_L_select ⟨Nat.le_of_ble_eq_true rfl, Nat.le_of_ble_eq_true rfl⟩) hK hE hP hD hS hA hZ (List.range' 0 40 ++ List.range' (40 + 36) 1) (List.range' 40 36) (List.range' 36 40 ++ (List.range' 0 36 ++ List.range' (36 + 40) 1)) (by decide +kernel) (bC13 rfl rfl rfl) (bR2 rfl rfl) (fun _ => bN13 rfl rfl rfl rfl) rfl hl.1 rfl (lv_room (Nat.le_of_ble_eq_true rfl)) dL_law_848 ⟨(show CC + 0 + 1 ≤ 441704 by omega), (show SS + 0 + 6 ≤ 7770994 by omega)⟩ rfl (fun _ H locs hP hD hS => ?_)
  refine lv_istore (pc := 851) (lv' := [(5, .int r848.1), (0, .ref b0), (1, .ref (B 0 0)), (2, .ref (am 0)), (3, .ref (ao 0)), (4, .int x4)]) hx hb dL_law_851 hl (by decide) rfl (fun ls hl => ?_)
  refine lv_aload_n (pc := 853) hx hb dL_law_853 rfl (lv_at hl 3 rfl) ?_
  refine lv_aload_n (pc := 854) hx hb dL_law_854 rfl (lv_at hl 1 rfl) ?_
  refine lv_iload (pc := 855) hx hb dL_law_855 (lv_at hl 5 rfl) ?_
  refine lv_iconst (pc := 857) (v := 1) hx hb dL_law_857 (by decide) ?_
  refine lv_iadd (pc := 858) hx hb dL_law_858 ?_
  obtain ⟨g859, hf⟩ := gd hf
  refine va_sld (pc := 859) hx hb hX hbl hbA hS (inb_in g859) dL_law_859 ?_
  obtain ⟨r860, h_860, hf⟩ := bd hf
  refine rw_V (pc := 860) (C := RX7) (As := [.int (xs (x4 + 1).toNatClampNeg)]) (rest := []) (st1 := [.int r860.1]) (wn := fun _ => wH Z B r848.2.1 ++ (wX7 Z am r860.2 ++ wO Z ao r848.2.2)) ⟨hx, hb, hml, hown, htsL⟩ (c_X7_select Z l am mo (xs (x4 + 1).toNatClampNeg) r860 h_860) (cwV 1 htsL gL_law_X7_select rfl rfl rfl hv_X7_select ⟨Nat.le_of_ble_eq_true rfl, Nat.le_of_ble_eq_true rfl⟩) hK hE hP hD hS hA (List.range' 40 36) (List.range' 0 40 ++ List.range' (40 + 36) 1) (List.range' 0 40 ++ (List.range' (40 + 1) 36 ++ List.range' 40 1)) (by decide +kernel) (bC2 rfl rfl) (bR13 rfl rfl rfl) (fun _ => bN2 rfl rfl rfl rfl) 7 rfl rfl rfl hl.1 rfl (lv_room (Nat.le_of_ble_eq_true rfl)) dL_law_860 ⟨(show CC + 1 + 0 ≤ 441704 by omega), (show SS + 6 + 0 ≤ 7770994 by omega)⟩ rfl (fun _ H locs hP hD hS => ?_)
  refine lv_istore (pc := 863) (lv' := [(6, .int r860.1), (5, .int r848.1), (0, .ref b0), (1, .ref (B 0 0)), (2, .ref (am 0)), (3, .ref (ao 0)), (4, .int x4)]) hx hb dL_law_863 hl (by decide) rfl (fun ls hl => ?_)
  refine lv_aload_n (pc := 865) hx hb dL_law_865 rfl (lv_at hl 4 rfl) ?_
  refine ro_V (pc := 866) (C := RX7) (As := []) (rest := []) (st1 := [.int (f_X7_thrown r860.2)]) ⟨hx, hb, hml, hown, htsL⟩ (c_X7_thrown Z l am r860.2 _ rfl) (cwV 0 htsL gL_law_X7_thrown rfl rfl rfl hv_X7_thrown ⟨Nat.le_of_ble_eq_true rfl, Nat.le_of_ble_eq_true rfl⟩) hK hE (hP.sub (ws' := wX7 Z am r860.2) (List.range' 40 36) (bF2 rfl rfl)) 7 rfl rfl rfl hl.1 rfl (lv_room (Nat.le_of_ble_eq_true rfl)) dL_law_866 ⟨(show CC + 1 ≤ 441704 by omega), (show SS + 6 ≤ 7770994 by omega)⟩ rfl ?_
  refine lv_iload (pc := 869) hx hb dL_law_869 (lv_at hl 1 rfl) ?_
  refine lv_icmp_eq (pc := 871) (tgt := 876) hx hb dL_law_871 (by decide) (fun c1 => ?_) (fun c1 => ?_)
  · have hf := (if_pos c1).symm.trans hf
    refine lv_iload (pc := 876) hx hb dL_law_876 (lv_at hl 1 rfl) ?_
    refine lv_if_ne (pc := 878) (tgt := 900) hx hb dL_law_878 (by decide) (fun c2 => ?_) (fun c2 => ?_)
    · have hf := (if_neg c2).symm.trans hf
      refine lv_goto (pc := 900) (tgt := 1443) hx hb dL_law_900 (by decide) ?_
      refine W.widen (k := CC + 5) (n := SS + 7200) (by omega) (by omega) ?_
      exact ih B r848.2.1 r860.2 r848.2.2 _ _ _ (lv_sub hl [2, 3, 4, 5, 6] rfl) hP hD hS hf
    · have hf := (if_pos c2).symm.trans hf
      refine lv_aload_n (pc := 881) hx hb dL_law_881 rfl (lv_at hl 5 rfl) ?_
      refine lv_iconst (pc := 882) (v := 0) hx hb dL_law_882 (by decide) ?_
      refine va_lald (pc := 883) (D := Z.1) (n := 1) (f := r848.2.2.2 0) hx hb hK hP 76 1 rfl rfl (inb_in (by decide)) dL_law_883 ?_
      refine lv_iload (pc := 884) hx hb dL_law_884 (lv_at hl 0 rfl) ?_
      refine lv_if_eq (pc := 886) (tgt := 893) hx hb dL_law_886 (by decide) (fun c3 => ?_) (fun c3 => ?_)
      · have hf := (if_pos c3).symm.trans hf
        refine lv_lconst (pc := 893) (v := 0) hx hb dL_law_893 (by decide) ?_
        refine W.lcmp (pc := 894) hx hb dL_law_894 ?_
        refine lv_if_eq (pc := 895) (tgt := 900) hx hb dL_law_895 (by decide) (fun c4 => ?_) (fun c4 => ?_)
        · have hf := (if_pos c4).symm.trans hf
          refine lv_goto (pc := 900) (tgt := 1443) hx hb dL_law_900 (by decide) ?_
          refine W.widen (k := CC + 5) (n := SS + 7200) (by omega) (by omega) ?_
          exact ih B r848.2.1 r860.2 r848.2.2 _ _ _ (lv_sub hl [2, 3, 4, 5, 6] rfl) hP hD hS hf
        · have hf := (if_neg c4).symm.trans hf
          refine lv_iconst (pc := 898) (v := 0) hx hb dL_law_898 (by decide) ?_
          exact absurd (Option.some.inj hf) (by decide)
      · have hf := (if_neg c3).symm.trans hf
        refine lv_lconst (pc := 889) (v := 1) hx hb dL_law_889 (by decide) ?_
        refine lv_goto (pc := 890) (tgt := 894) hx hb dL_law_890 (by decide) ?_
        refine W.lcmp (pc := 894) hx hb dL_law_894 ?_
        refine lv_if_eq (pc := 895) (tgt := 900) hx hb dL_law_895 (by decide) (fun c5 => ?_) (fun c5 => ?_)
        · have hf := (if_pos c5).symm.trans hf
          refine lv_goto (pc := 900) (tgt := 1443) hx hb dL_law_900 (by decide) ?_
          refine W.widen (k := CC + 5) (n := SS + 7200) (by omega) (by omega) ?_
          exact ih B r848.2.1 r860.2 r848.2.2 _ _ _ (lv_sub hl [2, 3, 4, 5, 6] rfl) hP hD hS hf
        · have hf := (if_neg c5).symm.trans hf
          refine lv_iconst (pc := 898) (v := 0) hx hb dL_law_898 (by decide) ?_
          exact absurd (Option.some.inj hf) (by decide)
  · have hf := (if_neg c1).symm.trans hf
    refine lv_iconst (pc := 874) (v := 0) hx hb dL_law_874 (by decide) ?_
    exact absurd (Option.some.inj hf) (by decide)
def f_law_c10 (xs : Nat → Int32) (L : Nat) (x4 : Int32) (h : Nat → ObS) (mo w : ObS) (kk : ((Nat → ObS) → ObS → ObS → Option Int32)) : Option Int32 :=
  if inb (x4 + 1) L then
  (f_L_tick h (xs (x4 + 1).toNatClampNeg) w).bind fun r911 =>
  if inb (x4 + 1) L then
  (f_X7_tick mo (xs (x4 + 1).toNatClampNeg)).bind fun r923 =>
  if (f_X7_thrown r923.2) = r911.1 then
    if r911.1 = (0 : Int32) then
      if (lg_cmp (r911.2.2.2 0 ((0 : Int32).toNatClampNeg)) r923.1.toInt64) = (0 : Int32) then
        kk r911.2.1 r923.2 r911.2.2
      else
        some (0 : Int32)
    else
      kk r911.2.1 r923.2 r911.2.2
  else
    some (0 : Int32)
  else none
  else none
set_option maxHeartbeats 4000000 in
set_option maxRecDepth 100000 in
theorem lc_10 {p : Program} {l : Launch} {e : Env} {s : State} {m : MethodId} {below : List Frame} {meth : Method} {c : Code} {Z : EnvT} {b0 L : Nat} {xs : Nat → Int32} (hst : l.stackTraces = false) (C0 : lw_At p s m meth c b0 L xs) (hK : va_K Z.1 vwCl (tyV Z) s) (hE : EV Z s) (hZ : ZQ (fun q : Nat => s.heap.size ≤ q) s s.heap) {CC SS : Nat} (hCC : CC + 5 ≤ 441704) (hSS : SS + 7200 ≤ 7770994) {x4 : Int32} {B : Nat → Nat → Nat} {h : Nat → ObS} {am ao : Nat → Nat} {mo w : ObS} {H : Heap} {locs : List Loc} {ls : Array Slot} (kk : ((Nat → ObS) → ObS → ObS → Option Int32))
    (ih : ∀ (B : Nat → Nat → Nat) (h : Nat → ObS) (mo w : ObS) (H : Heap) (locs : List Loc) (ls : Array Slot), lv_has ls 7 [(0, .ref b0), (1, .ref (B 0 0)), (2, .ref (am 0)), (3, .ref (ao 0)), (4, .int x4)] → va_P Z.1 vwCl (wH Z B h ++ (wX7 Z am mo ++ wO Z ao w)) H → va_D (fun q : Nat => s.heap.size ≤ q) (wH Z B h ++ (wX7 Z am mo ++ wO Z ao w)) → va_S (fun q : Nat => s.heap.size ≤ q) s.heap H locs → kk h mo w = some 1 → W p l e room_1 s m #[Value.ref b0] below meth c H locs (CC + 5) (SS + 7200) (lw_Z below #[Value.ref b0] s) (F0 m 1443 ls []))
    (hl : lv_has ls 7 [(0, .ref b0), (1, .ref (B 0 0)), (2, .ref (am 0)), (3, .ref (ao 0)), (4, .int x4)]) (hP : va_P Z.1 vwCl (wH Z B h ++ (wX7 Z am mo ++ wO Z ao w)) H) (hD : va_D (fun q : Nat => s.heap.size ≤ q) (wH Z B h ++ (wX7 Z am mo ++ wO Z ao w))) (hS : va_S (fun q : Nat => s.heap.size ≤ q) s.heap H locs) (hf : f_law_c10 xs L x4 h mo w kk = some 1) : W p l e room_1 s m #[Value.ref b0] below meth c H locs CC SS (lw_Z below #[Value.ref b0] s) (F0 m 903 ls []) := by
  obtain ⟨hx, hb, hr, hml, hown, hts, hX, hbl, hlocks, hgv⟩ := C0
  have hown : s.vm.findClass RL = some m.cls := hown
  have htsL : ∀ w ∈ wsL_law, w.before #[Value.ref b0] s = true := fun w h9 => hts w (wsL_law_in w h9)
  have hA : ∀ q : Nat, s.heap.size ≤ q → (fun q : Nat => s.heap.size ≤ q) q := fun _ h9 => h9
  have hbA : ¬ (fun q : Nat => s.heap.size ≤ q) b0 := Nat.not_le.mpr hbl
  rw [f_law_c10] at hf
  refine lv_aload_n (pc := 903) hx hb dL_law_903 rfl (lv_at hl 1 rfl) ?_
  refine lv_aload_n (pc := 904) hx hb dL_law_904 rfl (lv_at hl 0 rfl) ?_
  refine lv_iload (pc := 905) hx hb dL_law_905 (lv_at hl 4 rfl) ?_
  refine lv_iconst (pc := 907) (v := 1) hx hb dL_law_907 (by decide) ?_
  refine lv_iadd (pc := 908) hx hb dL_law_908 ?_
  obtain ⟨g909, hf⟩ := gd hf
  refine va_sld (pc := 909) hx hb hX hbl hbA hS (inb_in g909) dL_law_909 ?_
  refine lv_aload_n (pc := 910) hx hb dL_law_910 rfl (lv_at hl 3 rfl) ?_
  obtain ⟨r911, h_911, hf⟩ := bd hf
  refine wr_S (pc := 911) (As := [.ref (B 0 0), .int (xs (x4 + 1).toNatClampNeg), .ref (ao 0)]) (rest := []) (st1 := [.int r911.1]) (wn := fun q => wH Z (bu B 7 (ad1 (B 7) q)) r911.2.1 ++ (wX7 Z am mo ++ wO Z ao r911.2.2)) ⟨hx, hb, hml, hown, htsL⟩ (c_L_tick Z l hst B h (xs (x4 + 1).toNatClampNeg) ao w r911 h_911) (vx_cwSW 3 htsL gL_law_L_tick rfl rfl rfl hs_L_tick ⟨Nat.le_of_ble_eq_true rfl, Nat.le_of_ble_eq_true rfl⟩) hK hE hP hD hS hA hZ (List.range' 0 40 ++ List.range' (40 + 36) 1) (List.range' 40 36) (List.range' 36 40 ++ (List.range' 0 36 ++ List.range' (36 + 40) 1)) (by decide +kernel) (bC13 rfl rfl rfl) (bR2 rfl rfl) (fun _ => bN13 rfl rfl rfl rfl) rfl hl.1 rfl (lv_room (Nat.le_of_ble_eq_true rfl)) dL_law_911 ⟨(show CC + 0 + 1 ≤ 441704 by omega), (show SS + 0 + 7200 ≤ 7770994 by omega)⟩ rfl (fun q911 H locs hP hD hS => ?_)
  refine lv_istore (pc := 914) (lv' := [(5, .int r911.1), (0, .ref b0), (1, .ref (B 0 0)), (2, .ref (am 0)), (3, .ref (ao 0)), (4, .int x4)]) hx hb dL_law_914 hl (by decide) rfl (fun ls hl => ?_)
  refine lv_aload_n (pc := 916) hx hb dL_law_916 rfl (lv_at hl 3 rfl) ?_
  refine lv_aload_n (pc := 917) hx hb dL_law_917 rfl (lv_at hl 1 rfl) ?_
  refine lv_iload (pc := 918) hx hb dL_law_918 (lv_at hl 5 rfl) ?_
  refine lv_iconst (pc := 920) (v := 1) hx hb dL_law_920 (by decide) ?_
  refine lv_iadd (pc := 921) hx hb dL_law_921 ?_
  obtain ⟨g922, hf⟩ := gd hf
  refine va_sld (pc := 922) hx hb hX hbl hbA hS (inb_in g922) dL_law_922 ?_
  obtain ⟨r923, h_923, hf⟩ := bd hf
  refine rw_V (pc := 923) (C := RX7) (As := [.int (xs (x4 + 1).toNatClampNeg)]) (rest := []) (st1 := [.int r923.1]) (wn := fun _ => wH Z (bu B 7 (ad1 (B 7) q911)) r911.2.1 ++ (wX7 Z am r923.2 ++ wO Z ao r911.2.2)) ⟨hx, hb, hml, hown, htsL⟩ (c_X7_tick Z l am mo (xs (x4 + 1).toNatClampNeg) r923 h_923) (cwV 1 htsL gL_law_X7_tick rfl rfl rfl hv_X7_tick ⟨Nat.le_of_ble_eq_true rfl, Nat.le_of_ble_eq_true rfl⟩) hK hE hP hD hS hA (List.range' 40 36) (List.range' 0 40 ++ List.range' (40 + 36) 1) (List.range' 0 40 ++ (List.range' (40 + 1) 36 ++ List.range' 40 1)) (by decide +kernel) (bC2 rfl rfl) (bR13 rfl rfl rfl) (fun _ => bN2 rfl rfl rfl rfl) 7 rfl rfl rfl hl.1 rfl (lv_room (Nat.le_of_ble_eq_true rfl)) dL_law_923 ⟨(show CC + 1 + 0 ≤ 441704 by omega), (show SS + 7200 + 0 ≤ 7770994 by omega)⟩ rfl (fun _ H locs hP hD hS => ?_)
  refine lv_istore (pc := 926) (lv' := [(6, .int r923.1), (5, .int r911.1), (0, .ref b0), (1, .ref (B 0 0)), (2, .ref (am 0)), (3, .ref (ao 0)), (4, .int x4)]) hx hb dL_law_926 hl (by decide) rfl (fun ls hl => ?_)
  refine lv_aload_n (pc := 928) hx hb dL_law_928 rfl (lv_at hl 4 rfl) ?_
  refine ro_V (pc := 929) (C := RX7) (As := []) (rest := []) (st1 := [.int (f_X7_thrown r923.2)]) ⟨hx, hb, hml, hown, htsL⟩ (c_X7_thrown Z l am r923.2 _ rfl) (cwV 0 htsL gL_law_X7_thrown rfl rfl rfl hv_X7_thrown ⟨Nat.le_of_ble_eq_true rfl, Nat.le_of_ble_eq_true rfl⟩) hK hE (hP.sub (ws' := wX7 Z am r923.2) (List.range' 40 36) (bF2 rfl rfl)) 7 rfl rfl rfl hl.1 rfl (lv_room (Nat.le_of_ble_eq_true rfl)) dL_law_929 ⟨(show CC + 1 ≤ 441704 by omega), (show SS + 7200 ≤ 7770994 by omega)⟩ rfl ?_
  refine lv_iload (pc := 932) hx hb dL_law_932 (lv_at hl 1 rfl) ?_
  refine lv_icmp_eq (pc := 934) (tgt := 939) hx hb dL_law_934 (by decide) (fun c1 => ?_) (fun c1 => ?_)
  · have hf := (if_pos c1).symm.trans hf
    refine lv_iload (pc := 939) hx hb dL_law_939 (lv_at hl 1 rfl) ?_
    refine lv_if_ne (pc := 941) (tgt := 956) hx hb dL_law_941 (by decide) (fun c2 => ?_) (fun c2 => ?_)
    · have hf := (if_neg c2).symm.trans hf
      refine lv_goto (pc := 956) (tgt := 1443) hx hb dL_law_956 (by decide) ?_
      refine W.widen (k := CC + 5) (n := SS + 7200) (by omega) (by omega) ?_
      exact ih (bu B 7 (ad1 (B 7) q911)) r911.2.1 r923.2 r911.2.2 _ _ _ (lv_sub hl [2, 3, 4, 5, 6] rfl) hP hD hS hf
    · have hf := (if_pos c2).symm.trans hf
      refine lv_aload_n (pc := 944) hx hb dL_law_944 rfl (lv_at hl 5 rfl) ?_
      refine lv_iconst (pc := 945) (v := 0) hx hb dL_law_945 (by decide) ?_
      refine va_lald (pc := 946) (D := Z.1) (n := 1) (f := r911.2.2.2 0) hx hb hK hP 76 1 rfl rfl (inb_in (by decide)) dL_law_946 ?_
      refine lv_iload (pc := 947) hx hb dL_law_947 (lv_at hl 0 rfl) ?_
      refine lv_i2l (pc := 949) (v := r923.1.toInt64) hx hb dL_law_949 rfl ?_
      refine W.lcmp (pc := 950) hx hb dL_law_950 ?_
      refine lv_if_eq (pc := 951) (tgt := 956) hx hb dL_law_951 (by decide) (fun c3 => ?_) (fun c3 => ?_)
      · have hf := (if_pos c3).symm.trans hf
        refine lv_goto (pc := 956) (tgt := 1443) hx hb dL_law_956 (by decide) ?_
        refine W.widen (k := CC + 5) (n := SS + 7200) (by omega) (by omega) ?_
        exact ih (bu B 7 (ad1 (B 7) q911)) r911.2.1 r923.2 r911.2.2 _ _ _ (lv_sub hl [2, 3, 4, 5, 6] rfl) hP hD hS hf
      · have hf := (if_neg c3).symm.trans hf
        refine lv_iconst (pc := 954) (v := 0) hx hb dL_law_954 (by decide) ?_
        exact absurd (Option.some.inj hf) (by decide)
  · have hf := (if_neg c1).symm.trans hf
    refine lv_iconst (pc := 937) (v := 0) hx hb dL_law_937 (by decide) ?_
    exact absurd (Option.some.inj hf) (by decide)
def f_law_c11 (xs : Nat → Int32) (L : Nat) (x4 : Int32) (h : Nat → ObS) (mo w : ObS) (kk : ((Nat → ObS) → ObS → ObS → Option Int32)) : Option Int32 :=
  (f_X6_quit h).bind fun r960 =>
  (f_X7_quit mo).bind fun r964 =>
  if r960.1 = r964.1 then
    kk r960.2 r964.2 w
  else
    some (0 : Int32)
set_option maxHeartbeats 4000000 in
set_option maxRecDepth 100000 in
theorem lc_11 {p : Program} {l : Launch} {e : Env} {s : State} {m : MethodId} {below : List Frame} {meth : Method} {c : Code} {Z : EnvT} {b0 L : Nat} {xs : Nat → Int32} (hst : l.stackTraces = false) (C0 : lw_At p s m meth c b0 L xs) (hK : va_K Z.1 vwCl (tyV Z) s) (hE : EV Z s) (hZ : ZQ (fun q : Nat => s.heap.size ≤ q) s s.heap) {CC SS : Nat} (hCC : CC + 5 ≤ 441704) (hSS : SS + 7200 ≤ 7770994) {x4 : Int32} {B : Nat → Nat → Nat} {h : Nat → ObS} {am ao : Nat → Nat} {mo w : ObS} {H : Heap} {locs : List Loc} {ls : Array Slot} (kk : ((Nat → ObS) → ObS → ObS → Option Int32))
    (ih : ∀ (B : Nat → Nat → Nat) (h : Nat → ObS) (mo w : ObS) (H : Heap) (locs : List Loc) (ls : Array Slot), lv_has ls 7 [(0, .ref b0), (1, .ref (B 0 0)), (2, .ref (am 0)), (3, .ref (ao 0)), (4, .int x4)] → va_P Z.1 vwCl (wH Z B h ++ (wX7 Z am mo ++ wO Z ao w)) H → va_D (fun q : Nat => s.heap.size ≤ q) (wH Z B h ++ (wX7 Z am mo ++ wO Z ao w)) → va_S (fun q : Nat => s.heap.size ≤ q) s.heap H locs → kk h mo w = some 1 → W p l e room_1 s m #[Value.ref b0] below meth c H locs (CC + 5) (SS + 7200) (lw_Z below #[Value.ref b0] s) (F0 m 1443 ls []))
    (hl : lv_has ls 7 [(0, .ref b0), (1, .ref (B 0 0)), (2, .ref (am 0)), (3, .ref (ao 0)), (4, .int x4)]) (hP : va_P Z.1 vwCl (wH Z B h ++ (wX7 Z am mo ++ wO Z ao w)) H) (hD : va_D (fun q : Nat => s.heap.size ≤ q) (wH Z B h ++ (wX7 Z am mo ++ wO Z ao w))) (hS : va_S (fun q : Nat => s.heap.size ≤ q) s.heap H locs) (hf : f_law_c11 xs L x4 h mo w kk = some 1) : W p l e room_1 s m #[Value.ref b0] below meth c H locs CC SS (lw_Z below #[Value.ref b0] s) (F0 m 959 ls []) := by
  obtain ⟨hx, hb, hr, hml, hown, hts, hX, hbl, hlocks, hgv⟩ := C0
  have hown : s.vm.findClass RL = some m.cls := hown
  have htsL : ∀ w ∈ wsL_law, w.before #[Value.ref b0] s = true := fun w h9 => hts w (wsL_law_in w h9)
  have hA : ∀ q : Nat, s.heap.size ≤ q → (fun q : Nat => s.heap.size ≤ q) q := fun _ h9 => h9
  have hbA : ¬ (fun q : Nat => s.heap.size ≤ q) b0 := Nat.not_le.mpr hbl
  rw [f_law_c11] at hf
  refine lv_aload_n (pc := 959) hx hb dL_law_959 rfl (lv_at hl 1 rfl) ?_
  obtain ⟨r960, h_960, hf⟩ := bd hf
  refine rw_V (pc := 960) (C := RX6) (As := []) (rest := []) (st1 := [.int r960.1]) (wn := fun _ => wH Z B r960.2 ++ (wX7 Z am mo ++ wO Z ao w)) ⟨hx, hb, hml, hown, htsL⟩ (c_X6_quit Z l B h r960 h_960) (cwV 0 htsL gL_law_X6_quit rfl rfl rfl hv_X6_quit ⟨Nat.le_of_ble_eq_true rfl, Nat.le_of_ble_eq_true rfl⟩) hK hE hP hD hS hA (List.range' 0 40) (List.range' 40 (36 + 1)) (List.range' (36 + 1) 40 ++ List.range' 0 (36 + 1)) (by decide +kernel) (bC1 rfl) (bR1 rfl rfl rfl) (fun _ => bN1 rfl rfl rfl rfl) 6 rfl rfl rfl hl.1 rfl (lv_room (Nat.le_of_ble_eq_true rfl)) dL_law_960 ⟨(show CC + 0 + 0 ≤ 441704 by omega), (show SS + 0 + 0 ≤ 7770994 by omega)⟩ rfl (fun _ H locs hP hD hS => ?_)
  refine lv_aload_n (pc := 963) hx hb dL_law_963 rfl (lv_at hl 2 rfl) ?_
  obtain ⟨r964, h_964, hf⟩ := bd hf
  refine rw_V (pc := 964) (C := RX7) (As := []) (rest := [.int r960.1]) (st1 := [.int r964.1, .int r960.1]) (wn := fun _ => wH Z B r960.2 ++ (wX7 Z am r964.2 ++ wO Z ao w)) ⟨hx, hb, hml, hown, htsL⟩ (c_X7_quit Z l am mo r964 h_964) (cwV 0 htsL gL_law_X7_quit rfl rfl rfl hv_X7_quit ⟨Nat.le_of_ble_eq_true rfl, Nat.le_of_ble_eq_true rfl⟩) hK hE hP hD hS hA (List.range' 40 36) (List.range' 0 40 ++ List.range' (40 + 36) 1) (List.range' 0 40 ++ (List.range' (40 + 1) 36 ++ List.range' 40 1)) (by decide +kernel) (bC2 rfl rfl) (bR13 rfl rfl rfl) (fun _ => bN2 rfl rfl rfl rfl) 7 rfl rfl rfl hl.1 rfl (lv_room (Nat.le_of_ble_eq_true rfl)) dL_law_964 ⟨(show CC + 0 + 0 ≤ 441704 by omega), (show SS + 0 + 0 ≤ 7770994 by omega)⟩ rfl (fun _ H locs hP hD hS => ?_)
  refine lv_icmp_eq (pc := 967) (tgt := 1443) hx hb dL_law_967 (by decide) (fun c1 => ?_) (fun c1 => ?_)
  · have hf := (if_pos c1).symm.trans hf
    refine W.widen (k := CC + 5) (n := SS + 7200) (by omega) (by omega) ?_
    exact ih B r960.2 r964.2 w _ _ _ (lv_sub hl [0, 1, 2, 3, 4] rfl) hP hD hS hf
  · have hf := (if_neg c1).symm.trans hf
    refine lv_iconst (pc := 970) (v := 0) hx hb dL_law_970 (by decide) ?_
    exact absurd (Option.some.inj hf) (by decide)
