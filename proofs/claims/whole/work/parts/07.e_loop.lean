def f_law_b (xs : Nat → Int32) (L : Nat) : Nat → Int32 → (Nat → ObS) → ObS → ObS → Option Int32
  | 0, _, _, _, _ => none
  | n + 1, x4, h, mo, w =>
  if ((Int32.ofNat L) - 6) < x4 then some 1 else
  if inb x4 L then
  if ((xs (x4).toNatClampNeg) &&& 31) = 0 then f_law_c0 xs L x4 h mo w (f_law_b xs L n (x4 + 6)) else
  if ((xs (x4).toNatClampNeg) &&& 31) = 1 then f_law_c1 xs L x4 h mo w (f_law_b xs L n (x4 + 6)) else
  if ((xs (x4).toNatClampNeg) &&& 31) = 2 then f_law_c2 xs L x4 h mo w (f_law_b xs L n (x4 + 6)) else
  if ((xs (x4).toNatClampNeg) &&& 31) = 3 then f_law_c3 xs L x4 h mo w (f_law_b xs L n (x4 + 6)) else
  if ((xs (x4).toNatClampNeg) &&& 31) = 4 then f_law_c4 xs L x4 h mo w (f_law_b xs L n (x4 + 6)) else
  if ((xs (x4).toNatClampNeg) &&& 31) = 5 then f_law_c5 xs L x4 h mo w (f_law_b xs L n (x4 + 6)) else
  if ((xs (x4).toNatClampNeg) &&& 31) = 6 then f_law_c6 xs L x4 h mo w (f_law_b xs L n (x4 + 6)) else
  if ((xs (x4).toNatClampNeg) &&& 31) = 7 then f_law_c7 xs L x4 h mo w (f_law_b xs L n (x4 + 6)) else
  if ((xs (x4).toNatClampNeg) &&& 31) = 8 then f_law_c8 xs L x4 h mo w (f_law_b xs L n (x4 + 6)) else
  if ((xs (x4).toNatClampNeg) &&& 31) = 9 then f_law_c9 xs L x4 h mo w (f_law_b xs L n (x4 + 6)) else
  if ((xs (x4).toNatClampNeg) &&& 31) = 10 then f_law_c10 xs L x4 h mo w (f_law_b xs L n (x4 + 6)) else
  if ((xs (x4).toNatClampNeg) &&& 31) = 11 then f_law_c11 xs L x4 h mo w (f_law_b xs L n (x4 + 6)) else
  if ((xs (x4).toNatClampNeg) &&& 31) = 12 then f_law_c12 xs L x4 h mo w (f_law_b xs L n (x4 + 6)) else
  if ((xs (x4).toNatClampNeg) &&& 31) = 13 then f_law_c13 xs L x4 h mo w (f_law_b xs L n (x4 + 6)) else
  if ((xs (x4).toNatClampNeg) &&& 31) = 14 then f_law_c14 xs L x4 h mo w (f_law_b xs L n (x4 + 6)) else
  if ((xs (x4).toNatClampNeg) &&& 31) = 15 then f_law_c15 xs L x4 h mo w (f_law_b xs L n (x4 + 6)) else
  if ((xs (x4).toNatClampNeg) &&& 31) = 16 then f_law_c16 xs L x4 h mo w (f_law_b xs L n (x4 + 6)) else
  if ((xs (x4).toNatClampNeg) &&& 31) = 17 then f_law_c17 xs L x4 h mo w (f_law_b xs L n (x4 + 6)) else
  if ((xs (x4).toNatClampNeg) &&& 31) = 18 then f_law_c18 xs L x4 h mo w (f_law_b xs L n (x4 + 6)) else
  if ((xs (x4).toNatClampNeg) &&& 31) = 19 then f_law_c19 xs L x4 h mo w (f_law_b xs L n (x4 + 6)) else
  if ((xs (x4).toNatClampNeg) &&& 31) = 20 then f_law_c20 xs L x4 h mo w (f_law_b xs L n (x4 + 6)) else
  f_law_b xs L n (x4 + 6) h mo w
  else none
def lCC (n : Nat) : Nat := 300 + 5 * (513 - n)
def lSS (n : Nat) : Nat := 30000 + 7200 * (513 - n)
set_option maxHeartbeats 4000000 in
set_option maxRecDepth 100000 in
theorem law_loop {p : Program} {l : Launch} {e : Env} {s : State} {m : MethodId} {below : List Frame} {meth : Method} {c : Code} {Z : EnvT} {b0 L : Nat} {xs : Nat → Int32} (hst : l.stackTraces = false) (C0 : lw_At p s m meth c b0 L xs) (hK : va_K Z.1 vwCl (tyV Z) s) (hE : EV Z s) (hZ : ZQ (fun q : Nat => s.heap.size ≤ q) s s.heap) (am ao : Nat → Nat) : ∀ (n : Nat), n ≤ 513 → ∀ (x4 : Int32) (B : Nat → Nat → Nat) (h : Nat → ObS) (mo w : ObS) (H : Heap) (locs : List Loc) (ls : Array Slot), lv_has ls 7 [(0, .ref b0), (1, .ref (B 0 0)), (2, .ref (am 0)), (3, .ref (ao 0)), (4, .int x4)] → va_P Z.1 vwCl (wH Z B h ++ (wX7 Z am mo ++ wO Z ao w)) H → va_D (fun q : Nat => s.heap.size ≤ q) (wH Z B h ++ (wX7 Z am mo ++ wO Z ao w)) → va_S (fun q : Nat => s.heap.size ≤ q) s.heap H locs → f_law_b xs L n x4 h mo w = some 1 → W p l e room_1 s m #[Value.ref b0] below meth c H locs (lCC n) (lSS n) (lw_Z below #[Value.ref b0] s) (F0 m 23 ls []) := by
  obtain ⟨hx, hb, hr, hml, hown, hts, hX, hbl, hlocks, hgv⟩ := id C0
  have hA : ∀ q : Nat, s.heap.size ≤ q → (fun q : Nat => s.heap.size ≤ q) q := fun _ h9 => h9
  have hbA : ¬ (fun q : Nat => s.heap.size ≤ q) b0 := Nat.not_le.mpr hbl
  intro n
  induction n with
  | zero => intro _ x4 B h mo w H locs ls hl hP hD hS hf; rw [f_law_b] at hf; exact nomatch hf
  | succ n ih =>
    intro hn x4 B h mo w H locs ls hl hP hD hS hf
    have hCC : lCC (n + 1) + 5 = lCC n := by unfold lCC; omega
    have hSS : lSS (n + 1) + 7200 = lSS n := by unfold lSS; omega
    have hC9 : lCC (n + 1) + 5 ≤ 441704 := by unfold lCC; omega
    have hS9 : lSS (n + 1) + 7200 ≤ 7770994 := by unfold lSS; omega
    rw [f_law_b] at hf
    refine lv_iload (pc := 23) hx hb dL_law_23 (lv_at hl 4 rfl) ?_
    refine lv_aload_n (pc := 25) hx hb dL_law_25 rfl (lv_at hl 0 rfl) ?_
    refine va_slen (pc := 26) hx hb hX hbl hbA hS dL_law_26 ?_
    refine lv_bipush (pc := 27) (v := 6) hx hb dL_law_27 (by decide) ?_
    refine lv_isub (pc := 29) hx hb dL_law_29 ?_
    refine lv_icmp_gt (pc := 30) (tgt := 1449) hx hb dL_law_30 (by decide) (fun c0 => ?_) (fun c0 => ?_)
    · refine lv_iconst (pc := 1449) (v := 1) hx hb dL_law_1449 (by decide) ?_
      refine va_forget (fun q hq => hS.2.2 q hq) ?_
      refine W.widen (k := 441704) (n := 7770994) (by omega) (by omega) ?_
      exact lw_ret hx hb hr hlocks dL_law_1450
    · have hf := (if_neg c0).symm.trans hf
      obtain ⟨g36, hf⟩ := gd hf
      have next : ∀ (B : Nat → Nat → Nat) (h : Nat → ObS) (mo w : ObS) (H : Heap) (locs : List Loc) (ls : Array Slot), lv_has ls 7 [(0, .ref b0), (1, .ref (B 0 0)), (2, .ref (am 0)), (3, .ref (ao 0)), (4, .int x4)] → va_P Z.1 vwCl (wH Z B h ++ (wX7 Z am mo ++ wO Z ao w)) H → va_D (fun q : Nat => s.heap.size ≤ q) (wH Z B h ++ (wX7 Z am mo ++ wO Z ao w)) → va_S (fun q : Nat => s.heap.size ≤ q) s.heap H locs → f_law_b xs L n (x4 + 6) h mo w = some 1 → W p l e room_1 s m #[Value.ref b0] below meth c H locs (lCC (n + 1) + 5) (lSS (n + 1) + 7200) (lw_Z below #[Value.ref b0] s) (F0 m 1443 ls []) := by
        intro B h mo w H locs ls hl hP hD hS hf
        refine lv_iinc (pc := 1443) (v := x4 + 6) (lv' := [(4, .int (x4 + 6)), (0, .ref b0), (1, .ref (B 0 0)), (2, .ref (am 0)), (3, .ref (ao 0))]) hx hb dL_law_1443 hl (k := 4) rfl rfl (by decide) rfl (fun ls hl => ?_)
        refine lv_goto (pc := 1446) (tgt := 23) hx hb dL_law_1446 (by decide) ?_
        rw [hCC, hSS]
        exact ih (by omega) (x4 + 6) B h mo w H locs ls (lv_sub hl [1, 2, 3, 4, 0] rfl) hP hD hS hf
      refine lv_aload_n (pc := 33) hx hb dL_law_33 rfl (lv_at hl 0 rfl) ?_
      refine lv_iload (pc := 34) hx hb dL_law_34 (lv_at hl 4 rfl) ?_
      refine va_sld (pc := 36) hx hb hX hbl hbA hS (inb_in g36) dL_law_36 ?_
      refine lv_bipush (pc := 37) (v := 31) hx hb dL_law_37 (by decide) ?_
      refine lv_iand (pc := 39) hx hb dL_law_39 ?_
      by_cases c1 : ((xs (x4).toNatClampNeg) &&& 31) = 0
      · have hf := (if_pos c1).symm.trans hf
        refine lv_tableIn (pc := 40) (off := 100) (tgt := 140) hx hb dL_law_40 (by rw [c1]; decide) (by rw [c1]; decide) (by rw [c1]; rfl) (by decide) ?_
        exact lc_0 hst C0 hK hE hZ hC9 hS9 _ next hl hP hD hS hf
      have hf := (if_neg c1).symm.trans hf
      by_cases c2 : ((xs (x4).toNatClampNeg) &&& 31) = 1
      · have hf := (if_pos c2).symm.trans hf
        refine lv_tableIn (pc := 40) (off := 168) (tgt := 208) hx hb dL_law_40 (by rw [c2]; decide) (by rw [c2]; decide) (by rw [c2]; rfl) (by decide) ?_
        exact lc_1 hst C0 hK hE hZ hC9 hS9 _ next hl hP hD hS hf
      have hf := (if_neg c2).symm.trans hf
      by_cases c3 : ((xs (x4).toNatClampNeg) &&& 31) = 2
      · have hf := (if_pos c3).symm.trans hf
        refine lv_tableIn (pc := 40) (off := 260) (tgt := 300) hx hb dL_law_40 (by rw [c3]; decide) (by rw [c3]; decide) (by rw [c3]; rfl) (by decide) ?_
        exact lc_2 hst C0 hK hE hZ hC9 hS9 _ next hl hP hD hS hf
      have hf := (if_neg c3).symm.trans hf
      by_cases c4 : ((xs (x4).toNatClampNeg) &&& 31) = 3
      · have hf := (if_pos c4).symm.trans hf
        refine lv_tableIn (pc := 40) (off := 328) (tgt := 368) hx hb dL_law_40 (by rw [c4]; decide) (by rw [c4]; decide) (by rw [c4]; rfl) (by decide) ?_
        exact lc_3 hst C0 hK hE hZ hC9 hS9 _ next hl hP hD hS hf
      have hf := (if_neg c4).symm.trans hf
      by_cases c5 : ((xs (x4).toNatClampNeg) &&& 31) = 4
      · have hf := (if_pos c5).symm.trans hf
        refine lv_tableIn (pc := 40) (off := 396) (tgt := 436) hx hb dL_law_40 (by rw [c5]; decide) (by rw [c5]; decide) (by rw [c5]; rfl) (by decide) ?_
        exact lc_4 hst C0 hK hE hZ hC9 hS9 _ next hl hP hD hS hf
      have hf := (if_neg c5).symm.trans hf
      by_cases c6 : ((xs (x4).toNatClampNeg) &&& 31) = 5
      · have hf := (if_pos c6).symm.trans hf
        refine lv_tableIn (pc := 40) (off := 476) (tgt := 516) hx hb dL_law_40 (by rw [c6]; decide) (by rw [c6]; decide) (by rw [c6]; rfl) (by decide) ?_
        exact lc_5 hst C0 hK hE hZ hC9 hS9 _ next hl hP hD hS hf
      have hf := (if_neg c6).symm.trans hf
      by_cases c7 : ((xs (x4).toNatClampNeg) &&& 31) = 6
      · have hf := (if_pos c7).symm.trans hf
        refine lv_tableIn (pc := 40) (off := 580) (tgt := 620) hx hb dL_law_40 (by rw [c7]; decide) (by rw [c7]; decide) (by rw [c7]; rfl) (by decide) ?_
        exact lc_6 hst C0 hK hE hZ hC9 hS9 _ next hl hP hD hS hf
      have hf := (if_neg c7).symm.trans hf
      by_cases c8 : ((xs (x4).toNatClampNeg) &&& 31) = 7
      · have hf := (if_pos c8).symm.trans hf
        refine lv_tableIn (pc := 40) (off := 660) (tgt := 700) hx hb dL_law_40 (by rw [c8]; decide) (by rw [c8]; decide) (by rw [c8]; rfl) (by decide) ?_
        exact lc_7 hst C0 hK hE hZ hC9 hS9 _ next hl hP hD hS hf
      have hf := (if_neg c8).symm.trans hf
      by_cases c9 : ((xs (x4).toNatClampNeg) &&& 31) = 8
      · have hf := (if_pos c9).symm.trans hf
        refine lv_tableIn (pc := 40) (off := 720) (tgt := 760) hx hb dL_law_40 (by rw [c9]; decide) (by rw [c9]; decide) (by rw [c9]; rfl) (by decide) ?_
        exact lc_8 hst C0 hK hE hZ hC9 hS9 _ next hl hP hD hS hf
      have hf := (if_neg c9).symm.trans hf
      by_cases c10 : ((xs (x4).toNatClampNeg) &&& 31) = 9
      · have hf := (if_pos c10).symm.trans hf
        refine lv_tableIn (pc := 40) (off := 800) (tgt := 840) hx hb dL_law_40 (by rw [c10]; decide) (by rw [c10]; decide) (by rw [c10]; rfl) (by decide) ?_
        exact lc_9 hst C0 hK hE hZ hC9 hS9 _ next hl hP hD hS hf
      have hf := (if_neg c10).symm.trans hf
      by_cases c11 : ((xs (x4).toNatClampNeg) &&& 31) = 10
      · have hf := (if_pos c11).symm.trans hf
        refine lv_tableIn (pc := 40) (off := 863) (tgt := 903) hx hb dL_law_40 (by rw [c11]; decide) (by rw [c11]; decide) (by rw [c11]; rfl) (by decide) ?_
        exact lc_10 hst C0 hK hE hZ hC9 hS9 _ next hl hP hD hS hf
      have hf := (if_neg c11).symm.trans hf
      by_cases c12 : ((xs (x4).toNatClampNeg) &&& 31) = 11
      · have hf := (if_pos c12).symm.trans hf
        refine lv_tableIn (pc := 40) (off := 919) (tgt := 959) hx hb dL_law_40 (by rw [c12]; decide) (by rw [c12]; decide) (by rw [c12]; rfl) (by decide) ?_
        exact lc_11 hst C0 hK hE hZ hC9 hS9 _ next hl hP hD hS hf
      have hf := (if_neg c12).symm.trans hf
      by_cases c13 : ((xs (x4).toNatClampNeg) &&& 31) = 12
      · have hf := (if_pos c13).symm.trans hf
        refine lv_tableIn (pc := 40) (off := 932) (tgt := 972) hx hb dL_law_40 (by rw [c13]; decide) (by rw [c13]; decide) (by rw [c13]; rfl) (by decide) ?_
        exact lc_12 hst C0 hK hE hZ hC9 hS9 _ next hl hP hD hS hf
      have hf := (if_neg c13).symm.trans hf
      by_cases c14 : ((xs (x4).toNatClampNeg) &&& 31) = 13
      · have hf := (if_pos c14).symm.trans hf
        refine lv_tableIn (pc := 40) (off := 1000) (tgt := 1040) hx hb dL_law_40 (by rw [c14]; decide) (by rw [c14]; decide) (by rw [c14]; rfl) (by decide) ?_
        exact lc_13 hst C0 hK hE hZ hC9 hS9 _ next hl hP hD hS hf
      have hf := (if_neg c14).symm.trans hf
      by_cases c15 : ((xs (x4).toNatClampNeg) &&& 31) = 14
      · have hf := (if_pos c15).symm.trans hf
        refine lv_tableIn (pc := 40) (off := 1068) (tgt := 1108) hx hb dL_law_40 (by rw [c15]; decide) (by rw [c15]; decide) (by rw [c15]; rfl) (by decide) ?_
        exact lc_14 hst C0 hK hE hZ hC9 hS9 _ next hl hP hD hS hf
      have hf := (if_neg c15).symm.trans hf
      by_cases c16 : ((xs (x4).toNatClampNeg) &&& 31) = 15
      · have hf := (if_pos c16).symm.trans hf
        refine lv_tableIn (pc := 40) (off := 1136) (tgt := 1176) hx hb dL_law_40 (by rw [c16]; decide) (by rw [c16]; decide) (by rw [c16]; rfl) (by decide) ?_
        exact lc_15 hst C0 hK hE hZ hC9 hS9 _ next hl hP hD hS hf
      have hf := (if_neg c16).symm.trans hf
      by_cases c17 : ((xs (x4).toNatClampNeg) &&& 31) = 16
      · have hf := (if_pos c17).symm.trans hf
        refine lv_tableIn (pc := 40) (off := 1204) (tgt := 1244) hx hb dL_law_40 (by rw [c17]; decide) (by rw [c17]; decide) (by rw [c17]; rfl) (by decide) ?_
        exact lc_16 hst C0 hK hE hZ hC9 hS9 _ next hl hP hD hS hf
      have hf := (if_neg c17).symm.trans hf
      by_cases c18 : ((xs (x4).toNatClampNeg) &&& 31) = 17
      · have hf := (if_pos c18).symm.trans hf
        refine lv_tableIn (pc := 40) (off := 1217) (tgt := 1257) hx hb dL_law_40 (by rw [c18]; decide) (by rw [c18]; decide) (by rw [c18]; rfl) (by decide) ?_
        exact lc_17 hst C0 hK hE hZ hC9 hS9 _ next hl hP hD hS hf
      have hf := (if_neg c18).symm.trans hf
      by_cases c19 : ((xs (x4).toNatClampNeg) &&& 31) = 18
      · have hf := (if_pos c19).symm.trans hf
        refine lv_tableIn (pc := 40) (off := 1230) (tgt := 1270) hx hb dL_law_40 (by rw [c19]; decide) (by rw [c19]; decide) (by rw [c19]; rfl) (by decide) ?_
        exact lc_18 hst C0 hK hE hZ hC9 hS9 _ next hl hP hD hS hf
      have hf := (if_neg c19).symm.trans hf
      by_cases c20 : ((xs (x4).toNatClampNeg) &&& 31) = 19
      · have hf := (if_pos c20).symm.trans hf
        refine lv_tableIn (pc := 40) (off := 1298) (tgt := 1338) hx hb dL_law_40 (by rw [c20]; decide) (by rw [c20]; decide) (by rw [c20]; rfl) (by decide) ?_
        exact lc_19 hst C0 hK hE hZ hC9 hS9 _ next hl hP hD hS hf
      have hf := (if_neg c20).symm.trans hf
      by_cases c21 : ((xs (x4).toNatClampNeg) &&& 31) = 20
      · have hf := (if_pos c21).symm.trans hf
        refine lv_tableIn (pc := 40) (off := 1390) (tgt := 1430) hx hb dL_law_40 (by rw [c21]; decide) (by rw [c21]; decide) (by rw [c21]; rfl) (by decide) ?_
        exact lc_20 hst C0 hK hE hZ hC9 hS9 _ next hl hP hD hS hf
      have hf := (if_neg c21).symm.trans hf
      refine lv_tableOut (pc := 40) (tgt := 1443) hx hb dL_law_40 (by have := tne c1 (show (0 : Int32).toInt = 0 by decide); have := tne c2 (show (1 : Int32).toInt = 1 by decide); have := tne c3 (show (2 : Int32).toInt = 2 by decide); have := tne c4 (show (3 : Int32).toInt = 3 by decide); have := tne c5 (show (4 : Int32).toInt = 4 by decide); have := tne c6 (show (5 : Int32).toInt = 5 by decide); have := tne c7 (show (6 : Int32).toInt = 6 by decide); have := tne c8 (show (7 : Int32).toInt = 7 by decide); have := tne c9 (show (8 : Int32).toInt = 8 by decide); have := tne c10 (show (9 : Int32).toInt = 9 by decide); have := tne c11 (show (10 : Int32).toInt = 10 by decide); have := tne c12 (show (11 : Int32).toInt = 11 by decide); have := tne c13 (show (12 : Int32).toInt = 12 by decide); have := tne c14 (show (13 : Int32).toInt = 13 by decide); have := tne c15 (show (14 : Int32).toInt = 14 by decide); have := tne c16 (show (15 : Int32).toInt = 15 by decide); have := tne c17 (show (16 : Int32).toInt = 16 by decide); have := tne c18 (show (17 : Int32).toInt = 17 by decide); have := tne c19 (show (18 : Int32).toInt = 18 by decide); have := tne c20 (show (19 : Int32).toInt = 19 by decide); have := tne c21 (show (20 : Int32).toInt = 20 by decide); omega) (by decide) ?_
      refine W.widen (k := lCC (n + 1) + 5) (n := lSS (n + 1) + 7200) (by omega) (by omega) ?_
      exact next B h mo w H locs ls hl hP hD hS hf
