set_option maxHeartbeats 16000000 in
set_option maxRecDepth 100000 in
theorem c_L_isInOrder (Z : EnvT) (l : Launch) (hst : l.stackTraces = false) (b : Nat → Nat → Nat) (ak : Nat) (h : Nat → ObS) (kn : Nat → Int32) (R : Int32) (hf : f_L_isInOrder h kn = some R) : WR Z l yL_isInOrder wsL_isInOrder { frames := 10, cells := 542, slots := 3252, locals := 212 } [.ref (b 0 0), .ref ak] (wH Z b h ++ wK Z ak kn) (some (.int R)) (fun _ => wH Z b h ++ wK Z ak kn) 542 3252 := by
  refine wr_ofP (cc := cL_isInOrder) (maxL := 7) (ret := (some .boolean)) (by decide) rfl (Nat.le_of_ble_eq_true rfl) ?_
  intro p e s m below meth c A ls hx hb hr hml hts hown hlk hP hK hE hD hA hS hZ hl
  have hown : s.vm.findClass RL = some m.cls := hown
  have hl : lv_has ls 7 [(0, .ref (b 0 0)), (1, .ref ak)] := hl
  have w0 := hts (.constant RL 76 (-2100000000)) (by decide +kernel)
  have w1 := hts (.constantLong RL 101 (10)) (by decide +kernel)
  have w2 := hts (.constant RL 103 (99999)) (by decide +kernel)
  have w3 := hts (.constant RL 104 (-10000000)) (by decide +kernel)
  have w4 := hts (.constant RL 105 (10000000)) (by decide +kernel)
  have B307 : ∀ (n : Nat), ∀ (v307_3 : Int32) (v307_2 : Int32) (CC SS : Nat) (ls : Array Slot), CC + (6 * n + 0) ≤ 542 → SS + (36 * n + 0) ≤ 3252 → lv_has ls 7 [(0, .ref (b 0 0)), (2, .int v307_2), (3, .int v307_3)] → ∀ (H : Heap) (locs : List Loc), va_P Z.1 vwCl (wH Z b h ++ wK Z ak kn) H → va_D A (wH Z b h ++ wK Z ak kn) → va_S A s.heap H locs → f_L_isInOrder_b307 h n v307_3 v307_2 = some R → W p l e { frames := 10, cells := 542, slots := 3252, locals := 212 } s m ([.ref (b 0 0), .ref ak] : List Value).toArray below meth c H locs CC SS (vx_MQ below (rwQ Z (some (.int R)) (fun _ => wH Z b h ++ wK Z ak kn) A) (fun _ _ _ => False) ([.ref (b 0 0), .ref ak] : List Value).toArray s 542 3252 A) (F0 m 307 ls []) := by
    intro n
    induction n with
    | zero => intro v307_3 v307_2 CC SS ls hCC hSS hl H locs hP hD hS hf; rw [f_L_isInOrder_b307] at hf; exact nomatch hf
    | succ n ih =>
      intro v307_3 v307_2 CC SS ls hCC hSS hl H locs hP hD hS hf
      rw [f_L_isInOrder_b307] at hf
      refine lv_iload_n (pc := 307) hx hb dL_isInOrder_307 rfl (lv_at hl 2 rfl) ?_
      refine lv_bipush (pc := 308) (v := 6) hx hb dL_isInOrder_308 (by decide) ?_
      refine lv_icmp_ge (pc := 310) (tgt := 383) hx hb dL_isInOrder_310 (by decide) (fun c1 => ?_) (fun c1 => ?_)
      · have hf := (if_pos c1).symm.trans hf
        refine lv_iload_n (pc := 383) hx hb dL_isInOrder_383 rfl (lv_at hl 1 rfl) ?_
        obtain ⟨gz, hf⟩ := gd hf
        have hf := (Option.some.inj hf)
        subst hf
        refine W.widen (k := 542) (n := 3252) (by omega) (by omega) ?_
        exact vx_ret (rw_z (fun _ => 0) hx hb hr hlk rfl (isb_n gz) hP hD hS dL_isInOrder_384)
      · have hf := (if_neg c1).symm.trans hf
        refine lv_iload_n (pc := 313) hx hb dL_isInOrder_313 rfl (lv_at hl 1 rfl) ?_
        refine lv_if_eq (pc := 314) (tgt := 383) hx hb dL_isInOrder_314 (by decide) (fun c2 => ?_) (fun c2 => ?_)
        · have hf := (if_pos c2).symm.trans hf
          refine lv_iload_n (pc := 383) hx hb dL_isInOrder_383 rfl (lv_at hl 1 rfl) ?_
          obtain ⟨gz, hf⟩ := gd hf
          have hf := (Option.some.inj hf)
          subst hf
          refine W.widen (k := 542) (n := 3252) (by omega) (by omega) ?_
          exact vx_ret (rw_z (fun _ => 0) hx hb hr hlk rfl (isb_n gz) hP hD hS dL_isInOrder_384)
        · have hf := (if_neg c2).symm.trans hf
          refine lv_aload_n (pc := 317) hx hb dL_isInOrder_317 rfl (lv_at hl 0 rfl) ?_
          refine lv_bipush (pc := 318) (v := 14) hx hb dL_isInOrder_318 (by decide) ?_
          refine lv_iload_n (pc := 320) hx hb dL_isInOrder_320 rfl (lv_at hl 2 rfl) ?_
          refine lv_iconst (pc := 321) (v := 1) hx hb dL_isInOrder_321 (by decide) ?_
          refine lv_iconst (pc := 322) (v := 0) hx hb dL_isInOrder_322 (by decide) ?_
          refine lv_iconst (pc := 323) (v := 0) hx hb dL_isInOrder_323 (by decide) ?_
          obtain ⟨r324, h_324, hf⟩ := bd hf
          refine wr_S (pc := 324) (As := [.ref (b 0 0), .int 14, .int v307_3, .int 1, .int 0, .int 0]) (rest := []) (st1 := [.int r324]) (wn := fun _ => wH Z b h ++ wK Z ak kn) ⟨hx, hb, hml, hown, hts⟩ (c_L_does_14 Z l hst b h v307_3 1 0 0 r324 h_324) (vx_cwSW 6 hts gL_isInOrder_L_does rfl rfl rfl hs_L_does ⟨Nat.le_of_ble_eq_true rfl, Nat.le_of_ble_eq_true rfl⟩) hK hE hP hD hS hA hZ (List.range' 0 40) (List.range' 40 1) (List.range' 1 40 ++ List.range' 0 1) (by decide +kernel) (bl1 rfl) (tR1 rfl rfl) (fun _ => tN1 rfl rfl rfl) rfl hl.1 rfl (lv_room (Nat.le_of_ble_eq_true rfl)) dL_isInOrder_324 ⟨(show CC + 0 + 2 ≤ 542 by omega), (show SS + 0 + 12 ≤ 3252 by omega)⟩ rfl (fun _ H locs hP hD hS => ?_)
          refine lv_istore (pc := 327) (lv' := [(4, .int r324), (0, .ref (b 0 0)), (2, .int v307_2), (3, .int v307_3)]) hx hb dL_isInOrder_327 hl (by decide) rfl (fun ls hl => ?_)
          refine lv_iload (pc := 329) hx hb dL_isInOrder_329 (lv_at hl 0 rfl) ?_
          refine lv_ldc (pc := 331) (v := (-2100000000)) hx hb hown w0 dL_isInOrder_331 ?_
          refine lv_icmp_eq (pc := 333) (tgt := 371) hx hb dL_isInOrder_333 (by decide) (fun c3 => ?_) (fun c3 => ?_)
          · have hf := (if_pos c3).symm.trans hf
            refine lv_iconst (pc := 371) (v := 1) hx hb dL_isInOrder_371 (by decide) ?_
            refine lv_goto (pc := 372) (tgt := 376) hx hb dL_isInOrder_372 (by decide) ?_
            refine lv_istore_n (pc := 376) (lv' := [(2, .int 1), (4, .int r324), (0, .ref (b 0 0)), (3, .int v307_3)]) hx hb dL_isInOrder_376 rfl hl (by decide) rfl (fun ls hl => ?_)
            refine lv_iinc (pc := 377) (v := v307_3 + 1) (lv' := [(3, .int (v307_3 + 1)), (2, .int 1), (4, .int r324), (0, .ref (b 0 0))]) hx hb dL_isInOrder_377 hl (k := 3) rfl rfl (by decide) rfl (fun ls hl => ?_)
            refine lv_goto (pc := 380) (tgt := 307) hx hb dL_isInOrder_380 (by decide) ?_
            exact ih (v307_3 + 1) 1 _ _ _ (by omega) (by omega) (lv_sub hl [3, 1, 0] rfl) _ _ hP hD hS hf
          · have hf := (if_neg c3).symm.trans hf
            refine lv_iload (pc := 336) hx hb dL_isInOrder_336 (lv_at hl 0 rfl) ?_
            refine lv_ldc (pc := 338) (v := (-10000000)) hx hb hown w3 dL_isInOrder_338 ?_
            refine lv_icmp_lt (pc := 340) (tgt := 375) hx hb dL_isInOrder_340 (by decide) (fun c4 => ?_) (fun c4 => ?_)
            · have hf := (if_pos c4).symm.trans hf
              refine lv_iconst (pc := 375) (v := 0) hx hb dL_isInOrder_375 (by decide) ?_
              refine lv_istore_n (pc := 376) (lv' := [(2, .int 0), (4, .int r324), (0, .ref (b 0 0)), (3, .int v307_3)]) hx hb dL_isInOrder_376 rfl hl (by decide) rfl (fun ls hl => ?_)
              refine lv_iinc (pc := 377) (v := v307_3 + 1) (lv' := [(3, .int (v307_3 + 1)), (2, .int 0), (4, .int r324), (0, .ref (b 0 0))]) hx hb dL_isInOrder_377 hl (k := 3) rfl rfl (by decide) rfl (fun ls hl => ?_)
              refine lv_goto (pc := 380) (tgt := 307) hx hb dL_isInOrder_380 (by decide) ?_
              exact ih (v307_3 + 1) 0 _ _ _ (by omega) (by omega) (lv_sub hl [3, 1, 0] rfl) _ _ hP hD hS hf
            · have hf := (if_neg c4).symm.trans hf
              refine lv_iload (pc := 343) hx hb dL_isInOrder_343 (lv_at hl 0 rfl) ?_
              refine lv_ldc (pc := 345) (v := 10000000) hx hb hown w4 dL_isInOrder_345 ?_
              refine lv_icmp_gt (pc := 347) (tgt := 375) hx hb dL_isInOrder_347 (by decide) (fun c5 => ?_) (fun c5 => ?_)
              · have hf := (if_pos c5).symm.trans hf
                refine lv_iconst (pc := 375) (v := 0) hx hb dL_isInOrder_375 (by decide) ?_
                refine lv_istore_n (pc := 376) (lv' := [(2, .int 0), (4, .int r324), (0, .ref (b 0 0)), (3, .int v307_3)]) hx hb dL_isInOrder_376 rfl hl (by decide) rfl (fun ls hl => ?_)
                refine lv_iinc (pc := 377) (v := v307_3 + 1) (lv' := [(3, .int (v307_3 + 1)), (2, .int 0), (4, .int r324), (0, .ref (b 0 0))]) hx hb dL_isInOrder_377 hl (k := 3) rfl rfl (by decide) rfl (fun ls hl => ?_)
                refine lv_goto (pc := 380) (tgt := 307) hx hb dL_isInOrder_380 (by decide) ?_
                exact ih (v307_3 + 1) 0 _ _ _ (by omega) (by omega) (lv_sub hl [3, 1, 0] rfl) _ _ hP hD hS hf
              · have hf := (if_neg c5).symm.trans hf
                refine lv_aload_n (pc := 350) hx hb dL_isInOrder_350 rfl (lv_at hl 1 rfl) ?_
                refine lv_iload_n (pc := 351) hx hb dL_isInOrder_351 rfl (lv_at hl 3 rfl) ?_
                refine lv_iconst (pc := 352) (v := 0) hx hb dL_isInOrder_352 (by decide) ?_
                obtain ⟨r353, h_353, hf⟩ := obd hf
                refine th_Ln (pc := 353) (C := RX6) (As := [.int v307_3, .int 0]) (rest := []) (st1 := [.int r353]) (wn := fun _ => wH Z b h ++ wK Z ak kn) ⟨hx, hb, hml, hown, hts⟩ (c_X6_ofController Z l hst b h v307_3 0 (.inr r353) h_353) (cwV 2 hts gL_isInOrder_X6_ofController rfl rfl rfl hv_X6_ofController ⟨Nat.le_of_ble_eq_true rfl, Nat.le_of_ble_eq_true rfl⟩) hK hE hP hD hS hA hZ (List.range' 0 40) (List.range' 40 1) (List.range' 1 40 ++ List.range' 0 1) (by decide +kernel) (bl1 rfl) (tR1 rfl rfl) (fun _ => tN1 rfl rfl rfl) 6 rfl rfl rfl hl.1 rfl (lv_room (Nat.le_of_ble_eq_true rfl)) dL_isInOrder_353 ⟨(show CC + 2 + 2 ≤ 542 by omega), (show SS + 12 + 12 ≤ 3252 by omega)⟩ rfl (fun _ H locs hP hD hS => ?_)
                refine lv_if_lt (pc := 356) (tgt := 375) hx hb dL_isInOrder_356 (by decide) (fun c6 => ?_) (fun c6 => ?_)
                · have hf := (if_pos c6).symm.trans hf
                  refine lv_iconst (pc := 375) (v := 0) hx hb dL_isInOrder_375 (by decide) ?_
                  refine lv_istore_n (pc := 376) (lv' := [(2, .int 0), (4, .int r324), (0, .ref (b 0 0)), (3, .int v307_3)]) hx hb dL_isInOrder_376 rfl hl (by decide) rfl (fun ls hl => ?_)
                  refine lv_iinc (pc := 377) (v := v307_3 + 1) (lv' := [(3, .int (v307_3 + 1)), (2, .int 0), (4, .int r324), (0, .ref (b 0 0))]) hx hb dL_isInOrder_377 hl (k := 3) rfl rfl (by decide) rfl (fun ls hl => ?_)
                  refine lv_goto (pc := 380) (tgt := 307) hx hb dL_isInOrder_380 (by decide) ?_
                  exact ih (v307_3 + 1) 0 _ _ _ (by omega) (by omega) (lv_sub hl [3, 1, 0] rfl) _ _ hP hD hS hf
                · have hf := (if_neg c6).symm.trans hf
                  refine lv_aload_n (pc := 359) hx hb dL_isInOrder_359 rfl (lv_at hl 1 rfl) ?_
                  refine lv_iload_n (pc := 360) hx hb dL_isInOrder_360 rfl (lv_at hl 3 rfl) ?_
                  refine lv_iconst (pc := 361) (v := 0) hx hb dL_isInOrder_361 (by decide) ?_
                  obtain ⟨r362, h_362, hf⟩ := obd hf
                  refine th_Ln (pc := 362) (C := RX6) (As := [.int v307_3, .int 0]) (rest := []) (st1 := [.int r362]) (wn := fun _ => wH Z b h ++ wK Z ak kn) ⟨hx, hb, hml, hown, hts⟩ (c_X6_ofController Z l hst b h v307_3 0 (.inr r362) h_362) (cwV 2 hts gL_isInOrder_X6_ofController rfl rfl rfl hv_X6_ofController ⟨Nat.le_of_ble_eq_true rfl, Nat.le_of_ble_eq_true rfl⟩) hK hE hP hD hS hA hZ (List.range' 0 40) (List.range' 40 1) (List.range' 1 40 ++ List.range' 0 1) (by decide +kernel) (bl1 rfl) (tR1 rfl rfl) (fun _ => tN1 rfl rfl rfl) 6 rfl rfl rfl hl.1 rfl (lv_room (Nat.le_of_ble_eq_true rfl)) dL_isInOrder_362 ⟨(show CC + 4 + 2 ≤ 542 by omega), (show SS + 24 + 12 ≤ 3252 by omega)⟩ rfl (fun _ H locs hP hD hS => ?_)
                  refine lv_sipush (pc := 365) (v := 3000) hx hb dL_isInOrder_365 (by decide) ?_
                  refine lv_icmp_gt (pc := 368) (tgt := 375) hx hb dL_isInOrder_368 (by decide) (fun c7 => ?_) (fun c7 => ?_)
                  · have hf := (if_pos c7).symm.trans hf
                    refine lv_iconst (pc := 375) (v := 0) hx hb dL_isInOrder_375 (by decide) ?_
                    refine lv_istore_n (pc := 376) (lv' := [(2, .int 0), (4, .int r324), (0, .ref (b 0 0)), (3, .int v307_3)]) hx hb dL_isInOrder_376 rfl hl (by decide) rfl (fun ls hl => ?_)
                    refine lv_iinc (pc := 377) (v := v307_3 + 1) (lv' := [(3, .int (v307_3 + 1)), (2, .int 0), (4, .int r324), (0, .ref (b 0 0))]) hx hb dL_isInOrder_377 hl (k := 3) rfl rfl (by decide) rfl (fun ls hl => ?_)
                    refine lv_goto (pc := 380) (tgt := 307) hx hb dL_isInOrder_380 (by decide) ?_
                    exact ih (v307_3 + 1) 0 _ _ _ (by omega) (by omega) (lv_sub hl [3, 1, 0] rfl) _ _ hP hD hS hf
                  · have hf := (if_neg c7).symm.trans hf
                    refine lv_iconst (pc := 371) (v := 1) hx hb dL_isInOrder_371 (by decide) ?_
                    refine lv_goto (pc := 372) (tgt := 376) hx hb dL_isInOrder_372 (by decide) ?_
                    refine lv_istore_n (pc := 376) (lv' := [(2, .int 1), (4, .int r324), (0, .ref (b 0 0)), (3, .int v307_3)]) hx hb dL_isInOrder_376 rfl hl (by decide) rfl (fun ls hl => ?_)
                    refine lv_iinc (pc := 377) (v := v307_3 + 1) (lv' := [(3, .int (v307_3 + 1)), (2, .int 1), (4, .int r324), (0, .ref (b 0 0))]) hx hb dL_isInOrder_377 hl (k := 3) rfl rfl (by decide) rfl (fun ls hl => ?_)
                    refine lv_goto (pc := 380) (tgt := 307) hx hb dL_isInOrder_380 (by decide) ?_
                    exact ih (v307_3 + 1) 1 _ _ _ (by omega) (by omega) (lv_sub hl [3, 1, 0] rfl) _ _ hP hD hS hf
  have B219 : ∀ (v15_3 : Int32) (KC KS : Nat) (k : Int32 → Int32 → Option Int32) (hk : ∀ (v15_2 : Int32) (v15_3 : Int32) (CC SS : Nat) (ls : Array Slot), CC + KC ≤ 542 → SS + KS ≤ 3252 → lv_has ls 7 [(0, .ref (b 0 0)), (1, .ref ak), (2, .int v15_2), (3, .int v15_3)] → ∀ (H : Heap) (locs : List Loc), va_P Z.1 vwCl (wH Z b h ++ wK Z ak kn) H → va_D A (wH Z b h ++ wK Z ak kn) → va_S A s.heap H locs → k v15_2 v15_3 = some R → W p l e { frames := 10, cells := 542, slots := 3252, locals := 212 } s m ([.ref (b 0 0), .ref ak] : List Value).toArray below meth c H locs CC SS (vx_MQ below (rwQ Z (some (.int R)) (fun _ => wH Z b h ++ wK Z ak kn) A) (fun _ _ _ => False) ([.ref (b 0 0), .ref ak] : List Value).toArray s 542 3252 A) (F0 m 15 ls [])), ∀ (v219_2 : Int32) (CC SS : Nat) (ls : Array Slot), CC + (8 + KC) ≤ 542 → SS + (48 + KS) ≤ 3252 → lv_has ls 7 [(0, .ref (b 0 0)), (1, .ref ak), (2, .int v219_2), (3, .int v15_3), (5, .int (kn (v15_3 / (2 : Int32)).toNatClampNeg))] → ∀ (H : Heap) (locs : List Loc), va_P Z.1 vwCl (wH Z b h ++ wK Z ak kn) H → va_D A (wH Z b h ++ wK Z ak kn) → va_S A s.heap H locs → f_L_isInOrder_b219 k h kn v15_3 v219_2 = some R → W p l e { frames := 10, cells := 542, slots := 3252, locals := 212 } s m ([.ref (b 0 0), .ref ak] : List Value).toArray below meth c H locs CC SS (vx_MQ below (rwQ Z (some (.int R)) (fun _ => wH Z b h ++ wK Z ak kn) A) (fun _ _ _ => False) ([.ref (b 0 0), .ref ak] : List Value).toArray s 542 3252 A) (F0 m 219 ls []) := by
    intro v15_3 KC KS k hk v219_2 CC SS ls hCC hSS hl H locs hP hD hS hf
    rw [f_L_isInOrder_b219] at hf
    refine lv_iload_n (pc := 219) hx hb dL_isInOrder_219 rfl (lv_at hl 2 rfl) ?_
    refine lv_if_eq (pc := 220) (tgt := 297) hx hb dL_isInOrder_220 (by decide) (fun c1 => ?_) (fun c1 => ?_)
    · have hf := (if_pos c1).symm.trans hf
      refine lv_iconst (pc := 297) (v := 0) hx hb dL_isInOrder_297 (by decide) ?_
      refine lv_istore_n (pc := 298) (lv' := [(2, .int 0), (0, .ref (b 0 0)), (1, .ref ak), (3, .int v15_3), (5, .int (kn (v15_3 / (2 : Int32)).toNatClampNeg))]) hx hb dL_isInOrder_298 rfl hl (by decide) rfl (fun ls hl => ?_)
      refine lv_iinc (pc := 299) (v := v15_3 + 1) (lv' := [(3, .int (v15_3 + 1)), (2, .int 0), (0, .ref (b 0 0)), (1, .ref ak), (5, .int (kn (v15_3 / (2 : Int32)).toNatClampNeg))]) hx hb dL_isInOrder_299 hl (k := 3) rfl rfl (by decide) rfl (fun ls hl => ?_)
      refine lv_goto (pc := 302) (tgt := 15) hx hb dL_isInOrder_302 (by decide) ?_
      exact hk 0 (v15_3 + 1) _ _ _ (by omega) (by omega) (lv_sub hl [2, 3, 1, 0] rfl) _ _ hP hD hS hf
    · have hf := (if_neg c1).symm.trans hf
      refine lv_iload (pc := 223) hx hb dL_isInOrder_223 (lv_at hl 4 rfl) ?_
      refine lv_iconst (pc := 225) (v := 3) hx hb dL_isInOrder_225 (by decide) ?_
      refine lv_icmp_eq (pc := 226) (tgt := 253) hx hb dL_isInOrder_226 (by decide) (fun c2 => ?_) (fun c2 => ?_)
      · have hf := (if_pos c2).symm.trans hf
        refine lv_iload (pc := 253) hx hb dL_isInOrder_253 (lv_at hl 4 rfl) ?_
        refine lv_iconst (pc := 255) (v := 3) hx hb dL_isInOrder_255 (by decide) ?_
        refine lv_icmp_eq (pc := 256) (tgt := 276) hx hb dL_isInOrder_256 (by decide) (fun c3 => ?_) (fun c3 => ?_)
        · have hf := (if_pos c3).symm.trans hf
          refine lv_iload (pc := 276) hx hb dL_isInOrder_276 (lv_at hl 4 rfl) ?_
          refine lv_iconst (pc := 278) (v := 4) hx hb dL_isInOrder_278 (by decide) ?_
          refine lv_icmp_ne (pc := 279) (tgt := 293) hx hb dL_isInOrder_279 (by decide) (fun c4 => ?_) (fun c4 => ?_)
          · have hf := (if_neg c4).symm.trans hf
            refine lv_iconst (pc := 293) (v := 1) hx hb dL_isInOrder_293 (by decide) ?_
            refine lv_goto (pc := 294) (tgt := 298) hx hb dL_isInOrder_294 (by decide) ?_
            refine lv_istore_n (pc := 298) (lv' := [(2, .int 1), (0, .ref (b 0 0)), (1, .ref ak), (3, .int v15_3), (5, .int (kn (v15_3 / (2 : Int32)).toNatClampNeg))]) hx hb dL_isInOrder_298 rfl hl (by decide) rfl (fun ls hl => ?_)
            refine lv_iinc (pc := 299) (v := v15_3 + 1) (lv' := [(3, .int (v15_3 + 1)), (2, .int 1), (0, .ref (b 0 0)), (1, .ref ak), (5, .int (kn (v15_3 / (2 : Int32)).toNatClampNeg))]) hx hb dL_isInOrder_299 hl (k := 3) rfl rfl (by decide) rfl (fun ls hl => ?_)
            refine lv_goto (pc := 302) (tgt := 15) hx hb dL_isInOrder_302 (by decide) ?_
            exact hk 1 (v15_3 + 1) _ _ _ (by omega) (by omega) (lv_sub hl [2, 3, 1, 0] rfl) _ _ hP hD hS hf
          · have hf := (if_pos c4).symm.trans hf
            refine lv_aload_n (pc := 282) hx hb dL_isInOrder_282 rfl (lv_at hl 0 rfl) ?_
            refine lv_iload_n (pc := 283) hx hb dL_isInOrder_283 rfl (lv_at hl 3 rfl) ?_
            refine lv_iconst (pc := 284) (v := 2) hx hb dL_isInOrder_284 (by decide) ?_
            refine lv_idiv (pc := 285) hx hb dL_isInOrder_285 (by decide) ?_
            refine lv_iconst (pc := 286) (v := 1) hx hb dL_isInOrder_286 (by decide) ?_
            obtain ⟨r287, h_287, hf⟩ := obd hf
            refine th_Ln (pc := 287) (C := RX6) (As := [.int (v15_3 / (2 : Int32)), .int 1]) (rest := []) (st1 := [.int r287]) (wn := fun _ => wH Z b h ++ wK Z ak kn) ⟨hx, hb, hml, hown, hts⟩ (c_X6_ofUnit Z l hst b h (v15_3 / (2 : Int32)) 1 (.inr r287) h_287) (cwV 2 hts gL_isInOrder_X6_ofUnit rfl rfl rfl hv_X6_ofUnit ⟨Nat.le_of_ble_eq_true rfl, Nat.le_of_ble_eq_true rfl⟩) hK hE hP hD hS hA hZ (List.range' 0 40) (List.range' 40 1) (List.range' 1 40 ++ List.range' 0 1) (by decide +kernel) (bl1 rfl) (tR1 rfl rfl) (fun _ => tN1 rfl rfl rfl) 6 rfl rfl rfl hl.1 rfl (lv_room (Nat.le_of_ble_eq_true rfl)) dL_isInOrder_287 ⟨(show CC + 0 + 2 ≤ 542 by omega), (show SS + 0 + 12 ≤ 3252 by omega)⟩ rfl (fun _ H locs hP hD hS => ?_)
            refine lv_if_lt (pc := 290) (tgt := 297) hx hb dL_isInOrder_290 (by decide) (fun c5 => ?_) (fun c5 => ?_)
            · have hf := (if_pos c5).symm.trans hf
              refine lv_iconst (pc := 297) (v := 0) hx hb dL_isInOrder_297 (by decide) ?_
              refine lv_istore_n (pc := 298) (lv' := [(2, .int 0), (0, .ref (b 0 0)), (1, .ref ak), (3, .int v15_3), (5, .int (kn (v15_3 / (2 : Int32)).toNatClampNeg))]) hx hb dL_isInOrder_298 rfl hl (by decide) rfl (fun ls hl => ?_)
              refine lv_iinc (pc := 299) (v := v15_3 + 1) (lv' := [(3, .int (v15_3 + 1)), (2, .int 0), (0, .ref (b 0 0)), (1, .ref ak), (5, .int (kn (v15_3 / (2 : Int32)).toNatClampNeg))]) hx hb dL_isInOrder_299 hl (k := 3) rfl rfl (by decide) rfl (fun ls hl => ?_)
              refine lv_goto (pc := 302) (tgt := 15) hx hb dL_isInOrder_302 (by decide) ?_
              exact hk 0 (v15_3 + 1) _ _ _ (by omega) (by omega) (lv_sub hl [2, 3, 1, 0] rfl) _ _ hP hD hS hf
            · have hf := (if_neg c5).symm.trans hf
              refine lv_iconst (pc := 293) (v := 1) hx hb dL_isInOrder_293 (by decide) ?_
              refine lv_goto (pc := 294) (tgt := 298) hx hb dL_isInOrder_294 (by decide) ?_
              refine lv_istore_n (pc := 298) (lv' := [(2, .int 1), (0, .ref (b 0 0)), (1, .ref ak), (3, .int v15_3), (5, .int (kn (v15_3 / (2 : Int32)).toNatClampNeg))]) hx hb dL_isInOrder_298 rfl hl (by decide) rfl (fun ls hl => ?_)
              refine lv_iinc (pc := 299) (v := v15_3 + 1) (lv' := [(3, .int (v15_3 + 1)), (2, .int 1), (0, .ref (b 0 0)), (1, .ref ak), (5, .int (kn (v15_3 / (2 : Int32)).toNatClampNeg))]) hx hb dL_isInOrder_299 hl (k := 3) rfl rfl (by decide) rfl (fun ls hl => ?_)
              refine lv_goto (pc := 302) (tgt := 15) hx hb dL_isInOrder_302 (by decide) ?_
              exact hk 1 (v15_3 + 1) _ _ _ (by omega) (by omega) (lv_sub hl [2, 3, 1, 0] rfl) _ _ hP hD hS hf
        · have hf := (if_neg c3).symm.trans hf
          refine lv_iload (pc := 259) hx hb dL_isInOrder_259 (lv_at hl 4 rfl) ?_
          refine lv_iconst (pc := 261) (v := 4) hx hb dL_isInOrder_261 (by decide) ?_
          refine lv_icmp_eq (pc := 262) (tgt := 276) hx hb dL_isInOrder_262 (by decide) (fun c6 => ?_) (fun c6 => ?_)
          · have hf := (if_pos c6).symm.trans hf
            refine lv_iload (pc := 276) hx hb dL_isInOrder_276 (lv_at hl 4 rfl) ?_
            refine lv_iconst (pc := 278) (v := 4) hx hb dL_isInOrder_278 (by decide) ?_
            refine lv_icmp_ne (pc := 279) (tgt := 293) hx hb dL_isInOrder_279 (by decide) (fun c7 => ?_) (fun c7 => ?_)
            · have hf := (if_neg c7).symm.trans hf
              refine lv_iconst (pc := 293) (v := 1) hx hb dL_isInOrder_293 (by decide) ?_
              refine lv_goto (pc := 294) (tgt := 298) hx hb dL_isInOrder_294 (by decide) ?_
              refine lv_istore_n (pc := 298) (lv' := [(2, .int 1), (0, .ref (b 0 0)), (1, .ref ak), (3, .int v15_3), (5, .int (kn (v15_3 / (2 : Int32)).toNatClampNeg))]) hx hb dL_isInOrder_298 rfl hl (by decide) rfl (fun ls hl => ?_)
              refine lv_iinc (pc := 299) (v := v15_3 + 1) (lv' := [(3, .int (v15_3 + 1)), (2, .int 1), (0, .ref (b 0 0)), (1, .ref ak), (5, .int (kn (v15_3 / (2 : Int32)).toNatClampNeg))]) hx hb dL_isInOrder_299 hl (k := 3) rfl rfl (by decide) rfl (fun ls hl => ?_)
              refine lv_goto (pc := 302) (tgt := 15) hx hb dL_isInOrder_302 (by decide) ?_
              exact hk 1 (v15_3 + 1) _ _ _ (by omega) (by omega) (lv_sub hl [2, 3, 1, 0] rfl) _ _ hP hD hS hf
            · have hf := (if_pos c7).symm.trans hf
              refine lv_aload_n (pc := 282) hx hb dL_isInOrder_282 rfl (lv_at hl 0 rfl) ?_
              refine lv_iload_n (pc := 283) hx hb dL_isInOrder_283 rfl (lv_at hl 3 rfl) ?_
              refine lv_iconst (pc := 284) (v := 2) hx hb dL_isInOrder_284 (by decide) ?_
              refine lv_idiv (pc := 285) hx hb dL_isInOrder_285 (by decide) ?_
              refine lv_iconst (pc := 286) (v := 1) hx hb dL_isInOrder_286 (by decide) ?_
              obtain ⟨r287, h_287, hf⟩ := obd hf
              refine th_Ln (pc := 287) (C := RX6) (As := [.int (v15_3 / (2 : Int32)), .int 1]) (rest := []) (st1 := [.int r287]) (wn := fun _ => wH Z b h ++ wK Z ak kn) ⟨hx, hb, hml, hown, hts⟩ (c_X6_ofUnit Z l hst b h (v15_3 / (2 : Int32)) 1 (.inr r287) h_287) (cwV 2 hts gL_isInOrder_X6_ofUnit rfl rfl rfl hv_X6_ofUnit ⟨Nat.le_of_ble_eq_true rfl, Nat.le_of_ble_eq_true rfl⟩) hK hE hP hD hS hA hZ (List.range' 0 40) (List.range' 40 1) (List.range' 1 40 ++ List.range' 0 1) (by decide +kernel) (bl1 rfl) (tR1 rfl rfl) (fun _ => tN1 rfl rfl rfl) 6 rfl rfl rfl hl.1 rfl (lv_room (Nat.le_of_ble_eq_true rfl)) dL_isInOrder_287 ⟨(show CC + 0 + 2 ≤ 542 by omega), (show SS + 0 + 12 ≤ 3252 by omega)⟩ rfl (fun _ H locs hP hD hS => ?_)
              refine lv_if_lt (pc := 290) (tgt := 297) hx hb dL_isInOrder_290 (by decide) (fun c8 => ?_) (fun c8 => ?_)
              · have hf := (if_pos c8).symm.trans hf
                refine lv_iconst (pc := 297) (v := 0) hx hb dL_isInOrder_297 (by decide) ?_
                refine lv_istore_n (pc := 298) (lv' := [(2, .int 0), (0, .ref (b 0 0)), (1, .ref ak), (3, .int v15_3), (5, .int (kn (v15_3 / (2 : Int32)).toNatClampNeg))]) hx hb dL_isInOrder_298 rfl hl (by decide) rfl (fun ls hl => ?_)
                refine lv_iinc (pc := 299) (v := v15_3 + 1) (lv' := [(3, .int (v15_3 + 1)), (2, .int 0), (0, .ref (b 0 0)), (1, .ref ak), (5, .int (kn (v15_3 / (2 : Int32)).toNatClampNeg))]) hx hb dL_isInOrder_299 hl (k := 3) rfl rfl (by decide) rfl (fun ls hl => ?_)
                refine lv_goto (pc := 302) (tgt := 15) hx hb dL_isInOrder_302 (by decide) ?_
                exact hk 0 (v15_3 + 1) _ _ _ (by omega) (by omega) (lv_sub hl [2, 3, 1, 0] rfl) _ _ hP hD hS hf
              · have hf := (if_neg c8).symm.trans hf
                refine lv_iconst (pc := 293) (v := 1) hx hb dL_isInOrder_293 (by decide) ?_
                refine lv_goto (pc := 294) (tgt := 298) hx hb dL_isInOrder_294 (by decide) ?_
                refine lv_istore_n (pc := 298) (lv' := [(2, .int 1), (0, .ref (b 0 0)), (1, .ref ak), (3, .int v15_3), (5, .int (kn (v15_3 / (2 : Int32)).toNatClampNeg))]) hx hb dL_isInOrder_298 rfl hl (by decide) rfl (fun ls hl => ?_)
                refine lv_iinc (pc := 299) (v := v15_3 + 1) (lv' := [(3, .int (v15_3 + 1)), (2, .int 1), (0, .ref (b 0 0)), (1, .ref ak), (5, .int (kn (v15_3 / (2 : Int32)).toNatClampNeg))]) hx hb dL_isInOrder_299 hl (k := 3) rfl rfl (by decide) rfl (fun ls hl => ?_)
                refine lv_goto (pc := 302) (tgt := 15) hx hb dL_isInOrder_302 (by decide) ?_
                exact hk 1 (v15_3 + 1) _ _ _ (by omega) (by omega) (lv_sub hl [2, 3, 1, 0] rfl) _ _ hP hD hS hf
          · have hf := (if_neg c6).symm.trans hf
            refine lv_aload_n (pc := 265) hx hb dL_isInOrder_265 rfl (lv_at hl 0 rfl) ?_
            refine lv_iload_n (pc := 266) hx hb dL_isInOrder_266 rfl (lv_at hl 3 rfl) ?_
            refine lv_iconst (pc := 267) (v := 2) hx hb dL_isInOrder_267 (by decide) ?_
            refine lv_idiv (pc := 268) hx hb dL_isInOrder_268 (by decide) ?_
            refine lv_iconst (pc := 269) (v := 1) hx hb dL_isInOrder_269 (by decide) ?_
            obtain ⟨r270, h_270, hf⟩ := obd hf
            refine th_Ln (pc := 270) (C := RX6) (As := [.int (v15_3 / (2 : Int32)), .int 1]) (rest := []) (st1 := [.int r270]) (wn := fun _ => wH Z b h ++ wK Z ak kn) ⟨hx, hb, hml, hown, hts⟩ (c_X6_ofUnit Z l hst b h (v15_3 / (2 : Int32)) 1 (.inr r270) h_270) (cwV 2 hts gL_isInOrder_X6_ofUnit rfl rfl rfl hv_X6_ofUnit ⟨Nat.le_of_ble_eq_true rfl, Nat.le_of_ble_eq_true rfl⟩) hK hE hP hD hS hA hZ (List.range' 0 40) (List.range' 40 1) (List.range' 1 40 ++ List.range' 0 1) (by decide +kernel) (bl1 rfl) (tR1 rfl rfl) (fun _ => tN1 rfl rfl rfl) 6 rfl rfl rfl hl.1 rfl (lv_room (Nat.le_of_ble_eq_true rfl)) dL_isInOrder_270 ⟨(show CC + 0 + 2 ≤ 542 by omega), (show SS + 0 + 12 ≤ 3252 by omega)⟩ rfl (fun _ H locs hP hD hS => ?_)
            refine lv_if_ne (pc := 273) (tgt := 297) hx hb dL_isInOrder_273 (by decide) (fun c9 => ?_) (fun c9 => ?_)
            · have hf := (if_neg c9).symm.trans hf
              refine lv_iconst (pc := 297) (v := 0) hx hb dL_isInOrder_297 (by decide) ?_
              refine lv_istore_n (pc := 298) (lv' := [(2, .int 0), (0, .ref (b 0 0)), (1, .ref ak), (3, .int v15_3), (5, .int (kn (v15_3 / (2 : Int32)).toNatClampNeg))]) hx hb dL_isInOrder_298 rfl hl (by decide) rfl (fun ls hl => ?_)
              refine lv_iinc (pc := 299) (v := v15_3 + 1) (lv' := [(3, .int (v15_3 + 1)), (2, .int 0), (0, .ref (b 0 0)), (1, .ref ak), (5, .int (kn (v15_3 / (2 : Int32)).toNatClampNeg))]) hx hb dL_isInOrder_299 hl (k := 3) rfl rfl (by decide) rfl (fun ls hl => ?_)
              refine lv_goto (pc := 302) (tgt := 15) hx hb dL_isInOrder_302 (by decide) ?_
              exact hk 0 (v15_3 + 1) _ _ _ (by omega) (by omega) (lv_sub hl [2, 3, 1, 0] rfl) _ _ hP hD hS hf
            · have hf := (if_pos c9).symm.trans hf
              refine lv_iload (pc := 276) hx hb dL_isInOrder_276 (lv_at hl 4 rfl) ?_
              refine lv_iconst (pc := 278) (v := 4) hx hb dL_isInOrder_278 (by decide) ?_
              refine lv_icmp_ne (pc := 279) (tgt := 293) hx hb dL_isInOrder_279 (by decide) (fun c10 => ?_) (fun c10 => ?_)
              · have hf := (if_neg c10).symm.trans hf
                refine lv_iconst (pc := 293) (v := 1) hx hb dL_isInOrder_293 (by decide) ?_
                refine lv_goto (pc := 294) (tgt := 298) hx hb dL_isInOrder_294 (by decide) ?_
                refine lv_istore_n (pc := 298) (lv' := [(2, .int 1), (0, .ref (b 0 0)), (1, .ref ak), (3, .int v15_3), (5, .int (kn (v15_3 / (2 : Int32)).toNatClampNeg))]) hx hb dL_isInOrder_298 rfl hl (by decide) rfl (fun ls hl => ?_)
                refine lv_iinc (pc := 299) (v := v15_3 + 1) (lv' := [(3, .int (v15_3 + 1)), (2, .int 1), (0, .ref (b 0 0)), (1, .ref ak), (5, .int (kn (v15_3 / (2 : Int32)).toNatClampNeg))]) hx hb dL_isInOrder_299 hl (k := 3) rfl rfl (by decide) rfl (fun ls hl => ?_)
                refine lv_goto (pc := 302) (tgt := 15) hx hb dL_isInOrder_302 (by decide) ?_
                exact hk 1 (v15_3 + 1) _ _ _ (by omega) (by omega) (lv_sub hl [2, 3, 1, 0] rfl) _ _ hP hD hS hf
              · have hf := (if_pos c10).symm.trans hf
                refine lv_aload_n (pc := 282) hx hb dL_isInOrder_282 rfl (lv_at hl 0 rfl) ?_
                refine lv_iload_n (pc := 283) hx hb dL_isInOrder_283 rfl (lv_at hl 3 rfl) ?_
                refine lv_iconst (pc := 284) (v := 2) hx hb dL_isInOrder_284 (by decide) ?_
                refine lv_idiv (pc := 285) hx hb dL_isInOrder_285 (by decide) ?_
                refine lv_iconst (pc := 286) (v := 1) hx hb dL_isInOrder_286 (by decide) ?_
                obtain ⟨r287, h_287, hf⟩ := obd hf
                refine th_Ln (pc := 287) (C := RX6) (As := [.int (v15_3 / (2 : Int32)), .int 1]) (rest := []) (st1 := [.int r287]) (wn := fun _ => wH Z b h ++ wK Z ak kn) ⟨hx, hb, hml, hown, hts⟩ (c_X6_ofUnit Z l hst b h (v15_3 / (2 : Int32)) 1 (.inr r287) h_287) (cwV 2 hts gL_isInOrder_X6_ofUnit rfl rfl rfl hv_X6_ofUnit ⟨Nat.le_of_ble_eq_true rfl, Nat.le_of_ble_eq_true rfl⟩) hK hE hP hD hS hA hZ (List.range' 0 40) (List.range' 40 1) (List.range' 1 40 ++ List.range' 0 1) (by decide +kernel) (bl1 rfl) (tR1 rfl rfl) (fun _ => tN1 rfl rfl rfl) 6 rfl rfl rfl hl.1 rfl (lv_room (Nat.le_of_ble_eq_true rfl)) dL_isInOrder_287 ⟨(show CC + 2 + 2 ≤ 542 by omega), (show SS + 12 + 12 ≤ 3252 by omega)⟩ rfl (fun _ H locs hP hD hS => ?_)
                refine lv_if_lt (pc := 290) (tgt := 297) hx hb dL_isInOrder_290 (by decide) (fun c11 => ?_) (fun c11 => ?_)
                · have hf := (if_pos c11).symm.trans hf
                  refine lv_iconst (pc := 297) (v := 0) hx hb dL_isInOrder_297 (by decide) ?_
                  refine lv_istore_n (pc := 298) (lv' := [(2, .int 0), (0, .ref (b 0 0)), (1, .ref ak), (3, .int v15_3), (5, .int (kn (v15_3 / (2 : Int32)).toNatClampNeg))]) hx hb dL_isInOrder_298 rfl hl (by decide) rfl (fun ls hl => ?_)
                  refine lv_iinc (pc := 299) (v := v15_3 + 1) (lv' := [(3, .int (v15_3 + 1)), (2, .int 0), (0, .ref (b 0 0)), (1, .ref ak), (5, .int (kn (v15_3 / (2 : Int32)).toNatClampNeg))]) hx hb dL_isInOrder_299 hl (k := 3) rfl rfl (by decide) rfl (fun ls hl => ?_)
                  refine lv_goto (pc := 302) (tgt := 15) hx hb dL_isInOrder_302 (by decide) ?_
                  exact hk 0 (v15_3 + 1) _ _ _ (by omega) (by omega) (lv_sub hl [2, 3, 1, 0] rfl) _ _ hP hD hS hf
                · have hf := (if_neg c11).symm.trans hf
                  refine lv_iconst (pc := 293) (v := 1) hx hb dL_isInOrder_293 (by decide) ?_
                  refine lv_goto (pc := 294) (tgt := 298) hx hb dL_isInOrder_294 (by decide) ?_
                  refine lv_istore_n (pc := 298) (lv' := [(2, .int 1), (0, .ref (b 0 0)), (1, .ref ak), (3, .int v15_3), (5, .int (kn (v15_3 / (2 : Int32)).toNatClampNeg))]) hx hb dL_isInOrder_298 rfl hl (by decide) rfl (fun ls hl => ?_)
                  refine lv_iinc (pc := 299) (v := v15_3 + 1) (lv' := [(3, .int (v15_3 + 1)), (2, .int 1), (0, .ref (b 0 0)), (1, .ref ak), (5, .int (kn (v15_3 / (2 : Int32)).toNatClampNeg))]) hx hb dL_isInOrder_299 hl (k := 3) rfl rfl (by decide) rfl (fun ls hl => ?_)
                  refine lv_goto (pc := 302) (tgt := 15) hx hb dL_isInOrder_302 (by decide) ?_
                  exact hk 1 (v15_3 + 1) _ _ _ (by omega) (by omega) (lv_sub hl [2, 3, 1, 0] rfl) _ _ hP hD hS hf
      · have hf := (if_neg c2).symm.trans hf
        refine lv_iload (pc := 229) hx hb dL_isInOrder_229 (lv_at hl 4 rfl) ?_
        refine lv_iconst (pc := 231) (v := 1) hx hb dL_isInOrder_231 (by decide) ?_
        refine lv_icmp_eq (pc := 232) (tgt := 253) hx hb dL_isInOrder_232 (by decide) (fun c12 => ?_) (fun c12 => ?_)
        · have hf := (if_pos c12).symm.trans hf
          refine lv_iload (pc := 253) hx hb dL_isInOrder_253 (lv_at hl 4 rfl) ?_
          refine lv_iconst (pc := 255) (v := 3) hx hb dL_isInOrder_255 (by decide) ?_
          refine lv_icmp_eq (pc := 256) (tgt := 276) hx hb dL_isInOrder_256 (by decide) (fun c13 => ?_) (fun c13 => ?_)
          · have hf := (if_pos c13).symm.trans hf
            refine lv_iload (pc := 276) hx hb dL_isInOrder_276 (lv_at hl 4 rfl) ?_
            refine lv_iconst (pc := 278) (v := 4) hx hb dL_isInOrder_278 (by decide) ?_
            refine lv_icmp_ne (pc := 279) (tgt := 293) hx hb dL_isInOrder_279 (by decide) (fun c14 => ?_) (fun c14 => ?_)
            · have hf := (if_neg c14).symm.trans hf
              refine lv_iconst (pc := 293) (v := 1) hx hb dL_isInOrder_293 (by decide) ?_
              refine lv_goto (pc := 294) (tgt := 298) hx hb dL_isInOrder_294 (by decide) ?_
              refine lv_istore_n (pc := 298) (lv' := [(2, .int 1), (0, .ref (b 0 0)), (1, .ref ak), (3, .int v15_3), (5, .int (kn (v15_3 / (2 : Int32)).toNatClampNeg))]) hx hb dL_isInOrder_298 rfl hl (by decide) rfl (fun ls hl => ?_)
              refine lv_iinc (pc := 299) (v := v15_3 + 1) (lv' := [(3, .int (v15_3 + 1)), (2, .int 1), (0, .ref (b 0 0)), (1, .ref ak), (5, .int (kn (v15_3 / (2 : Int32)).toNatClampNeg))]) hx hb dL_isInOrder_299 hl (k := 3) rfl rfl (by decide) rfl (fun ls hl => ?_)
              refine lv_goto (pc := 302) (tgt := 15) hx hb dL_isInOrder_302 (by decide) ?_
              exact hk 1 (v15_3 + 1) _ _ _ (by omega) (by omega) (lv_sub hl [2, 3, 1, 0] rfl) _ _ hP hD hS hf
            · have hf := (if_pos c14).symm.trans hf
              refine lv_aload_n (pc := 282) hx hb dL_isInOrder_282 rfl (lv_at hl 0 rfl) ?_
              refine lv_iload_n (pc := 283) hx hb dL_isInOrder_283 rfl (lv_at hl 3 rfl) ?_
              refine lv_iconst (pc := 284) (v := 2) hx hb dL_isInOrder_284 (by decide) ?_
              refine lv_idiv (pc := 285) hx hb dL_isInOrder_285 (by decide) ?_
              refine lv_iconst (pc := 286) (v := 1) hx hb dL_isInOrder_286 (by decide) ?_
              obtain ⟨r287, h_287, hf⟩ := obd hf
              refine th_Ln (pc := 287) (C := RX6) (As := [.int (v15_3 / (2 : Int32)), .int 1]) (rest := []) (st1 := [.int r287]) (wn := fun _ => wH Z b h ++ wK Z ak kn) ⟨hx, hb, hml, hown, hts⟩ (c_X6_ofUnit Z l hst b h (v15_3 / (2 : Int32)) 1 (.inr r287) h_287) (cwV 2 hts gL_isInOrder_X6_ofUnit rfl rfl rfl hv_X6_ofUnit ⟨Nat.le_of_ble_eq_true rfl, Nat.le_of_ble_eq_true rfl⟩) hK hE hP hD hS hA hZ (List.range' 0 40) (List.range' 40 1) (List.range' 1 40 ++ List.range' 0 1) (by decide +kernel) (bl1 rfl) (tR1 rfl rfl) (fun _ => tN1 rfl rfl rfl) 6 rfl rfl rfl hl.1 rfl (lv_room (Nat.le_of_ble_eq_true rfl)) dL_isInOrder_287 ⟨(show CC + 0 + 2 ≤ 542 by omega), (show SS + 0 + 12 ≤ 3252 by omega)⟩ rfl (fun _ H locs hP hD hS => ?_)
              refine lv_if_lt (pc := 290) (tgt := 297) hx hb dL_isInOrder_290 (by decide) (fun c15 => ?_) (fun c15 => ?_)
              · have hf := (if_pos c15).symm.trans hf
                refine lv_iconst (pc := 297) (v := 0) hx hb dL_isInOrder_297 (by decide) ?_
                refine lv_istore_n (pc := 298) (lv' := [(2, .int 0), (0, .ref (b 0 0)), (1, .ref ak), (3, .int v15_3), (5, .int (kn (v15_3 / (2 : Int32)).toNatClampNeg))]) hx hb dL_isInOrder_298 rfl hl (by decide) rfl (fun ls hl => ?_)
                refine lv_iinc (pc := 299) (v := v15_3 + 1) (lv' := [(3, .int (v15_3 + 1)), (2, .int 0), (0, .ref (b 0 0)), (1, .ref ak), (5, .int (kn (v15_3 / (2 : Int32)).toNatClampNeg))]) hx hb dL_isInOrder_299 hl (k := 3) rfl rfl (by decide) rfl (fun ls hl => ?_)
                refine lv_goto (pc := 302) (tgt := 15) hx hb dL_isInOrder_302 (by decide) ?_
                exact hk 0 (v15_3 + 1) _ _ _ (by omega) (by omega) (lv_sub hl [2, 3, 1, 0] rfl) _ _ hP hD hS hf
              · have hf := (if_neg c15).symm.trans hf
                refine lv_iconst (pc := 293) (v := 1) hx hb dL_isInOrder_293 (by decide) ?_
                refine lv_goto (pc := 294) (tgt := 298) hx hb dL_isInOrder_294 (by decide) ?_
                refine lv_istore_n (pc := 298) (lv' := [(2, .int 1), (0, .ref (b 0 0)), (1, .ref ak), (3, .int v15_3), (5, .int (kn (v15_3 / (2 : Int32)).toNatClampNeg))]) hx hb dL_isInOrder_298 rfl hl (by decide) rfl (fun ls hl => ?_)
                refine lv_iinc (pc := 299) (v := v15_3 + 1) (lv' := [(3, .int (v15_3 + 1)), (2, .int 1), (0, .ref (b 0 0)), (1, .ref ak), (5, .int (kn (v15_3 / (2 : Int32)).toNatClampNeg))]) hx hb dL_isInOrder_299 hl (k := 3) rfl rfl (by decide) rfl (fun ls hl => ?_)
                refine lv_goto (pc := 302) (tgt := 15) hx hb dL_isInOrder_302 (by decide) ?_
                exact hk 1 (v15_3 + 1) _ _ _ (by omega) (by omega) (lv_sub hl [2, 3, 1, 0] rfl) _ _ hP hD hS hf
          · have hf := (if_neg c13).symm.trans hf
            refine lv_iload (pc := 259) hx hb dL_isInOrder_259 (lv_at hl 4 rfl) ?_
            refine lv_iconst (pc := 261) (v := 4) hx hb dL_isInOrder_261 (by decide) ?_
            refine lv_icmp_eq (pc := 262) (tgt := 276) hx hb dL_isInOrder_262 (by decide) (fun c16 => ?_) (fun c16 => ?_)
            · have hf := (if_pos c16).symm.trans hf
              refine lv_iload (pc := 276) hx hb dL_isInOrder_276 (lv_at hl 4 rfl) ?_
              refine lv_iconst (pc := 278) (v := 4) hx hb dL_isInOrder_278 (by decide) ?_
              refine lv_icmp_ne (pc := 279) (tgt := 293) hx hb dL_isInOrder_279 (by decide) (fun c17 => ?_) (fun c17 => ?_)
              · have hf := (if_neg c17).symm.trans hf
                refine lv_iconst (pc := 293) (v := 1) hx hb dL_isInOrder_293 (by decide) ?_
                refine lv_goto (pc := 294) (tgt := 298) hx hb dL_isInOrder_294 (by decide) ?_
                refine lv_istore_n (pc := 298) (lv' := [(2, .int 1), (0, .ref (b 0 0)), (1, .ref ak), (3, .int v15_3), (5, .int (kn (v15_3 / (2 : Int32)).toNatClampNeg))]) hx hb dL_isInOrder_298 rfl hl (by decide) rfl (fun ls hl => ?_)
                refine lv_iinc (pc := 299) (v := v15_3 + 1) (lv' := [(3, .int (v15_3 + 1)), (2, .int 1), (0, .ref (b 0 0)), (1, .ref ak), (5, .int (kn (v15_3 / (2 : Int32)).toNatClampNeg))]) hx hb dL_isInOrder_299 hl (k := 3) rfl rfl (by decide) rfl (fun ls hl => ?_)
                refine lv_goto (pc := 302) (tgt := 15) hx hb dL_isInOrder_302 (by decide) ?_
                exact hk 1 (v15_3 + 1) _ _ _ (by omega) (by omega) (lv_sub hl [2, 3, 1, 0] rfl) _ _ hP hD hS hf
              · have hf := (if_pos c17).symm.trans hf
                refine lv_aload_n (pc := 282) hx hb dL_isInOrder_282 rfl (lv_at hl 0 rfl) ?_
                refine lv_iload_n (pc := 283) hx hb dL_isInOrder_283 rfl (lv_at hl 3 rfl) ?_
                refine lv_iconst (pc := 284) (v := 2) hx hb dL_isInOrder_284 (by decide) ?_
                refine lv_idiv (pc := 285) hx hb dL_isInOrder_285 (by decide) ?_
                refine lv_iconst (pc := 286) (v := 1) hx hb dL_isInOrder_286 (by decide) ?_
                obtain ⟨r287, h_287, hf⟩ := obd hf
                refine th_Ln (pc := 287) (C := RX6) (As := [.int (v15_3 / (2 : Int32)), .int 1]) (rest := []) (st1 := [.int r287]) (wn := fun _ => wH Z b h ++ wK Z ak kn) ⟨hx, hb, hml, hown, hts⟩ (c_X6_ofUnit Z l hst b h (v15_3 / (2 : Int32)) 1 (.inr r287) h_287) (cwV 2 hts gL_isInOrder_X6_ofUnit rfl rfl rfl hv_X6_ofUnit ⟨Nat.le_of_ble_eq_true rfl, Nat.le_of_ble_eq_true rfl⟩) hK hE hP hD hS hA hZ (List.range' 0 40) (List.range' 40 1) (List.range' 1 40 ++ List.range' 0 1) (by decide +kernel) (bl1 rfl) (tR1 rfl rfl) (fun _ => tN1 rfl rfl rfl) 6 rfl rfl rfl hl.1 rfl (lv_room (Nat.le_of_ble_eq_true rfl)) dL_isInOrder_287 ⟨(show CC + 0 + 2 ≤ 542 by omega), (show SS + 0 + 12 ≤ 3252 by omega)⟩ rfl (fun _ H locs hP hD hS => ?_)
                refine lv_if_lt (pc := 290) (tgt := 297) hx hb dL_isInOrder_290 (by decide) (fun c18 => ?_) (fun c18 => ?_)
                · have hf := (if_pos c18).symm.trans hf
                  refine lv_iconst (pc := 297) (v := 0) hx hb dL_isInOrder_297 (by decide) ?_
                  refine lv_istore_n (pc := 298) (lv' := [(2, .int 0), (0, .ref (b 0 0)), (1, .ref ak), (3, .int v15_3), (5, .int (kn (v15_3 / (2 : Int32)).toNatClampNeg))]) hx hb dL_isInOrder_298 rfl hl (by decide) rfl (fun ls hl => ?_)
                  refine lv_iinc (pc := 299) (v := v15_3 + 1) (lv' := [(3, .int (v15_3 + 1)), (2, .int 0), (0, .ref (b 0 0)), (1, .ref ak), (5, .int (kn (v15_3 / (2 : Int32)).toNatClampNeg))]) hx hb dL_isInOrder_299 hl (k := 3) rfl rfl (by decide) rfl (fun ls hl => ?_)
                  refine lv_goto (pc := 302) (tgt := 15) hx hb dL_isInOrder_302 (by decide) ?_
                  exact hk 0 (v15_3 + 1) _ _ _ (by omega) (by omega) (lv_sub hl [2, 3, 1, 0] rfl) _ _ hP hD hS hf
                · have hf := (if_neg c18).symm.trans hf
                  refine lv_iconst (pc := 293) (v := 1) hx hb dL_isInOrder_293 (by decide) ?_
                  refine lv_goto (pc := 294) (tgt := 298) hx hb dL_isInOrder_294 (by decide) ?_
                  refine lv_istore_n (pc := 298) (lv' := [(2, .int 1), (0, .ref (b 0 0)), (1, .ref ak), (3, .int v15_3), (5, .int (kn (v15_3 / (2 : Int32)).toNatClampNeg))]) hx hb dL_isInOrder_298 rfl hl (by decide) rfl (fun ls hl => ?_)
                  refine lv_iinc (pc := 299) (v := v15_3 + 1) (lv' := [(3, .int (v15_3 + 1)), (2, .int 1), (0, .ref (b 0 0)), (1, .ref ak), (5, .int (kn (v15_3 / (2 : Int32)).toNatClampNeg))]) hx hb dL_isInOrder_299 hl (k := 3) rfl rfl (by decide) rfl (fun ls hl => ?_)
                  refine lv_goto (pc := 302) (tgt := 15) hx hb dL_isInOrder_302 (by decide) ?_
                  exact hk 1 (v15_3 + 1) _ _ _ (by omega) (by omega) (lv_sub hl [2, 3, 1, 0] rfl) _ _ hP hD hS hf
            · have hf := (if_neg c16).symm.trans hf
              refine lv_aload_n (pc := 265) hx hb dL_isInOrder_265 rfl (lv_at hl 0 rfl) ?_
              refine lv_iload_n (pc := 266) hx hb dL_isInOrder_266 rfl (lv_at hl 3 rfl) ?_
              refine lv_iconst (pc := 267) (v := 2) hx hb dL_isInOrder_267 (by decide) ?_
              refine lv_idiv (pc := 268) hx hb dL_isInOrder_268 (by decide) ?_
              refine lv_iconst (pc := 269) (v := 1) hx hb dL_isInOrder_269 (by decide) ?_
              obtain ⟨r270, h_270, hf⟩ := obd hf
              refine th_Ln (pc := 270) (C := RX6) (As := [.int (v15_3 / (2 : Int32)), .int 1]) (rest := []) (st1 := [.int r270]) (wn := fun _ => wH Z b h ++ wK Z ak kn) ⟨hx, hb, hml, hown, hts⟩ (c_X6_ofUnit Z l hst b h (v15_3 / (2 : Int32)) 1 (.inr r270) h_270) (cwV 2 hts gL_isInOrder_X6_ofUnit rfl rfl rfl hv_X6_ofUnit ⟨Nat.le_of_ble_eq_true rfl, Nat.le_of_ble_eq_true rfl⟩) hK hE hP hD hS hA hZ (List.range' 0 40) (List.range' 40 1) (List.range' 1 40 ++ List.range' 0 1) (by decide +kernel) (bl1 rfl) (tR1 rfl rfl) (fun _ => tN1 rfl rfl rfl) 6 rfl rfl rfl hl.1 rfl (lv_room (Nat.le_of_ble_eq_true rfl)) dL_isInOrder_270 ⟨(show CC + 0 + 2 ≤ 542 by omega), (show SS + 0 + 12 ≤ 3252 by omega)⟩ rfl (fun _ H locs hP hD hS => ?_)
              refine lv_if_ne (pc := 273) (tgt := 297) hx hb dL_isInOrder_273 (by decide) (fun c19 => ?_) (fun c19 => ?_)
              · have hf := (if_neg c19).symm.trans hf
                refine lv_iconst (pc := 297) (v := 0) hx hb dL_isInOrder_297 (by decide) ?_
                refine lv_istore_n (pc := 298) (lv' := [(2, .int 0), (0, .ref (b 0 0)), (1, .ref ak), (3, .int v15_3), (5, .int (kn (v15_3 / (2 : Int32)).toNatClampNeg))]) hx hb dL_isInOrder_298 rfl hl (by decide) rfl (fun ls hl => ?_)
                refine lv_iinc (pc := 299) (v := v15_3 + 1) (lv' := [(3, .int (v15_3 + 1)), (2, .int 0), (0, .ref (b 0 0)), (1, .ref ak), (5, .int (kn (v15_3 / (2 : Int32)).toNatClampNeg))]) hx hb dL_isInOrder_299 hl (k := 3) rfl rfl (by decide) rfl (fun ls hl => ?_)
                refine lv_goto (pc := 302) (tgt := 15) hx hb dL_isInOrder_302 (by decide) ?_
                exact hk 0 (v15_3 + 1) _ _ _ (by omega) (by omega) (lv_sub hl [2, 3, 1, 0] rfl) _ _ hP hD hS hf
              · have hf := (if_pos c19).symm.trans hf
                refine lv_iload (pc := 276) hx hb dL_isInOrder_276 (lv_at hl 4 rfl) ?_
                refine lv_iconst (pc := 278) (v := 4) hx hb dL_isInOrder_278 (by decide) ?_
                refine lv_icmp_ne (pc := 279) (tgt := 293) hx hb dL_isInOrder_279 (by decide) (fun c20 => ?_) (fun c20 => ?_)
                · have hf := (if_neg c20).symm.trans hf
                  refine lv_iconst (pc := 293) (v := 1) hx hb dL_isInOrder_293 (by decide) ?_
                  refine lv_goto (pc := 294) (tgt := 298) hx hb dL_isInOrder_294 (by decide) ?_
                  refine lv_istore_n (pc := 298) (lv' := [(2, .int 1), (0, .ref (b 0 0)), (1, .ref ak), (3, .int v15_3), (5, .int (kn (v15_3 / (2 : Int32)).toNatClampNeg))]) hx hb dL_isInOrder_298 rfl hl (by decide) rfl (fun ls hl => ?_)
                  refine lv_iinc (pc := 299) (v := v15_3 + 1) (lv' := [(3, .int (v15_3 + 1)), (2, .int 1), (0, .ref (b 0 0)), (1, .ref ak), (5, .int (kn (v15_3 / (2 : Int32)).toNatClampNeg))]) hx hb dL_isInOrder_299 hl (k := 3) rfl rfl (by decide) rfl (fun ls hl => ?_)
                  refine lv_goto (pc := 302) (tgt := 15) hx hb dL_isInOrder_302 (by decide) ?_
                  exact hk 1 (v15_3 + 1) _ _ _ (by omega) (by omega) (lv_sub hl [2, 3, 1, 0] rfl) _ _ hP hD hS hf
                · have hf := (if_pos c20).symm.trans hf
                  refine lv_aload_n (pc := 282) hx hb dL_isInOrder_282 rfl (lv_at hl 0 rfl) ?_
                  refine lv_iload_n (pc := 283) hx hb dL_isInOrder_283 rfl (lv_at hl 3 rfl) ?_
                  refine lv_iconst (pc := 284) (v := 2) hx hb dL_isInOrder_284 (by decide) ?_
                  refine lv_idiv (pc := 285) hx hb dL_isInOrder_285 (by decide) ?_
                  refine lv_iconst (pc := 286) (v := 1) hx hb dL_isInOrder_286 (by decide) ?_
                  obtain ⟨r287, h_287, hf⟩ := obd hf
                  refine th_Ln (pc := 287) (C := RX6) (As := [.int (v15_3 / (2 : Int32)), .int 1]) (rest := []) (st1 := [.int r287]) (wn := fun _ => wH Z b h ++ wK Z ak kn) ⟨hx, hb, hml, hown, hts⟩ (c_X6_ofUnit Z l hst b h (v15_3 / (2 : Int32)) 1 (.inr r287) h_287) (cwV 2 hts gL_isInOrder_X6_ofUnit rfl rfl rfl hv_X6_ofUnit ⟨Nat.le_of_ble_eq_true rfl, Nat.le_of_ble_eq_true rfl⟩) hK hE hP hD hS hA hZ (List.range' 0 40) (List.range' 40 1) (List.range' 1 40 ++ List.range' 0 1) (by decide +kernel) (bl1 rfl) (tR1 rfl rfl) (fun _ => tN1 rfl rfl rfl) 6 rfl rfl rfl hl.1 rfl (lv_room (Nat.le_of_ble_eq_true rfl)) dL_isInOrder_287 ⟨(show CC + 2 + 2 ≤ 542 by omega), (show SS + 12 + 12 ≤ 3252 by omega)⟩ rfl (fun _ H locs hP hD hS => ?_)
                  refine lv_if_lt (pc := 290) (tgt := 297) hx hb dL_isInOrder_290 (by decide) (fun c21 => ?_) (fun c21 => ?_)
                  · have hf := (if_pos c21).symm.trans hf
                    refine lv_iconst (pc := 297) (v := 0) hx hb dL_isInOrder_297 (by decide) ?_
                    refine lv_istore_n (pc := 298) (lv' := [(2, .int 0), (0, .ref (b 0 0)), (1, .ref ak), (3, .int v15_3), (5, .int (kn (v15_3 / (2 : Int32)).toNatClampNeg))]) hx hb dL_isInOrder_298 rfl hl (by decide) rfl (fun ls hl => ?_)
                    refine lv_iinc (pc := 299) (v := v15_3 + 1) (lv' := [(3, .int (v15_3 + 1)), (2, .int 0), (0, .ref (b 0 0)), (1, .ref ak), (5, .int (kn (v15_3 / (2 : Int32)).toNatClampNeg))]) hx hb dL_isInOrder_299 hl (k := 3) rfl rfl (by decide) rfl (fun ls hl => ?_)
                    refine lv_goto (pc := 302) (tgt := 15) hx hb dL_isInOrder_302 (by decide) ?_
                    exact hk 0 (v15_3 + 1) _ _ _ (by omega) (by omega) (lv_sub hl [2, 3, 1, 0] rfl) _ _ hP hD hS hf
                  · have hf := (if_neg c21).symm.trans hf
                    refine lv_iconst (pc := 293) (v := 1) hx hb dL_isInOrder_293 (by decide) ?_
                    refine lv_goto (pc := 294) (tgt := 298) hx hb dL_isInOrder_294 (by decide) ?_
                    refine lv_istore_n (pc := 298) (lv' := [(2, .int 1), (0, .ref (b 0 0)), (1, .ref ak), (3, .int v15_3), (5, .int (kn (v15_3 / (2 : Int32)).toNatClampNeg))]) hx hb dL_isInOrder_298 rfl hl (by decide) rfl (fun ls hl => ?_)
                    refine lv_iinc (pc := 299) (v := v15_3 + 1) (lv' := [(3, .int (v15_3 + 1)), (2, .int 1), (0, .ref (b 0 0)), (1, .ref ak), (5, .int (kn (v15_3 / (2 : Int32)).toNatClampNeg))]) hx hb dL_isInOrder_299 hl (k := 3) rfl rfl (by decide) rfl (fun ls hl => ?_)
                    refine lv_goto (pc := 302) (tgt := 15) hx hb dL_isInOrder_302 (by decide) ?_
                    exact hk 1 (v15_3 + 1) _ _ _ (by omega) (by omega) (lv_sub hl [2, 3, 1, 0] rfl) _ _ hP hD hS hf
        · have hf := (if_neg c12).symm.trans hf
          refine lv_aload_n (pc := 235) hx hb dL_isInOrder_235 rfl (lv_at hl 0 rfl) ?_
          refine lv_iload_n (pc := 236) hx hb dL_isInOrder_236 rfl (lv_at hl 3 rfl) ?_
          refine lv_iconst (pc := 237) (v := 0) hx hb dL_isInOrder_237 (by decide) ?_
          obtain ⟨r238, h_238, hf⟩ := obd hf
          refine th_Ln (pc := 238) (C := RX6) (As := [.int v15_3, .int 0]) (rest := []) (st1 := [.int r238]) (wn := fun _ => wH Z b h ++ wK Z ak kn) ⟨hx, hb, hml, hown, hts⟩ (c_X6_of Z l hst b h v15_3 0 (.inr r238) h_238) (cwV 2 hts gL_isInOrder_X6_of rfl rfl rfl hv_X6_of ⟨Nat.le_of_ble_eq_true rfl, Nat.le_of_ble_eq_true rfl⟩) hK hE hP hD hS hA hZ (List.range' 0 40) (List.range' 40 1) (List.range' 1 40 ++ List.range' 0 1) (by decide +kernel) (bl1 rfl) (tR1 rfl rfl) (fun _ => tN1 rfl rfl rfl) 6 rfl rfl rfl hl.1 rfl (lv_room (Nat.le_of_ble_eq_true rfl)) dL_isInOrder_238 ⟨(show CC + 0 + 2 ≤ 542 by omega), (show SS + 0 + 12 ≤ 3252 by omega)⟩ rfl (fun _ H locs hP hD hS => ?_)
          refine lv_if_ne (pc := 241) (tgt := 297) hx hb dL_isInOrder_241 (by decide) (fun c22 => ?_) (fun c22 => ?_)
          · have hf := (if_neg c22).symm.trans hf
            refine lv_iconst (pc := 297) (v := 0) hx hb dL_isInOrder_297 (by decide) ?_
            refine lv_istore_n (pc := 298) (lv' := [(2, .int 0), (0, .ref (b 0 0)), (1, .ref ak), (3, .int v15_3), (5, .int (kn (v15_3 / (2 : Int32)).toNatClampNeg))]) hx hb dL_isInOrder_298 rfl hl (by decide) rfl (fun ls hl => ?_)
            refine lv_iinc (pc := 299) (v := v15_3 + 1) (lv' := [(3, .int (v15_3 + 1)), (2, .int 0), (0, .ref (b 0 0)), (1, .ref ak), (5, .int (kn (v15_3 / (2 : Int32)).toNatClampNeg))]) hx hb dL_isInOrder_299 hl (k := 3) rfl rfl (by decide) rfl (fun ls hl => ?_)
            refine lv_goto (pc := 302) (tgt := 15) hx hb dL_isInOrder_302 (by decide) ?_
            exact hk 0 (v15_3 + 1) _ _ _ (by omega) (by omega) (lv_sub hl [2, 3, 1, 0] rfl) _ _ hP hD hS hf
          · have hf := (if_pos c22).symm.trans hf
            refine lv_aload_n (pc := 244) hx hb dL_isInOrder_244 rfl (lv_at hl 0 rfl) ?_
            refine lv_iload_n (pc := 245) hx hb dL_isInOrder_245 rfl (lv_at hl 3 rfl) ?_
            refine lv_iconst (pc := 246) (v := 1) hx hb dL_isInOrder_246 (by decide) ?_
            obtain ⟨r247, h_247, hf⟩ := obd hf
            refine th_Ln (pc := 247) (C := RX6) (As := [.int v15_3, .int 1]) (rest := []) (st1 := [.int r247]) (wn := fun _ => wH Z b h ++ wK Z ak kn) ⟨hx, hb, hml, hown, hts⟩ (c_X6_of Z l hst b h v15_3 1 (.inr r247) h_247) (cwV 2 hts gL_isInOrder_X6_of rfl rfl rfl hv_X6_of ⟨Nat.le_of_ble_eq_true rfl, Nat.le_of_ble_eq_true rfl⟩) hK hE hP hD hS hA hZ (List.range' 0 40) (List.range' 40 1) (List.range' 1 40 ++ List.range' 0 1) (by decide +kernel) (bl1 rfl) (tR1 rfl rfl) (fun _ => tN1 rfl rfl rfl) 6 rfl rfl rfl hl.1 rfl (lv_room (Nat.le_of_ble_eq_true rfl)) dL_isInOrder_247 ⟨(show CC + 2 + 2 ≤ 542 by omega), (show SS + 12 + 12 ≤ 3252 by omega)⟩ rfl (fun _ H locs hP hD hS => ?_)
            refine lv_if_ne (pc := 250) (tgt := 297) hx hb dL_isInOrder_250 (by decide) (fun c23 => ?_) (fun c23 => ?_)
            · have hf := (if_neg c23).symm.trans hf
              refine lv_iconst (pc := 297) (v := 0) hx hb dL_isInOrder_297 (by decide) ?_
              refine lv_istore_n (pc := 298) (lv' := [(2, .int 0), (0, .ref (b 0 0)), (1, .ref ak), (3, .int v15_3), (5, .int (kn (v15_3 / (2 : Int32)).toNatClampNeg))]) hx hb dL_isInOrder_298 rfl hl (by decide) rfl (fun ls hl => ?_)
              refine lv_iinc (pc := 299) (v := v15_3 + 1) (lv' := [(3, .int (v15_3 + 1)), (2, .int 0), (0, .ref (b 0 0)), (1, .ref ak), (5, .int (kn (v15_3 / (2 : Int32)).toNatClampNeg))]) hx hb dL_isInOrder_299 hl (k := 3) rfl rfl (by decide) rfl (fun ls hl => ?_)
              refine lv_goto (pc := 302) (tgt := 15) hx hb dL_isInOrder_302 (by decide) ?_
              exact hk 0 (v15_3 + 1) _ _ _ (by omega) (by omega) (lv_sub hl [2, 3, 1, 0] rfl) _ _ hP hD hS hf
            · have hf := (if_pos c23).symm.trans hf
              refine lv_iload (pc := 253) hx hb dL_isInOrder_253 (lv_at hl 4 rfl) ?_
              refine lv_iconst (pc := 255) (v := 3) hx hb dL_isInOrder_255 (by decide) ?_
              refine lv_icmp_eq (pc := 256) (tgt := 276) hx hb dL_isInOrder_256 (by decide) (fun c24 => ?_) (fun c24 => ?_)
              · have hf := (if_pos c24).symm.trans hf
                refine lv_iload (pc := 276) hx hb dL_isInOrder_276 (lv_at hl 4 rfl) ?_
                refine lv_iconst (pc := 278) (v := 4) hx hb dL_isInOrder_278 (by decide) ?_
                refine lv_icmp_ne (pc := 279) (tgt := 293) hx hb dL_isInOrder_279 (by decide) (fun c25 => ?_) (fun c25 => ?_)
                · have hf := (if_neg c25).symm.trans hf
                  refine lv_iconst (pc := 293) (v := 1) hx hb dL_isInOrder_293 (by decide) ?_
                  refine lv_goto (pc := 294) (tgt := 298) hx hb dL_isInOrder_294 (by decide) ?_
                  refine lv_istore_n (pc := 298) (lv' := [(2, .int 1), (0, .ref (b 0 0)), (1, .ref ak), (3, .int v15_3), (5, .int (kn (v15_3 / (2 : Int32)).toNatClampNeg))]) hx hb dL_isInOrder_298 rfl hl (by decide) rfl (fun ls hl => ?_)
                  refine lv_iinc (pc := 299) (v := v15_3 + 1) (lv' := [(3, .int (v15_3 + 1)), (2, .int 1), (0, .ref (b 0 0)), (1, .ref ak), (5, .int (kn (v15_3 / (2 : Int32)).toNatClampNeg))]) hx hb dL_isInOrder_299 hl (k := 3) rfl rfl (by decide) rfl (fun ls hl => ?_)
                  refine lv_goto (pc := 302) (tgt := 15) hx hb dL_isInOrder_302 (by decide) ?_
                  exact hk 1 (v15_3 + 1) _ _ _ (by omega) (by omega) (lv_sub hl [2, 3, 1, 0] rfl) _ _ hP hD hS hf
                · have hf := (if_pos c25).symm.trans hf
                  refine lv_aload_n (pc := 282) hx hb dL_isInOrder_282 rfl (lv_at hl 0 rfl) ?_
                  refine lv_iload_n (pc := 283) hx hb dL_isInOrder_283 rfl (lv_at hl 3 rfl) ?_
                  refine lv_iconst (pc := 284) (v := 2) hx hb dL_isInOrder_284 (by decide) ?_
                  refine lv_idiv (pc := 285) hx hb dL_isInOrder_285 (by decide) ?_
                  refine lv_iconst (pc := 286) (v := 1) hx hb dL_isInOrder_286 (by decide) ?_
                  obtain ⟨r287, h_287, hf⟩ := obd hf
                  refine th_Ln (pc := 287) (C := RX6) (As := [.int (v15_3 / (2 : Int32)), .int 1]) (rest := []) (st1 := [.int r287]) (wn := fun _ => wH Z b h ++ wK Z ak kn) ⟨hx, hb, hml, hown, hts⟩ (c_X6_ofUnit Z l hst b h (v15_3 / (2 : Int32)) 1 (.inr r287) h_287) (cwV 2 hts gL_isInOrder_X6_ofUnit rfl rfl rfl hv_X6_ofUnit ⟨Nat.le_of_ble_eq_true rfl, Nat.le_of_ble_eq_true rfl⟩) hK hE hP hD hS hA hZ (List.range' 0 40) (List.range' 40 1) (List.range' 1 40 ++ List.range' 0 1) (by decide +kernel) (bl1 rfl) (tR1 rfl rfl) (fun _ => tN1 rfl rfl rfl) 6 rfl rfl rfl hl.1 rfl (lv_room (Nat.le_of_ble_eq_true rfl)) dL_isInOrder_287 ⟨(show CC + 4 + 2 ≤ 542 by omega), (show SS + 24 + 12 ≤ 3252 by omega)⟩ rfl (fun _ H locs hP hD hS => ?_)
                  refine lv_if_lt (pc := 290) (tgt := 297) hx hb dL_isInOrder_290 (by decide) (fun c26 => ?_) (fun c26 => ?_)
                  · have hf := (if_pos c26).symm.trans hf
                    refine lv_iconst (pc := 297) (v := 0) hx hb dL_isInOrder_297 (by decide) ?_
                    refine lv_istore_n (pc := 298) (lv' := [(2, .int 0), (0, .ref (b 0 0)), (1, .ref ak), (3, .int v15_3), (5, .int (kn (v15_3 / (2 : Int32)).toNatClampNeg))]) hx hb dL_isInOrder_298 rfl hl (by decide) rfl (fun ls hl => ?_)
                    refine lv_iinc (pc := 299) (v := v15_3 + 1) (lv' := [(3, .int (v15_3 + 1)), (2, .int 0), (0, .ref (b 0 0)), (1, .ref ak), (5, .int (kn (v15_3 / (2 : Int32)).toNatClampNeg))]) hx hb dL_isInOrder_299 hl (k := 3) rfl rfl (by decide) rfl (fun ls hl => ?_)
                    refine lv_goto (pc := 302) (tgt := 15) hx hb dL_isInOrder_302 (by decide) ?_
                    exact hk 0 (v15_3 + 1) _ _ _ (by omega) (by omega) (lv_sub hl [2, 3, 1, 0] rfl) _ _ hP hD hS hf
                  · have hf := (if_neg c26).symm.trans hf
                    refine lv_iconst (pc := 293) (v := 1) hx hb dL_isInOrder_293 (by decide) ?_
                    refine lv_goto (pc := 294) (tgt := 298) hx hb dL_isInOrder_294 (by decide) ?_
                    refine lv_istore_n (pc := 298) (lv' := [(2, .int 1), (0, .ref (b 0 0)), (1, .ref ak), (3, .int v15_3), (5, .int (kn (v15_3 / (2 : Int32)).toNatClampNeg))]) hx hb dL_isInOrder_298 rfl hl (by decide) rfl (fun ls hl => ?_)
                    refine lv_iinc (pc := 299) (v := v15_3 + 1) (lv' := [(3, .int (v15_3 + 1)), (2, .int 1), (0, .ref (b 0 0)), (1, .ref ak), (5, .int (kn (v15_3 / (2 : Int32)).toNatClampNeg))]) hx hb dL_isInOrder_299 hl (k := 3) rfl rfl (by decide) rfl (fun ls hl => ?_)
                    refine lv_goto (pc := 302) (tgt := 15) hx hb dL_isInOrder_302 (by decide) ?_
                    exact hk 1 (v15_3 + 1) _ _ _ (by omega) (by omega) (lv_sub hl [2, 3, 1, 0] rfl) _ _ hP hD hS hf
              · have hf := (if_neg c24).symm.trans hf
                refine lv_iload (pc := 259) hx hb dL_isInOrder_259 (lv_at hl 4 rfl) ?_
                refine lv_iconst (pc := 261) (v := 4) hx hb dL_isInOrder_261 (by decide) ?_
                refine lv_icmp_eq (pc := 262) (tgt := 276) hx hb dL_isInOrder_262 (by decide) (fun c27 => ?_) (fun c27 => ?_)
                · have hf := (if_pos c27).symm.trans hf
                  refine lv_iload (pc := 276) hx hb dL_isInOrder_276 (lv_at hl 4 rfl) ?_
                  refine lv_iconst (pc := 278) (v := 4) hx hb dL_isInOrder_278 (by decide) ?_
                  refine lv_icmp_ne (pc := 279) (tgt := 293) hx hb dL_isInOrder_279 (by decide) (fun c28 => ?_) (fun c28 => ?_)
                  · have hf := (if_neg c28).symm.trans hf
                    refine lv_iconst (pc := 293) (v := 1) hx hb dL_isInOrder_293 (by decide) ?_
                    refine lv_goto (pc := 294) (tgt := 298) hx hb dL_isInOrder_294 (by decide) ?_
                    refine lv_istore_n (pc := 298) (lv' := [(2, .int 1), (0, .ref (b 0 0)), (1, .ref ak), (3, .int v15_3), (5, .int (kn (v15_3 / (2 : Int32)).toNatClampNeg))]) hx hb dL_isInOrder_298 rfl hl (by decide) rfl (fun ls hl => ?_)
                    refine lv_iinc (pc := 299) (v := v15_3 + 1) (lv' := [(3, .int (v15_3 + 1)), (2, .int 1), (0, .ref (b 0 0)), (1, .ref ak), (5, .int (kn (v15_3 / (2 : Int32)).toNatClampNeg))]) hx hb dL_isInOrder_299 hl (k := 3) rfl rfl (by decide) rfl (fun ls hl => ?_)
                    refine lv_goto (pc := 302) (tgt := 15) hx hb dL_isInOrder_302 (by decide) ?_
                    exact hk 1 (v15_3 + 1) _ _ _ (by omega) (by omega) (lv_sub hl [2, 3, 1, 0] rfl) _ _ hP hD hS hf
                  · have hf := (if_pos c28).symm.trans hf
                    refine lv_aload_n (pc := 282) hx hb dL_isInOrder_282 rfl (lv_at hl 0 rfl) ?_
                    refine lv_iload_n (pc := 283) hx hb dL_isInOrder_283 rfl (lv_at hl 3 rfl) ?_
                    refine lv_iconst (pc := 284) (v := 2) hx hb dL_isInOrder_284 (by decide) ?_
                    refine lv_idiv (pc := 285) hx hb dL_isInOrder_285 (by decide) ?_
                    refine lv_iconst (pc := 286) (v := 1) hx hb dL_isInOrder_286 (by decide) ?_
                    obtain ⟨r287, h_287, hf⟩ := obd hf
                    refine th_Ln (pc := 287) (C := RX6) (As := [.int (v15_3 / (2 : Int32)), .int 1]) (rest := []) (st1 := [.int r287]) (wn := fun _ => wH Z b h ++ wK Z ak kn) ⟨hx, hb, hml, hown, hts⟩ (c_X6_ofUnit Z l hst b h (v15_3 / (2 : Int32)) 1 (.inr r287) h_287) (cwV 2 hts gL_isInOrder_X6_ofUnit rfl rfl rfl hv_X6_ofUnit ⟨Nat.le_of_ble_eq_true rfl, Nat.le_of_ble_eq_true rfl⟩) hK hE hP hD hS hA hZ (List.range' 0 40) (List.range' 40 1) (List.range' 1 40 ++ List.range' 0 1) (by decide +kernel) (bl1 rfl) (tR1 rfl rfl) (fun _ => tN1 rfl rfl rfl) 6 rfl rfl rfl hl.1 rfl (lv_room (Nat.le_of_ble_eq_true rfl)) dL_isInOrder_287 ⟨(show CC + 4 + 2 ≤ 542 by omega), (show SS + 24 + 12 ≤ 3252 by omega)⟩ rfl (fun _ H locs hP hD hS => ?_)
                    refine lv_if_lt (pc := 290) (tgt := 297) hx hb dL_isInOrder_290 (by decide) (fun c29 => ?_) (fun c29 => ?_)
                    · have hf := (if_pos c29).symm.trans hf
                      refine lv_iconst (pc := 297) (v := 0) hx hb dL_isInOrder_297 (by decide) ?_
                      refine lv_istore_n (pc := 298) (lv' := [(2, .int 0), (0, .ref (b 0 0)), (1, .ref ak), (3, .int v15_3), (5, .int (kn (v15_3 / (2 : Int32)).toNatClampNeg))]) hx hb dL_isInOrder_298 rfl hl (by decide) rfl (fun ls hl => ?_)
                      refine lv_iinc (pc := 299) (v := v15_3 + 1) (lv' := [(3, .int (v15_3 + 1)), (2, .int 0), (0, .ref (b 0 0)), (1, .ref ak), (5, .int (kn (v15_3 / (2 : Int32)).toNatClampNeg))]) hx hb dL_isInOrder_299 hl (k := 3) rfl rfl (by decide) rfl (fun ls hl => ?_)
                      refine lv_goto (pc := 302) (tgt := 15) hx hb dL_isInOrder_302 (by decide) ?_
                      exact hk 0 (v15_3 + 1) _ _ _ (by omega) (by omega) (lv_sub hl [2, 3, 1, 0] rfl) _ _ hP hD hS hf
                    · have hf := (if_neg c29).symm.trans hf
                      refine lv_iconst (pc := 293) (v := 1) hx hb dL_isInOrder_293 (by decide) ?_
                      refine lv_goto (pc := 294) (tgt := 298) hx hb dL_isInOrder_294 (by decide) ?_
                      refine lv_istore_n (pc := 298) (lv' := [(2, .int 1), (0, .ref (b 0 0)), (1, .ref ak), (3, .int v15_3), (5, .int (kn (v15_3 / (2 : Int32)).toNatClampNeg))]) hx hb dL_isInOrder_298 rfl hl (by decide) rfl (fun ls hl => ?_)
                      refine lv_iinc (pc := 299) (v := v15_3 + 1) (lv' := [(3, .int (v15_3 + 1)), (2, .int 1), (0, .ref (b 0 0)), (1, .ref ak), (5, .int (kn (v15_3 / (2 : Int32)).toNatClampNeg))]) hx hb dL_isInOrder_299 hl (k := 3) rfl rfl (by decide) rfl (fun ls hl => ?_)
                      refine lv_goto (pc := 302) (tgt := 15) hx hb dL_isInOrder_302 (by decide) ?_
                      exact hk 1 (v15_3 + 1) _ _ _ (by omega) (by omega) (lv_sub hl [2, 3, 1, 0] rfl) _ _ hP hD hS hf
                · have hf := (if_neg c27).symm.trans hf
                  refine lv_aload_n (pc := 265) hx hb dL_isInOrder_265 rfl (lv_at hl 0 rfl) ?_
                  refine lv_iload_n (pc := 266) hx hb dL_isInOrder_266 rfl (lv_at hl 3 rfl) ?_
                  refine lv_iconst (pc := 267) (v := 2) hx hb dL_isInOrder_267 (by decide) ?_
                  refine lv_idiv (pc := 268) hx hb dL_isInOrder_268 (by decide) ?_
                  refine lv_iconst (pc := 269) (v := 1) hx hb dL_isInOrder_269 (by decide) ?_
                  obtain ⟨r270, h_270, hf⟩ := obd hf
                  refine th_Ln (pc := 270) (C := RX6) (As := [.int (v15_3 / (2 : Int32)), .int 1]) (rest := []) (st1 := [.int r270]) (wn := fun _ => wH Z b h ++ wK Z ak kn) ⟨hx, hb, hml, hown, hts⟩ (c_X6_ofUnit Z l hst b h (v15_3 / (2 : Int32)) 1 (.inr r270) h_270) (cwV 2 hts gL_isInOrder_X6_ofUnit rfl rfl rfl hv_X6_ofUnit ⟨Nat.le_of_ble_eq_true rfl, Nat.le_of_ble_eq_true rfl⟩) hK hE hP hD hS hA hZ (List.range' 0 40) (List.range' 40 1) (List.range' 1 40 ++ List.range' 0 1) (by decide +kernel) (bl1 rfl) (tR1 rfl rfl) (fun _ => tN1 rfl rfl rfl) 6 rfl rfl rfl hl.1 rfl (lv_room (Nat.le_of_ble_eq_true rfl)) dL_isInOrder_270 ⟨(show CC + 4 + 2 ≤ 542 by omega), (show SS + 24 + 12 ≤ 3252 by omega)⟩ rfl (fun _ H locs hP hD hS => ?_)
                  refine lv_if_ne (pc := 273) (tgt := 297) hx hb dL_isInOrder_273 (by decide) (fun c30 => ?_) (fun c30 => ?_)
                  · have hf := (if_neg c30).symm.trans hf
                    refine lv_iconst (pc := 297) (v := 0) hx hb dL_isInOrder_297 (by decide) ?_
                    refine lv_istore_n (pc := 298) (lv' := [(2, .int 0), (0, .ref (b 0 0)), (1, .ref ak), (3, .int v15_3), (5, .int (kn (v15_3 / (2 : Int32)).toNatClampNeg))]) hx hb dL_isInOrder_298 rfl hl (by decide) rfl (fun ls hl => ?_)
                    refine lv_iinc (pc := 299) (v := v15_3 + 1) (lv' := [(3, .int (v15_3 + 1)), (2, .int 0), (0, .ref (b 0 0)), (1, .ref ak), (5, .int (kn (v15_3 / (2 : Int32)).toNatClampNeg))]) hx hb dL_isInOrder_299 hl (k := 3) rfl rfl (by decide) rfl (fun ls hl => ?_)
                    refine lv_goto (pc := 302) (tgt := 15) hx hb dL_isInOrder_302 (by decide) ?_
                    exact hk 0 (v15_3 + 1) _ _ _ (by omega) (by omega) (lv_sub hl [2, 3, 1, 0] rfl) _ _ hP hD hS hf
                  · have hf := (if_pos c30).symm.trans hf
                    refine lv_iload (pc := 276) hx hb dL_isInOrder_276 (lv_at hl 4 rfl) ?_
                    refine lv_iconst (pc := 278) (v := 4) hx hb dL_isInOrder_278 (by decide) ?_
                    refine lv_icmp_ne (pc := 279) (tgt := 293) hx hb dL_isInOrder_279 (by decide) (fun c31 => ?_) (fun c31 => ?_)
                    · have hf := (if_neg c31).symm.trans hf
                      refine lv_iconst (pc := 293) (v := 1) hx hb dL_isInOrder_293 (by decide) ?_
                      refine lv_goto (pc := 294) (tgt := 298) hx hb dL_isInOrder_294 (by decide) ?_
                      refine lv_istore_n (pc := 298) (lv' := [(2, .int 1), (0, .ref (b 0 0)), (1, .ref ak), (3, .int v15_3), (5, .int (kn (v15_3 / (2 : Int32)).toNatClampNeg))]) hx hb dL_isInOrder_298 rfl hl (by decide) rfl (fun ls hl => ?_)
                      refine lv_iinc (pc := 299) (v := v15_3 + 1) (lv' := [(3, .int (v15_3 + 1)), (2, .int 1), (0, .ref (b 0 0)), (1, .ref ak), (5, .int (kn (v15_3 / (2 : Int32)).toNatClampNeg))]) hx hb dL_isInOrder_299 hl (k := 3) rfl rfl (by decide) rfl (fun ls hl => ?_)
                      refine lv_goto (pc := 302) (tgt := 15) hx hb dL_isInOrder_302 (by decide) ?_
                      exact hk 1 (v15_3 + 1) _ _ _ (by omega) (by omega) (lv_sub hl [2, 3, 1, 0] rfl) _ _ hP hD hS hf
                    · have hf := (if_pos c31).symm.trans hf
                      refine lv_aload_n (pc := 282) hx hb dL_isInOrder_282 rfl (lv_at hl 0 rfl) ?_
                      refine lv_iload_n (pc := 283) hx hb dL_isInOrder_283 rfl (lv_at hl 3 rfl) ?_
                      refine lv_iconst (pc := 284) (v := 2) hx hb dL_isInOrder_284 (by decide) ?_
                      refine lv_idiv (pc := 285) hx hb dL_isInOrder_285 (by decide) ?_
                      refine lv_iconst (pc := 286) (v := 1) hx hb dL_isInOrder_286 (by decide) ?_
                      obtain ⟨r287, h_287, hf⟩ := obd hf
                      refine th_Ln (pc := 287) (C := RX6) (As := [.int (v15_3 / (2 : Int32)), .int 1]) (rest := []) (st1 := [.int r287]) (wn := fun _ => wH Z b h ++ wK Z ak kn) ⟨hx, hb, hml, hown, hts⟩ (c_X6_ofUnit Z l hst b h (v15_3 / (2 : Int32)) 1 (.inr r287) h_287) (cwV 2 hts gL_isInOrder_X6_ofUnit rfl rfl rfl hv_X6_ofUnit ⟨Nat.le_of_ble_eq_true rfl, Nat.le_of_ble_eq_true rfl⟩) hK hE hP hD hS hA hZ (List.range' 0 40) (List.range' 40 1) (List.range' 1 40 ++ List.range' 0 1) (by decide +kernel) (bl1 rfl) (tR1 rfl rfl) (fun _ => tN1 rfl rfl rfl) 6 rfl rfl rfl hl.1 rfl (lv_room (Nat.le_of_ble_eq_true rfl)) dL_isInOrder_287 ⟨(show CC + 6 + 2 ≤ 542 by omega), (show SS + 36 + 12 ≤ 3252 by omega)⟩ rfl (fun _ H locs hP hD hS => ?_)
                      refine lv_if_lt (pc := 290) (tgt := 297) hx hb dL_isInOrder_290 (by decide) (fun c32 => ?_) (fun c32 => ?_)
                      · have hf := (if_pos c32).symm.trans hf
                        refine lv_iconst (pc := 297) (v := 0) hx hb dL_isInOrder_297 (by decide) ?_
                        refine lv_istore_n (pc := 298) (lv' := [(2, .int 0), (0, .ref (b 0 0)), (1, .ref ak), (3, .int v15_3), (5, .int (kn (v15_3 / (2 : Int32)).toNatClampNeg))]) hx hb dL_isInOrder_298 rfl hl (by decide) rfl (fun ls hl => ?_)
                        refine lv_iinc (pc := 299) (v := v15_3 + 1) (lv' := [(3, .int (v15_3 + 1)), (2, .int 0), (0, .ref (b 0 0)), (1, .ref ak), (5, .int (kn (v15_3 / (2 : Int32)).toNatClampNeg))]) hx hb dL_isInOrder_299 hl (k := 3) rfl rfl (by decide) rfl (fun ls hl => ?_)
                        refine lv_goto (pc := 302) (tgt := 15) hx hb dL_isInOrder_302 (by decide) ?_
                        exact hk 0 (v15_3 + 1) _ _ _ (by omega) (by omega) (lv_sub hl [2, 3, 1, 0] rfl) _ _ hP hD hS hf
                      · have hf := (if_neg c32).symm.trans hf
                        refine lv_iconst (pc := 293) (v := 1) hx hb dL_isInOrder_293 (by decide) ?_
                        refine lv_goto (pc := 294) (tgt := 298) hx hb dL_isInOrder_294 (by decide) ?_
                        refine lv_istore_n (pc := 298) (lv' := [(2, .int 1), (0, .ref (b 0 0)), (1, .ref ak), (3, .int v15_3), (5, .int (kn (v15_3 / (2 : Int32)).toNatClampNeg))]) hx hb dL_isInOrder_298 rfl hl (by decide) rfl (fun ls hl => ?_)
                        refine lv_iinc (pc := 299) (v := v15_3 + 1) (lv' := [(3, .int (v15_3 + 1)), (2, .int 1), (0, .ref (b 0 0)), (1, .ref ak), (5, .int (kn (v15_3 / (2 : Int32)).toNatClampNeg))]) hx hb dL_isInOrder_299 hl (k := 3) rfl rfl (by decide) rfl (fun ls hl => ?_)
                        refine lv_goto (pc := 302) (tgt := 15) hx hb dL_isInOrder_302 (by decide) ?_
                        exact hk 1 (v15_3 + 1) _ _ _ (by omega) (by omega) (lv_sub hl [2, 3, 1, 0] rfl) _ _ hP hD hS hf
  have B126 : ∀ (r32 : Int32) (v15_3 : Int32) (KC KS : Nat) (k : Int32 → Int32 → Option Int32) (hk : ∀ (v15_2 : Int32) (v15_3 : Int32) (CC SS : Nat) (ls : Array Slot), CC + KC ≤ 542 → SS + KS ≤ 3252 → lv_has ls 7 [(0, .ref (b 0 0)), (1, .ref ak), (2, .int v15_2), (3, .int v15_3)] → ∀ (H : Heap) (locs : List Loc), va_P Z.1 vwCl (wH Z b h ++ wK Z ak kn) H → va_D A (wH Z b h ++ wK Z ak kn) → va_S A s.heap H locs → k v15_2 v15_3 = some R → W p l e { frames := 10, cells := 542, slots := 3252, locals := 212 } s m ([.ref (b 0 0), .ref ak] : List Value).toArray below meth c H locs CC SS (vx_MQ below (rwQ Z (some (.int R)) (fun _ => wH Z b h ++ wK Z ak kn) A) (fun _ _ _ => False) ([.ref (b 0 0), .ref ak] : List Value).toArray s 542 3252 A) (F0 m 15 ls [])), ∀ (v126_2 : Int32) (CC SS : Nat) (ls : Array Slot), CC + (10 + KC) ≤ 542 → SS + (60 + KS) ≤ 3252 → lv_has ls 7 [(0, .ref (b 0 0)), (1, .ref ak), (2, .int v126_2), (3, .int v15_3), (4, .int r32)] → ∀ (H : Heap) (locs : List Loc), va_P Z.1 vwCl (wH Z b h ++ wK Z ak kn) H → va_D A (wH Z b h ++ wK Z ak kn) → va_S A s.heap H locs → f_L_isInOrder_b126 k h kn r32 v15_3 v126_2 = some R → W p l e { frames := 10, cells := 542, slots := 3252, locals := 212 } s m ([.ref (b 0 0), .ref ak] : List Value).toArray below meth c H locs CC SS (vx_MQ below (rwQ Z (some (.int R)) (fun _ => wH Z b h ++ wK Z ak kn) A) (fun _ _ _ => False) ([.ref (b 0 0), .ref ak] : List Value).toArray s 542 3252 A) (F0 m 126 ls []) := by
    intro r32 v15_3 KC KS k hk v126_2 CC SS ls hCC hSS hl H locs hP hD hS hf
    rw [f_L_isInOrder_b126] at hf
    refine lv_aload_n (pc := 126) hx hb dL_isInOrder_126 rfl (lv_at hl 1 rfl) ?_
    refine lv_iload_n (pc := 127) hx hb dL_isInOrder_127 rfl (lv_at hl 3 rfl) ?_
    refine lv_iconst (pc := 128) (v := 2) hx hb dL_isInOrder_128 (by decide) ?_
    refine lv_idiv (pc := 129) hx hb dL_isInOrder_129 (by decide) ?_
    obtain ⟨g130, hf⟩ := gd hf
    refine va_iald (pc := 130) (D := Z.1) (n := 12) (f := kn) hx hb hK hP 40 0 rfl rfl (inb_in g130) dL_isInOrder_130 ?_
    refine lv_istore (pc := 131) (lv' := [(5, .int (kn (v15_3 / (2 : Int32)).toNatClampNeg)), (0, .ref (b 0 0)), (1, .ref ak), (2, .int v126_2), (3, .int v15_3), (4, .int r32)]) hx hb dL_isInOrder_131 hl (by decide) rfl (fun ls hl => ?_)
    refine lv_iload (pc := 133) hx hb dL_isInOrder_133 (lv_at hl 5 rfl) ?_
    refine lv_ldc (pc := 135) (v := (-2100000000)) hx hb hown w0 dL_isInOrder_135 ?_
    refine lv_icmp_eq (pc := 137) (tgt := 299) hx hb dL_isInOrder_137 (by decide) (fun c1 => ?_) (fun c1 => ?_)
    · have hf := (if_pos c1).symm.trans hf
      refine lv_iinc (pc := 299) (v := v15_3 + 1) (lv' := [(3, .int (v15_3 + 1)), (5, .int (kn (v15_3 / (2 : Int32)).toNatClampNeg)), (0, .ref (b 0 0)), (1, .ref ak), (2, .int v126_2), (4, .int r32)]) hx hb dL_isInOrder_299 hl (k := 4) rfl rfl (by decide) rfl (fun ls hl => ?_)
      refine lv_goto (pc := 302) (tgt := 15) hx hb dL_isInOrder_302 (by decide) ?_
      exact hk v126_2 (v15_3 + 1) _ _ _ (by omega) (by omega) (lv_sub hl [2, 3, 4, 0] rfl) _ _ hP hD hS hf
    · have hf := (if_neg c1).symm.trans hf
      refine lv_iload_n (pc := 140) hx hb dL_isInOrder_140 rfl (lv_at hl 4 rfl) ?_
      refine lv_iconst (pc := 141) (v := 2) hx hb dL_isInOrder_141 (by decide) ?_
      refine lv_irem (pc := 142) hx hb dL_isInOrder_142 (by decide) ?_
      refine lv_iconst (pc := 143) (v := 1) hx hb dL_isInOrder_143 (by decide) ?_
      refine lv_icmp_ne (pc := 144) (tgt := 299) hx hb dL_isInOrder_144 (by decide) (fun c2 => ?_) (fun c2 => ?_)
      · have hf := (if_neg c2).symm.trans hf
        refine lv_iinc (pc := 299) (v := v15_3 + 1) (lv' := [(3, .int (v15_3 + 1)), (5, .int (kn (v15_3 / (2 : Int32)).toNatClampNeg)), (0, .ref (b 0 0)), (1, .ref ak), (2, .int v126_2), (4, .int r32)]) hx hb dL_isInOrder_299 hl (k := 4) rfl rfl (by decide) rfl (fun ls hl => ?_)
        refine lv_goto (pc := 302) (tgt := 15) hx hb dL_isInOrder_302 (by decide) ?_
        exact hk v126_2 (v15_3 + 1) _ _ _ (by omega) (by omega) (lv_sub hl [2, 3, 4, 0] rfl) _ _ hP hD hS hf
      · have hf := (if_pos c2).symm.trans hf
        refine lv_iload_n (pc := 147) hx hb dL_isInOrder_147 rfl (lv_at hl 3 rfl) ?_
        refine lv_if_eq (pc := 148) (tgt := 299) hx hb dL_isInOrder_148 (by decide) (fun c3 => ?_) (fun c3 => ?_)
        · have hf := (if_pos c3).symm.trans hf
          refine lv_iinc (pc := 299) (v := v15_3 + 1) (lv' := [(3, .int (v15_3 + 1)), (5, .int (kn (v15_3 / (2 : Int32)).toNatClampNeg)), (0, .ref (b 0 0)), (1, .ref ak), (2, .int v126_2), (4, .int r32)]) hx hb dL_isInOrder_299 hl (k := 4) rfl rfl (by decide) rfl (fun ls hl => ?_)
          refine lv_goto (pc := 302) (tgt := 15) hx hb dL_isInOrder_302 (by decide) ?_
          exact hk v126_2 (v15_3 + 1) _ _ _ (by omega) (by omega) (lv_sub hl [2, 3, 4, 0] rfl) _ _ hP hD hS hf
        · have hf := (if_neg c3).symm.trans hf
          refine lv_aload_n (pc := 151) hx hb dL_isInOrder_151 rfl (lv_at hl 1 rfl) ?_
          refine lv_iload_n (pc := 152) hx hb dL_isInOrder_152 rfl (lv_at hl 4 rfl) ?_
          refine lv_iconst (pc := 153) (v := 2) hx hb dL_isInOrder_153 (by decide) ?_
          refine lv_idiv (pc := 154) hx hb dL_isInOrder_154 (by decide) ?_
          refine lv_iconst (pc := 155) (v := 0) hx hb dL_isInOrder_155 (by decide) ?_
          obtain ⟨r156, h_156, hf⟩ := obd hf
          refine th_Ln (pc := 156) (C := RX6) (As := [.int (v15_3 / (2 : Int32)), .int 0]) (rest := []) (st1 := [.int r156]) (wn := fun _ => wH Z b h ++ wK Z ak kn) ⟨hx, hb, hml, hown, hts⟩ (c_X6_ofUnit Z l hst b h (v15_3 / (2 : Int32)) 0 (.inr r156) h_156) (cwV 2 hts gL_isInOrder_X6_ofUnit rfl rfl rfl hv_X6_ofUnit ⟨Nat.le_of_ble_eq_true rfl, Nat.le_of_ble_eq_true rfl⟩) hK hE hP hD hS hA hZ (List.range' 0 40) (List.range' 40 1) (List.range' 1 40 ++ List.range' 0 1) (by decide +kernel) (bl1 rfl) (tR1 rfl rfl) (fun _ => tN1 rfl rfl rfl) 6 rfl rfl rfl hl.1 rfl (lv_room (Nat.le_of_ble_eq_true rfl)) dL_isInOrder_156 ⟨(show CC + 0 + 2 ≤ 542 by omega), (show SS + 0 + 12 ≤ 3252 by omega)⟩ rfl (fun _ H locs hP hD hS => ?_)
          refine lv_istore (pc := 159) (lv' := [(6, .int r156), (5, .int (kn (v15_3 / (2 : Int32)).toNatClampNeg)), (0, .ref (b 0 0)), (1, .ref ak), (2, .int v126_2), (3, .int v15_3), (4, .int r32)]) hx hb dL_isInOrder_159 hl (by decide) rfl (fun ls hl => ?_)
          refine lv_iload (pc := 161) hx hb dL_isInOrder_161 (lv_at hl 1 rfl) ?_
          refine lv_iconst (pc := 163) (v := 2) hx hb dL_isInOrder_163 (by decide) ?_
          refine lv_icmp_eq (pc := 164) (tgt := 213) hx hb dL_isInOrder_164 (by decide) (fun c4 => ?_) (fun c4 => ?_)
          · have hf := (if_pos c4).symm.trans hf
            refine lv_iconst (pc := 213) (v := 1) hx hb dL_isInOrder_213 (by decide) ?_
            refine lv_goto (pc := 214) (tgt := 218) hx hb dL_isInOrder_214 (by decide) ?_
            refine lv_istore_n (pc := 218) (lv' := [(2, .int 1), (6, .int r156), (5, .int (kn (v15_3 / (2 : Int32)).toNatClampNeg)), (0, .ref (b 0 0)), (1, .ref ak), (3, .int v15_3), (4, .int r32)]) hx hb dL_isInOrder_218 rfl hl (by decide) rfl (fun ls hl => ?_)
            exact B219 v15_3 KC KS k hk 1 _ _ _ (by omega) (by omega) (lv_sub hl [3, 4, 0, 5, 2] rfl) _ _ hP hD hS hf
          · have hf := (if_neg c4).symm.trans hf
            refine lv_iload (pc := 167) hx hb dL_isInOrder_167 (lv_at hl 0 rfl) ?_
            refine lv_if_lt (pc := 169) (tgt := 217) hx hb dL_isInOrder_169 (by decide) (fun c5 => ?_) (fun c5 => ?_)
            · have hf := (if_pos c5).symm.trans hf
              refine lv_iconst (pc := 217) (v := 0) hx hb dL_isInOrder_217 (by decide) ?_
              refine lv_istore_n (pc := 218) (lv' := [(2, .int 0), (6, .int r156), (5, .int (kn (v15_3 / (2 : Int32)).toNatClampNeg)), (0, .ref (b 0 0)), (1, .ref ak), (3, .int v15_3), (4, .int r32)]) hx hb dL_isInOrder_218 rfl hl (by decide) rfl (fun ls hl => ?_)
              exact B219 v15_3 KC KS k hk 0 _ _ _ (by omega) (by omega) (lv_sub hl [3, 4, 0, 5, 2] rfl) _ _ hP hD hS hf
            · have hf := (if_neg c5).symm.trans hf
              refine lv_iload (pc := 172) hx hb dL_isInOrder_172 (lv_at hl 0 rfl) ?_
              refine lv_iload (pc := 174) hx hb dL_isInOrder_174 (lv_at hl 1 rfl) ?_
              refine lv_if_ne (pc := 176) (tgt := 185) hx hb dL_isInOrder_176 (by decide) (fun c6 => ?_) (fun c6 => ?_)
              · have hf := (if_neg c6).symm.trans hf
                refine lv_iload (pc := 185) hx hb dL_isInOrder_185 (lv_at hl 1 rfl) ?_
                refine lv_iconst (pc := 187) (v := 1) hx hb dL_isInOrder_187 (by decide) ?_
                refine lv_icmp_ne (pc := 188) (tgt := 196) hx hb dL_isInOrder_188 (by decide) (fun c7 => ?_) (fun c7 => ?_)
                · have hf := (if_neg c7).symm.trans hf
                  refine lv_iload (pc := 196) hx hb dL_isInOrder_196 (lv_at hl 1 rfl) ?_
                  refine lv_iconst (pc := 198) (v := 3) hx hb dL_isInOrder_198 (by decide) ?_
                  refine lv_icmp_ne (pc := 199) (tgt := 208) hx hb dL_isInOrder_199 (by decide) (fun c8 => ?_) (fun c8 => ?_)
                  · have hf := (if_neg c8).symm.trans hf
                    refine lv_ldc (pc := 208) (v := 99999) hx hb hown w2 dL_isInOrder_208 ?_
                    refine lv_icmp_gt (pc := 210) (tgt := 217) hx hb dL_isInOrder_210 (by decide) (fun c9 => ?_) (fun c9 => ?_)
                    · have hf := (if_pos c9).symm.trans hf
                      refine lv_iconst (pc := 217) (v := 0) hx hb dL_isInOrder_217 (by decide) ?_
                      refine lv_istore_n (pc := 218) (lv' := [(2, .int 0), (6, .int r156), (5, .int (kn (v15_3 / (2 : Int32)).toNatClampNeg)), (0, .ref (b 0 0)), (1, .ref ak), (3, .int v15_3), (4, .int r32)]) hx hb dL_isInOrder_218 rfl hl (by decide) rfl (fun ls hl => ?_)
                      exact B219 v15_3 KC KS k hk 0 _ _ _ (by omega) (by omega) (lv_sub hl [3, 4, 0, 5, 2] rfl) _ _ hP hD hS hf
                    · have hf := (if_neg c9).symm.trans hf
                      refine lv_iconst (pc := 213) (v := 1) hx hb dL_isInOrder_213 (by decide) ?_
                      refine lv_goto (pc := 214) (tgt := 218) hx hb dL_isInOrder_214 (by decide) ?_
                      refine lv_istore_n (pc := 218) (lv' := [(2, .int 1), (6, .int r156), (5, .int (kn (v15_3 / (2 : Int32)).toNatClampNeg)), (0, .ref (b 0 0)), (1, .ref ak), (3, .int v15_3), (4, .int r32)]) hx hb dL_isInOrder_218 rfl hl (by decide) rfl (fun ls hl => ?_)
                      exact B219 v15_3 KC KS k hk 1 _ _ _ (by omega) (by omega) (lv_sub hl [3, 4, 0, 5, 2] rfl) _ _ hP hD hS hf
                  · have hf := (if_pos c8).symm.trans hf
                    refine lv_sipush (pc := 202) (v := 9999) hx hb dL_isInOrder_202 (by decide) ?_
                    refine lv_goto (pc := 205) (tgt := 210) hx hb dL_isInOrder_205 (by decide) ?_
                    refine lv_icmp_gt (pc := 210) (tgt := 217) hx hb dL_isInOrder_210 (by decide) (fun c10 => ?_) (fun c10 => ?_)
                    · have hf := (if_pos c10).symm.trans hf
                      refine lv_iconst (pc := 217) (v := 0) hx hb dL_isInOrder_217 (by decide) ?_
                      refine lv_istore_n (pc := 218) (lv' := [(2, .int 0), (6, .int r156), (5, .int (kn (v15_3 / (2 : Int32)).toNatClampNeg)), (0, .ref (b 0 0)), (1, .ref ak), (3, .int v15_3), (4, .int r32)]) hx hb dL_isInOrder_218 rfl hl (by decide) rfl (fun ls hl => ?_)
                      exact B219 v15_3 KC KS k hk 0 _ _ _ (by omega) (by omega) (lv_sub hl [3, 4, 0, 5, 2] rfl) _ _ hP hD hS hf
                    · have hf := (if_neg c10).symm.trans hf
                      refine lv_iconst (pc := 213) (v := 1) hx hb dL_isInOrder_213 (by decide) ?_
                      refine lv_goto (pc := 214) (tgt := 218) hx hb dL_isInOrder_214 (by decide) ?_
                      refine lv_istore_n (pc := 218) (lv' := [(2, .int 1), (6, .int r156), (5, .int (kn (v15_3 / (2 : Int32)).toNatClampNeg)), (0, .ref (b 0 0)), (1, .ref ak), (3, .int v15_3), (4, .int r32)]) hx hb dL_isInOrder_218 rfl hl (by decide) rfl (fun ls hl => ?_)
                      exact B219 v15_3 KC KS k hk 1 _ _ _ (by omega) (by omega) (lv_sub hl [3, 4, 0, 5, 2] rfl) _ _ hP hD hS hf
                · have hf := (if_pos c7).symm.trans hf
                  refine lv_bipush (pc := 191) (v := 100) hx hb dL_isInOrder_191 (by decide) ?_
                  refine lv_goto (pc := 193) (tgt := 210) hx hb dL_isInOrder_193 (by decide) ?_
                  refine lv_icmp_gt (pc := 210) (tgt := 217) hx hb dL_isInOrder_210 (by decide) (fun c11 => ?_) (fun c11 => ?_)
                  · have hf := (if_pos c11).symm.trans hf
                    refine lv_iconst (pc := 217) (v := 0) hx hb dL_isInOrder_217 (by decide) ?_
                    refine lv_istore_n (pc := 218) (lv' := [(2, .int 0), (6, .int r156), (5, .int (kn (v15_3 / (2 : Int32)).toNatClampNeg)), (0, .ref (b 0 0)), (1, .ref ak), (3, .int v15_3), (4, .int r32)]) hx hb dL_isInOrder_218 rfl hl (by decide) rfl (fun ls hl => ?_)
                    exact B219 v15_3 KC KS k hk 0 _ _ _ (by omega) (by omega) (lv_sub hl [3, 4, 0, 5, 2] rfl) _ _ hP hD hS hf
                  · have hf := (if_neg c11).symm.trans hf
                    refine lv_iconst (pc := 213) (v := 1) hx hb dL_isInOrder_213 (by decide) ?_
                    refine lv_goto (pc := 214) (tgt := 218) hx hb dL_isInOrder_214 (by decide) ?_
                    refine lv_istore_n (pc := 218) (lv' := [(2, .int 1), (6, .int r156), (5, .int (kn (v15_3 / (2 : Int32)).toNatClampNeg)), (0, .ref (b 0 0)), (1, .ref ak), (3, .int v15_3), (4, .int r32)]) hx hb dL_isInOrder_218 rfl hl (by decide) rfl (fun ls hl => ?_)
                    exact B219 v15_3 KC KS k hk 1 _ _ _ (by omega) (by omega) (lv_sub hl [3, 4, 0, 5, 2] rfl) _ _ hP hD hS hf
              · have hf := (if_pos c6).symm.trans hf
                refine lv_sipush (pc := 179) (v := 999) hx hb dL_isInOrder_179 (by decide) ?_
                refine lv_goto (pc := 182) (tgt := 210) hx hb dL_isInOrder_182 (by decide) ?_
                refine lv_icmp_gt (pc := 210) (tgt := 217) hx hb dL_isInOrder_210 (by decide) (fun c12 => ?_) (fun c12 => ?_)
                · have hf := (if_pos c12).symm.trans hf
                  refine lv_iconst (pc := 217) (v := 0) hx hb dL_isInOrder_217 (by decide) ?_
                  refine lv_istore_n (pc := 218) (lv' := [(2, .int 0), (6, .int r156), (5, .int (kn (v15_3 / (2 : Int32)).toNatClampNeg)), (0, .ref (b 0 0)), (1, .ref ak), (3, .int v15_3), (4, .int r32)]) hx hb dL_isInOrder_218 rfl hl (by decide) rfl (fun ls hl => ?_)
                  exact B219 v15_3 KC KS k hk 0 _ _ _ (by omega) (by omega) (lv_sub hl [3, 4, 0, 5, 2] rfl) _ _ hP hD hS hf
                · have hf := (if_neg c12).symm.trans hf
                  refine lv_iconst (pc := 213) (v := 1) hx hb dL_isInOrder_213 (by decide) ?_
                  refine lv_goto (pc := 214) (tgt := 218) hx hb dL_isInOrder_214 (by decide) ?_
                  refine lv_istore_n (pc := 218) (lv' := [(2, .int 1), (6, .int r156), (5, .int (kn (v15_3 / (2 : Int32)).toNatClampNeg)), (0, .ref (b 0 0)), (1, .ref ak), (3, .int v15_3), (4, .int r32)]) hx hb dL_isInOrder_218 rfl hl (by decide) rfl (fun ls hl => ?_)
                  exact B219 v15_3 KC KS k hk 1 _ _ _ (by omega) (by omega) (lv_sub hl [3, 4, 0, 5, 2] rfl) _ _ hP hD hS hf
  have B15 : ∀ (n : Nat), ∀ (v15_2 : Int32) (v15_3 : Int32) (CC SS : Nat) (ls : Array Slot), CC + (20 * n + 42) ≤ 542 → SS + (120 * n + 252) ≤ 3252 → lv_has ls 7 [(0, .ref (b 0 0)), (1, .ref ak), (2, .int v15_2), (3, .int v15_3)] → ∀ (H : Heap) (locs : List Loc), va_P Z.1 vwCl (wH Z b h ++ wK Z ak kn) H → va_D A (wH Z b h ++ wK Z ak kn) → va_S A s.heap H locs → f_L_isInOrder_b15 h kn n v15_2 v15_3 = some R → W p l e { frames := 10, cells := 542, slots := 3252, locals := 212 } s m ([.ref (b 0 0), .ref ak] : List Value).toArray below meth c H locs CC SS (vx_MQ below (rwQ Z (some (.int R)) (fun _ => wH Z b h ++ wK Z ak kn) A) (fun _ _ _ => False) ([.ref (b 0 0), .ref ak] : List Value).toArray s 542 3252 A) (F0 m 15 ls []) := by
    intro n
    induction n with
    | zero => intro v15_2 v15_3 CC SS ls hCC hSS hl H locs hP hD hS hf; rw [f_L_isInOrder_b15] at hf; exact nomatch hf
    | succ n ih =>
      intro v15_2 v15_3 CC SS ls hCC hSS hl H locs hP hD hS hf
      rw [f_L_isInOrder_b15] at hf
      refine lv_iload_n (pc := 15) hx hb dL_isInOrder_15 rfl (lv_at hl 3 rfl) ?_
      refine lv_bipush (pc := 16) (v := 24) hx hb dL_isInOrder_16 (by decide) ?_
      refine lv_icmp_ge (pc := 18) (tgt := 305) hx hb dL_isInOrder_18 (by decide) (fun c1 => ?_) (fun c1 => ?_)
      · have hf := (if_pos c1).symm.trans hf
        refine lv_iconst (pc := 305) (v := 0) hx hb dL_isInOrder_305 (by decide) ?_
        refine lv_istore_n (pc := 306) (lv' := [(3, .int 0), (0, .ref (b 0 0)), (1, .ref ak), (2, .int v15_2)]) hx hb dL_isInOrder_306 rfl hl (by decide) rfl (fun ls hl => ?_)
        exact B307 7 0 v15_2 _ _ _ (by omega) (by omega) (lv_sub hl [1, 3, 0] rfl) _ _ hP hD hS hf
      · have hf := (if_neg c1).symm.trans hf
        refine lv_iload_n (pc := 21) hx hb dL_isInOrder_21 rfl (lv_at hl 2 rfl) ?_
        refine lv_if_eq (pc := 22) (tgt := 305) hx hb dL_isInOrder_22 (by decide) (fun c2 => ?_) (fun c2 => ?_)
        · have hf := (if_pos c2).symm.trans hf
          refine lv_iconst (pc := 305) (v := 0) hx hb dL_isInOrder_305 (by decide) ?_
          refine lv_istore_n (pc := 306) (lv' := [(3, .int 0), (0, .ref (b 0 0)), (1, .ref ak), (2, .int v15_2)]) hx hb dL_isInOrder_306 rfl hl (by decide) rfl (fun ls hl => ?_)
          exact B307 7 0 v15_2 _ _ _ (by omega) (by omega) (lv_sub hl [1, 3, 0] rfl) _ _ hP hD hS hf
        · have hf := (if_neg c2).symm.trans hf
          refine lv_aload_n (pc := 25) hx hb dL_isInOrder_25 rfl (lv_at hl 0 rfl) ?_
          refine lv_bipush (pc := 26) (v := 12) hx hb dL_isInOrder_26 (by decide) ?_
          refine lv_iload_n (pc := 28) hx hb dL_isInOrder_28 rfl (lv_at hl 3 rfl) ?_
          refine lv_iconst (pc := 29) (v := 0) hx hb dL_isInOrder_29 (by decide) ?_
          refine lv_iconst (pc := 30) (v := 0) hx hb dL_isInOrder_30 (by decide) ?_
          refine lv_iconst (pc := 31) (v := 0) hx hb dL_isInOrder_31 (by decide) ?_
          obtain ⟨r32, h_32, hf⟩ := bd hf
          refine wr_S (pc := 32) (As := [.ref (b 0 0), .int 12, .int v15_3, .int 0, .int 0, .int 0]) (rest := []) (st1 := [.int r32]) (wn := fun _ => wH Z b h ++ wK Z ak kn) ⟨hx, hb, hml, hown, hts⟩ (c_L_does_12 Z l hst b h v15_3 0 0 0 r32 h_32) (vx_cwSW 6 hts gL_isInOrder_L_does rfl rfl rfl hs_L_does ⟨Nat.le_of_ble_eq_true rfl, Nat.le_of_ble_eq_true rfl⟩) hK hE hP hD hS hA hZ (List.range' 0 40) (List.range' 40 1) (List.range' 1 40 ++ List.range' 0 1) (by decide +kernel) (bl1 rfl) (tR1 rfl rfl) (fun _ => tN1 rfl rfl rfl) rfl hl.1 rfl (lv_room (Nat.le_of_ble_eq_true rfl)) dL_isInOrder_32 ⟨(show CC + 0 + 2 ≤ 542 by omega), (show SS + 0 + 12 ≤ 3252 by omega)⟩ rfl (fun _ H locs hP hD hS => ?_)
          refine lv_istore (pc := 35) (lv' := [(4, .int r32), (0, .ref (b 0 0)), (1, .ref ak), (2, .int v15_2), (3, .int v15_3)]) hx hb dL_isInOrder_35 hl (by decide) rfl (fun ls hl => ?_)
          refine lv_iload (pc := 37) hx hb dL_isInOrder_37 (lv_at hl 0 rfl) ?_
          refine lv_ldc (pc := 39) (v := (-2100000000)) hx hb hown w0 dL_isInOrder_39 ?_
          refine lv_icmp_eq (pc := 41) (tgt := 126) hx hb dL_isInOrder_41 (by decide) (fun c3 => ?_) (fun c3 => ?_)
          · have hf := (if_pos c3).symm.trans hf
            exact B126 r32 v15_3 (20 * n + 42) (120 * n + 252) (f_L_isInOrder_b15 h kn n) ih v15_2 _ _ _ (by omega) (by omega) (lv_sub hl [1, 2, 3, 4, 0] rfl) _ _ hP hD hS hf
          · have hf := (if_neg c3).symm.trans hf
            refine lv_iload (pc := 44) hx hb dL_isInOrder_44 (lv_at hl 0 rfl) ?_
            refine lv_if_ne (pc := 46) (tgt := 53) hx hb dL_isInOrder_46 (by decide) (fun c4 => ?_) (fun c4 => ?_)
            · have hf := (if_neg c4).symm.trans hf
              refine lv_ldc2 (pc := 53) (v := 10) hx hb hown w1 dL_isInOrder_53 ?_
              refine lv_aload_n (pc := 56) hx hb dL_isInOrder_56 rfl (lv_at hl 1 rfl) ?_
              refine lv_iload_n (pc := 57) hx hb dL_isInOrder_57 rfl (lv_at hl 4 rfl) ?_
              refine lv_iconst (pc := 58) (v := 1) hx hb dL_isInOrder_58 (by decide) ?_
              obtain ⟨r59, h_59, hf⟩ := obd hf
              refine th_Ln (pc := 59) (C := RX6) (As := [.int v15_3, .int 1]) (rest := [.long 10]) (st1 := [.int r59, .long 10]) (wn := fun _ => wH Z b h ++ wK Z ak kn) ⟨hx, hb, hml, hown, hts⟩ (c_X6_of Z l hst b h v15_3 1 (.inr r59) h_59) (cwV 2 hts gL_isInOrder_X6_of rfl rfl rfl hv_X6_of ⟨Nat.le_of_ble_eq_true rfl, Nat.le_of_ble_eq_true rfl⟩) hK hE hP hD hS hA hZ (List.range' 0 40) (List.range' 40 1) (List.range' 1 40 ++ List.range' 0 1) (by decide +kernel) (bl1 rfl) (tR1 rfl rfl) (fun _ => tN1 rfl rfl rfl) 6 rfl rfl rfl hl.1 rfl (lv_room (Nat.le_of_ble_eq_true rfl)) dL_isInOrder_59 ⟨(show CC + 2 + 2 ≤ 542 by omega), (show SS + 12 + 12 ≤ 3252 by omega)⟩ rfl (fun _ H locs hP hD hS => ?_)
              refine lv_i2l (pc := 62) (v := r59.toInt64) hx hb dL_isInOrder_62 rfl ?_
              refine lv_lmul (pc := 63) hx hb dL_isInOrder_63 ?_
              refine lv_iload (pc := 64) hx hb dL_isInOrder_64 (lv_at hl 0 rfl) ?_
              refine lv_i2l (pc := 66) (v := r32.toInt64) hx hb dL_isInOrder_66 rfl ?_
              obtain ⟨g67, hf⟩ := gd hf
              refine lv_ldiv (pc := 67) hx hb dL_isInOrder_67 (of_decide_eq_true g67) ?_
              refine lv_lstore (pc := 68) (lv' := [(5, .long ((10 * r59.toInt64) / r32.toInt64)), (4, .int r32), (0, .ref (b 0 0)), (1, .ref ak), (2, .int v15_2), (3, .int v15_3)]) hx hb dL_isInOrder_68 hl (by decide) rfl (fun ls hl => ?_)
              refine lv_iload (pc := 70) hx hb dL_isInOrder_70 (lv_at hl 1 rfl) ?_
              refine lv_if_lt (pc := 72) (tgt := 124) hx hb dL_isInOrder_72 (by decide) (fun c5 => ?_) (fun c5 => ?_)
              · have hf := (if_pos c5).symm.trans hf
                refine lv_iconst (pc := 124) (v := 0) hx hb dL_isInOrder_124 (by decide) ?_
                refine lv_istore_n (pc := 125) (lv' := [(2, .int 0), (5, .long ((10 * r59.toInt64) / r32.toInt64)), (4, .int r32), (0, .ref (b 0 0)), (1, .ref ak), (3, .int v15_3)]) hx hb dL_isInOrder_125 rfl hl (by decide) rfl (fun ls hl => ?_)
                exact B126 r32 v15_3 (20 * n + 42) (120 * n + 252) (f_L_isInOrder_b15 h kn n) ih 0 _ _ _ (by omega) (by omega) (lv_sub hl [3, 4, 0, 5, 2] rfl) _ _ hP hD hS hf
              · have hf := (if_neg c5).symm.trans hf
                refine lv_aload_n (pc := 75) hx hb dL_isInOrder_75 rfl (lv_at hl 2 rfl) ?_
                refine lv_iload_n (pc := 76) hx hb dL_isInOrder_76 rfl (lv_at hl 5 rfl) ?_
                refine lv_iconst (pc := 77) (v := 1) hx hb dL_isInOrder_77 (by decide) ?_
                obtain ⟨r78, h_78, hf⟩ := obd hf
                refine th_Ln (pc := 78) (C := RX6) (As := [.int v15_3, .int 1]) (rest := []) (st1 := [.int r78]) (wn := fun _ => wH Z b h ++ wK Z ak kn) ⟨hx, hb, hml, hown, hts⟩ (c_X6_of Z l hst b h v15_3 1 (.inr r78) h_78) (cwV 2 hts gL_isInOrder_X6_of rfl rfl rfl hv_X6_of ⟨Nat.le_of_ble_eq_true rfl, Nat.le_of_ble_eq_true rfl⟩) hK hE hP hD hS hA hZ (List.range' 0 40) (List.range' 40 1) (List.range' 1 40 ++ List.range' 0 1) (by decide +kernel) (bl1 rfl) (tR1 rfl rfl) (fun _ => tN1 rfl rfl rfl) 6 rfl rfl rfl hl.1 rfl (lv_room (Nat.le_of_ble_eq_true rfl)) dL_isInOrder_78 ⟨(show CC + 4 + 2 ≤ 542 by omega), (show SS + 24 + 12 ≤ 3252 by omega)⟩ rfl (fun _ H locs hP hD hS => ?_)
                refine lv_if_lt (pc := 81) (tgt := 124) hx hb dL_isInOrder_81 (by decide) (fun c6 => ?_) (fun c6 => ?_)
                · have hf := (if_pos c6).symm.trans hf
                  refine lv_iconst (pc := 124) (v := 0) hx hb dL_isInOrder_124 (by decide) ?_
                  refine lv_istore_n (pc := 125) (lv' := [(2, .int 0), (5, .long ((10 * r59.toInt64) / r32.toInt64)), (4, .int r32), (0, .ref (b 0 0)), (1, .ref ak), (3, .int v15_3)]) hx hb dL_isInOrder_125 rfl hl (by decide) rfl (fun ls hl => ?_)
                  exact B126 r32 v15_3 (20 * n + 42) (120 * n + 252) (f_L_isInOrder_b15 h kn n) ih 0 _ _ _ (by omega) (by omega) (lv_sub hl [3, 4, 0, 5, 2] rfl) _ _ hP hD hS hf
                · have hf := (if_neg c6).symm.trans hf
                  refine lv_aload_n (pc := 84) hx hb dL_isInOrder_84 rfl (lv_at hl 2 rfl) ?_
                  refine lv_iload_n (pc := 85) hx hb dL_isInOrder_85 rfl (lv_at hl 5 rfl) ?_
                  refine lv_iconst (pc := 86) (v := 2) hx hb dL_isInOrder_86 (by decide) ?_
                  obtain ⟨r87, h_87, hf⟩ := obd hf
                  refine th_Ln (pc := 87) (C := RX6) (As := [.int v15_3, .int 2]) (rest := []) (st1 := [.int r87]) (wn := fun _ => wH Z b h ++ wK Z ak kn) ⟨hx, hb, hml, hown, hts⟩ (c_X6_of Z l hst b h v15_3 2 (.inr r87) h_87) (cwV 2 hts gL_isInOrder_X6_of rfl rfl rfl hv_X6_of ⟨Nat.le_of_ble_eq_true rfl, Nat.le_of_ble_eq_true rfl⟩) hK hE hP hD hS hA hZ (List.range' 0 40) (List.range' 40 1) (List.range' 1 40 ++ List.range' 0 1) (by decide +kernel) (bl1 rfl) (tR1 rfl rfl) (fun _ => tN1 rfl rfl rfl) 6 rfl rfl rfl hl.1 rfl (lv_room (Nat.le_of_ble_eq_true rfl)) dL_isInOrder_87 ⟨(show CC + 6 + 2 ≤ 542 by omega), (show SS + 36 + 12 ≤ 3252 by omega)⟩ rfl (fun _ H locs hP hD hS => ?_)
                  refine lv_i2l (pc := 90) (v := r87.toInt64) hx hb dL_isInOrder_90 rfl ?_
                  refine lv_lload (pc := 91) hx hb dL_isInOrder_91 (lv_at hl 0 rfl) ?_
                  refine W.lcmp (pc := 93) hx hb dL_isInOrder_93 ?_
                  refine lv_if_ne (pc := 94) (tgt := 124) hx hb dL_isInOrder_94 (by decide) (fun c7 => ?_) (fun c7 => ?_)
                  · have hf := (if_neg c7).symm.trans hf
                    refine lv_iconst (pc := 124) (v := 0) hx hb dL_isInOrder_124 (by decide) ?_
                    refine lv_istore_n (pc := 125) (lv' := [(2, .int 0), (5, .long ((10 * r59.toInt64) / r32.toInt64)), (4, .int r32), (0, .ref (b 0 0)), (1, .ref ak), (3, .int v15_3)]) hx hb dL_isInOrder_125 rfl hl (by decide) rfl (fun ls hl => ?_)
                    exact B126 r32 v15_3 (20 * n + 42) (120 * n + 252) (f_L_isInOrder_b15 h kn n) ih 0 _ _ _ (by omega) (by omega) (lv_sub hl [3, 4, 0, 5, 2] rfl) _ _ hP hD hS hf
                  · have hf := (if_pos c7).symm.trans hf
                    refine lv_aload_n (pc := 97) hx hb dL_isInOrder_97 rfl (lv_at hl 2 rfl) ?_
                    refine ro_V (pc := 98) (C := RX6) (As := []) (rest := []) (st1 := [.int (f_X6_now h)]) ⟨hx, hb, hml, hown, hts⟩ (c_X6_now Z l b h _ rfl ) (cwV 0 hts gL_isInOrder_X6_now rfl rfl rfl hv_X6_now ⟨Nat.le_of_ble_eq_true rfl, Nat.le_of_ble_eq_true rfl⟩) hK hE (hP.sub (ws' := wH Z b h) (List.range' 0 40) (fmm (bl1 rfl))) 6 rfl rfl rfl hl.1 rfl (lv_room (Nat.le_of_ble_eq_true rfl)) dL_isInOrder_98 ⟨(show CC + 8 ≤ 542 by omega), (show SS + 48 ≤ 3252 by omega)⟩ rfl ?_
                    refine lv_if_eq (pc := 101) (tgt := 120) hx hb dL_isInOrder_101 (by decide) (fun c8 => ?_) (fun c8 => ?_)
                    · have hf := (if_pos c8).symm.trans hf
                      refine lv_iconst (pc := 120) (v := 1) hx hb dL_isInOrder_120 (by decide) ?_
                      refine lv_goto (pc := 121) (tgt := 125) hx hb dL_isInOrder_121 (by decide) ?_
                      refine lv_istore_n (pc := 125) (lv' := [(2, .int 1), (5, .long ((10 * r59.toInt64) / r32.toInt64)), (4, .int r32), (0, .ref (b 0 0)), (1, .ref ak), (3, .int v15_3)]) hx hb dL_isInOrder_125 rfl hl (by decide) rfl (fun ls hl => ?_)
                      exact B126 r32 v15_3 (20 * n + 42) (120 * n + 252) (f_L_isInOrder_b15 h kn n) ih 1 _ _ _ (by omega) (by omega) (lv_sub hl [3, 4, 0, 5, 2] rfl) _ _ hP hD hS hf
                    · have hf := (if_neg c8).symm.trans hf
                      refine lv_aload_n (pc := 104) hx hb dL_isInOrder_104 rfl (lv_at hl 2 rfl) ?_
                      refine lv_iload_n (pc := 105) hx hb dL_isInOrder_105 rfl (lv_at hl 5 rfl) ?_
                      refine lv_aload_n (pc := 106) hx hb dL_isInOrder_106 rfl (lv_at hl 2 rfl) ?_
                      refine ro_V (pc := 107) (C := RX6) (As := []) (rest := [.int v15_3, .ref (b 0 0)]) (st1 := [.int (f_X6_now h), .int v15_3, .ref (b 0 0)]) ⟨hx, hb, hml, hown, hts⟩ (c_X6_now Z l b h _ rfl ) (cwV 0 hts gL_isInOrder_X6_now rfl rfl rfl hv_X6_now ⟨Nat.le_of_ble_eq_true rfl, Nat.le_of_ble_eq_true rfl⟩) hK hE (hP.sub (ws' := wH Z b h) (List.range' 0 40) (fmm (bl1 rfl))) 6 rfl rfl rfl hl.1 rfl (lv_room (Nat.le_of_ble_eq_true rfl)) dL_isInOrder_107 ⟨(show CC + 8 ≤ 542 by omega), (show SS + 48 ≤ 3252 by omega)⟩ rfl ?_
                      obtain ⟨r110, h_110, hf⟩ := obd hf
                      refine th_Ln (pc := 110) (C := RX6) (As := [.int v15_3, .int (f_X6_now h)]) (rest := []) (st1 := [.int r110]) (wn := fun _ => wH Z b h ++ wK Z ak kn) ⟨hx, hb, hml, hown, hts⟩ (c_X6_trend Z l hst b h v15_3 (f_X6_now h) (.inr r110) h_110) (cwV 2 hts gL_isInOrder_X6_trend rfl rfl rfl hv_X6_trend ⟨Nat.le_of_ble_eq_true rfl, Nat.le_of_ble_eq_true rfl⟩) hK hE hP hD hS hA hZ (List.range' 0 40) (List.range' 40 1) (List.range' 1 40 ++ List.range' 0 1) (by decide +kernel) (bl1 rfl) (tR1 rfl rfl) (fun _ => tN1 rfl rfl rfl) 6 rfl rfl rfl hl.1 rfl (lv_room (Nat.le_of_ble_eq_true rfl)) dL_isInOrder_110 ⟨(show CC + 8 + 2 ≤ 542 by omega), (show SS + 48 + 12 ≤ 3252 by omega)⟩ rfl (fun _ H locs hP hD hS => ?_)
                      refine lv_i2l (pc := 113) (v := r110.toInt64) hx hb dL_isInOrder_113 rfl ?_
                      refine lv_lload (pc := 114) hx hb dL_isInOrder_114 (lv_at hl 0 rfl) ?_
                      refine W.lcmp (pc := 116) hx hb dL_isInOrder_116 ?_
                      refine lv_if_ne (pc := 117) (tgt := 124) hx hb dL_isInOrder_117 (by decide) (fun c9 => ?_) (fun c9 => ?_)
                      · have hf := (if_neg c9).symm.trans hf
                        refine lv_iconst (pc := 124) (v := 0) hx hb dL_isInOrder_124 (by decide) ?_
                        refine lv_istore_n (pc := 125) (lv' := [(2, .int 0), (5, .long ((10 * r59.toInt64) / r32.toInt64)), (4, .int r32), (0, .ref (b 0 0)), (1, .ref ak), (3, .int v15_3)]) hx hb dL_isInOrder_125 rfl hl (by decide) rfl (fun ls hl => ?_)
                        exact B126 r32 v15_3 (20 * n + 42) (120 * n + 252) (f_L_isInOrder_b15 h kn n) ih 0 _ _ _ (by omega) (by omega) (lv_sub hl [3, 4, 0, 5, 2] rfl) _ _ hP hD hS hf
                      · have hf := (if_pos c9).symm.trans hf
                        refine lv_iconst (pc := 120) (v := 1) hx hb dL_isInOrder_120 (by decide) ?_
                        refine lv_goto (pc := 121) (tgt := 125) hx hb dL_isInOrder_121 (by decide) ?_
                        refine lv_istore_n (pc := 125) (lv' := [(2, .int 1), (5, .long ((10 * r59.toInt64) / r32.toInt64)), (4, .int r32), (0, .ref (b 0 0)), (1, .ref ak), (3, .int v15_3)]) hx hb dL_isInOrder_125 rfl hl (by decide) rfl (fun ls hl => ?_)
                        exact B126 r32 v15_3 (20 * n + 42) (120 * n + 252) (f_L_isInOrder_b15 h kn n) ih 1 _ _ _ (by omega) (by omega) (lv_sub hl [3, 4, 0, 5, 2] rfl) _ _ hP hD hS hf
            · have hf := (if_pos c4).symm.trans hf
              refine lv_lconst (pc := 49) (v := 0) hx hb dL_isInOrder_49 (by decide) ?_
              refine lv_goto (pc := 50) (tgt := 68) hx hb dL_isInOrder_50 (by decide) ?_
              refine lv_lstore (pc := 68) (lv' := [(5, .long 0), (4, .int r32), (0, .ref (b 0 0)), (1, .ref ak), (2, .int v15_2), (3, .int v15_3)]) hx hb dL_isInOrder_68 hl (by decide) rfl (fun ls hl => ?_)
              refine lv_iload (pc := 70) hx hb dL_isInOrder_70 (lv_at hl 1 rfl) ?_
              refine lv_if_lt (pc := 72) (tgt := 124) hx hb dL_isInOrder_72 (by decide) (fun c10 => ?_) (fun c10 => ?_)
              · have hf := (if_pos c10).symm.trans hf
                refine lv_iconst (pc := 124) (v := 0) hx hb dL_isInOrder_124 (by decide) ?_
                refine lv_istore_n (pc := 125) (lv' := [(2, .int 0), (5, .long 0), (4, .int r32), (0, .ref (b 0 0)), (1, .ref ak), (3, .int v15_3)]) hx hb dL_isInOrder_125 rfl hl (by decide) rfl (fun ls hl => ?_)
                exact B126 r32 v15_3 (20 * n + 42) (120 * n + 252) (f_L_isInOrder_b15 h kn n) ih 0 _ _ _ (by omega) (by omega) (lv_sub hl [3, 4, 0, 5, 2] rfl) _ _ hP hD hS hf
              · have hf := (if_neg c10).symm.trans hf
                refine lv_aload_n (pc := 75) hx hb dL_isInOrder_75 rfl (lv_at hl 2 rfl) ?_
                refine lv_iload_n (pc := 76) hx hb dL_isInOrder_76 rfl (lv_at hl 5 rfl) ?_
                refine lv_iconst (pc := 77) (v := 1) hx hb dL_isInOrder_77 (by decide) ?_
                obtain ⟨r78, h_78, hf⟩ := obd hf
                refine th_Ln (pc := 78) (C := RX6) (As := [.int v15_3, .int 1]) (rest := []) (st1 := [.int r78]) (wn := fun _ => wH Z b h ++ wK Z ak kn) ⟨hx, hb, hml, hown, hts⟩ (c_X6_of Z l hst b h v15_3 1 (.inr r78) h_78) (cwV 2 hts gL_isInOrder_X6_of rfl rfl rfl hv_X6_of ⟨Nat.le_of_ble_eq_true rfl, Nat.le_of_ble_eq_true rfl⟩) hK hE hP hD hS hA hZ (List.range' 0 40) (List.range' 40 1) (List.range' 1 40 ++ List.range' 0 1) (by decide +kernel) (bl1 rfl) (tR1 rfl rfl) (fun _ => tN1 rfl rfl rfl) 6 rfl rfl rfl hl.1 rfl (lv_room (Nat.le_of_ble_eq_true rfl)) dL_isInOrder_78 ⟨(show CC + 2 + 2 ≤ 542 by omega), (show SS + 12 + 12 ≤ 3252 by omega)⟩ rfl (fun _ H locs hP hD hS => ?_)
                refine lv_if_lt (pc := 81) (tgt := 124) hx hb dL_isInOrder_81 (by decide) (fun c11 => ?_) (fun c11 => ?_)
                · have hf := (if_pos c11).symm.trans hf
                  refine lv_iconst (pc := 124) (v := 0) hx hb dL_isInOrder_124 (by decide) ?_
                  refine lv_istore_n (pc := 125) (lv' := [(2, .int 0), (5, .long 0), (4, .int r32), (0, .ref (b 0 0)), (1, .ref ak), (3, .int v15_3)]) hx hb dL_isInOrder_125 rfl hl (by decide) rfl (fun ls hl => ?_)
                  exact B126 r32 v15_3 (20 * n + 42) (120 * n + 252) (f_L_isInOrder_b15 h kn n) ih 0 _ _ _ (by omega) (by omega) (lv_sub hl [3, 4, 0, 5, 2] rfl) _ _ hP hD hS hf
                · have hf := (if_neg c11).symm.trans hf
                  refine lv_aload_n (pc := 84) hx hb dL_isInOrder_84 rfl (lv_at hl 2 rfl) ?_
                  refine lv_iload_n (pc := 85) hx hb dL_isInOrder_85 rfl (lv_at hl 5 rfl) ?_
                  refine lv_iconst (pc := 86) (v := 2) hx hb dL_isInOrder_86 (by decide) ?_
                  obtain ⟨r87, h_87, hf⟩ := obd hf
                  refine th_Ln (pc := 87) (C := RX6) (As := [.int v15_3, .int 2]) (rest := []) (st1 := [.int r87]) (wn := fun _ => wH Z b h ++ wK Z ak kn) ⟨hx, hb, hml, hown, hts⟩ (c_X6_of Z l hst b h v15_3 2 (.inr r87) h_87) (cwV 2 hts gL_isInOrder_X6_of rfl rfl rfl hv_X6_of ⟨Nat.le_of_ble_eq_true rfl, Nat.le_of_ble_eq_true rfl⟩) hK hE hP hD hS hA hZ (List.range' 0 40) (List.range' 40 1) (List.range' 1 40 ++ List.range' 0 1) (by decide +kernel) (bl1 rfl) (tR1 rfl rfl) (fun _ => tN1 rfl rfl rfl) 6 rfl rfl rfl hl.1 rfl (lv_room (Nat.le_of_ble_eq_true rfl)) dL_isInOrder_87 ⟨(show CC + 4 + 2 ≤ 542 by omega), (show SS + 24 + 12 ≤ 3252 by omega)⟩ rfl (fun _ H locs hP hD hS => ?_)
                  refine lv_i2l (pc := 90) (v := r87.toInt64) hx hb dL_isInOrder_90 rfl ?_
                  refine lv_lload (pc := 91) hx hb dL_isInOrder_91 (lv_at hl 0 rfl) ?_
                  refine W.lcmp (pc := 93) hx hb dL_isInOrder_93 ?_
                  refine lv_if_ne (pc := 94) (tgt := 124) hx hb dL_isInOrder_94 (by decide) (fun c12 => ?_) (fun c12 => ?_)
                  · have hf := (if_neg c12).symm.trans hf
                    refine lv_iconst (pc := 124) (v := 0) hx hb dL_isInOrder_124 (by decide) ?_
                    refine lv_istore_n (pc := 125) (lv' := [(2, .int 0), (5, .long 0), (4, .int r32), (0, .ref (b 0 0)), (1, .ref ak), (3, .int v15_3)]) hx hb dL_isInOrder_125 rfl hl (by decide) rfl (fun ls hl => ?_)
                    exact B126 r32 v15_3 (20 * n + 42) (120 * n + 252) (f_L_isInOrder_b15 h kn n) ih 0 _ _ _ (by omega) (by omega) (lv_sub hl [3, 4, 0, 5, 2] rfl) _ _ hP hD hS hf
                  · have hf := (if_pos c12).symm.trans hf
                    refine lv_aload_n (pc := 97) hx hb dL_isInOrder_97 rfl (lv_at hl 2 rfl) ?_
                    refine ro_V (pc := 98) (C := RX6) (As := []) (rest := []) (st1 := [.int (f_X6_now h)]) ⟨hx, hb, hml, hown, hts⟩ (c_X6_now Z l b h _ rfl ) (cwV 0 hts gL_isInOrder_X6_now rfl rfl rfl hv_X6_now ⟨Nat.le_of_ble_eq_true rfl, Nat.le_of_ble_eq_true rfl⟩) hK hE (hP.sub (ws' := wH Z b h) (List.range' 0 40) (fmm (bl1 rfl))) 6 rfl rfl rfl hl.1 rfl (lv_room (Nat.le_of_ble_eq_true rfl)) dL_isInOrder_98 ⟨(show CC + 6 ≤ 542 by omega), (show SS + 36 ≤ 3252 by omega)⟩ rfl ?_
                    refine lv_if_eq (pc := 101) (tgt := 120) hx hb dL_isInOrder_101 (by decide) (fun c13 => ?_) (fun c13 => ?_)
                    · have hf := (if_pos c13).symm.trans hf
                      refine lv_iconst (pc := 120) (v := 1) hx hb dL_isInOrder_120 (by decide) ?_
                      refine lv_goto (pc := 121) (tgt := 125) hx hb dL_isInOrder_121 (by decide) ?_
                      refine lv_istore_n (pc := 125) (lv' := [(2, .int 1), (5, .long 0), (4, .int r32), (0, .ref (b 0 0)), (1, .ref ak), (3, .int v15_3)]) hx hb dL_isInOrder_125 rfl hl (by decide) rfl (fun ls hl => ?_)
                      exact B126 r32 v15_3 (20 * n + 42) (120 * n + 252) (f_L_isInOrder_b15 h kn n) ih 1 _ _ _ (by omega) (by omega) (lv_sub hl [3, 4, 0, 5, 2] rfl) _ _ hP hD hS hf
                    · have hf := (if_neg c13).symm.trans hf
                      refine lv_aload_n (pc := 104) hx hb dL_isInOrder_104 rfl (lv_at hl 2 rfl) ?_
                      refine lv_iload_n (pc := 105) hx hb dL_isInOrder_105 rfl (lv_at hl 5 rfl) ?_
                      refine lv_aload_n (pc := 106) hx hb dL_isInOrder_106 rfl (lv_at hl 2 rfl) ?_
                      refine ro_V (pc := 107) (C := RX6) (As := []) (rest := [.int v15_3, .ref (b 0 0)]) (st1 := [.int (f_X6_now h), .int v15_3, .ref (b 0 0)]) ⟨hx, hb, hml, hown, hts⟩ (c_X6_now Z l b h _ rfl ) (cwV 0 hts gL_isInOrder_X6_now rfl rfl rfl hv_X6_now ⟨Nat.le_of_ble_eq_true rfl, Nat.le_of_ble_eq_true rfl⟩) hK hE (hP.sub (ws' := wH Z b h) (List.range' 0 40) (fmm (bl1 rfl))) 6 rfl rfl rfl hl.1 rfl (lv_room (Nat.le_of_ble_eq_true rfl)) dL_isInOrder_107 ⟨(show CC + 6 ≤ 542 by omega), (show SS + 36 ≤ 3252 by omega)⟩ rfl ?_
                      obtain ⟨r110, h_110, hf⟩ := obd hf
                      refine th_Ln (pc := 110) (C := RX6) (As := [.int v15_3, .int (f_X6_now h)]) (rest := []) (st1 := [.int r110]) (wn := fun _ => wH Z b h ++ wK Z ak kn) ⟨hx, hb, hml, hown, hts⟩ (c_X6_trend Z l hst b h v15_3 (f_X6_now h) (.inr r110) h_110) (cwV 2 hts gL_isInOrder_X6_trend rfl rfl rfl hv_X6_trend ⟨Nat.le_of_ble_eq_true rfl, Nat.le_of_ble_eq_true rfl⟩) hK hE hP hD hS hA hZ (List.range' 0 40) (List.range' 40 1) (List.range' 1 40 ++ List.range' 0 1) (by decide +kernel) (bl1 rfl) (tR1 rfl rfl) (fun _ => tN1 rfl rfl rfl) 6 rfl rfl rfl hl.1 rfl (lv_room (Nat.le_of_ble_eq_true rfl)) dL_isInOrder_110 ⟨(show CC + 6 + 2 ≤ 542 by omega), (show SS + 36 + 12 ≤ 3252 by omega)⟩ rfl (fun _ H locs hP hD hS => ?_)
                      refine lv_i2l (pc := 113) (v := r110.toInt64) hx hb dL_isInOrder_113 rfl ?_
                      refine lv_lload (pc := 114) hx hb dL_isInOrder_114 (lv_at hl 0 rfl) ?_
                      refine W.lcmp (pc := 116) hx hb dL_isInOrder_116 ?_
                      refine lv_if_ne (pc := 117) (tgt := 124) hx hb dL_isInOrder_117 (by decide) (fun c14 => ?_) (fun c14 => ?_)
                      · have hf := (if_neg c14).symm.trans hf
                        refine lv_iconst (pc := 124) (v := 0) hx hb dL_isInOrder_124 (by decide) ?_
                        refine lv_istore_n (pc := 125) (lv' := [(2, .int 0), (5, .long 0), (4, .int r32), (0, .ref (b 0 0)), (1, .ref ak), (3, .int v15_3)]) hx hb dL_isInOrder_125 rfl hl (by decide) rfl (fun ls hl => ?_)
                        exact B126 r32 v15_3 (20 * n + 42) (120 * n + 252) (f_L_isInOrder_b15 h kn n) ih 0 _ _ _ (by omega) (by omega) (lv_sub hl [3, 4, 0, 5, 2] rfl) _ _ hP hD hS hf
                      · have hf := (if_pos c14).symm.trans hf
                        refine lv_iconst (pc := 120) (v := 1) hx hb dL_isInOrder_120 (by decide) ?_
                        refine lv_goto (pc := 121) (tgt := 125) hx hb dL_isInOrder_121 (by decide) ?_
                        refine lv_istore_n (pc := 125) (lv' := [(2, .int 1), (5, .long 0), (4, .int r32), (0, .ref (b 0 0)), (1, .ref ak), (3, .int v15_3)]) hx hb dL_isInOrder_125 rfl hl (by decide) rfl (fun ls hl => ?_)
                        exact B126 r32 v15_3 (20 * n + 42) (120 * n + 252) (f_L_isInOrder_b15 h kn n) ih 1 _ _ _ (by omega) (by omega) (lv_sub hl [3, 4, 0, 5, 2] rfl) _ _ hP hD hS hf
  rw [f_L_isInOrder] at hf
  refine lv_aload_n (pc := 0) hx hb dL_isInOrder_0 rfl (lv_at hl 0 rfl) ?_
  obtain ⟨r1, h_1, hf⟩ := bd hf
  refine ro_V (pc := 1) (C := RX6) (As := []) (rest := []) (st1 := [.int r1]) ⟨hx, hb, hml, hown, hts⟩ (c_X6_balance Z l b h r1 h_1 ) (cwV 0 hts gL_isInOrder_X6_balance rfl rfl rfl hv_X6_balance ⟨Nat.le_of_ble_eq_true rfl, Nat.le_of_ble_eq_true rfl⟩) hK hE (hP.sub (ws' := wH Z b h) (List.range' 0 40) (fmm (bl1 rfl))) 6 rfl rfl rfl hl.1 rfl (lv_room (Nat.le_of_ble_eq_true rfl)) dL_isInOrder_1 ⟨(show 0 ≤ 542 by omega), (show 0 ≤ 3252 by omega)⟩ rfl ?_
  refine lv_if_ne (pc := 4) (tgt := 11) hx hb dL_isInOrder_4 (by decide) (fun c1 => ?_) (fun c1 => ?_)
  · have hf := (if_neg c1).symm.trans hf
    refine lv_iconst (pc := 11) (v := 0) hx hb dL_isInOrder_11 (by decide) ?_
    refine lv_istore_n (pc := 12) (lv' := [(2, .int 0), (0, .ref (b 0 0)), (1, .ref ak)]) hx hb dL_isInOrder_12 rfl hl (by decide) rfl (fun ls hl => ?_)
    refine lv_iconst (pc := 13) (v := 0) hx hb dL_isInOrder_13 (by decide) ?_
    refine lv_istore_n (pc := 14) (lv' := [(3, .int 0), (2, .int 0), (0, .ref (b 0 0)), (1, .ref ak)]) hx hb dL_isInOrder_14 rfl hl (by decide) rfl (fun ls hl => ?_)
    exact B15 25 0 0 _ _ _ (by omega) (by omega) (lv_sub hl [2, 3, 1, 0] rfl) _ _ hP hD hS hf
  · have hf := (if_pos c1).symm.trans hf
    refine lv_iconst (pc := 7) (v := 1) hx hb dL_isInOrder_7 (by decide) ?_
    refine lv_goto (pc := 8) (tgt := 12) hx hb dL_isInOrder_8 (by decide) ?_
    refine lv_istore_n (pc := 12) (lv' := [(2, .int 1), (0, .ref (b 0 0)), (1, .ref ak)]) hx hb dL_isInOrder_12 rfl hl (by decide) rfl (fun ls hl => ?_)
    refine lv_iconst (pc := 13) (v := 0) hx hb dL_isInOrder_13 (by decide) ?_
    refine lv_istore_n (pc := 14) (lv' := [(3, .int 0), (2, .int 1), (0, .ref (b 0 0)), (1, .ref ak)]) hx hb dL_isInOrder_14 rfl hl (by decide) rfl (fun ls hl => ?_)
    exact B15 25 1 0 _ _ _ (by omega) (by omega) (lv_sub hl [2, 3, 1, 0] rfl) _ _ hP hD hS hf
