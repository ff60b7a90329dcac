set_option maxHeartbeats 8000000 in
set_option maxRecDepth 100000 in
theorem whole_start {p : Program} {e : Env} {s : State} {m : MethodId} {below : List Frame} {meth : Method} {c : Code} (l : Launch) (hflags : l.flags = flags0) {b L : Nat} {xs : Nat → Int32} (hL : L ≤ 260) (C0 : lw_At p s m meth c b L xs) : W p l e room_1 s m #[Value.ref b] below meth c s.heap [] 0 0 (lw_Z below #[Value.ref b] s) (entryFrame m ([Value.ref b] : List Value).toArray 11) := by
  have hst : l.stackTraces = false := by unfold Launch.stackTraces; rw [hflags]; decide
  obtain ⟨hx, hb, hr, hml, hown, hts, hX, hbl, hlocks, hgv⟩ := id C0
  have hown : s.vm.findClass RL = some m.cls := hown
  have htsL : ∀ w ∈ wsL_law, w.before #[Value.ref b] s = true := fun w h9 => hts w (wsL_law_in w h9)
  have hA : ∀ q : Nat, s.heap.size ≤ q → (fun q : Nat => s.heap.size ≤ q) q := fun _ h => h
  obtain ⟨Z, hK, hE⟩ := ht_env hts hgv
  have hZ := ht_zq hts hgv
  obtain ⟨R5, hf5, hlaw⟩ := law_true xs L hL
  have hS : va_S (fun q : Nat => s.heap.size ≤ q) s.heap s.heap [] := va_S.rf
  have hP : va_P Z.1 vwCl [] s.heap := fun k q h => by simp at h
  have hD : va_D (fun q : Nat => s.heap.size ≤ q) [] := ⟨fun i j p q h => by simp at h, fun k q h => by simp at h⟩
  have hl := lv_entry ([.ref b]) (n := 11) (Nat.le_of_ble_eq_true rfl)
  rw [lg_entry_eq]
  generalize (lg_sl ([.ref b]) ++ List.replicate (11 - (lg_sl ([.ref b])).length) Slot.unset).toArray = ls at hl ⊢
  have hl : lv_has ls 11 [(0, .ref b)] := hl
  refine va_new (pc := 0) (D := Z.1) (ci := 6) (fs := [.null, .null, .null, .null, .null, .null, .null, .int 0, .long 0]) (C := RX6) (T := TX6) (N := 9) hx hb hts inX6 tyX6 tyX6_ok hown (hts (.classLink RL 9 RX6) (List.mem_append_right _ (List.mem_of_getElem? (i := 15) (by decide +kernel)))) (hts (.instantiable RX6 9) (List.mem_append_right _ (List.mem_of_getElem? (i := 16) (by decide +kernel)))) (hts (.initialized RX6) (List.mem_append_right _ (List.mem_of_getElem? (i := 1) (by decide +kernel)))) hK hP hD hS hA rfl (fun j hj => by rcases (show j = 0 ∨ j = 1 ∨ j = 2 ∨ j = 3 ∨ j = 4 ∨ j = 5 ∨ j = 6 ∨ j = 7 ∨ j = 8 by omega) with rfl | rfl | rfl | rfl | rfl | rfl | rfl | rfl | rfl <;> rfl) (Nat.le_of_ble_eq_true rfl) (Nat.le_of_ble_eq_true rfl) dL_law_0 (fun q0 H hP hD hS => ?_)
  have hP : va_P Z.1 vwCl ([(q0, .inr (6, [.null, .null, .null, .null, .null, .null, .null, .int 0, .long 0]))]) H := hP
  have hD : va_D (fun q : Nat => s.heap.size ≤ q) ([(q0, .inr (6, [.null, .null, .null, .null, .null, .null, .null, .int 0, .long 0]))]) := hD
  refine W.widen (k := 1) (n := 9) (Nat.le_of_ble_eq_true rfl) (Nat.le_of_ble_eq_true rfl) ?_
  refine lv_dup (pc := 3) hx hb dL_law_3 rfl ?_
  refine rw_I (pc := 4) (As := []) (rest := [.ref q0]) (wn := fun qf4 => wH Z (bb q0 qf4) (hu (fun _ => z0) 3 R5)) ⟨hx, hb, hml, hown, htsL⟩ (c_X6_init Z l q0 R5 hf5) (cwI 0 htsL gL_law_X6_init rfl rfl rfl (hts (.initialized RX6) (List.mem_append_right _ (List.mem_of_getElem? (i := 1) (by decide +kernel)))) (hts (.methodLink RL 107 yX6_init) (List.mem_append_right _ (List.mem_of_getElem? (i := 17) (by decide +kernel)))) (hts (.instanceMethod yX6_init) (List.mem_append_right _ (List.mem_of_getElem? (i := 18) (by decide +kernel)))) rfl hs_X6_init ⟨Nat.le_of_ble_eq_true rfl, Nat.le_of_ble_eq_true rfl⟩) hK hE hP hD hS hA [0] [] [0, 1, 2, 3, 4, 5, 6, 7, 8, 9, 10, 11, 12, 13, 14, 15, 16, 17, 18, 19, 20, 21, 22, 23, 24, 25, 26, 27, 28, 29, 30, 31, 32, 33, 34, 35, 36, 37, 38, 39] rfl rfl rfl (fun _ => rfl) rfl hl.1 rfl (lv_room (Nat.le_of_ble_eq_true rfl)) dL_law_4 ⟨Nat.le_of_ble_eq_true rfl, Nat.le_of_ble_eq_true rfl⟩ (fun qf4 H locs hP hD hS => ?_)
  refine W.widen (k := 40) (n := 2253) (Nat.le_of_ble_eq_true rfl) (Nat.le_of_ble_eq_true rfl) ?_
  refine lv_astore_n (pc := 7) (lv' := [(1, .ref q0), (0, .ref b)]) hx hb dL_law_7 rfl hl (by decide) rfl (fun ls hl => ?_)
  refine va_new (pc := 8) (D := Z.1) (ci := 6) (fs := [.null, .null, .null, .null, .null, .null, .null, .int 0, .long 0]) (C := RX6) (T := TX6) (N := 9) hx hb hts inX6 tyX6 tyX6_ok hown (hts (.classLink RL 9 RX6) (List.mem_append_right _ (List.mem_of_getElem? (i := 15) (by decide +kernel)))) (hts (.instantiable RX6 9) (List.mem_append_right _ (List.mem_of_getElem? (i := 16) (by decide +kernel)))) (hts (.initialized RX6) (List.mem_append_right _ (List.mem_of_getElem? (i := 1) (by decide +kernel)))) hK hP hD hS hA rfl (fun j hj => by rcases (show j = 0 ∨ j = 1 ∨ j = 2 ∨ j = 3 ∨ j = 4 ∨ j = 5 ∨ j = 6 ∨ j = 7 ∨ j = 8 by omega) with rfl | rfl | rfl | rfl | rfl | rfl | rfl | rfl | rfl <;> rfl) (Nat.le_of_ble_eq_true rfl) (Nat.le_of_ble_eq_true rfl) dL_law_8 (fun q8 H hP hD hS => ?_)
  have hP : va_P Z.1 vwCl (wH Z (bb q0 qf4) (hu (fun _ => z0) 3 R5) ++ [(q8, .inr (6, [.null, .null, .null, .null, .null, .null, .null, .int 0, .long 0]))]) H := hP
  have hD : va_D (fun q : Nat => s.heap.size ≤ q) (wH Z (bb q0 qf4) (hu (fun _ => z0) 3 R5) ++ [(q8, .inr (6, [.null, .null, .null, .null, .null, .null, .null, .int 0, .long 0]))]) := hD
  refine W.widen (k := 41) (n := 2262) (Nat.le_of_ble_eq_true rfl) (Nat.le_of_ble_eq_true rfl) ?_
  refine lv_dup (pc := 11) hx hb dL_law_11 rfl ?_
  refine rw_I (pc := 12) (As := []) (rest := [.ref q8]) (wn := fun qf12 => wH Z (bb q0 qf4) (hu (fun _ => z0) 3 R5) ++ wH Z (bb q8 qf12) (hu (fun _ => z0) 3 R5)) ⟨hx, hb, hml, hown, htsL⟩ (c_X6_init Z l q8 R5 hf5) (cwI 0 htsL gL_law_X6_init rfl rfl rfl (hts (.initialized RX6) (List.mem_append_right _ (List.mem_of_getElem? (i := 1) (by decide +kernel)))) (hts (.methodLink RL 107 yX6_init) (List.mem_append_right _ (List.mem_of_getElem? (i := 17) (by decide +kernel)))) (hts (.instanceMethod yX6_init) (List.mem_append_right _ (List.mem_of_getElem? (i := 18) (by decide +kernel)))) rfl hs_X6_init ⟨Nat.le_of_ble_eq_true rfl, Nat.le_of_ble_eq_true rfl⟩) hK hE hP hD hS hA [40] [0, 1, 2, 3, 4, 5, 6, 7, 8, 9, 10, 11, 12, 13, 14, 15, 16, 17, 18, 19, 20, 21, 22, 23, 24, 25, 26, 27, 28, 29, 30, 31, 32, 33, 34, 35, 36, 37, 38, 39] [0, 1, 2, 3, 4, 5, 6, 7, 8, 9, 10, 11, 12, 13, 14, 15, 16, 17, 18, 19, 20, 21, 22, 23, 24, 25, 26, 27, 28, 29, 30, 31, 32, 33, 34, 35, 36, 37, 38, 39, 40, 41, 42, 43, 44, 45, 46, 47, 48, 49, 50, 51, 52, 53, 54, 55, 56, 57, 58, 59, 60, 61, 62, 63, 64, 65, 66, 67, 68, 69, 70, 71, 72, 73, 74, 75, 76, 77, 78, 79] rfl rfl rfl (fun _ => rfl) rfl hl.1 rfl (lv_room (Nat.le_of_ble_eq_true rfl)) dL_law_12 ⟨Nat.le_of_ble_eq_true rfl, Nat.le_of_ble_eq_true rfl⟩ (fun qf12 H locs hP hD hS => ?_)
  refine W.widen (k := 80) (n := 4506) (Nat.le_of_ble_eq_true rfl) (Nat.le_of_ble_eq_true rfl) ?_
  refine lv_astore_n (pc := 15) (lv' := [(2, .ref q8), (1, .ref q0), (0, .ref b)]) hx hb dL_law_15 rfl hl (by decide) rfl (fun ls hl => ?_)
  refine lv_bipush (pc := 16) (v := 12) hx hb dL_law_16 (by decide) ?_
  refine nwI (pc := 18) (N := 12) hx hb (hts (.arrayClass .int) (List.mem_append_right _ (List.mem_of_getElem? (i := 71) (by decide +kernel)))) hK hP hD hS hA (by decide) (by decide) (Nat.le_of_ble_eq_true rfl) (Nat.le_of_ble_eq_true rfl) (Nat.le_of_ble_eq_true rfl) dL_law_18 (fun q18 H hP hD hS => ?_)
  have hP : va_P Z.1 vwCl (wH Z (bb q0 qf4) (hu (fun _ => z0) 3 R5) ++ (wH Z (bb q8 qf12) (hu (fun _ => z0) 3 R5) ++ wK Z q18 (fun _ => 0))) H := hP
  have hD : va_D (fun q : Nat => s.heap.size ≤ q) (wH Z (bb q0 qf4) (hu (fun _ => z0) 3 R5) ++ (wH Z (bb q8 qf12) (hu (fun _ => z0) 3 R5) ++ wK Z q18 (fun _ => 0))) := hD
  refine lv_astore_n (pc := 20) (lv' := [(3, .ref q18), (2, .ref q8), (1, .ref q0), (0, .ref b)]) hx hb dL_law_20 rfl hl (by decide) rfl (fun ls hl => ?_)
  refine lv_iconst (pc := 21) (v := 1) hx hb dL_law_21 (by decide) ?_
  refine lv_istore (pc := 22) (lv' := [(4, .int 1), (3, .ref q18), (2, .ref q8), (1, .ref q0), (0, .ref b)]) hx hb dL_law_22 hl (by decide) rfl (fun ls hl => ?_)
  refine lv_iconst (pc := 24) (v := 0) hx hb dL_law_24 (by decide) ?_
  refine lv_istore (pc := 25) (lv' := [(5, .int 0), (4, .int 1), (3, .ref q18), (2, .ref q8), (1, .ref q0), (0, .ref b)]) hx hb dL_law_25 hl (by decide) rfl (fun ls hl => ?_)
  refine lv_iconst (pc := 27) (v := 0) hx hb dL_law_27 (by decide) ?_
  refine lv_istore (pc := 28) (lv' := [(6, .int 0), (5, .int 0), (4, .int 1), (3, .ref q18), (2, .ref q8), (1, .ref q0), (0, .ref b)]) hx hb dL_law_28 hl (by decide) rfl (fun ls hl => ?_)
  exact law_go hst C0 hK hE hZ (bb q0 qf4) (bb q8 qf12) q18 (hu (fun _ => z0) 3 R5) (hu (fun _ => z0) 3 R5) (fun _ => 0) 81 4518 (Nat.le_of_ble_eq_true rfl) (Nat.le_of_ble_eq_true rfl) ls (lv_sub hl [6, 5, 4, 3, 2, 1, 0] rfl) H _ hP hD hS hlaw
