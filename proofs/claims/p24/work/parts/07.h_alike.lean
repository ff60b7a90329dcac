set_option maxHeartbeats 16000000 in
set_option maxRecDepth 100000 in
theorem c_L_areAlike (Z : EnvT) (l : Launch) (hst : l.stackTraces = false) (b : Nat → Nat → Nat) (b2 : Nat → Nat → Nat) (h : Nat → ObS) (g : Nat → ObS) (x1 : Int32) (R : Int32) (hf : f_L_areAlike h g x1 = some R) : WR Z l yL_areAlike wsL_areAlike { frames := 10, cells := 1600, slots := 9600, locals := 212 } [.ref (b 0 0), .ref (b2 0 0), .int x1] (wH Z b h ++ wH Z b2 g) (some (.int R)) (fun _ => wH Z b h ++ wH Z b2 g) 1600 9600 := by
  refine wr_ofP (cc := cL_areAlike) (maxL := 6) (ret := (some .boolean)) (by decide) rfl (Nat.le_of_ble_eq_true rfl) ?_
  intro p e s m below meth c A ls hx hb hr hml hts hown hlk hP hK hE hD hA hS hZ hl
  have hown : s.vm.findClass RL = some m.cls := hown
  have hl : lv_has ls 6 [(0, .ref (b 0 0)), (1, .ref (b2 0 0)), (2, .int x1)] := hl
  have B45 : ∀ (v31_4 : Int32) (KC KS : Nat) (k : Int32 → Int32 → Option Int32) (hk : ∀ (v31_3 : Int32) (v31_4 : Int32) (CC SS : Nat) (ls : Array Slot), CC + KC ≤ 1600 → SS + KS ≤ 9600 → lv_has ls 6 [(0, .ref (b 0 0)), (1, .ref (b2 0 0)), (2, .int x1), (3, .int v31_3), (4, .int v31_4)] → ∀ (H : Heap) (locs : List Loc), va_P Z.1 vwCl (wH Z b h ++ wH Z b2 g) H → va_D A (wH Z b h ++ wH Z b2 g) → va_S A s.heap H locs → k v31_3 v31_4 = some R → W p l e { frames := 10, cells := 1600, slots := 9600, locals := 212 } s m ([.ref (b 0 0), .ref (b2 0 0), .int x1] : List Value).toArray below meth c H locs CC SS (vx_MQ below (rwQ Z (some (.int R)) (fun _ => wH Z b h ++ wH Z b2 g) A) (fun _ _ _ => False) ([.ref (b 0 0), .ref (b2 0 0), .int x1] : List Value).toArray s 1600 9600 A) (F0 m 31 ls [])) (n : Nat), ∀ (v45_5 : Int32) (v45_3 : Int32) (CC SS : Nat) (ls : Array Slot), CC + (12 * n + 4 + KC) ≤ 1600 → SS + (72 * n + 24 + KS) ≤ 9600 → lv_has ls 6 [(0, .ref (b 0 0)), (1, .ref (b2 0 0)), (2, .int x1), (3, .int v45_3), (4, .int v31_4), (5, .int v45_5)] → ∀ (H : Heap) (locs : List Loc), va_P Z.1 vwCl (wH Z b h ++ wH Z b2 g) H → va_D A (wH Z b h ++ wH Z b2 g) → va_S A s.heap H locs → f_L_areAlike_b45 k h g x1 v31_4 n v45_5 v45_3 = some R → W p l e { frames := 10, cells := 1600, slots := 9600, locals := 212 } s m ([.ref (b 0 0), .ref (b2 0 0), .int x1] : List Value).toArray below meth c H locs CC SS (vx_MQ below (rwQ Z (some (.int R)) (fun _ => wH Z b h ++ wH Z b2 g) A) (fun _ _ _ => False) ([.ref (b 0 0), .ref (b2 0 0), .int x1] : List Value).toArray s 1600 9600 A) (F0 m 45 ls []) := by
    intro v31_4 KC KS k hk
    intro n
    induction n with
    | zero => intro v45_5 v45_3 CC SS ls hCC hSS hl H locs hP hD hS hf; rw [f_L_areAlike_b45] at hf; exact nomatch hf
    | succ n ih =>
      intro v45_5 v45_3 CC SS ls hCC hSS hl H locs hP hD hS hf
      rw [f_L_areAlike_b45] at hf
      refine lv_iload (pc := 45) hx hb dL_areAlike_45 (lv_at hl 5 rfl) ?_
      refine lv_iconst (pc := 47) (v := 4) hx hb dL_areAlike_47 (by decide) ?_
      refine lv_icmp_ge (pc := 48) (tgt := 152) hx hb dL_areAlike_48 (by decide) (fun c1 => ?_) (fun c1 => ?_)
      · have hf := (if_pos c1).symm.trans hf
        refine lv_iload_n (pc := 152) hx hb dL_areAlike_152 rfl (lv_at hl 3 rfl) ?_
        refine lv_if_eq (pc := 153) (tgt := 195) hx hb dL_areAlike_153 (by decide) (fun c2 => ?_) (fun c2 => ?_)
        · have hf := (if_pos c2).symm.trans hf
          refine lv_iconst (pc := 195) (v := 0) hx hb dL_areAlike_195 (by decide) ?_
          refine lv_istore_n (pc := 196) (lv' := [(3, .int 0), (0, .ref (b 0 0)), (1, .ref (b2 0 0)), (2, .int x1), (4, .int v31_4), (5, .int v45_5)]) hx hb dL_areAlike_196 rfl hl (by decide) rfl (fun ls hl => ?_)
          refine lv_iinc (pc := 197) (v := v31_4 + 1) (lv' := [(4, .int (v31_4 + 1)), (3, .int 0), (0, .ref (b 0 0)), (1, .ref (b2 0 0)), (2, .int x1), (5, .int v45_5)]) hx hb dL_areAlike_197 hl (k := 4) rfl rfl (by decide) rfl (fun ls hl => ?_)
          refine lv_goto (pc := 200) (tgt := 31) hx hb dL_areAlike_200 (by decide) ?_
          exact hk 0 (v31_4 + 1) _ _ _ (by omega) (by omega) (lv_sub hl [2, 3, 4, 1, 0] rfl) _ _ hP hD hS hf
        · have hf := (if_neg c2).symm.trans hf
          refine lv_aload_n (pc := 156) hx hb dL_areAlike_156 rfl (lv_at hl 0 rfl) ?_
          refine lv_bipush (pc := 157) (v := 15) hx hb dL_areAlike_157 (by decide) ?_
          refine lv_iload (pc := 159) hx hb dL_areAlike_159 (lv_at hl 4 rfl) ?_
          refine lv_iload_n (pc := 161) hx hb dL_areAlike_161 rfl (lv_at hl 2 rfl) ?_
          refine lv_bipush (pc := 162) (v := 90) hx hb dL_areAlike_162 (by decide) ?_
          refine ro_S (pc := 164) (As := [.int x1, .int 90]) (rest := [.int v31_4, .int 15, .ref (b 0 0)]) (st1 := [.int (lw x1 90), .int v31_4, .int 15, .ref (b 0 0)]) ⟨hx, hb, hml, hown, hts⟩ (c_L_low Z l x1 90 (by decide)) (va_cwS 2 hts gL_areAlike_L_low rfl rfl rfl hs_L_low ⟨Nat.le_of_ble_eq_true rfl, Nat.le_of_ble_eq_true rfl⟩) hK hE (hP.sub (ws' := []) [] rfl) rfl hl.1 rfl (lv_room (Nat.le_of_ble_eq_true rfl)) dL_areAlike_164 ⟨(show CC + 0 ≤ 1600 by omega), (show SS + 0 ≤ 9600 by omega)⟩ rfl ?_
          refine lv_iconst (pc := 167) (v := 0) hx hb dL_areAlike_167 (by decide) ?_
          refine lv_iconst (pc := 168) (v := 0) hx hb dL_areAlike_168 (by decide) ?_
          obtain ⟨r169, h_169, hf⟩ := bd hf
          refine wr_S (pc := 169) (As := [.ref (b 0 0), .int 15, .int v31_4, .int (lw x1 90), .int 0, .int 0]) (rest := []) (st1 := [.int r169]) (wn := fun _ => wH Z b h ++ wH Z b2 g) ⟨hx, hb, hml, hown, hts⟩ (c_L_does_15 Z l hst b h v31_4 (lw x1 90) 0 0 r169 h_169) (vx_cwSW 6 hts gL_areAlike_L_does rfl rfl rfl hs_L_does ⟨Nat.le_of_ble_eq_true rfl, Nat.le_of_ble_eq_true rfl⟩) hK hE hP hD hS hA hZ (List.range' 0 40) (List.range' 40 40) (List.range' 40 40 ++ List.range' 0 40) (by decide +kernel) (bl1 rfl) (tR1 rfl rfl) (fun _ => tN1 rfl rfl rfl) rfl hl.1 rfl (lv_room (Nat.le_of_ble_eq_true rfl)) dL_areAlike_169 ⟨(show CC + 0 + 2 ≤ 1600 by omega), (show SS + 0 + 12 ≤ 9600 by omega)⟩ rfl (fun _ H locs hP hD hS => ?_)
          refine lv_aload_n (pc := 172) hx hb dL_areAlike_172 rfl (lv_at hl 1 rfl) ?_
          refine lv_bipush (pc := 173) (v := 15) hx hb dL_areAlike_173 (by decide) ?_
          refine lv_iload (pc := 175) hx hb dL_areAlike_175 (lv_at hl 4 rfl) ?_
          refine lv_iload_n (pc := 177) hx hb dL_areAlike_177 rfl (lv_at hl 2 rfl) ?_
          refine lv_bipush (pc := 178) (v := 90) hx hb dL_areAlike_178 (by decide) ?_
          refine ro_S (pc := 180) (As := [.int x1, .int 90]) (rest := [.int v31_4, .int 15, .ref (b2 0 0), .int r169]) (st1 := [.int (lw x1 90), .int v31_4, .int 15, .ref (b2 0 0), .int r169]) ⟨hx, hb, hml, hown, hts⟩ (c_L_low Z l x1 90 (by decide)) (va_cwS 2 hts gL_areAlike_L_low rfl rfl rfl hs_L_low ⟨Nat.le_of_ble_eq_true rfl, Nat.le_of_ble_eq_true rfl⟩) hK hE (hP.sub (ws' := []) [] rfl) rfl hl.1 rfl (lv_room (Nat.le_of_ble_eq_true rfl)) dL_areAlike_180 ⟨(show CC + 2 ≤ 1600 by omega), (show SS + 12 ≤ 9600 by omega)⟩ rfl ?_
          refine lv_iconst (pc := 183) (v := 0) hx hb dL_areAlike_183 (by decide) ?_
          refine lv_iconst (pc := 184) (v := 0) hx hb dL_areAlike_184 (by decide) ?_
          obtain ⟨r185, h_185, hf⟩ := bd hf
          refine wr_S (pc := 185) (As := [.ref (b2 0 0), .int 15, .int v31_4, .int (lw x1 90), .int 0, .int 0]) (rest := [.int r169]) (st1 := [.int r185, .int r169]) (wn := fun _ => wH Z b h ++ wH Z b2 g) ⟨hx, hb, hml, hown, hts⟩ (c_L_does_15 Z l hst b2 g v31_4 (lw x1 90) 0 0 r185 h_185) (vx_cwSW 6 hts gL_areAlike_L_does rfl rfl rfl hs_L_does ⟨Nat.le_of_ble_eq_true rfl, Nat.le_of_ble_eq_true rfl⟩) hK hE hP hD hS hA hZ (List.range' 40 40) (List.range' 0 40) (List.range' 0 (40 + 40)) (by decide +kernel) (bY rfl rfl) (tR2 rfl) (fun _ => tN2 rfl rfl) rfl hl.1 rfl (lv_room (Nat.le_of_ble_eq_true rfl)) dL_areAlike_185 ⟨(show CC + 2 + 2 ≤ 1600 by omega), (show SS + 12 + 12 ≤ 9600 by omega)⟩ rfl (fun _ H locs hP hD hS => ?_)
          refine lv_icmp_ne (pc := 188) (tgt := 195) hx hb dL_areAlike_188 (by decide) (fun c3 => ?_) (fun c3 => ?_)
          · have hf := (if_neg c3).symm.trans hf
            refine lv_iconst (pc := 195) (v := 0) hx hb dL_areAlike_195 (by decide) ?_
            refine lv_istore_n (pc := 196) (lv' := [(3, .int 0), (0, .ref (b 0 0)), (1, .ref (b2 0 0)), (2, .int x1), (4, .int v31_4), (5, .int v45_5)]) hx hb dL_areAlike_196 rfl hl (by decide) rfl (fun ls hl => ?_)
            refine lv_iinc (pc := 197) (v := v31_4 + 1) (lv' := [(4, .int (v31_4 + 1)), (3, .int 0), (0, .ref (b 0 0)), (1, .ref (b2 0 0)), (2, .int x1), (5, .int v45_5)]) hx hb dL_areAlike_197 hl (k := 4) rfl rfl (by decide) rfl (fun ls hl => ?_)
            refine lv_goto (pc := 200) (tgt := 31) hx hb dL_areAlike_200 (by decide) ?_
            exact hk 0 (v31_4 + 1) _ _ _ (by omega) (by omega) (lv_sub hl [2, 3, 4, 1, 0] rfl) _ _ hP hD hS hf
          · have hf := (if_pos c3).symm.trans hf
            refine lv_iconst (pc := 191) (v := 1) hx hb dL_areAlike_191 (by decide) ?_
            refine lv_goto (pc := 192) (tgt := 196) hx hb dL_areAlike_192 (by decide) ?_
            refine lv_istore_n (pc := 196) (lv' := [(3, .int 1), (0, .ref (b 0 0)), (1, .ref (b2 0 0)), (2, .int x1), (4, .int v31_4), (5, .int v45_5)]) hx hb dL_areAlike_196 rfl hl (by decide) rfl (fun ls hl => ?_)
            refine lv_iinc (pc := 197) (v := v31_4 + 1) (lv' := [(4, .int (v31_4 + 1)), (3, .int 1), (0, .ref (b 0 0)), (1, .ref (b2 0 0)), (2, .int x1), (5, .int v45_5)]) hx hb dL_areAlike_197 hl (k := 4) rfl rfl (by decide) rfl (fun ls hl => ?_)
            refine lv_goto (pc := 200) (tgt := 31) hx hb dL_areAlike_200 (by decide) ?_
            exact hk 1 (v31_4 + 1) _ _ _ (by omega) (by omega) (lv_sub hl [2, 3, 4, 1, 0] rfl) _ _ hP hD hS hf
      · have hf := (if_neg c1).symm.trans hf
        refine lv_iload_n (pc := 51) hx hb dL_areAlike_51 rfl (lv_at hl 3 rfl) ?_
        refine lv_if_eq (pc := 52) (tgt := 152) hx hb dL_areAlike_52 (by decide) (fun c4 => ?_) (fun c4 => ?_)
        · have hf := (if_pos c4).symm.trans hf
          refine lv_iload_n (pc := 152) hx hb dL_areAlike_152 rfl (lv_at hl 3 rfl) ?_
          refine lv_if_eq (pc := 153) (tgt := 195) hx hb dL_areAlike_153 (by decide) (fun c5 => ?_) (fun c5 => ?_)
          · have hf := (if_pos c5).symm.trans hf
            refine lv_iconst (pc := 195) (v := 0) hx hb dL_areAlike_195 (by decide) ?_
            refine lv_istore_n (pc := 196) (lv' := [(3, .int 0), (0, .ref (b 0 0)), (1, .ref (b2 0 0)), (2, .int x1), (4, .int v31_4), (5, .int v45_5)]) hx hb dL_areAlike_196 rfl hl (by decide) rfl (fun ls hl => ?_)
            refine lv_iinc (pc := 197) (v := v31_4 + 1) (lv' := [(4, .int (v31_4 + 1)), (3, .int 0), (0, .ref (b 0 0)), (1, .ref (b2 0 0)), (2, .int x1), (5, .int v45_5)]) hx hb dL_areAlike_197 hl (k := 4) rfl rfl (by decide) rfl (fun ls hl => ?_)
            refine lv_goto (pc := 200) (tgt := 31) hx hb dL_areAlike_200 (by decide) ?_
            exact hk 0 (v31_4 + 1) _ _ _ (by omega) (by omega) (lv_sub hl [2, 3, 4, 1, 0] rfl) _ _ hP hD hS hf
          · have hf := (if_neg c5).symm.trans hf
            refine lv_aload_n (pc := 156) hx hb dL_areAlike_156 rfl (lv_at hl 0 rfl) ?_
            refine lv_bipush (pc := 157) (v := 15) hx hb dL_areAlike_157 (by decide) ?_
            refine lv_iload (pc := 159) hx hb dL_areAlike_159 (lv_at hl 4 rfl) ?_
            refine lv_iload_n (pc := 161) hx hb dL_areAlike_161 rfl (lv_at hl 2 rfl) ?_
            refine lv_bipush (pc := 162) (v := 90) hx hb dL_areAlike_162 (by decide) ?_
            refine ro_S (pc := 164) (As := [.int x1, .int 90]) (rest := [.int v31_4, .int 15, .ref (b 0 0)]) (st1 := [.int (lw x1 90), .int v31_4, .int 15, .ref (b 0 0)]) ⟨hx, hb, hml, hown, hts⟩ (c_L_low Z l x1 90 (by decide)) (va_cwS 2 hts gL_areAlike_L_low rfl rfl rfl hs_L_low ⟨Nat.le_of_ble_eq_true rfl, Nat.le_of_ble_eq_true rfl⟩) hK hE (hP.sub (ws' := []) [] rfl) rfl hl.1 rfl (lv_room (Nat.le_of_ble_eq_true rfl)) dL_areAlike_164 ⟨(show CC + 0 ≤ 1600 by omega), (show SS + 0 ≤ 9600 by omega)⟩ rfl ?_
            refine lv_iconst (pc := 167) (v := 0) hx hb dL_areAlike_167 (by decide) ?_
            refine lv_iconst (pc := 168) (v := 0) hx hb dL_areAlike_168 (by decide) ?_
            obtain ⟨r169, h_169, hf⟩ := bd hf
            refine wr_S (pc := 169) (As := [.ref (b 0 0), .int 15, .int v31_4, .int (lw x1 90), .int 0, .int 0]) (rest := []) (st1 := [.int r169]) (wn := fun _ => wH Z b h ++ wH Z b2 g) ⟨hx, hb, hml, hown, hts⟩ (c_L_does_15 Z l hst b h v31_4 (lw x1 90) 0 0 r169 h_169) (vx_cwSW 6 hts gL_areAlike_L_does rfl rfl rfl hs_L_does ⟨Nat.le_of_ble_eq_true rfl, Nat.le_of_ble_eq_true rfl⟩) hK hE hP hD hS hA hZ (List.range' 0 40) (List.range' 40 40) (List.range' 40 40 ++ List.range' 0 40) (by decide +kernel) (bl1 rfl) (tR1 rfl rfl) (fun _ => tN1 rfl rfl rfl) rfl hl.1 rfl (lv_room (Nat.le_of_ble_eq_true rfl)) dL_areAlike_169 ⟨(show CC + 0 + 2 ≤ 1600 by omega), (show SS + 0 + 12 ≤ 9600 by omega)⟩ rfl (fun _ H locs hP hD hS => ?_)
            refine lv_aload_n (pc := 172) hx hb dL_areAlike_172 rfl (lv_at hl 1 rfl) ?_
            refine lv_bipush (pc := 173) (v := 15) hx hb dL_areAlike_173 (by decide) ?_
            refine lv_iload (pc := 175) hx hb dL_areAlike_175 (lv_at hl 4 rfl) ?_
            refine lv_iload_n (pc := 177) hx hb dL_areAlike_177 rfl (lv_at hl 2 rfl) ?_
            refine lv_bipush (pc := 178) (v := 90) hx hb dL_areAlike_178 (by decide) ?_
            refine ro_S (pc := 180) (As := [.int x1, .int 90]) (rest := [.int v31_4, .int 15, .ref (b2 0 0), .int r169]) (st1 := [.int (lw x1 90), .int v31_4, .int 15, .ref (b2 0 0), .int r169]) ⟨hx, hb, hml, hown, hts⟩ (c_L_low Z l x1 90 (by decide)) (va_cwS 2 hts gL_areAlike_L_low rfl rfl rfl hs_L_low ⟨Nat.le_of_ble_eq_true rfl, Nat.le_of_ble_eq_true rfl⟩) hK hE (hP.sub (ws' := []) [] rfl) rfl hl.1 rfl (lv_room (Nat.le_of_ble_eq_true rfl)) dL_areAlike_180 ⟨(show CC + 2 ≤ 1600 by omega), (show SS + 12 ≤ 9600 by omega)⟩ rfl ?_
            refine lv_iconst (pc := 183) (v := 0) hx hb dL_areAlike_183 (by decide) ?_
            refine lv_iconst (pc := 184) (v := 0) hx hb dL_areAlike_184 (by decide) ?_
            obtain ⟨r185, h_185, hf⟩ := bd hf
            refine wr_S (pc := 185) (As := [.ref (b2 0 0), .int 15, .int v31_4, .int (lw x1 90), .int 0, .int 0]) (rest := [.int r169]) (st1 := [.int r185, .int r169]) (wn := fun _ => wH Z b h ++ wH Z b2 g) ⟨hx, hb, hml, hown, hts⟩ (c_L_does_15 Z l hst b2 g v31_4 (lw x1 90) 0 0 r185 h_185) (vx_cwSW 6 hts gL_areAlike_L_does rfl rfl rfl hs_L_does ⟨Nat.le_of_ble_eq_true rfl, Nat.le_of_ble_eq_true rfl⟩) hK hE hP hD hS hA hZ (List.range' 40 40) (List.range' 0 40) (List.range' 0 (40 + 40)) (by decide +kernel) (bY rfl rfl) (tR2 rfl) (fun _ => tN2 rfl rfl) rfl hl.1 rfl (lv_room (Nat.le_of_ble_eq_true rfl)) dL_areAlike_185 ⟨(show CC + 2 + 2 ≤ 1600 by omega), (show SS + 12 + 12 ≤ 9600 by omega)⟩ rfl (fun _ H locs hP hD hS => ?_)
            refine lv_icmp_ne (pc := 188) (tgt := 195) hx hb dL_areAlike_188 (by decide) (fun c6 => ?_) (fun c6 => ?_)
            · have hf := (if_neg c6).symm.trans hf
              refine lv_iconst (pc := 195) (v := 0) hx hb dL_areAlike_195 (by decide) ?_
              refine lv_istore_n (pc := 196) (lv' := [(3, .int 0), (0, .ref (b 0 0)), (1, .ref (b2 0 0)), (2, .int x1), (4, .int v31_4), (5, .int v45_5)]) hx hb dL_areAlike_196 rfl hl (by decide) rfl (fun ls hl => ?_)
              refine lv_iinc (pc := 197) (v := v31_4 + 1) (lv' := [(4, .int (v31_4 + 1)), (3, .int 0), (0, .ref (b 0 0)), (1, .ref (b2 0 0)), (2, .int x1), (5, .int v45_5)]) hx hb dL_areAlike_197 hl (k := 4) rfl rfl (by decide) rfl (fun ls hl => ?_)
              refine lv_goto (pc := 200) (tgt := 31) hx hb dL_areAlike_200 (by decide) ?_
              exact hk 0 (v31_4 + 1) _ _ _ (by omega) (by omega) (lv_sub hl [2, 3, 4, 1, 0] rfl) _ _ hP hD hS hf
            · have hf := (if_pos c6).symm.trans hf
              refine lv_iconst (pc := 191) (v := 1) hx hb dL_areAlike_191 (by decide) ?_
              refine lv_goto (pc := 192) (tgt := 196) hx hb dL_areAlike_192 (by decide) ?_
              refine lv_istore_n (pc := 196) (lv' := [(3, .int 1), (0, .ref (b 0 0)), (1, .ref (b2 0 0)), (2, .int x1), (4, .int v31_4), (5, .int v45_5)]) hx hb dL_areAlike_196 rfl hl (by decide) rfl (fun ls hl => ?_)
              refine lv_iinc (pc := 197) (v := v31_4 + 1) (lv' := [(4, .int (v31_4 + 1)), (3, .int 1), (0, .ref (b 0 0)), (1, .ref (b2 0 0)), (2, .int x1), (5, .int v45_5)]) hx hb dL_areAlike_197 hl (k := 4) rfl rfl (by decide) rfl (fun ls hl => ?_)
              refine lv_goto (pc := 200) (tgt := 31) hx hb dL_areAlike_200 (by decide) ?_
              exact hk 1 (v31_4 + 1) _ _ _ (by omega) (by omega) (lv_sub hl [2, 3, 4, 1, 0] rfl) _ _ hP hD hS hf
        · have hf := (if_neg c4).symm.trans hf
          refine lv_aload_n (pc := 55) hx hb dL_areAlike_55 rfl (lv_at hl 0 rfl) ?_
          refine lv_bipush (pc := 56) (v := 12) hx hb dL_areAlike_56 (by decide) ?_
          refine lv_iload (pc := 58) hx hb dL_areAlike_58 (lv_at hl 4 rfl) ?_
          refine lv_iload (pc := 60) hx hb dL_areAlike_60 (lv_at hl 5 rfl) ?_
          refine lv_iconst (pc := 62) (v := 0) hx hb dL_areAlike_62 (by decide) ?_
          refine lv_iconst (pc := 63) (v := 0) hx hb dL_areAlike_63 (by decide) ?_
          obtain ⟨r64, h_64, hf⟩ := bd hf
          refine wr_S (pc := 64) (As := [.ref (b 0 0), .int 12, .int v31_4, .int v45_5, .int 0, .int 0]) (rest := []) (st1 := [.int r64]) (wn := fun _ => wH Z b h ++ wH Z b2 g) ⟨hx, hb, hml, hown, hts⟩ (c_L_does_12 Z l hst b h v31_4 v45_5 0 0 r64 h_64) (vx_cwSW 6 hts gL_areAlike_L_does rfl rfl rfl hs_L_does ⟨Nat.le_of_ble_eq_true rfl, Nat.le_of_ble_eq_true rfl⟩) hK hE hP hD hS hA hZ (List.range' 0 40) (List.range' 40 40) (List.range' 40 40 ++ List.range' 0 40) (by decide +kernel) (bl1 rfl) (tR1 rfl rfl) (fun _ => tN1 rfl rfl rfl) rfl hl.1 rfl (lv_room (Nat.le_of_ble_eq_true rfl)) dL_areAlike_64 ⟨(show CC + 0 + 2 ≤ 1600 by omega), (show SS + 0 + 12 ≤ 9600 by omega)⟩ rfl (fun _ H locs hP hD hS => ?_)
          refine lv_aload_n (pc := 67) hx hb dL_areAlike_67 rfl (lv_at hl 1 rfl) ?_
          refine lv_bipush (pc := 68) (v := 12) hx hb dL_areAlike_68 (by decide) ?_
          refine lv_iload (pc := 70) hx hb dL_areAlike_70 (lv_at hl 4 rfl) ?_
          refine lv_iload (pc := 72) hx hb dL_areAlike_72 (lv_at hl 5 rfl) ?_
          refine lv_iconst (pc := 74) (v := 0) hx hb dL_areAlike_74 (by decide) ?_
          refine lv_iconst (pc := 75) (v := 0) hx hb dL_areAlike_75 (by decide) ?_
          obtain ⟨r76, h_76, hf⟩ := bd hf
          refine wr_S (pc := 76) (As := [.ref (b2 0 0), .int 12, .int v31_4, .int v45_5, .int 0, .int 0]) (rest := [.int r64]) (st1 := [.int r76, .int r64]) (wn := fun _ => wH Z b h ++ wH Z b2 g) ⟨hx, hb, hml, hown, hts⟩ (c_L_does_12 Z l hst b2 g v31_4 v45_5 0 0 r76 h_76) (vx_cwSW 6 hts gL_areAlike_L_does rfl rfl rfl hs_L_does ⟨Nat.le_of_ble_eq_true rfl, Nat.le_of_ble_eq_true rfl⟩) hK hE hP hD hS hA hZ (List.range' 40 40) (List.range' 0 40) (List.range' 0 (40 + 40)) (by decide +kernel) (bY rfl rfl) (tR2 rfl) (fun _ => tN2 rfl rfl) rfl hl.1 rfl (lv_room (Nat.le_of_ble_eq_true rfl)) dL_areAlike_76 ⟨(show CC + 2 + 2 ≤ 1600 by omega), (show SS + 12 + 12 ≤ 9600 by omega)⟩ rfl (fun _ H locs hP hD hS => ?_)
          refine lv_icmp_ne (pc := 79) (tgt := 144) hx hb dL_areAlike_79 (by decide) (fun c7 => ?_) (fun c7 => ?_)
          · have hf := (if_neg c7).symm.trans hf
            refine lv_iconst (pc := 144) (v := 0) hx hb dL_areAlike_144 (by decide) ?_
            refine lv_istore_n (pc := 145) (lv' := [(3, .int 0), (0, .ref (b 0 0)), (1, .ref (b2 0 0)), (2, .int x1), (4, .int v31_4), (5, .int v45_5)]) hx hb dL_areAlike_145 rfl hl (by decide) rfl (fun ls hl => ?_)
            refine lv_iinc (pc := 146) (v := v45_5 + 1) (lv' := [(5, .int (v45_5 + 1)), (3, .int 0), (0, .ref (b 0 0)), (1, .ref (b2 0 0)), (2, .int x1), (4, .int v31_4)]) hx hb dL_areAlike_146 hl (k := 5) rfl rfl (by decide) rfl (fun ls hl => ?_)
            refine lv_goto (pc := 149) (tgt := 45) hx hb dL_areAlike_149 (by decide) ?_
            exact ih (v45_5 + 1) 0 _ _ _ (by omega) (by omega) (lv_sub hl [2, 3, 4, 1, 5, 0] rfl) _ _ hP hD hS hf
          · have hf := (if_pos c7).symm.trans hf
            refine lv_aload_n (pc := 82) hx hb dL_areAlike_82 rfl (lv_at hl 0 rfl) ?_
            refine lv_bipush (pc := 83) (v := 14) hx hb dL_areAlike_83 (by decide) ?_
            refine lv_iload (pc := 85) hx hb dL_areAlike_85 (lv_at hl 4 rfl) ?_
            refine lv_iload (pc := 87) hx hb dL_areAlike_87 (lv_at hl 5 rfl) ?_
            refine lv_iconst (pc := 89) (v := 0) hx hb dL_areAlike_89 (by decide) ?_
            refine lv_iconst (pc := 90) (v := 0) hx hb dL_areAlike_90 (by decide) ?_
            obtain ⟨r91, h_91, hf⟩ := bd hf
            refine wr_S (pc := 91) (As := [.ref (b 0 0), .int 14, .int v31_4, .int v45_5, .int 0, .int 0]) (rest := []) (st1 := [.int r91]) (wn := fun _ => wH Z b h ++ wH Z b2 g) ⟨hx, hb, hml, hown, hts⟩ (c_L_does_14 Z l hst b h v31_4 v45_5 0 0 r91 h_91) (vx_cwSW 6 hts gL_areAlike_L_does rfl rfl rfl hs_L_does ⟨Nat.le_of_ble_eq_true rfl, Nat.le_of_ble_eq_true rfl⟩) hK hE hP hD hS hA hZ (List.range' 0 40) (List.range' 40 40) (List.range' 40 40 ++ List.range' 0 40) (by decide +kernel) (bl1 rfl) (tR1 rfl rfl) (fun _ => tN1 rfl rfl rfl) rfl hl.1 rfl (lv_room (Nat.le_of_ble_eq_true rfl)) dL_areAlike_91 ⟨(show CC + 4 + 2 ≤ 1600 by omega), (show SS + 24 + 12 ≤ 9600 by omega)⟩ rfl (fun _ H locs hP hD hS => ?_)
            refine lv_aload_n (pc := 94) hx hb dL_areAlike_94 rfl (lv_at hl 1 rfl) ?_
            refine lv_bipush (pc := 95) (v := 14) hx hb dL_areAlike_95 (by decide) ?_
            refine lv_iload (pc := 97) hx hb dL_areAlike_97 (lv_at hl 4 rfl) ?_
            refine lv_iload (pc := 99) hx hb dL_areAlike_99 (lv_at hl 5 rfl) ?_
            refine lv_iconst (pc := 101) (v := 0) hx hb dL_areAlike_101 (by decide) ?_
            refine lv_iconst (pc := 102) (v := 0) hx hb dL_areAlike_102 (by decide) ?_
            obtain ⟨r103, h_103, hf⟩ := bd hf
            refine wr_S (pc := 103) (As := [.ref (b2 0 0), .int 14, .int v31_4, .int v45_5, .int 0, .int 0]) (rest := [.int r91]) (st1 := [.int r103, .int r91]) (wn := fun _ => wH Z b h ++ wH Z b2 g) ⟨hx, hb, hml, hown, hts⟩ (c_L_does_14 Z l hst b2 g v31_4 v45_5 0 0 r103 h_103) (vx_cwSW 6 hts gL_areAlike_L_does rfl rfl rfl hs_L_does ⟨Nat.le_of_ble_eq_true rfl, Nat.le_of_ble_eq_true rfl⟩) hK hE hP hD hS hA hZ (List.range' 40 40) (List.range' 0 40) (List.range' 0 (40 + 40)) (by decide +kernel) (bY rfl rfl) (tR2 rfl) (fun _ => tN2 rfl rfl) rfl hl.1 rfl (lv_room (Nat.le_of_ble_eq_true rfl)) dL_areAlike_103 ⟨(show CC + 6 + 2 ≤ 1600 by omega), (show SS + 36 + 12 ≤ 9600 by omega)⟩ rfl (fun _ H locs hP hD hS => ?_)
            refine lv_icmp_ne (pc := 106) (tgt := 144) hx hb dL_areAlike_106 (by decide) (fun c8 => ?_) (fun c8 => ?_)
            · have hf := (if_neg c8).symm.trans hf
              refine lv_iconst (pc := 144) (v := 0) hx hb dL_areAlike_144 (by decide) ?_
              refine lv_istore_n (pc := 145) (lv' := [(3, .int 0), (0, .ref (b 0 0)), (1, .ref (b2 0 0)), (2, .int x1), (4, .int v31_4), (5, .int v45_5)]) hx hb dL_areAlike_145 rfl hl (by decide) rfl (fun ls hl => ?_)
              refine lv_iinc (pc := 146) (v := v45_5 + 1) (lv' := [(5, .int (v45_5 + 1)), (3, .int 0), (0, .ref (b 0 0)), (1, .ref (b2 0 0)), (2, .int x1), (4, .int v31_4)]) hx hb dL_areAlike_146 hl (k := 5) rfl rfl (by decide) rfl (fun ls hl => ?_)
              refine lv_goto (pc := 149) (tgt := 45) hx hb dL_areAlike_149 (by decide) ?_
              exact ih (v45_5 + 1) 0 _ _ _ (by omega) (by omega) (lv_sub hl [2, 3, 4, 1, 5, 0] rfl) _ _ hP hD hS hf
            · have hf := (if_pos c8).symm.trans hf
              refine lv_aload_n (pc := 109) hx hb dL_areAlike_109 rfl (lv_at hl 0 rfl) ?_
              refine lv_bipush (pc := 110) (v := 13) hx hb dL_areAlike_110 (by decide) ?_
              refine lv_iload (pc := 112) hx hb dL_areAlike_112 (lv_at hl 4 rfl) ?_
              refine lv_iconst (pc := 114) (v := 2) hx hb dL_areAlike_114 (by decide) ?_
              refine lv_idiv (pc := 115) hx hb dL_areAlike_115 (by decide) ?_
              refine lv_iload (pc := 116) hx hb dL_areAlike_116 (lv_at hl 5 rfl) ?_
              refine lv_iconst (pc := 118) (v := 0) hx hb dL_areAlike_118 (by decide) ?_
              refine lv_iconst (pc := 119) (v := 0) hx hb dL_areAlike_119 (by decide) ?_
              obtain ⟨r120, h_120, hf⟩ := bd hf
              refine wr_S (pc := 120) (As := [.ref (b 0 0), .int 13, .int (v31_4 / (2 : Int32)), .int v45_5, .int 0, .int 0]) (rest := []) (st1 := [.int r120]) (wn := fun _ => wH Z b h ++ wH Z b2 g) ⟨hx, hb, hml, hown, hts⟩ (c_L_does_13 Z l hst b h (v31_4 / (2 : Int32)) v45_5 0 0 r120 h_120) (vx_cwSW 6 hts gL_areAlike_L_does rfl rfl rfl hs_L_does ⟨Nat.le_of_ble_eq_true rfl, Nat.le_of_ble_eq_true rfl⟩) hK hE hP hD hS hA hZ (List.range' 0 40) (List.range' 40 40) (List.range' 40 40 ++ List.range' 0 40) (by decide +kernel) (bl1 rfl) (tR1 rfl rfl) (fun _ => tN1 rfl rfl rfl) rfl hl.1 rfl (lv_room (Nat.le_of_ble_eq_true rfl)) dL_areAlike_120 ⟨(show CC + 8 + 2 ≤ 1600 by omega), (show SS + 48 + 12 ≤ 9600 by omega)⟩ rfl (fun _ H locs hP hD hS => ?_)
              refine lv_aload_n (pc := 123) hx hb dL_areAlike_123 rfl (lv_at hl 1 rfl) ?_
              refine lv_bipush (pc := 124) (v := 13) hx hb dL_areAlike_124 (by decide) ?_
              refine lv_iload (pc := 126) hx hb dL_areAlike_126 (lv_at hl 4 rfl) ?_
              refine lv_iconst (pc := 128) (v := 2) hx hb dL_areAlike_128 (by decide) ?_
              refine lv_idiv (pc := 129) hx hb dL_areAlike_129 (by decide) ?_
              refine lv_iload (pc := 130) hx hb dL_areAlike_130 (lv_at hl 5 rfl) ?_
              refine lv_iconst (pc := 132) (v := 0) hx hb dL_areAlike_132 (by decide) ?_
              refine lv_iconst (pc := 133) (v := 0) hx hb dL_areAlike_133 (by decide) ?_
              obtain ⟨r134, h_134, hf⟩ := bd hf
              refine wr_S (pc := 134) (As := [.ref (b2 0 0), .int 13, .int (v31_4 / (2 : Int32)), .int v45_5, .int 0, .int 0]) (rest := [.int r120]) (st1 := [.int r134, .int r120]) (wn := fun _ => wH Z b h ++ wH Z b2 g) ⟨hx, hb, hml, hown, hts⟩ (c_L_does_13 Z l hst b2 g (v31_4 / (2 : Int32)) v45_5 0 0 r134 h_134) (vx_cwSW 6 hts gL_areAlike_L_does rfl rfl rfl hs_L_does ⟨Nat.le_of_ble_eq_true rfl, Nat.le_of_ble_eq_true rfl⟩) hK hE hP hD hS hA hZ (List.range' 40 40) (List.range' 0 40) (List.range' 0 (40 + 40)) (by decide +kernel) (bY rfl rfl) (tR2 rfl) (fun _ => tN2 rfl rfl) rfl hl.1 rfl (lv_room (Nat.le_of_ble_eq_true rfl)) dL_areAlike_134 ⟨(show CC + 10 + 2 ≤ 1600 by omega), (show SS + 60 + 12 ≤ 9600 by omega)⟩ rfl (fun _ H locs hP hD hS => ?_)
              refine lv_icmp_ne (pc := 137) (tgt := 144) hx hb dL_areAlike_137 (by decide) (fun c9 => ?_) (fun c9 => ?_)
              · have hf := (if_neg c9).symm.trans hf
                refine lv_iconst (pc := 144) (v := 0) hx hb dL_areAlike_144 (by decide) ?_
                refine lv_istore_n (pc := 145) (lv' := [(3, .int 0), (0, .ref (b 0 0)), (1, .ref (b2 0 0)), (2, .int x1), (4, .int v31_4), (5, .int v45_5)]) hx hb dL_areAlike_145 rfl hl (by decide) rfl (fun ls hl => ?_)
                refine lv_iinc (pc := 146) (v := v45_5 + 1) (lv' := [(5, .int (v45_5 + 1)), (3, .int 0), (0, .ref (b 0 0)), (1, .ref (b2 0 0)), (2, .int x1), (4, .int v31_4)]) hx hb dL_areAlike_146 hl (k := 5) rfl rfl (by decide) rfl (fun ls hl => ?_)
                refine lv_goto (pc := 149) (tgt := 45) hx hb dL_areAlike_149 (by decide) ?_
                exact ih (v45_5 + 1) 0 _ _ _ (by omega) (by omega) (lv_sub hl [2, 3, 4, 1, 5, 0] rfl) _ _ hP hD hS hf
              · have hf := (if_pos c9).symm.trans hf
                refine lv_iconst (pc := 140) (v := 1) hx hb dL_areAlike_140 (by decide) ?_
                refine lv_goto (pc := 141) (tgt := 145) hx hb dL_areAlike_141 (by decide) ?_
                refine lv_istore_n (pc := 145) (lv' := [(3, .int 1), (0, .ref (b 0 0)), (1, .ref (b2 0 0)), (2, .int x1), (4, .int v31_4), (5, .int v45_5)]) hx hb dL_areAlike_145 rfl hl (by decide) rfl (fun ls hl => ?_)
                refine lv_iinc (pc := 146) (v := v45_5 + 1) (lv' := [(5, .int (v45_5 + 1)), (3, .int 1), (0, .ref (b 0 0)), (1, .ref (b2 0 0)), (2, .int x1), (4, .int v31_4)]) hx hb dL_areAlike_146 hl (k := 5) rfl rfl (by decide) rfl (fun ls hl => ?_)
                refine lv_goto (pc := 149) (tgt := 45) hx hb dL_areAlike_149 (by decide) ?_
                exact ih (v45_5 + 1) 1 _ _ _ (by omega) (by omega) (lv_sub hl [2, 3, 4, 1, 5, 0] rfl) _ _ hP hD hS hf
  have B31 : ∀ (n : Nat), ∀ (v31_3 : Int32) (v31_4 : Int32) (CC SS : Nat) (ls : Array Slot), CC + (64 * n + 0) ≤ 1600 → SS + (384 * n + 0) ≤ 9600 → lv_has ls 6 [(0, .ref (b 0 0)), (1, .ref (b2 0 0)), (2, .int x1), (3, .int v31_3), (4, .int v31_4)] → ∀ (H : Heap) (locs : List Loc), va_P Z.1 vwCl (wH Z b h ++ wH Z b2 g) H → va_D A (wH Z b h ++ wH Z b2 g) → va_S A s.heap H locs → f_L_areAlike_b31 h g x1 n v31_3 v31_4 = some R → W p l e { frames := 10, cells := 1600, slots := 9600, locals := 212 } s m ([.ref (b 0 0), .ref (b2 0 0), .int x1] : List Value).toArray below meth c H locs CC SS (vx_MQ below (rwQ Z (some (.int R)) (fun _ => wH Z b h ++ wH Z b2 g) A) (fun _ _ _ => False) ([.ref (b 0 0), .ref (b2 0 0), .int x1] : List Value).toArray s 1600 9600 A) (F0 m 31 ls []) := by
    intro n
    induction n with
    | zero => intro v31_3 v31_4 CC SS ls hCC hSS hl H locs hP hD hS hf; rw [f_L_areAlike_b31] at hf; exact nomatch hf
    | succ n ih =>
      intro v31_3 v31_4 CC SS ls hCC hSS hl H locs hP hD hS hf
      rw [f_L_areAlike_b31] at hf
      refine lv_iload (pc := 31) hx hb dL_areAlike_31 (lv_at hl 4 rfl) ?_
      refine lv_bipush (pc := 33) (v := 24) hx hb dL_areAlike_33 (by decide) ?_
      refine lv_icmp_ge (pc := 35) (tgt := 203) hx hb dL_areAlike_35 (by decide) (fun c1 => ?_) (fun c1 => ?_)
      · have hf := (if_pos c1).symm.trans hf
        refine lv_iload_n (pc := 203) hx hb dL_areAlike_203 rfl (lv_at hl 3 rfl) ?_
        obtain ⟨gz, hf⟩ := gd hf
        have hf := (Option.some.inj hf)
        subst hf
        refine W.widen (k := 1600) (n := 9600) (by omega) (by omega) ?_
        exact vx_ret (rw_z (fun _ => 0) hx hb hr hlk rfl (isb_n gz) hP hD hS dL_areAlike_204)
      · have hf := (if_neg c1).symm.trans hf
        refine lv_iload_n (pc := 38) hx hb dL_areAlike_38 rfl (lv_at hl 3 rfl) ?_
        refine lv_if_eq (pc := 39) (tgt := 203) hx hb dL_areAlike_39 (by decide) (fun c2 => ?_) (fun c2 => ?_)
        · have hf := (if_pos c2).symm.trans hf
          refine lv_iload_n (pc := 203) hx hb dL_areAlike_203 rfl (lv_at hl 3 rfl) ?_
          obtain ⟨gz, hf⟩ := gd hf
          have hf := (Option.some.inj hf)
          subst hf
          refine W.widen (k := 1600) (n := 9600) (by omega) (by omega) ?_
          exact vx_ret (rw_z (fun _ => 0) hx hb hr hlk rfl (isb_n gz) hP hD hS dL_areAlike_204)
        · have hf := (if_neg c2).symm.trans hf
          refine lv_iconst (pc := 42) (v := 0) hx hb dL_areAlike_42 (by decide) ?_
          refine lv_istore (pc := 43) (lv' := [(5, .int 0), (0, .ref (b 0 0)), (1, .ref (b2 0 0)), (2, .int x1), (3, .int v31_3), (4, .int v31_4)]) hx hb dL_areAlike_43 hl (by decide) rfl (fun ls hl => ?_)
          exact B45 v31_4 (64 * n + 0) (384 * n + 0) (f_L_areAlike_b31 h g x1 n) ih 5 0 v31_3 _ _ _ (by omega) (by omega) (lv_sub hl [1, 2, 3, 4, 5, 0] rfl) _ _ hP hD hS hf
  rw [f_L_areAlike] at hf
  refine lv_aload_n (pc := 0) hx hb dL_areAlike_0 rfl (lv_at hl 0 rfl) ?_
  refine ro_V (pc := 1) (C := RX6) (As := []) (rest := []) (st1 := [.int (f_X6_now h)]) ⟨hx, hb, hml, hown, hts⟩ (c_X6_now Z l b h _ rfl ) (cwV 0 hts gL_areAlike_X6_now rfl rfl rfl hv_X6_now ⟨Nat.le_of_ble_eq_true rfl, Nat.le_of_ble_eq_true rfl⟩) hK hE (hP.sub (ws' := wH Z b h) (List.range' 0 40) (fmm (bl1 rfl))) 6 rfl rfl rfl hl.1 rfl (lv_room (Nat.le_of_ble_eq_true rfl)) dL_areAlike_1 ⟨(show 0 ≤ 1600 by omega), (show 0 ≤ 9600 by omega)⟩ rfl ?_
  refine lv_aload_n (pc := 4) hx hb dL_areAlike_4 rfl (lv_at hl 1 rfl) ?_
  refine ro_V (pc := 5) (C := RX6) (As := []) (rest := [.int (f_X6_now h)]) (st1 := [.int (f_X6_now g), .int (f_X6_now h)]) ⟨hx, hb, hml, hown, hts⟩ (c_X6_now Z l b2 g _ rfl ) (cwV 0 hts gL_areAlike_X6_now rfl rfl rfl hv_X6_now ⟨Nat.le_of_ble_eq_true rfl, Nat.le_of_ble_eq_true rfl⟩) hK hE (hP.sub (ws' := wH Z b2 g) (List.range' 40 40) (fmm (bY rfl rfl))) 6 rfl rfl rfl hl.1 rfl (lv_room (Nat.le_of_ble_eq_true rfl)) dL_areAlike_5 ⟨(show 0 ≤ 1600 by omega), (show 0 ≤ 9600 by omega)⟩ rfl ?_
  refine lv_icmp_ne (pc := 8) (tgt := 26) hx hb dL_areAlike_8 (by decide) (fun c1 => ?_) (fun c1 => ?_)
  · have hf := (if_neg c1).symm.trans hf
    refine lv_iconst (pc := 26) (v := 0) hx hb dL_areAlike_26 (by decide) ?_
    refine lv_istore_n (pc := 27) (lv' := [(3, .int 0), (0, .ref (b 0 0)), (1, .ref (b2 0 0)), (2, .int x1)]) hx hb dL_areAlike_27 rfl hl (by decide) rfl (fun ls hl => ?_)
    refine lv_iconst (pc := 28) (v := 0) hx hb dL_areAlike_28 (by decide) ?_
    refine lv_istore (pc := 29) (lv' := [(4, .int 0), (3, .int 0), (0, .ref (b 0 0)), (1, .ref (b2 0 0)), (2, .int x1)]) hx hb dL_areAlike_29 hl (by decide) rfl (fun ls hl => ?_)
    exact B31 25 0 0 _ _ _ (by omega) (by omega) (lv_sub hl [2, 3, 4, 1, 0] rfl) _ _ hP hD hS hf
  · have hf := (if_pos c1).symm.trans hf
    refine lv_aload_n (pc := 11) hx hb dL_areAlike_11 rfl (lv_at hl 0 rfl) ?_
    refine ro_V (pc := 12) (C := RX6) (As := []) (rest := []) (st1 := [.int (f_X6_alarms h)]) ⟨hx, hb, hml, hown, hts⟩ (c_X6_alarms Z l b h _ rfl ) (cwV 0 hts gL_areAlike_X6_alarms rfl rfl rfl hv_X6_alarms ⟨Nat.le_of_ble_eq_true rfl, Nat.le_of_ble_eq_true rfl⟩) hK hE (hP.sub (ws' := wH Z b h) (List.range' 0 40) (fmm (bl1 rfl))) 6 rfl rfl rfl hl.1 rfl (lv_room (Nat.le_of_ble_eq_true rfl)) dL_areAlike_12 ⟨(show 0 ≤ 1600 by omega), (show 0 ≤ 9600 by omega)⟩ rfl ?_
    refine lv_aload_n (pc := 15) hx hb dL_areAlike_15 rfl (lv_at hl 1 rfl) ?_
    refine ro_V (pc := 16) (C := RX6) (As := []) (rest := [.int (f_X6_alarms h)]) (st1 := [.int (f_X6_alarms g), .int (f_X6_alarms h)]) ⟨hx, hb, hml, hown, hts⟩ (c_X6_alarms Z l b2 g _ rfl ) (cwV 0 hts gL_areAlike_X6_alarms rfl rfl rfl hv_X6_alarms ⟨Nat.le_of_ble_eq_true rfl, Nat.le_of_ble_eq_true rfl⟩) hK hE (hP.sub (ws' := wH Z b2 g) (List.range' 40 40) (fmm (bY rfl rfl))) 6 rfl rfl rfl hl.1 rfl (lv_room (Nat.le_of_ble_eq_true rfl)) dL_areAlike_16 ⟨(show 0 ≤ 1600 by omega), (show 0 ≤ 9600 by omega)⟩ rfl ?_
    refine lv_icmp_ne (pc := 19) (tgt := 26) hx hb dL_areAlike_19 (by decide) (fun c2 => ?_) (fun c2 => ?_)
    · have hf := (if_neg c2).symm.trans hf
      refine lv_iconst (pc := 26) (v := 0) hx hb dL_areAlike_26 (by decide) ?_
      refine lv_istore_n (pc := 27) (lv' := [(3, .int 0), (0, .ref (b 0 0)), (1, .ref (b2 0 0)), (2, .int x1)]) hx hb dL_areAlike_27 rfl hl (by decide) rfl (fun ls hl => ?_)
      refine lv_iconst (pc := 28) (v := 0) hx hb dL_areAlike_28 (by decide) ?_
      refine lv_istore (pc := 29) (lv' := [(4, .int 0), (3, .int 0), (0, .ref (b 0 0)), (1, .ref (b2 0 0)), (2, .int x1)]) hx hb dL_areAlike_29 hl (by decide) rfl (fun ls hl => ?_)
      exact B31 25 0 0 _ _ _ (by omega) (by omega) (lv_sub hl [2, 3, 4, 1, 0] rfl) _ _ hP hD hS hf
    · have hf := (if_pos c2).symm.trans hf
      refine lv_iconst (pc := 22) (v := 1) hx hb dL_areAlike_22 (by decide) ?_
      refine lv_goto (pc := 23) (tgt := 27) hx hb dL_areAlike_23 (by decide) ?_
      refine lv_istore_n (pc := 27) (lv' := [(3, .int 1), (0, .ref (b 0 0)), (1, .ref (b2 0 0)), (2, .int x1)]) hx hb dL_areAlike_27 rfl hl (by decide) rfl (fun ls hl => ?_)
      refine lv_iconst (pc := 28) (v := 0) hx hb dL_areAlike_28 (by decide) ?_
      refine lv_istore (pc := 29) (lv' := [(4, .int 0), (3, .int 1), (0, .ref (b 0 0)), (1, .ref (b2 0 0)), (2, .int x1)]) hx hb dL_areAlike_29 hl (by decide) rfl (fun ls hl => ?_)
      exact B31 25 1 0 _ _ _ (by omega) (by omega) (lv_sub hl [2, 3, 4, 1, 0] rfl) _ _ hP hD hS hf
