set_option maxHeartbeats 4000000 in
set_option maxRecDepth 100000 in
theorem law_setPriority (l : Launch) (hfl : l.stackTraces = false) {p : Program} {e : Env} {s : State} {m : MethodId} {below : List Frame} {meth : Method} {c : Code} {D : va_G} {cZ cI cJ : ClassId} {a b2 : Nat → Nat} {o bs L : Nat} {xs : Nat → Int32} (S : CallFix p m c cL_law 7 s #[Value.ref bs] wsL_law RL) (hK : va_K D vwCl (tyJ cZ cI cJ) s) (hZ : ZT (fun q => s.heap.size ≤ q) s s.heap) (hX : va_X bs L xs s s.heap) (hbl : bs < s.heap.size) (hL : L ≤ 2048) {Q : State → Prop} {i c0 d0 : Nat} (hi : i + 4 ≤ L) (hc0 : c0 + 1 ≤ 1068) (hd0 : d0 + 6 ≤ 8554) (σ : sC) (fo : Nat → Int64) (th : Int32) (hI : Inv σ) (K : ∀ (σ' : sC) (fo' : Nat → Int64) (th' : Int32), Inv σ' → ∀ (H : Heap) (locs : List Loc), Wd D (fun q => s.heap.size ≤ q) s.heap ((wX cZ cI a σ' ++ wO cJ o fo') ++ wM cZ cI b2 th' σ') H locs → ∀ ls : Array Slot, lv_has ls 7 [(0, .ref bs), (1, .ref (a 0)), (2, .ref (b2 0)), (3, .ref o), (4, .int (nI i))] → W p l e room_1 s m #[Value.ref bs] below meth c H locs (c0 + 1) (d0 + 6) Q (F0 m 1514 ls [])) : ∀ (H : Heap) (locs : List Loc), Wd D (fun q => s.heap.size ≤ q) s.heap ((wX cZ cI a σ ++ wO cJ o fo) ++ wM cZ cI b2 th σ) H locs → ∀ ls : Array Slot, lv_has ls 7 [(0, .ref bs), (1, .ref (a 0)), (2, .ref (b2 0)), (3, .ref o), (4, .int (nI i))] → W p l e room_1 s m #[Value.ref bs] below meth c H locs c0 d0 Q (F0 m 136 ls []) := by
  intro H locs hw ls hl
  have hcl0 : c0 ≤ room_1.cells := (show c0 ≤ 1068 by omega)
  have hsl0 : d0 ≤ room_1.slots := (show d0 ≤ 8554 by omega)
  have hcl1 : c0 + 1 ≤ room_1.cells := hc0
  have hsl1 : d0 + 6 ≤ room_1.slots := hd0
  by_cases hb : arE (xs (i + 1)) (xs (i + 2)) = 0 ∨ inB (xs (i + 3)) 0 254 = 0
  · refine lv_aload_n S.1 S.2.1 dL_law_136 rfl (lv_at hl 1 rfl) ?_
    refine lv_aload_n S.1 S.2.1 dL_law_137 rfl (lv_at hl 0 rfl) ?_
    refine lv_iload S.1 S.2.1 dL_law_138 (lv_at hl 4 rfl) ?_
    refine lv_iconst (v := nI 1) S.1 S.2.1 dL_law_140 (by decide) ?_
    refine lv_iadd S.1 S.2.1 dL_law_141 ?_
    refine bx_top (y := nI (i + 1)) (nI_add i 1) ?_
    refine bl_sld S hX hbl hL hw (by omega) dL_law_142 ?_
    refine lv_aload_n S.1 S.2.1 dL_law_143 rfl (lv_at hl 0 rfl) ?_
    refine lv_iload S.1 S.2.1 dL_law_144 (lv_at hl 4 rfl) ?_
    refine lv_iconst (v := nI 2) S.1 S.2.1 dL_law_146 (by decide) ?_
    refine lv_iadd S.1 S.2.1 dL_law_147 ?_
    refine bx_top (y := nI (i + 2)) (nI_add i 2) ?_
    refine bl_sld S hX hbl hL hw (by omega) dL_law_148 ?_
    refine lv_aload_n S.1 S.2.1 dL_law_149 rfl (lv_at hl 0 rfl) ?_
    refine lv_iload S.1 S.2.1 dL_law_150 (lv_at hl 4 rfl) ?_
    refine lv_iconst (v := nI 3) S.1 S.2.1 dL_law_152 (by decide) ?_
    refine lv_iadd S.1 S.2.1 dL_law_153 ?_
    refine bx_top (y := nI (i + 3)) (nI_add i 3) ?_
    refine bl_sld S hX hbl hL hw (by omega) dL_law_154 ?_
    refine lv_aload_n S.1 S.2.1 dL_law_155 rfl (lv_at hl 3 rfl) ?_
    refine bl_sb (As := [.ref (a 0), .int (xs (i + 1)), .int (xs (i + 2)), .int (xs (i + 3)), .ref o]) (rest := []) S hK hZ hw (kL_setPriority_IA l D cZ cI cJ a σ o fo (xs (i + 1)) (xs (i + 2)) (xs (i + 3)) (tX0_setPriority_b l hfl D cZ cI a σ (xs (i + 1)) (xs (i + 2)) (xs (i + 3)) hb)) (vx_cwSW 5 S.2.2.2.2 gL_law_L_setPriority rfl rfl rfl (by decide +kernel) ⟨Nat.le_of_ble_eq_true rfl, Nat.le_of_ble_eq_true rfl⟩) rfl hl.1 rfl (Nat.le_of_ble_eq_true rfl) hcl1 hsl1 dL_law_156 (fun H locs hw => ?_)
    refine lv_istore (lv' := [(5, .int 1), (0, .ref bs), (1, .ref (a 0)), (2, .ref (b2 0)), (3, .ref o), (4, .int (nI i))]) S.1 S.2.1 dL_law_159 hl (by decide) rfl (fun ls hl => ?_)
    refine lv_aload_n S.1 S.2.1 dL_law_161 rfl (lv_at hl 3 rfl) ?_
    refine lv_aload_n S.1 S.2.1 dL_law_162 rfl (lv_at hl 1 rfl) ?_
    refine lv_iload S.1 S.2.1 dL_law_163 (lv_at hl 5 rfl) ?_
    refine lv_iconst (v := nI 1) S.1 S.2.1 dL_law_165 (by decide) ?_
    refine lv_iadd S.1 S.2.1 dL_law_166 ?_
    refine bx_top (y := nI (i + 1)) (nI_add i 1) ?_
    refine bl_sld S hX hbl hL hw (by omega) dL_law_167 ?_
    refine lv_aload_n S.1 S.2.1 dL_law_168 rfl (lv_at hl 1 rfl) ?_
    refine lv_iload S.1 S.2.1 dL_law_169 (lv_at hl 5 rfl) ?_
    refine lv_iconst (v := nI 2) S.1 S.2.1 dL_law_171 (by decide) ?_
    refine lv_iadd S.1 S.2.1 dL_law_172 ?_
    refine bx_top (y := nI (i + 2)) (nI_add i 2) ?_
    refine bl_sld S hX hbl hL hw (by omega) dL_law_173 ?_
    refine lv_aload_n S.1 S.2.1 dL_law_174 rfl (lv_at hl 1 rfl) ?_
    refine lv_iload S.1 S.2.1 dL_law_175 (lv_at hl 5 rfl) ?_
    refine lv_iconst (v := nI 3) S.1 S.2.1 dL_law_177 (by decide) ?_
    refine lv_iadd S.1 S.2.1 dL_law_178 ?_
    refine bx_top (y := nI (i + 3)) (nI_add i 3) ?_
    refine bl_sld S hX hbl hL hw (by omega) dL_law_179 ?_
    refine bm_vi (As := [.int (xs (i + 1)), .int (xs (i + 2)), .int (xs (i + 3))]) (rest := []) S (tyJ_Z hK) hw (kX1_setPriority_bad l D cZ cI b2 th σ (xs (i + 1)) (xs (i + 2)) (xs (i + 3)) hb) (cwV 3 S.2.2.2.2 gL_law_X1_setPriority rfl rfl rfl (by decide +kernel) ⟨Nat.le_of_ble_eq_true rfl, Nat.le_of_ble_eq_true rfl⟩) (q0 := 0) rfl rfl rfl hl.1 rfl (Nat.le_of_ble_eq_true rfl) hcl1 hsl1 dL_law_180 (fun H locs hw => ?_)
    refine lv_istore (lv' := [(6, .int 0), (5, .int 1), (0, .ref bs), (1, .ref (a 0)), (2, .ref (b2 0)), (3, .ref o), (4, .int (nI i))]) S.1 S.2.1 dL_law_183 hl (by decide) rfl (fun ls hl => ?_)
    refine lv_aload_n S.1 S.2.1 dL_law_185 rfl (lv_at hl 4 rfl) ?_
    refine bm_vi (As := []) (rest := []) S (tyJ_Z hK) hw (kX1_thrown l D cZ cI b2 1 σ) (cwV 0 S.2.2.2.2 gL_law_X1_thrown rfl rfl rfl (by decide +kernel) ⟨Nat.le_of_ble_eq_true rfl, Nat.le_of_ble_eq_true rfl⟩) (q0 := 0) rfl rfl rfl hl.1 rfl (Nat.le_of_ble_eq_true rfl) hcl1 hsl1 dL_law_186 (fun H locs hw => ?_)
    refine lv_iload S.1 S.2.1 dL_law_189 (lv_at hl 1 rfl) ?_
    refine br_eq (tgt := 196) S dL_law_191 (by decide) (fun c9 => ?_) (fun c9 => ?_)
    · refine lv_iload S.1 S.2.1 dL_law_196 (lv_at hl 1 rfl) ?_
      refine bz_ne (tgt := 213) S dL_law_198 (by decide) (fun c9 => ?_) (fun c9 => ?_)
      · refine lv_goto (tgt := 1514) S.1 S.2.1 dL_law_213 (by decide) ?_
        exact K σ fo 1 hI _ _ hw _ (lv_sub hl [2, 3, 4, 5, 6] rfl)
      · exact absurd c9 (by decide)
    · exact absurd c9 (by decide)
  · obtain ⟨r, g, hr, hg, ex, ey⟩ := are_x (fun q => hb (Or.inl q))
    obtain ⟨h1, h2⟩ := in_n (fun q => hb (Or.inr q))
    refine lv_aload_n S.1 S.2.1 dL_law_136 rfl (lv_at hl 1 rfl) ?_
    refine lv_aload_n S.1 S.2.1 dL_law_137 rfl (lv_at hl 0 rfl) ?_
    refine lv_iload S.1 S.2.1 dL_law_138 (lv_at hl 4 rfl) ?_
    refine lv_iconst (v := nI 1) S.1 S.2.1 dL_law_140 (by decide) ?_
    refine lv_iadd S.1 S.2.1 dL_law_141 ?_
    refine bx_top (y := nI (i + 1)) (nI_add i 1) ?_
    refine bl_sld S hX hbl hL hw (by omega) dL_law_142 ?_
    refine bx_top (y := nI r) ex ?_
    refine lv_aload_n S.1 S.2.1 dL_law_143 rfl (lv_at hl 0 rfl) ?_
    refine lv_iload S.1 S.2.1 dL_law_144 (lv_at hl 4 rfl) ?_
    refine lv_iconst (v := nI 2) S.1 S.2.1 dL_law_146 (by decide) ?_
    refine lv_iadd S.1 S.2.1 dL_law_147 ?_
    refine bx_top (y := nI (i + 2)) (nI_add i 2) ?_
    refine bl_sld S hX hbl hL hw (by omega) dL_law_148 ?_
    refine bx_top (y := nI g) ey ?_
    refine lv_aload_n S.1 S.2.1 dL_law_149 rfl (lv_at hl 0 rfl) ?_
    refine lv_iload S.1 S.2.1 dL_law_150 (lv_at hl 4 rfl) ?_
    refine lv_iconst (v := nI 3) S.1 S.2.1 dL_law_152 (by decide) ?_
    refine lv_iadd S.1 S.2.1 dL_law_153 ?_
    refine bx_top (y := nI (i + 3)) (nI_add i 3) ?_
    refine bl_sld S hX hbl hL hw (by omega) dL_law_154 ?_
    refine lv_aload_n S.1 S.2.1 dL_law_155 rfl (lv_at hl 3 rfl) ?_
    refine bl_si (As := [.ref (a 0), .int (nI r), .int (nI g), .int (xs (i + 3)), .ref o]) (rest := []) S hK hw (kL_setPriority l D cZ cI cJ a σ o fo (r := r) (g := g) (xs (i + 3)) hr hg h1 h2) (vx_cwSW 5 S.2.2.2.2 gL_law_L_setPriority rfl rfl rfl (by decide +kernel) ⟨Nat.le_of_ble_eq_true rfl, Nat.le_of_ble_eq_true rfl⟩) rfl hl.1 rfl (Nat.le_of_ble_eq_true rfl) hcl0 hsl0 dL_law_156 (fun H locs hw => ?_)
    refine lv_istore (lv' := [(5, .int 0), (0, .ref bs), (1, .ref (a 0)), (2, .ref (b2 0)), (3, .ref o), (4, .int (nI i))]) S.1 S.2.1 dL_law_159 hl (by decide) rfl (fun ls hl => ?_)
    refine lv_aload_n S.1 S.2.1 dL_law_161 rfl (lv_at hl 3 rfl) ?_
    refine lv_aload_n S.1 S.2.1 dL_law_162 rfl (lv_at hl 1 rfl) ?_
    refine lv_iload S.1 S.2.1 dL_law_163 (lv_at hl 5 rfl) ?_
    refine lv_iconst (v := nI 1) S.1 S.2.1 dL_law_165 (by decide) ?_
    refine lv_iadd S.1 S.2.1 dL_law_166 ?_
    refine bx_top (y := nI (i + 1)) (nI_add i 1) ?_
    refine bl_sld S hX hbl hL hw (by omega) dL_law_167 ?_
    refine bx_top (y := nI r) ex ?_
    refine lv_aload_n S.1 S.2.1 dL_law_168 rfl (lv_at hl 1 rfl) ?_
    refine lv_iload S.1 S.2.1 dL_law_169 (lv_at hl 5 rfl) ?_
    refine lv_iconst (v := nI 2) S.1 S.2.1 dL_law_171 (by decide) ?_
    refine lv_iadd S.1 S.2.1 dL_law_172 ?_
    refine bx_top (y := nI (i + 2)) (nI_add i 2) ?_
    refine bl_sld S hX hbl hL hw (by omega) dL_law_173 ?_
    refine bx_top (y := nI g) ey ?_
    refine lv_aload_n S.1 S.2.1 dL_law_174 rfl (lv_at hl 1 rfl) ?_
    refine lv_iload S.1 S.2.1 dL_law_175 (lv_at hl 5 rfl) ?_
    refine lv_iconst (v := nI 3) S.1 S.2.1 dL_law_177 (by decide) ?_
    refine lv_iadd S.1 S.2.1 dL_law_178 ?_
    refine bx_top (y := nI (i + 3)) (nI_add i 3) ?_
    refine bl_sld S hX hbl hL hw (by omega) dL_law_179 ?_
    refine bm_vi (As := [.int (nI r), .int (nI g), .int (xs (i + 3))]) (rest := []) S (tyJ_Z hK) hw (kX1_setPriority l D cZ cI b2 th σ (r := r) (g := g) (xs (i + 3)) hr hg h1 h2 hI.1 (hI.2.1 r g hr hg)) (cwV 3 S.2.2.2.2 gL_law_X1_setPriority rfl rfl rfl (by decide +kernel) ⟨Nat.le_of_ble_eq_true rfl, Nat.le_of_ble_eq_true rfl⟩) (q0 := 0) rfl rfl rfl hl.1 rfl (Nat.le_of_ble_eq_true rfl) hcl0 hsl0 dL_law_180 (fun H locs hw => ?_)
    refine lv_istore (lv' := [(6, .int (σ 9 (4 * g + r))), (5, .int 0), (0, .ref bs), (1, .ref (a 0)), (2, .ref (b2 0)), (3, .ref o), (4, .int (nI i))]) S.1 S.2.1 dL_law_183 hl (by decide) rfl (fun ls hl => ?_)
    refine lv_aload_n S.1 S.2.1 dL_law_185 rfl (lv_at hl 4 rfl) ?_
    refine bm_vi (As := []) (rest := []) S (tyJ_Z hK) hw (kX1_thrown l D cZ cI b2 0 (setPF σ r g (xs (i + 3)))) (cwV 0 S.2.2.2.2 gL_law_X1_thrown rfl rfl rfl (by decide +kernel) ⟨Nat.le_of_ble_eq_true rfl, Nat.le_of_ble_eq_true rfl⟩) (q0 := 0) rfl rfl rfl hl.1 rfl (Nat.le_of_ble_eq_true rfl) hcl0 hsl0 dL_law_186 (fun H locs hw => ?_)
    refine lv_iload S.1 S.2.1 dL_law_189 (lv_at hl 1 rfl) ?_
    refine br_eq (tgt := 196) S dL_law_191 (by decide) (fun c9 => ?_) (fun c9 => ?_)
    · refine lv_iload S.1 S.2.1 dL_law_196 (lv_at hl 1 rfl) ?_
      refine bz_ne (tgt := 213) S dL_law_198 (by decide) (fun c9 => ?_) (fun c9 => ?_)
      · exact absurd c9 (by decide)
      · refine lv_aload_n S.1 S.2.1 dL_law_201 rfl (lv_at hl 5 rfl) ?_
        refine lv_iconst (v := nI 0) S.1 S.2.1 dL_law_202 (by decide) ?_
        refine bl_lald (v := (σ 9 (4 * g + r)).toInt64) S hK hw.1 17 2 rfl rfl (by decide) (by decide) rfl dL_law_203 ?_
        refine lv_iload S.1 S.2.1 dL_law_204 (lv_at hl 0 rfl) ?_
        refine lv_i2l (v := (σ 9 (4 * g + r)).toInt64) S.1 S.2.1 dL_law_206 rfl ?_
        refine bl_lcmp S rfl dL_law_207 ?_
        refine bz_eq (tgt := 213) S dL_law_208 (by decide) (fun c9 => ?_) (fun c9 => ?_)
        · refine lv_goto (tgt := 1514) S.1 S.2.1 dL_law_213 (by decide) ?_
          refine W.widen (k := c0 + 1) (n := d0 + 6) (by omega) (by omega) ?_
          exact K (setPF σ r g (xs (i + 3))) (vp_updL fo 0 ((σ 9 (4 * g + r)).toInt64)) 0 (inv_setP hI hr _) _ _ hw _ (lv_sub hl [2, 3, 4, 5, 6] rfl)
        · exact absurd c9 (by decide)
    · exact absurd c9 (by decide)

set_option maxHeartbeats 4000000 in
set_option maxRecDepth 100000 in
theorem law_track (l : Launch) (hfl : l.stackTraces = false) {p : Program} {e : Env} {s : State} {m : MethodId} {below : List Frame} {meth : Method} {c : Code} {D : va_G} {cZ cI cJ : ClassId} {a b2 : Nat → Nat} {o bs L : Nat} {xs : Nat → Int32} (S : CallFix p m c cL_law 7 s #[Value.ref bs] wsL_law RL) (hK : va_K D vwCl (tyJ cZ cI cJ) s) (hZ : ZT (fun q => s.heap.size ≤ q) s s.heap) (hX : va_X bs L xs s s.heap) (hbl : bs < s.heap.size) (hL : L ≤ 2048) {Q : State → Prop} {i c0 d0 : Nat} (hi : i + 4 ≤ L) (hc0 : c0 + 1 ≤ 1068) (hd0 : d0 + 6 ≤ 8554) (σ : sC) (fo : Nat → Int64) (th : Int32) (hI : Inv σ) (K : ∀ (σ' : sC) (fo' : Nat → Int64) (th' : Int32), Inv σ' → ∀ (H : Heap) (locs : List Loc), Wd D (fun q => s.heap.size ≤ q) s.heap ((wX cZ cI a σ' ++ wO cJ o fo') ++ wM cZ cI b2 th' σ') H locs → ∀ ls : Array Slot, lv_has ls 7 [(0, .ref bs), (1, .ref (a 0)), (2, .ref (b2 0)), (3, .ref o), (4, .int (nI i))] → W p l e room_1 s m #[Value.ref bs] below meth c H locs (c0 + 1) (d0 + 6) Q (F0 m 1514 ls [])) : ∀ (H : Heap) (locs : List Loc), Wd D (fun q => s.heap.size ≤ q) s.heap ((wX cZ cI a σ ++ wO cJ o fo) ++ wM cZ cI b2 th σ) H locs → ∀ ls : Array Slot, lv_has ls 7 [(0, .ref bs), (1, .ref (a 0)), (2, .ref (b2 0)), (3, .ref o), (4, .int (nI i))] → W p l e room_1 s m #[Value.ref bs] below meth c H locs c0 d0 Q (F0 m 216 ls []) := by
  intro H locs hw ls hl
  have hcl0 : c0 ≤ room_1.cells := (show c0 ≤ 1068 by omega)
  have hsl0 : d0 ≤ room_1.slots := (show d0 ≤ 8554 by omega)
  have hcl1 : c0 + 1 ≤ room_1.cells := hc0
  have hsl1 : d0 + 6 ≤ room_1.slots := hd0
  by_cases hb : lkE (xs (i + 1)) (xs (i + 2)) = 0 ∨ inB (xs (i + 3)) 0 100 = 0
  · refine lv_aload_n S.1 S.2.1 dL_law_216 rfl (lv_at hl 1 rfl) ?_
    refine lv_aload_n S.1 S.2.1 dL_law_217 rfl (lv_at hl 0 rfl) ?_
    refine lv_iload S.1 S.2.1 dL_law_218 (lv_at hl 4 rfl) ?_
    refine lv_iconst (v := nI 1) S.1 S.2.1 dL_law_220 (by decide) ?_
    refine lv_iadd S.1 S.2.1 dL_law_221 ?_
    refine bx_top (y := nI (i + 1)) (nI_add i 1) ?_
    refine bl_sld S hX hbl hL hw (by omega) dL_law_222 ?_
    refine lv_aload_n S.1 S.2.1 dL_law_223 rfl (lv_at hl 0 rfl) ?_
    refine lv_iload S.1 S.2.1 dL_law_224 (lv_at hl 4 rfl) ?_
    refine lv_iconst (v := nI 2) S.1 S.2.1 dL_law_226 (by decide) ?_
    refine lv_iadd S.1 S.2.1 dL_law_227 ?_
    refine bx_top (y := nI (i + 2)) (nI_add i 2) ?_
    refine bl_sld S hX hbl hL hw (by omega) dL_law_228 ?_
    refine lv_aload_n S.1 S.2.1 dL_law_229 rfl (lv_at hl 0 rfl) ?_
    refine lv_iload S.1 S.2.1 dL_law_230 (lv_at hl 4 rfl) ?_
    refine lv_iconst (v := nI 3) S.1 S.2.1 dL_law_232 (by decide) ?_
    refine lv_iadd S.1 S.2.1 dL_law_233 ?_
    refine bx_top (y := nI (i + 3)) (nI_add i 3) ?_
    refine bl_sld S hX hbl hL hw (by omega) dL_law_234 ?_
    refine lv_aload_n S.1 S.2.1 dL_law_235 rfl (lv_at hl 3 rfl) ?_
    refine bl_sb (As := [.ref (a 0), .int (xs (i + 1)), .int (xs (i + 2)), .int (xs (i + 3)), .ref o]) (rest := []) S hK hZ hw (kL_track_IA l D cZ cI cJ a σ o fo (xs (i + 1)) (xs (i + 2)) (xs (i + 3)) (tX0_track_b l hfl D cZ cI a σ (xs (i + 1)) (xs (i + 2)) (xs (i + 3)) hb)) (vx_cwSW 5 S.2.2.2.2 gL_law_L_track rfl rfl rfl (by decide +kernel) ⟨Nat.le_of_ble_eq_true rfl, Nat.le_of_ble_eq_true rfl⟩) rfl hl.1 rfl (Nat.le_of_ble_eq_true rfl) hcl1 hsl1 dL_law_236 (fun H locs hw => ?_)
    refine lv_istore (lv' := [(5, .int 1), (0, .ref bs), (1, .ref (a 0)), (2, .ref (b2 0)), (3, .ref o), (4, .int (nI i))]) S.1 S.2.1 dL_law_239 hl (by decide) rfl (fun ls hl => ?_)
    refine lv_aload_n S.1 S.2.1 dL_law_241 rfl (lv_at hl 3 rfl) ?_
    refine lv_aload_n S.1 S.2.1 dL_law_242 rfl (lv_at hl 1 rfl) ?_
    refine lv_iload S.1 S.2.1 dL_law_243 (lv_at hl 5 rfl) ?_
    refine lv_iconst (v := nI 1) S.1 S.2.1 dL_law_245 (by decide) ?_
    refine lv_iadd S.1 S.2.1 dL_law_246 ?_
    refine bx_top (y := nI (i + 1)) (nI_add i 1) ?_
    refine bl_sld S hX hbl hL hw (by omega) dL_law_247 ?_
    refine lv_aload_n S.1 S.2.1 dL_law_248 rfl (lv_at hl 1 rfl) ?_
    refine lv_iload S.1 S.2.1 dL_law_249 (lv_at hl 5 rfl) ?_
    refine lv_iconst (v := nI 2) S.1 S.2.1 dL_law_251 (by decide) ?_
    refine lv_iadd S.1 S.2.1 dL_law_252 ?_
    refine bx_top (y := nI (i + 2)) (nI_add i 2) ?_
    refine bl_sld S hX hbl hL hw (by omega) dL_law_253 ?_
    refine lv_aload_n S.1 S.2.1 dL_law_254 rfl (lv_at hl 1 rfl) ?_
    refine lv_iload S.1 S.2.1 dL_law_255 (lv_at hl 5 rfl) ?_
    refine lv_iconst (v := nI 3) S.1 S.2.1 dL_law_257 (by decide) ?_
    refine lv_iadd S.1 S.2.1 dL_law_258 ?_
    refine bx_top (y := nI (i + 3)) (nI_add i 3) ?_
    refine bl_sld S hX hbl hL hw (by omega) dL_law_259 ?_
    refine bm_vi (As := [.int (xs (i + 1)), .int (xs (i + 2)), .int (xs (i + 3))]) (rest := []) S (tyJ_Z hK) hw (kX1_track_bad l D cZ cI b2 th σ (xs (i + 1)) (xs (i + 2)) (xs (i + 3)) hb) (cwV 3 S.2.2.2.2 gL_law_X1_track rfl rfl rfl (by decide +kernel) ⟨Nat.le_of_ble_eq_true rfl, Nat.le_of_ble_eq_true rfl⟩) (q0 := 0) rfl rfl rfl hl.1 rfl (Nat.le_of_ble_eq_true rfl) hcl1 hsl1 dL_law_260 (fun H locs hw => ?_)
    refine lv_istore (lv' := [(6, .int 0), (5, .int 1), (0, .ref bs), (1, .ref (a 0)), (2, .ref (b2 0)), (3, .ref o), (4, .int (nI i))]) S.1 S.2.1 dL_law_263 hl (by decide) rfl (fun ls hl => ?_)
    refine lv_aload_n S.1 S.2.1 dL_law_265 rfl (lv_at hl 4 rfl) ?_
    refine bm_vi (As := []) (rest := []) S (tyJ_Z hK) hw (kX1_thrown l D cZ cI b2 1 σ) (cwV 0 S.2.2.2.2 gL_law_X1_thrown rfl rfl rfl (by decide +kernel) ⟨Nat.le_of_ble_eq_true rfl, Nat.le_of_ble_eq_true rfl⟩) (q0 := 0) rfl rfl rfl hl.1 rfl (Nat.le_of_ble_eq_true rfl) hcl1 hsl1 dL_law_266 (fun H locs hw => ?_)
    refine lv_iload S.1 S.2.1 dL_law_269 (lv_at hl 1 rfl) ?_
    refine br_eq (tgt := 276) S dL_law_271 (by decide) (fun c9 => ?_) (fun c9 => ?_)
    · refine lv_iload S.1 S.2.1 dL_law_276 (lv_at hl 1 rfl) ?_
      refine bz_ne (tgt := 293) S dL_law_278 (by decide) (fun c9 => ?_) (fun c9 => ?_)
      · refine lv_goto (tgt := 1514) S.1 S.2.1 dL_law_293 (by decide) ?_
        exact K σ fo 1 hI _ _ hw _ (lv_sub hl [2, 3, 4, 5, 6] rfl)
      · exact absurd c9 (by decide)
    · exact absurd c9 (by decide)
  · obtain ⟨r, k, hr, hk, ex, ey⟩ := lk_x (fun q => hb (Or.inl q))
    obtain ⟨h1, h2⟩ := in_n (fun q => hb (Or.inr q))
    refine lv_aload_n S.1 S.2.1 dL_law_216 rfl (lv_at hl 1 rfl) ?_
    refine lv_aload_n S.1 S.2.1 dL_law_217 rfl (lv_at hl 0 rfl) ?_
    refine lv_iload S.1 S.2.1 dL_law_218 (lv_at hl 4 rfl) ?_
    refine lv_iconst (v := nI 1) S.1 S.2.1 dL_law_220 (by decide) ?_
    refine lv_iadd S.1 S.2.1 dL_law_221 ?_
    refine bx_top (y := nI (i + 1)) (nI_add i 1) ?_
    refine bl_sld S hX hbl hL hw (by omega) dL_law_222 ?_
    refine bx_top (y := nI r) ex ?_
    refine lv_aload_n S.1 S.2.1 dL_law_223 rfl (lv_at hl 0 rfl) ?_
    refine lv_iload S.1 S.2.1 dL_law_224 (lv_at hl 4 rfl) ?_
    refine lv_iconst (v := nI 2) S.1 S.2.1 dL_law_226 (by decide) ?_
    refine lv_iadd S.1 S.2.1 dL_law_227 ?_
    refine bx_top (y := nI (i + 2)) (nI_add i 2) ?_
    refine bl_sld S hX hbl hL hw (by omega) dL_law_228 ?_
    refine bx_top (y := nI k) ey ?_
    refine lv_aload_n S.1 S.2.1 dL_law_229 rfl (lv_at hl 0 rfl) ?_
    refine lv_iload S.1 S.2.1 dL_law_230 (lv_at hl 4 rfl) ?_
    refine lv_iconst (v := nI 3) S.1 S.2.1 dL_law_232 (by decide) ?_
    refine lv_iadd S.1 S.2.1 dL_law_233 ?_
    refine bx_top (y := nI (i + 3)) (nI_add i 3) ?_
    refine bl_sld S hX hbl hL hw (by omega) dL_law_234 ?_
    refine lv_aload_n S.1 S.2.1 dL_law_235 rfl (lv_at hl 3 rfl) ?_
    refine bl_si (As := [.ref (a 0), .int (nI r), .int (nI k), .int (xs (i + 3)), .ref o]) (rest := []) S hK hw (kL_track l D cZ cI cJ a σ o fo (r := r) (k := k) (xs (i + 3)) hr hk h1 h2) (vx_cwSW 5 S.2.2.2.2 gL_law_L_track rfl rfl rfl (by decide +kernel) ⟨Nat.le_of_ble_eq_true rfl, Nat.le_of_ble_eq_true rfl⟩) rfl hl.1 rfl (Nat.le_of_ble_eq_true rfl) hcl0 hsl0 dL_law_236 (fun H locs hw => ?_)
    refine lv_istore (lv' := [(5, .int 0), (0, .ref bs), (1, .ref (a 0)), (2, .ref (b2 0)), (3, .ref o), (4, .int (nI i))]) S.1 S.2.1 dL_law_239 hl (by decide) rfl (fun ls hl => ?_)
    refine lv_aload_n S.1 S.2.1 dL_law_241 rfl (lv_at hl 3 rfl) ?_
    refine lv_aload_n S.1 S.2.1 dL_law_242 rfl (lv_at hl 1 rfl) ?_
    refine lv_iload S.1 S.2.1 dL_law_243 (lv_at hl 5 rfl) ?_
    refine lv_iconst (v := nI 1) S.1 S.2.1 dL_law_245 (by decide) ?_
    refine lv_iadd S.1 S.2.1 dL_law_246 ?_
    refine bx_top (y := nI (i + 1)) (nI_add i 1) ?_
    refine bl_sld S hX hbl hL hw (by omega) dL_law_247 ?_
    refine bx_top (y := nI r) ex ?_
    refine lv_aload_n S.1 S.2.1 dL_law_248 rfl (lv_at hl 1 rfl) ?_
    refine lv_iload S.1 S.2.1 dL_law_249 (lv_at hl 5 rfl) ?_
    refine lv_iconst (v := nI 2) S.1 S.2.1 dL_law_251 (by decide) ?_
    refine lv_iadd S.1 S.2.1 dL_law_252 ?_
    refine bx_top (y := nI (i + 2)) (nI_add i 2) ?_
    refine bl_sld S hX hbl hL hw (by omega) dL_law_253 ?_
    refine bx_top (y := nI k) ey ?_
    refine lv_aload_n S.1 S.2.1 dL_law_254 rfl (lv_at hl 1 rfl) ?_
    refine lv_iload S.1 S.2.1 dL_law_255 (lv_at hl 5 rfl) ?_
    refine lv_iconst (v := nI 3) S.1 S.2.1 dL_law_257 (by decide) ?_
    refine lv_iadd S.1 S.2.1 dL_law_258 ?_
    refine bx_top (y := nI (i + 3)) (nI_add i 3) ?_
    refine bl_sld S hX hbl hL hw (by omega) dL_law_259 ?_
    refine bm_vi (As := [.int (nI r), .int (nI k), .int (xs (i + 3))]) (rest := []) S (tyJ_Z hK) hw (kX1_track l D cZ cI b2 th σ (r := r) (k := k) (xs (i + 3)) hr hk h1 h2) (cwV 3 S.2.2.2.2 gL_law_X1_track rfl rfl rfl (by decide +kernel) ⟨Nat.le_of_ble_eq_true rfl, Nat.le_of_ble_eq_true rfl⟩) (q0 := 0) rfl rfl rfl hl.1 rfl (Nat.le_of_ble_eq_true rfl) hcl0 hsl0 dL_law_260 (fun H locs hw => ?_)
    refine lv_istore (lv' := [(6, .int (σ 3 (2 * r + k))), (5, .int 0), (0, .ref bs), (1, .ref (a 0)), (2, .ref (b2 0)), (3, .ref o), (4, .int (nI i))]) S.1 S.2.1 dL_law_263 hl (by decide) rfl (fun ls hl => ?_)
    refine lv_aload_n S.1 S.2.1 dL_law_265 rfl (lv_at hl 4 rfl) ?_
    refine bm_vi (As := []) (rest := []) S (tyJ_Z hK) hw (kX1_thrown l D cZ cI b2 0 (up σ 3 (2 * r + k) (xs (i + 3)))) (cwV 0 S.2.2.2.2 gL_law_X1_thrown rfl rfl rfl (by decide +kernel) ⟨Nat.le_of_ble_eq_true rfl, Nat.le_of_ble_eq_true rfl⟩) (q0 := 0) rfl rfl rfl hl.1 rfl (Nat.le_of_ble_eq_true rfl) hcl0 hsl0 dL_law_266 (fun H locs hw => ?_)
    refine lv_iload S.1 S.2.1 dL_law_269 (lv_at hl 1 rfl) ?_
    refine br_eq (tgt := 276) S dL_law_271 (by decide) (fun c9 => ?_) (fun c9 => ?_)
    · refine lv_iload S.1 S.2.1 dL_law_276 (lv_at hl 1 rfl) ?_
      refine bz_ne (tgt := 293) S dL_law_278 (by decide) (fun c9 => ?_) (fun c9 => ?_)
      · exact absurd c9 (by decide)
      · refine lv_aload_n S.1 S.2.1 dL_law_281 rfl (lv_at hl 5 rfl) ?_
        refine lv_iconst (v := nI 0) S.1 S.2.1 dL_law_282 (by decide) ?_
        refine bl_lald (v := (σ 3 (2 * r + k)).toInt64) S hK hw.1 17 2 rfl rfl (by decide) (by decide) rfl dL_law_283 ?_
        refine lv_iload S.1 S.2.1 dL_law_284 (lv_at hl 0 rfl) ?_
        refine lv_i2l (v := (σ 3 (2 * r + k)).toInt64) S.1 S.2.1 dL_law_286 rfl ?_
        refine bl_lcmp S rfl dL_law_287 ?_
        refine bz_eq (tgt := 293) S dL_law_288 (by decide) (fun c9 => ?_) (fun c9 => ?_)
        · refine lv_goto (tgt := 1514) S.1 S.2.1 dL_law_293 (by decide) ?_
          refine W.widen (k := c0 + 1) (n := d0 + 6) (by omega) (by omega) ?_
          exact K (up σ 3 (2 * r + k) (xs (i + 3))) (vp_updL fo 0 ((σ 3 (2 * r + k)).toInt64)) 0 (inv_k hI _ _ (by decide) (by decide) (by decide) (by decide)) _ _ hw _ (lv_sub hl [2, 3, 4, 5, 6] rfl)
        · exact absurd c9 (by decide)
    · exact absurd c9 (by decide)

set_option maxHeartbeats 4000000 in
set_option maxRecDepth 100000 in
theorem law_setLink (l : Launch) (hfl : l.stackTraces = false) {p : Program} {e : Env} {s : State} {m : MethodId} {below : List Frame} {meth : Method} {c : Code} {D : va_G} {cZ cI cJ : ClassId} {a b2 : Nat → Nat} {o bs L : Nat} {xs : Nat → Int32} (S : CallFix p m c cL_law 7 s #[Value.ref bs] wsL_law RL) (hK : va_K D vwCl (tyJ cZ cI cJ) s) (hZ : ZT (fun q => s.heap.size ≤ q) s s.heap) (hX : va_X bs L xs s s.heap) (hbl : bs < s.heap.size) (hL : L ≤ 2048) {Q : State → Prop} {i c0 d0 : Nat} (hi : i + 4 ≤ L) (hc0 : c0 + 1 ≤ 1068) (hd0 : d0 + 6 ≤ 8554) (σ : sC) (fo : Nat → Int64) (th : Int32) (hI : Inv σ) (K : ∀ (σ' : sC) (fo' : Nat → Int64) (th' : Int32), Inv σ' → ∀ (H : Heap) (locs : List Loc), Wd D (fun q => s.heap.size ≤ q) s.heap ((wX cZ cI a σ' ++ wO cJ o fo') ++ wM cZ cI b2 th' σ') H locs → ∀ ls : Array Slot, lv_has ls 7 [(0, .ref bs), (1, .ref (a 0)), (2, .ref (b2 0)), (3, .ref o), (4, .int (nI i))] → W p l e room_1 s m #[Value.ref bs] below meth c H locs (c0 + 1) (d0 + 6) Q (F0 m 1514 ls [])) : ∀ (H : Heap) (locs : List Loc), Wd D (fun q => s.heap.size ≤ q) s.heap ((wX cZ cI a σ ++ wO cJ o fo) ++ wM cZ cI b2 th σ) H locs → ∀ ls : Array Slot, lv_has ls 7 [(0, .ref bs), (1, .ref (a 0)), (2, .ref (b2 0)), (3, .ref o), (4, .int (nI i))] → W p l e room_1 s m #[Value.ref bs] below meth c H locs c0 d0 Q (F0 m 296 ls []) := by
  intro H locs hw ls hl
  have hcl0 : c0 ≤ room_1.cells := (show c0 ≤ 1068 by omega)
  have hsl0 : d0 ≤ room_1.slots := (show d0 ≤ 8554 by omega)
  have hcl1 : c0 + 1 ≤ room_1.cells := hc0
  have hsl1 : d0 + 6 ≤ room_1.slots := hd0
  by_cases hz : xs (i + 3) = 0
  · by_cases hb : lkE (xs (i + 1)) (xs (i + 2)) = 0
    · refine lv_aload_n S.1 S.2.1 dL_law_296 rfl (lv_at hl 1 rfl) ?_
      refine lv_aload_n S.1 S.2.1 dL_law_297 rfl (lv_at hl 0 rfl) ?_
      refine lv_iload S.1 S.2.1 dL_law_298 (lv_at hl 4 rfl) ?_
      refine lv_iconst (v := nI 1) S.1 S.2.1 dL_law_300 (by decide) ?_
      refine lv_iadd S.1 S.2.1 dL_law_301 ?_
      refine bx_top (y := nI (i + 1)) (nI_add i 1) ?_
      refine bl_sld S hX hbl hL hw (by omega) dL_law_302 ?_
      refine lv_aload_n S.1 S.2.1 dL_law_303 rfl (lv_at hl 0 rfl) ?_
      refine lv_iload S.1 S.2.1 dL_law_304 (lv_at hl 4 rfl) ?_
      refine lv_iconst (v := nI 2) S.1 S.2.1 dL_law_306 (by decide) ?_
      refine lv_iadd S.1 S.2.1 dL_law_307 ?_
      refine bx_top (y := nI (i + 2)) (nI_add i 2) ?_
      refine bl_sld S hX hbl hL hw (by omega) dL_law_308 ?_
      refine lv_aload_n S.1 S.2.1 dL_law_309 rfl (lv_at hl 0 rfl) ?_
      refine lv_iload S.1 S.2.1 dL_law_310 (lv_at hl 4 rfl) ?_
      refine lv_iconst (v := nI 3) S.1 S.2.1 dL_law_312 (by decide) ?_
      refine lv_iadd S.1 S.2.1 dL_law_313 ?_
      refine bx_top (y := nI (i + 3)) (nI_add i 3) ?_
      refine bl_sld S hX hbl hL hw (by omega) dL_law_314 ?_
      refine bz_eq (tgt := 322) S dL_law_315 (by decide) (fun c9 => ?_) (fun c9 => ?_)
      · refine lv_iconst (v := 0) S.1 S.2.1 dL_law_322 (by decide) ?_
        refine lv_aload_n S.1 S.2.1 dL_law_323 rfl (lv_at hl 3 rfl) ?_
        refine bl_sb (As := [.ref (a 0), .int (xs (i + 1)), .int (xs (i + 2)), .int 0, .ref o]) (rest := []) S hK hZ hw (kL_setLink_IA l D cZ cI cJ a σ o fo (xs (i + 1)) (xs (i + 2)) 0 (tX0_setLink_b l hfl D cZ cI a σ (xs (i + 1)) (xs (i + 2)) 0 hb)) (vx_cwSW 5 S.2.2.2.2 gL_law_L_setLink rfl rfl rfl (by decide +kernel) ⟨Nat.le_of_ble_eq_true rfl, Nat.le_of_ble_eq_true rfl⟩) rfl hl.1 rfl (Nat.le_of_ble_eq_true rfl) hcl1 hsl1 dL_law_324 (fun H locs hw => ?_)
        refine lv_istore (lv' := [(5, .int 1), (0, .ref bs), (1, .ref (a 0)), (2, .ref (b2 0)), (3, .ref o), (4, .int (nI i))]) S.1 S.2.1 dL_law_327 hl (by decide) rfl (fun ls hl => ?_)
        refine lv_aload_n S.1 S.2.1 dL_law_329 rfl (lv_at hl 3 rfl) ?_
        refine lv_aload_n S.1 S.2.1 dL_law_330 rfl (lv_at hl 1 rfl) ?_
        refine lv_iload S.1 S.2.1 dL_law_331 (lv_at hl 5 rfl) ?_
        refine lv_iconst (v := nI 1) S.1 S.2.1 dL_law_333 (by decide) ?_
        refine lv_iadd S.1 S.2.1 dL_law_334 ?_
        refine bx_top (y := nI (i + 1)) (nI_add i 1) ?_
        refine bl_sld S hX hbl hL hw (by omega) dL_law_335 ?_
        refine lv_aload_n S.1 S.2.1 dL_law_336 rfl (lv_at hl 1 rfl) ?_
        refine lv_iload S.1 S.2.1 dL_law_337 (lv_at hl 5 rfl) ?_
        refine lv_iconst (v := nI 2) S.1 S.2.1 dL_law_339 (by decide) ?_
        refine lv_iadd S.1 S.2.1 dL_law_340 ?_
        refine bx_top (y := nI (i + 2)) (nI_add i 2) ?_
        refine bl_sld S hX hbl hL hw (by omega) dL_law_341 ?_
        refine lv_aload_n S.1 S.2.1 dL_law_342 rfl (lv_at hl 1 rfl) ?_
        refine lv_iload S.1 S.2.1 dL_law_343 (lv_at hl 5 rfl) ?_
        refine lv_iconst (v := nI 3) S.1 S.2.1 dL_law_345 (by decide) ?_
        refine lv_iadd S.1 S.2.1 dL_law_346 ?_
        refine bx_top (y := nI (i + 3)) (nI_add i 3) ?_
        refine bl_sld S hX hbl hL hw (by omega) dL_law_347 ?_
        refine bz_eq (tgt := 355) S dL_law_348 (by decide) (fun c9 => ?_) (fun c9 => ?_)
        · refine lv_iconst (v := 0) S.1 S.2.1 dL_law_355 (by decide) ?_
          refine bm_vi (As := [.int (xs (i + 1)), .int (xs (i + 2)), .int 0]) (rest := []) S (tyJ_Z hK) hw (kX1_setLink_bad l D cZ cI b2 th σ (xs (i + 1)) (xs (i + 2)) 0 hb) (cwV 3 S.2.2.2.2 gL_law_X1_setLink rfl rfl rfl (by decide +kernel) ⟨Nat.le_of_ble_eq_true rfl, Nat.le_of_ble_eq_true rfl⟩) (q0 := 0) rfl rfl rfl hl.1 rfl (Nat.le_of_ble_eq_true rfl) hcl1 hsl1 dL_law_356 (fun H locs hw => ?_)
          refine lv_istore (lv' := [(6, .int 0), (5, .int 1), (0, .ref bs), (1, .ref (a 0)), (2, .ref (b2 0)), (3, .ref o), (4, .int (nI i))]) S.1 S.2.1 dL_law_359 hl (by decide) rfl (fun ls hl => ?_)
          refine lv_aload_n S.1 S.2.1 dL_law_361 rfl (lv_at hl 4 rfl) ?_
          refine bm_vi (As := []) (rest := []) S (tyJ_Z hK) hw (kX1_thrown l D cZ cI b2 1 σ) (cwV 0 S.2.2.2.2 gL_law_X1_thrown rfl rfl rfl (by decide +kernel) ⟨Nat.le_of_ble_eq_true rfl, Nat.le_of_ble_eq_true rfl⟩) (q0 := 0) rfl rfl rfl hl.1 rfl (Nat.le_of_ble_eq_true rfl) hcl1 hsl1 dL_law_362 (fun H locs hw => ?_)
          refine lv_iload S.1 S.2.1 dL_law_365 (lv_at hl 1 rfl) ?_
          refine br_eq (tgt := 372) S dL_law_367 (by decide) (fun c9 => ?_) (fun c9 => ?_)
          · refine lv_iload S.1 S.2.1 dL_law_372 (lv_at hl 1 rfl) ?_
            refine bz_ne (tgt := 396) S dL_law_374 (by decide) (fun c9 => ?_) (fun c9 => ?_)
            · refine lv_goto (tgt := 1514) S.1 S.2.1 dL_law_396 (by decide) ?_
              exact K σ fo 1 hI _ _ hw _ (lv_sub hl [2, 3, 4, 5, 6] rfl)
            · exact absurd c9 (by decide)
          · exact absurd c9 (by decide)
        · exact absurd hz c9
      · exact absurd hz c9
    · obtain ⟨r, k, hr, hk, ex, ey⟩ := lk_x hb
      refine lv_aload_n S.1 S.2.1 dL_law_296 rfl (lv_at hl 1 rfl) ?_
      refine lv_aload_n S.1 S.2.1 dL_law_297 rfl (lv_at hl 0 rfl) ?_
      refine lv_iload S.1 S.2.1 dL_law_298 (lv_at hl 4 rfl) ?_
      refine lv_iconst (v := nI 1) S.1 S.2.1 dL_law_300 (by decide) ?_
      refine lv_iadd S.1 S.2.1 dL_law_301 ?_
      refine bx_top (y := nI (i + 1)) (nI_add i 1) ?_
      refine bl_sld S hX hbl hL hw (by omega) dL_law_302 ?_
      refine bx_top (y := nI r) ex ?_
      refine lv_aload_n S.1 S.2.1 dL_law_303 rfl (lv_at hl 0 rfl) ?_
      refine lv_iload S.1 S.2.1 dL_law_304 (lv_at hl 4 rfl) ?_
      refine lv_iconst (v := nI 2) S.1 S.2.1 dL_law_306 (by decide) ?_
      refine lv_iadd S.1 S.2.1 dL_law_307 ?_
      refine bx_top (y := nI (i + 2)) (nI_add i 2) ?_
      refine bl_sld S hX hbl hL hw (by omega) dL_law_308 ?_
      refine bx_top (y := nI k) ey ?_
      refine lv_aload_n S.1 S.2.1 dL_law_309 rfl (lv_at hl 0 rfl) ?_
      refine lv_iload S.1 S.2.1 dL_law_310 (lv_at hl 4 rfl) ?_
      refine lv_iconst (v := nI 3) S.1 S.2.1 dL_law_312 (by decide) ?_
      refine lv_iadd S.1 S.2.1 dL_law_313 ?_
      refine bx_top (y := nI (i + 3)) (nI_add i 3) ?_
      refine bl_sld S hX hbl hL hw (by omega) dL_law_314 ?_
      refine bz_eq (tgt := 322) S dL_law_315 (by decide) (fun c9 => ?_) (fun c9 => ?_)
      · refine lv_iconst (v := 0) S.1 S.2.1 dL_law_322 (by decide) ?_
        refine lv_aload_n S.1 S.2.1 dL_law_323 rfl (lv_at hl 3 rfl) ?_
        refine bl_si (As := [.ref (a 0), .int (nI r), .int (nI k), .int 0, .ref o]) (rest := []) S hK hw (kL_setLink l D cZ cI cJ a σ o fo (r := r) (k := k) 0 hr hk (by decide) (nar_z (hI.2.2.2.2 _))) (vx_cwSW 5 S.2.2.2.2 gL_law_L_setLink rfl rfl rfl (by decide +kernel) ⟨Nat.le_of_ble_eq_true rfl, Nat.le_of_ble_eq_true rfl⟩) rfl hl.1 rfl (Nat.le_of_ble_eq_true rfl) hcl0 hsl0 dL_law_324 (fun H locs hw => ?_)
        refine lv_istore (lv' := [(5, .int 0), (0, .ref bs), (1, .ref (a 0)), (2, .ref (b2 0)), (3, .ref o), (4, .int (nI i))]) S.1 S.2.1 dL_law_327 hl (by decide) rfl (fun ls hl => ?_)
        refine lv_aload_n S.1 S.2.1 dL_law_329 rfl (lv_at hl 3 rfl) ?_
        refine lv_aload_n S.1 S.2.1 dL_law_330 rfl (lv_at hl 1 rfl) ?_
        refine lv_iload S.1 S.2.1 dL_law_331 (lv_at hl 5 rfl) ?_
        refine lv_iconst (v := nI 1) S.1 S.2.1 dL_law_333 (by decide) ?_
        refine lv_iadd S.1 S.2.1 dL_law_334 ?_
        refine bx_top (y := nI (i + 1)) (nI_add i 1) ?_
        refine bl_sld S hX hbl hL hw (by omega) dL_law_335 ?_
        refine bx_top (y := nI r) ex ?_
        refine lv_aload_n S.1 S.2.1 dL_law_336 rfl (lv_at hl 1 rfl) ?_
        refine lv_iload S.1 S.2.1 dL_law_337 (lv_at hl 5 rfl) ?_
        refine lv_iconst (v := nI 2) S.1 S.2.1 dL_law_339 (by decide) ?_
        refine lv_iadd S.1 S.2.1 dL_law_340 ?_
        refine bx_top (y := nI (i + 2)) (nI_add i 2) ?_
        refine bl_sld S hX hbl hL hw (by omega) dL_law_341 ?_
        refine bx_top (y := nI k) ey ?_
        refine lv_aload_n S.1 S.2.1 dL_law_342 rfl (lv_at hl 1 rfl) ?_
        refine lv_iload S.1 S.2.1 dL_law_343 (lv_at hl 5 rfl) ?_
        refine lv_iconst (v := nI 3) S.1 S.2.1 dL_law_345 (by decide) ?_
        refine lv_iadd S.1 S.2.1 dL_law_346 ?_
        refine bx_top (y := nI (i + 3)) (nI_add i 3) ?_
        refine bl_sld S hX hbl hL hw (by omega) dL_law_347 ?_
        refine bz_eq (tgt := 355) S dL_law_348 (by decide) (fun c9 => ?_) (fun c9 => ?_)
        · refine lv_iconst (v := 0) S.1 S.2.1 dL_law_355 (by decide) ?_
          refine bm_vi (As := [.int (nI r), .int (nI k), .int 0]) (rest := []) S (tyJ_Z hK) hw (kX1_setLink l D cZ cI b2 th σ (r := r) (k := k) 0 hr hk (hI.2.2.2.2 _)) (cwV 3 S.2.2.2.2 gL_law_X1_setLink rfl rfl rfl (by decide +kernel) ⟨Nat.le_of_ble_eq_true rfl, Nat.le_of_ble_eq_true rfl⟩) (q0 := 0) rfl rfl rfl hl.1 rfl (Nat.le_of_ble_eq_true rfl) hcl0 hsl0 dL_law_356 (fun H locs hw => ?_)
          refine lv_istore (lv' := [(6, .int (σ 2 (2 * r + k))), (5, .int 0), (0, .ref bs), (1, .ref (a 0)), (2, .ref (b2 0)), (3, .ref o), (4, .int (nI i))]) S.1 S.2.1 dL_law_359 hl (by decide) rfl (fun ls hl => ?_)
          refine lv_aload_n S.1 S.2.1 dL_law_361 rfl (lv_at hl 4 rfl) ?_
          refine bm_vi (As := []) (rest := []) S (tyJ_Z hK) hw (kX1_thrown l D cZ cI b2 0 (up σ 2 (2 * r + k) 0)) (cwV 0 S.2.2.2.2 gL_law_X1_thrown rfl rfl rfl (by decide +kernel) ⟨Nat.le_of_ble_eq_true rfl, Nat.le_of_ble_eq_true rfl⟩) (q0 := 0) rfl rfl rfl hl.1 rfl (Nat.le_of_ble_eq_true rfl) hcl0 hsl0 dL_law_362 (fun H locs hw => ?_)
          refine lv_iload S.1 S.2.1 dL_law_365 (lv_at hl 1 rfl) ?_
          refine br_eq (tgt := 372) S dL_law_367 (by decide) (fun c9 => ?_) (fun c9 => ?_)
          · refine lv_iload S.1 S.2.1 dL_law_372 (lv_at hl 1 rfl) ?_
            refine bz_ne (tgt := 396) S dL_law_374 (by decide) (fun c9 => ?_) (fun c9 => ?_)
            · exact absurd c9 (by decide)
            · refine lv_aload_n S.1 S.2.1 dL_law_377 rfl (lv_at hl 5 rfl) ?_
              refine lv_iconst (v := nI 0) S.1 S.2.1 dL_law_378 (by decide) ?_
              refine bl_lald (v := zL (σ 2 (2 * r + k))) S hK hw.1 17 2 rfl rfl (by decide) (by decide) rfl dL_law_379 ?_
              refine lv_iload S.1 S.2.1 dL_law_380 (lv_at hl 0 rfl) ?_
              refine bz_eq (tgt := 389) S dL_law_382 (by decide) (fun cz => ?_) (fun cz => ?_)
              · refine lv_lconst (v := 0) S.1 S.2.1 dL_law_389 (by decide) ?_
                refine bl_lcmp S (by unfold zL; rw [if_pos cz]) dL_law_390 ?_
                refine bz_eq (tgt := 396) S dL_law_391 (by decide) (fun c9 => ?_) (fun c9 => ?_)
                · refine lv_goto (tgt := 1514) S.1 S.2.1 dL_law_396 (by decide) ?_
                  refine W.widen (k := c0 + 1) (n := d0 + 6) (by omega) (by omega) ?_
                  exact K (up σ 2 (2 * r + k) 0) (vp_updL fo 0 (zL (σ 2 (2 * r + k)))) 0 (inv_link hI _ (by decide)) _ _ hw _ (lv_sub hl [2, 3, 4, 5, 6] rfl)
                · exact absurd c9 (by decide)
              · refine lv_lconst (v := 1) S.1 S.2.1 dL_law_385 (by decide) ?_
                refine lv_goto (tgt := 390) S.1 S.2.1 dL_law_386 (by decide) ?_
                refine bl_lcmp S (by unfold zL; rw [if_neg cz]) dL_law_390 ?_
                refine bz_eq (tgt := 396) S dL_law_391 (by decide) (fun c9 => ?_) (fun c9 => ?_)
                · refine lv_goto (tgt := 1514) S.1 S.2.1 dL_law_396 (by decide) ?_
                  refine W.widen (k := c0 + 1) (n := d0 + 6) (by omega) (by omega) ?_
                  exact K (up σ 2 (2 * r + k) 0) (vp_updL fo 0 (zL (σ 2 (2 * r + k)))) 0 (inv_link hI _ (by decide)) _ _ hw _ (lv_sub hl [2, 3, 4, 5, 6] rfl)
                · exact absurd c9 (by decide)
          · exact absurd c9 (by decide)
        · exact absurd hz c9
      · exact absurd hz c9
  · by_cases hb : lkE (xs (i + 1)) (xs (i + 2)) = 0
    · refine lv_aload_n S.1 S.2.1 dL_law_296 rfl (lv_at hl 1 rfl) ?_
      refine lv_aload_n S.1 S.2.1 dL_law_297 rfl (lv_at hl 0 rfl) ?_
      refine lv_iload S.1 S.2.1 dL_law_298 (lv_at hl 4 rfl) ?_
      refine lv_iconst (v := nI 1) S.1 S.2.1 dL_law_300 (by decide) ?_
      refine lv_iadd S.1 S.2.1 dL_law_301 ?_
      refine bx_top (y := nI (i + 1)) (nI_add i 1) ?_
      refine bl_sld S hX hbl hL hw (by omega) dL_law_302 ?_
      refine lv_aload_n S.1 S.2.1 dL_law_303 rfl (lv_at hl 0 rfl) ?_
      refine lv_iload S.1 S.2.1 dL_law_304 (lv_at hl 4 rfl) ?_
      refine lv_iconst (v := nI 2) S.1 S.2.1 dL_law_306 (by decide) ?_
      refine lv_iadd S.1 S.2.1 dL_law_307 ?_
      refine bx_top (y := nI (i + 2)) (nI_add i 2) ?_
      refine bl_sld S hX hbl hL hw (by omega) dL_law_308 ?_
      refine lv_aload_n S.1 S.2.1 dL_law_309 rfl (lv_at hl 0 rfl) ?_
      refine lv_iload S.1 S.2.1 dL_law_310 (lv_at hl 4 rfl) ?_
      refine lv_iconst (v := nI 3) S.1 S.2.1 dL_law_312 (by decide) ?_
      refine lv_iadd S.1 S.2.1 dL_law_313 ?_
      refine bx_top (y := nI (i + 3)) (nI_add i 3) ?_
      refine bl_sld S hX hbl hL hw (by omega) dL_law_314 ?_
      refine bz_eq (tgt := 322) S dL_law_315 (by decide) (fun c9 => ?_) (fun c9 => ?_)
      · exact absurd c9 hz
      · refine lv_iconst (v := 1) S.1 S.2.1 dL_law_318 (by decide) ?_
        refine lv_goto (tgt := 323) S.1 S.2.1 dL_law_319 (by decide) ?_
        refine lv_aload_n S.1 S.2.1 dL_law_323 rfl (lv_at hl 3 rfl) ?_
        refine bl_sb (As := [.ref (a 0), .int (xs (i + 1)), .int (xs (i + 2)), .int 1, .ref o]) (rest := []) S hK hZ hw (kL_setLink_IA l D cZ cI cJ a σ o fo (xs (i + 1)) (xs (i + 2)) 1 (tX0_setLink_b l hfl D cZ cI a σ (xs (i + 1)) (xs (i + 2)) 1 hb)) (vx_cwSW 5 S.2.2.2.2 gL_law_L_setLink rfl rfl rfl (by decide +kernel) ⟨Nat.le_of_ble_eq_true rfl, Nat.le_of_ble_eq_true rfl⟩) rfl hl.1 rfl (Nat.le_of_ble_eq_true rfl) hcl1 hsl1 dL_law_324 (fun H locs hw => ?_)
        refine lv_istore (lv' := [(5, .int 1), (0, .ref bs), (1, .ref (a 0)), (2, .ref (b2 0)), (3, .ref o), (4, .int (nI i))]) S.1 S.2.1 dL_law_327 hl (by decide) rfl (fun ls hl => ?_)
        refine lv_aload_n S.1 S.2.1 dL_law_329 rfl (lv_at hl 3 rfl) ?_
        refine lv_aload_n S.1 S.2.1 dL_law_330 rfl (lv_at hl 1 rfl) ?_
        refine lv_iload S.1 S.2.1 dL_law_331 (lv_at hl 5 rfl) ?_
        refine lv_iconst (v := nI 1) S.1 S.2.1 dL_law_333 (by decide) ?_
        refine lv_iadd S.1 S.2.1 dL_law_334 ?_
        refine bx_top (y := nI (i + 1)) (nI_add i 1) ?_
        refine bl_sld S hX hbl hL hw (by omega) dL_law_335 ?_
        refine lv_aload_n S.1 S.2.1 dL_law_336 rfl (lv_at hl 1 rfl) ?_
        refine lv_iload S.1 S.2.1 dL_law_337 (lv_at hl 5 rfl) ?_
        refine lv_iconst (v := nI 2) S.1 S.2.1 dL_law_339 (by decide) ?_
        refine lv_iadd S.1 S.2.1 dL_law_340 ?_
        refine bx_top (y := nI (i + 2)) (nI_add i 2) ?_
        refine bl_sld S hX hbl hL hw (by omega) dL_law_341 ?_
        refine lv_aload_n S.1 S.2.1 dL_law_342 rfl (lv_at hl 1 rfl) ?_
        refine lv_iload S.1 S.2.1 dL_law_343 (lv_at hl 5 rfl) ?_
        refine lv_iconst (v := nI 3) S.1 S.2.1 dL_law_345 (by decide) ?_
        refine lv_iadd S.1 S.2.1 dL_law_346 ?_
        refine bx_top (y := nI (i + 3)) (nI_add i 3) ?_
        refine bl_sld S hX hbl hL hw (by omega) dL_law_347 ?_
        refine bz_eq (tgt := 355) S dL_law_348 (by decide) (fun c9 => ?_) (fun c9 => ?_)
        · exact absurd c9 hz
        · refine lv_iconst (v := 1) S.1 S.2.1 dL_law_351 (by decide) ?_
          refine lv_goto (tgt := 356) S.1 S.2.1 dL_law_352 (by decide) ?_
          refine bm_vi (As := [.int (xs (i + 1)), .int (xs (i + 2)), .int 1]) (rest := []) S (tyJ_Z hK) hw (kX1_setLink_bad l D cZ cI b2 th σ (xs (i + 1)) (xs (i + 2)) 1 hb) (cwV 3 S.2.2.2.2 gL_law_X1_setLink rfl rfl rfl (by decide +kernel) ⟨Nat.le_of_ble_eq_true rfl, Nat.le_of_ble_eq_true rfl⟩) (q0 := 0) rfl rfl rfl hl.1 rfl (Nat.le_of_ble_eq_true rfl) hcl1 hsl1 dL_law_356 (fun H locs hw => ?_)
          refine lv_istore (lv' := [(6, .int 0), (5, .int 1), (0, .ref bs), (1, .ref (a 0)), (2, .ref (b2 0)), (3, .ref o), (4, .int (nI i))]) S.1 S.2.1 dL_law_359 hl (by decide) rfl (fun ls hl => ?_)
          refine lv_aload_n S.1 S.2.1 dL_law_361 rfl (lv_at hl 4 rfl) ?_
          refine bm_vi (As := []) (rest := []) S (tyJ_Z hK) hw (kX1_thrown l D cZ cI b2 1 σ) (cwV 0 S.2.2.2.2 gL_law_X1_thrown rfl rfl rfl (by decide +kernel) ⟨Nat.le_of_ble_eq_true rfl, Nat.le_of_ble_eq_true rfl⟩) (q0 := 0) rfl rfl rfl hl.1 rfl (Nat.le_of_ble_eq_true rfl) hcl1 hsl1 dL_law_362 (fun H locs hw => ?_)
          refine lv_iload S.1 S.2.1 dL_law_365 (lv_at hl 1 rfl) ?_
          refine br_eq (tgt := 372) S dL_law_367 (by decide) (fun c9 => ?_) (fun c9 => ?_)
          · refine lv_iload S.1 S.2.1 dL_law_372 (lv_at hl 1 rfl) ?_
            refine bz_ne (tgt := 396) S dL_law_374 (by decide) (fun c9 => ?_) (fun c9 => ?_)
            · refine lv_goto (tgt := 1514) S.1 S.2.1 dL_law_396 (by decide) ?_
              exact K σ fo 1 hI _ _ hw _ (lv_sub hl [2, 3, 4, 5, 6] rfl)
            · exact absurd c9 (by decide)
          · exact absurd c9 (by decide)
    · obtain ⟨r, k, hr, hk, ex, ey⟩ := lk_x hb
      refine lv_aload_n S.1 S.2.1 dL_law_296 rfl (lv_at hl 1 rfl) ?_
      refine lv_aload_n S.1 S.2.1 dL_law_297 rfl (lv_at hl 0 rfl) ?_
      refine lv_iload S.1 S.2.1 dL_law_298 (lv_at hl 4 rfl) ?_
      refine lv_iconst (v := nI 1) S.1 S.2.1 dL_law_300 (by decide) ?_
      refine lv_iadd S.1 S.2.1 dL_law_301 ?_
      refine bx_top (y := nI (i + 1)) (nI_add i 1) ?_
      refine bl_sld S hX hbl hL hw (by omega) dL_law_302 ?_
      refine bx_top (y := nI r) ex ?_
      refine lv_aload_n S.1 S.2.1 dL_law_303 rfl (lv_at hl 0 rfl) ?_
      refine lv_iload S.1 S.2.1 dL_law_304 (lv_at hl 4 rfl) ?_
      refine lv_iconst (v := nI 2) S.1 S.2.1 dL_law_306 (by decide) ?_
      refine lv_iadd S.1 S.2.1 dL_law_307 ?_
      refine bx_top (y := nI (i + 2)) (nI_add i 2) ?_
      refine bl_sld S hX hbl hL hw (by omega) dL_law_308 ?_
      refine bx_top (y := nI k) ey ?_
      refine lv_aload_n S.1 S.2.1 dL_law_309 rfl (lv_at hl 0 rfl) ?_
      refine lv_iload S.1 S.2.1 dL_law_310 (lv_at hl 4 rfl) ?_
      refine lv_iconst (v := nI 3) S.1 S.2.1 dL_law_312 (by decide) ?_
      refine lv_iadd S.1 S.2.1 dL_law_313 ?_
      refine bx_top (y := nI (i + 3)) (nI_add i 3) ?_
      refine bl_sld S hX hbl hL hw (by omega) dL_law_314 ?_
      refine bz_eq (tgt := 322) S dL_law_315 (by decide) (fun c9 => ?_) (fun c9 => ?_)
      · exact absurd c9 hz
      · refine lv_iconst (v := 1) S.1 S.2.1 dL_law_318 (by decide) ?_
        refine lv_goto (tgt := 323) S.1 S.2.1 dL_law_319 (by decide) ?_
        refine lv_aload_n S.1 S.2.1 dL_law_323 rfl (lv_at hl 3 rfl) ?_
        refine bl_si (As := [.ref (a 0), .int (nI r), .int (nI k), .int 1, .ref o]) (rest := []) S hK hw (kL_setLink l D cZ cI cJ a σ o fo (r := r) (k := k) 1 hr hk (by decide) (nar_z (hI.2.2.2.2 _))) (vx_cwSW 5 S.2.2.2.2 gL_law_L_setLink rfl rfl rfl (by decide +kernel) ⟨Nat.le_of_ble_eq_true rfl, Nat.le_of_ble_eq_true rfl⟩) rfl hl.1 rfl (Nat.le_of_ble_eq_true rfl) hcl0 hsl0 dL_law_324 (fun H locs hw => ?_)
        refine lv_istore (lv' := [(5, .int 0), (0, .ref bs), (1, .ref (a 0)), (2, .ref (b2 0)), (3, .ref o), (4, .int (nI i))]) S.1 S.2.1 dL_law_327 hl (by decide) rfl (fun ls hl => ?_)
        refine lv_aload_n S.1 S.2.1 dL_law_329 rfl (lv_at hl 3 rfl) ?_
        refine lv_aload_n S.1 S.2.1 dL_law_330 rfl (lv_at hl 1 rfl) ?_
        refine lv_iload S.1 S.2.1 dL_law_331 (lv_at hl 5 rfl) ?_
        refine lv_iconst (v := nI 1) S.1 S.2.1 dL_law_333 (by decide) ?_
        refine lv_iadd S.1 S.2.1 dL_law_334 ?_
        refine bx_top (y := nI (i + 1)) (nI_add i 1) ?_
        refine bl_sld S hX hbl hL hw (by omega) dL_law_335 ?_
        refine bx_top (y := nI r) ex ?_
        refine lv_aload_n S.1 S.2.1 dL_law_336 rfl (lv_at hl 1 rfl) ?_
        refine lv_iload S.1 S.2.1 dL_law_337 (lv_at hl 5 rfl) ?_
        refine lv_iconst (v := nI 2) S.1 S.2.1 dL_law_339 (by decide) ?_
        refine lv_iadd S.1 S.2.1 dL_law_340 ?_
        refine bx_top (y := nI (i + 2)) (nI_add i 2) ?_
        refine bl_sld S hX hbl hL hw (by omega) dL_law_341 ?_
        refine bx_top (y := nI k) ey ?_
        refine lv_aload_n S.1 S.2.1 dL_law_342 rfl (lv_at hl 1 rfl) ?_
        refine lv_iload S.1 S.2.1 dL_law_343 (lv_at hl 5 rfl) ?_
        refine lv_iconst (v := nI 3) S.1 S.2.1 dL_law_345 (by decide) ?_
        refine lv_iadd S.1 S.2.1 dL_law_346 ?_
        refine bx_top (y := nI (i + 3)) (nI_add i 3) ?_
        refine bl_sld S hX hbl hL hw (by omega) dL_law_347 ?_
        refine bz_eq (tgt := 355) S dL_law_348 (by decide) (fun c9 => ?_) (fun c9 => ?_)
        · exact absurd c9 hz
        · refine lv_iconst (v := 1) S.1 S.2.1 dL_law_351 (by decide) ?_
          refine lv_goto (tgt := 356) S.1 S.2.1 dL_law_352 (by decide) ?_
          refine bm_vi (As := [.int (nI r), .int (nI k), .int 1]) (rest := []) S (tyJ_Z hK) hw (kX1_setLink l D cZ cI b2 th σ (r := r) (k := k) 1 hr hk (hI.2.2.2.2 _)) (cwV 3 S.2.2.2.2 gL_law_X1_setLink rfl rfl rfl (by decide +kernel) ⟨Nat.le_of_ble_eq_true rfl, Nat.le_of_ble_eq_true rfl⟩) (q0 := 0) rfl rfl rfl hl.1 rfl (Nat.le_of_ble_eq_true rfl) hcl0 hsl0 dL_law_356 (fun H locs hw => ?_)
          refine lv_istore (lv' := [(6, .int (σ 2 (2 * r + k))), (5, .int 0), (0, .ref bs), (1, .ref (a 0)), (2, .ref (b2 0)), (3, .ref o), (4, .int (nI i))]) S.1 S.2.1 dL_law_359 hl (by decide) rfl (fun ls hl => ?_)
          refine lv_aload_n S.1 S.2.1 dL_law_361 rfl (lv_at hl 4 rfl) ?_
          refine bm_vi (As := []) (rest := []) S (tyJ_Z hK) hw (kX1_thrown l D cZ cI b2 0 (up σ 2 (2 * r + k) 1)) (cwV 0 S.2.2.2.2 gL_law_X1_thrown rfl rfl rfl (by decide +kernel) ⟨Nat.le_of_ble_eq_true rfl, Nat.le_of_ble_eq_true rfl⟩) (q0 := 0) rfl rfl rfl hl.1 rfl (Nat.le_of_ble_eq_true rfl) hcl0 hsl0 dL_law_362 (fun H locs hw => ?_)
          refine lv_iload S.1 S.2.1 dL_law_365 (lv_at hl 1 rfl) ?_
          refine br_eq (tgt := 372) S dL_law_367 (by decide) (fun c9 => ?_) (fun c9 => ?_)
          · refine lv_iload S.1 S.2.1 dL_law_372 (lv_at hl 1 rfl) ?_
            refine bz_ne (tgt := 396) S dL_law_374 (by decide) (fun c9 => ?_) (fun c9 => ?_)
            · exact absurd c9 (by decide)
            · refine lv_aload_n S.1 S.2.1 dL_law_377 rfl (lv_at hl 5 rfl) ?_
              refine lv_iconst (v := nI 0) S.1 S.2.1 dL_law_378 (by decide) ?_
              refine bl_lald (v := zL (σ 2 (2 * r + k))) S hK hw.1 17 2 rfl rfl (by decide) (by decide) rfl dL_law_379 ?_
              refine lv_iload S.1 S.2.1 dL_law_380 (lv_at hl 0 rfl) ?_
              refine bz_eq (tgt := 389) S dL_law_382 (by decide) (fun cz => ?_) (fun cz => ?_)
              · refine lv_lconst (v := 0) S.1 S.2.1 dL_law_389 (by decide) ?_
                refine bl_lcmp S (by unfold zL; rw [if_pos cz]) dL_law_390 ?_
                refine bz_eq (tgt := 396) S dL_law_391 (by decide) (fun c9 => ?_) (fun c9 => ?_)
                · refine lv_goto (tgt := 1514) S.1 S.2.1 dL_law_396 (by decide) ?_
                  refine W.widen (k := c0 + 1) (n := d0 + 6) (by omega) (by omega) ?_
                  exact K (up σ 2 (2 * r + k) 1) (vp_updL fo 0 (zL (σ 2 (2 * r + k)))) 0 (inv_link hI _ (by decide)) _ _ hw _ (lv_sub hl [2, 3, 4, 5, 6] rfl)
                · exact absurd c9 (by decide)
              · refine lv_lconst (v := 1) S.1 S.2.1 dL_law_385 (by decide) ?_
                refine lv_goto (tgt := 390) S.1 S.2.1 dL_law_386 (by decide) ?_
                refine bl_lcmp S (by unfold zL; rw [if_neg cz]) dL_law_390 ?_
                refine bz_eq (tgt := 396) S dL_law_391 (by decide) (fun c9 => ?_) (fun c9 => ?_)
                · refine lv_goto (tgt := 1514) S.1 S.2.1 dL_law_396 (by decide) ?_
                  refine W.widen (k := c0 + 1) (n := d0 + 6) (by omega) (by omega) ?_
                  exact K (up σ 2 (2 * r + k) 1) (vp_updL fo 0 (zL (σ 2 (2 * r + k)))) 0 (inv_link hI _ (by decide)) _ _ hw _ (lv_sub hl [2, 3, 4, 5, 6] rfl)
                · exact absurd c9 (by decide)
          · exact absurd c9 (by decide)

set_option maxHeartbeats 4000000 in
set_option maxRecDepth 100000 in
theorem law_setPeriod (l : Launch) (hfl : l.stackTraces = false) {p : Program} {e : Env} {s : State} {m : MethodId} {below : List Frame} {meth : Method} {c : Code} {D : va_G} {cZ cI cJ : ClassId} {a b2 : Nat → Nat} {o bs L : Nat} {xs : Nat → Int32} (S : CallFix p m c cL_law 7 s #[Value.ref bs] wsL_law RL) (hK : va_K D vwCl (tyJ cZ cI cJ) s) (hZ : ZT (fun q => s.heap.size ≤ q) s s.heap) (hX : va_X bs L xs s s.heap) (hbl : bs < s.heap.size) (hL : L ≤ 2048) {Q : State → Prop} {i c0 d0 : Nat} (hi : i + 4 ≤ L) (hc0 : c0 + 1 ≤ 1068) (hd0 : d0 + 6 ≤ 8554) (σ : sC) (fo : Nat → Int64) (th : Int32) (hI : Inv σ) (K : ∀ (σ' : sC) (fo' : Nat → Int64) (th' : Int32), Inv σ' → ∀ (H : Heap) (locs : List Loc), Wd D (fun q => s.heap.size ≤ q) s.heap ((wX cZ cI a σ' ++ wO cJ o fo') ++ wM cZ cI b2 th' σ') H locs → ∀ ls : Array Slot, lv_has ls 7 [(0, .ref bs), (1, .ref (a 0)), (2, .ref (b2 0)), (3, .ref o), (4, .int (nI i))] → W p l e room_1 s m #[Value.ref bs] below meth c H locs (c0 + 1) (d0 + 6) Q (F0 m 1514 ls [])) : ∀ (H : Heap) (locs : List Loc), Wd D (fun q => s.heap.size ≤ q) s.heap ((wX cZ cI a σ ++ wO cJ o fo) ++ wM cZ cI b2 th σ) H locs → ∀ ls : Array Slot, lv_has ls 7 [(0, .ref bs), (1, .ref (a 0)), (2, .ref (b2 0)), (3, .ref o), (4, .int (nI i))] → W p l e room_1 s m #[Value.ref bs] below meth c H locs c0 d0 Q (F0 m 399 ls []) := by
  intro H locs hw ls hl
  have hcl0 : c0 ≤ room_1.cells := (show c0 ≤ 1068 by omega)
  have hsl0 : d0 ≤ room_1.slots := (show d0 ≤ 8554 by omega)
  have hcl1 : c0 + 1 ≤ room_1.cells := hc0
  have hsl1 : d0 + 6 ≤ room_1.slots := hd0
  by_cases hb : inB (xs (i + 1)) 0 2 = 0 ∨ inB (xs (i + 2)) 1 10 = 0
  · refine lv_aload_n S.1 S.2.1 dL_law_399 rfl (lv_at hl 1 rfl) ?_
    refine lv_aload_n S.1 S.2.1 dL_law_400 rfl (lv_at hl 0 rfl) ?_
    refine lv_iload S.1 S.2.1 dL_law_401 (lv_at hl 4 rfl) ?_
    refine lv_iconst (v := nI 1) S.1 S.2.1 dL_law_403 (by decide) ?_
    refine lv_iadd S.1 S.2.1 dL_law_404 ?_
    refine bx_top (y := nI (i + 1)) (nI_add i 1) ?_
    refine bl_sld S hX hbl hL hw (by omega) dL_law_405 ?_
    refine lv_aload_n S.1 S.2.1 dL_law_406 rfl (lv_at hl 0 rfl) ?_
    refine lv_iload S.1 S.2.1 dL_law_407 (lv_at hl 4 rfl) ?_
    refine lv_iconst (v := nI 2) S.1 S.2.1 dL_law_409 (by decide) ?_
    refine lv_iadd S.1 S.2.1 dL_law_410 ?_
    refine bx_top (y := nI (i + 2)) (nI_add i 2) ?_
    refine bl_sld S hX hbl hL hw (by omega) dL_law_411 ?_
    refine lv_aload_n S.1 S.2.1 dL_law_412 rfl (lv_at hl 3 rfl) ?_
    refine bl_sb (As := [.ref (a 0), .int (xs (i + 1)), .int (xs (i + 2)), .ref o]) (rest := []) S hK hZ hw (kL_setPeriod_IA l D cZ cI cJ a σ o fo (xs (i + 1)) (xs (i + 2)) (tX0_setPeriod_b l hfl D cZ cI a σ (xs (i + 1)) (xs (i + 2)) hb)) (vx_cwSW 4 S.2.2.2.2 gL_law_L_setPeriod rfl rfl rfl (by decide +kernel) ⟨Nat.le_of_ble_eq_true rfl, Nat.le_of_ble_eq_true rfl⟩) rfl hl.1 rfl (Nat.le_of_ble_eq_true rfl) hcl1 hsl1 dL_law_413 (fun H locs hw => ?_)
    refine lv_istore (lv' := [(5, .int 1), (0, .ref bs), (1, .ref (a 0)), (2, .ref (b2 0)), (3, .ref o), (4, .int (nI i))]) S.1 S.2.1 dL_law_416 hl (by decide) rfl (fun ls hl => ?_)
    refine lv_aload_n S.1 S.2.1 dL_law_418 rfl (lv_at hl 3 rfl) ?_
    refine lv_aload_n S.1 S.2.1 dL_law_419 rfl (lv_at hl 1 rfl) ?_
    refine lv_iload S.1 S.2.1 dL_law_420 (lv_at hl 5 rfl) ?_
    refine lv_iconst (v := nI 1) S.1 S.2.1 dL_law_422 (by decide) ?_
    refine lv_iadd S.1 S.2.1 dL_law_423 ?_
    refine bx_top (y := nI (i + 1)) (nI_add i 1) ?_
    refine bl_sld S hX hbl hL hw (by omega) dL_law_424 ?_
    refine lv_aload_n S.1 S.2.1 dL_law_425 rfl (lv_at hl 1 rfl) ?_
    refine lv_iload S.1 S.2.1 dL_law_426 (lv_at hl 5 rfl) ?_
    refine lv_iconst (v := nI 2) S.1 S.2.1 dL_law_428 (by decide) ?_
    refine lv_iadd S.1 S.2.1 dL_law_429 ?_
    refine bx_top (y := nI (i + 2)) (nI_add i 2) ?_
    refine bl_sld S hX hbl hL hw (by omega) dL_law_430 ?_
    refine bm_vi (As := [.int (xs (i + 1)), .int (xs (i + 2))]) (rest := []) S (tyJ_Z hK) hw (kX1_setPeriod_bad l D cZ cI b2 th σ (xs (i + 1)) (xs (i + 2)) hb) (cwV 2 S.2.2.2.2 gL_law_X1_setPeriod rfl rfl rfl (by decide +kernel) ⟨Nat.le_of_ble_eq_true rfl, Nat.le_of_ble_eq_true rfl⟩) (q0 := 0) rfl rfl rfl hl.1 rfl (Nat.le_of_ble_eq_true rfl) hcl1 hsl1 dL_law_431 (fun H locs hw => ?_)
    refine lv_istore (lv' := [(6, .int 0), (5, .int 1), (0, .ref bs), (1, .ref (a 0)), (2, .ref (b2 0)), (3, .ref o), (4, .int (nI i))]) S.1 S.2.1 dL_law_434 hl (by decide) rfl (fun ls hl => ?_)
    refine lv_aload_n S.1 S.2.1 dL_law_436 rfl (lv_at hl 4 rfl) ?_
    refine bm_vi (As := []) (rest := []) S (tyJ_Z hK) hw (kX1_thrown l D cZ cI b2 1 σ) (cwV 0 S.2.2.2.2 gL_law_X1_thrown rfl rfl rfl (by decide +kernel) ⟨Nat.le_of_ble_eq_true rfl, Nat.le_of_ble_eq_true rfl⟩) (q0 := 0) rfl rfl rfl hl.1 rfl (Nat.le_of_ble_eq_true rfl) hcl1 hsl1 dL_law_437 (fun H locs hw => ?_)
    refine lv_iload S.1 S.2.1 dL_law_440 (lv_at hl 1 rfl) ?_
    refine br_eq (tgt := 447) S dL_law_442 (by decide) (fun c9 => ?_) (fun c9 => ?_)
    · refine lv_iload S.1 S.2.1 dL_law_447 (lv_at hl 1 rfl) ?_
      refine bz_ne (tgt := 464) S dL_law_449 (by decide) (fun c9 => ?_) (fun c9 => ?_)
      · refine lv_goto (tgt := 1514) S.1 S.2.1 dL_law_464 (by decide) ?_
        exact K σ fo 1 hI _ _ hw _ (lv_sub hl [2, 3, 4, 5, 6] rfl)
      · exact absurd c9 (by decide)
    · exact absurd c9 (by decide)
  · obtain ⟨g, hg, ex⟩ := in_gx (fun q => hb (Or.inl q))
    obtain ⟨h1, h2⟩ := in_n (fun q => hb (Or.inr q))
    refine lv_aload_n S.1 S.2.1 dL_law_399 rfl (lv_at hl 1 rfl) ?_
    refine lv_aload_n S.1 S.2.1 dL_law_400 rfl (lv_at hl 0 rfl) ?_
    refine lv_iload S.1 S.2.1 dL_law_401 (lv_at hl 4 rfl) ?_
    refine lv_iconst (v := nI 1) S.1 S.2.1 dL_law_403 (by decide) ?_
    refine lv_iadd S.1 S.2.1 dL_law_404 ?_
    refine bx_top (y := nI (i + 1)) (nI_add i 1) ?_
    refine bl_sld S hX hbl hL hw (by omega) dL_law_405 ?_
    refine bx_top (y := nI g) ex ?_
    refine lv_aload_n S.1 S.2.1 dL_law_406 rfl (lv_at hl 0 rfl) ?_
    refine lv_iload S.1 S.2.1 dL_law_407 (lv_at hl 4 rfl) ?_
    refine lv_iconst (v := nI 2) S.1 S.2.1 dL_law_409 (by decide) ?_
    refine lv_iadd S.1 S.2.1 dL_law_410 ?_
    refine bx_top (y := nI (i + 2)) (nI_add i 2) ?_
    refine bl_sld S hX hbl hL hw (by omega) dL_law_411 ?_
    refine lv_aload_n S.1 S.2.1 dL_law_412 rfl (lv_at hl 3 rfl) ?_
    refine bl_si (As := [.ref (a 0), .int (nI g), .int (xs (i + 2)), .ref o]) (rest := []) S hK hw (kL_setPeriod l D cZ cI cJ a σ o fo (g := g) (xs (i + 2)) hg h1 h2) (vx_cwSW 4 S.2.2.2.2 gL_law_L_setPeriod rfl rfl rfl (by decide +kernel) ⟨Nat.le_of_ble_eq_true rfl, Nat.le_of_ble_eq_true rfl⟩) rfl hl.1 rfl (Nat.le_of_ble_eq_true rfl) hcl0 hsl0 dL_law_413 (fun H locs hw => ?_)
    refine lv_istore (lv' := [(5, .int 0), (0, .ref bs), (1, .ref (a 0)), (2, .ref (b2 0)), (3, .ref o), (4, .int (nI i))]) S.1 S.2.1 dL_law_416 hl (by decide) rfl (fun ls hl => ?_)
    refine lv_aload_n S.1 S.2.1 dL_law_418 rfl (lv_at hl 3 rfl) ?_
    refine lv_aload_n S.1 S.2.1 dL_law_419 rfl (lv_at hl 1 rfl) ?_
    refine lv_iload S.1 S.2.1 dL_law_420 (lv_at hl 5 rfl) ?_
    refine lv_iconst (v := nI 1) S.1 S.2.1 dL_law_422 (by decide) ?_
    refine lv_iadd S.1 S.2.1 dL_law_423 ?_
    refine bx_top (y := nI (i + 1)) (nI_add i 1) ?_
    refine bl_sld S hX hbl hL hw (by omega) dL_law_424 ?_
    refine bx_top (y := nI g) ex ?_
    refine lv_aload_n S.1 S.2.1 dL_law_425 rfl (lv_at hl 1 rfl) ?_
    refine lv_iload S.1 S.2.1 dL_law_426 (lv_at hl 5 rfl) ?_
    refine lv_iconst (v := nI 2) S.1 S.2.1 dL_law_428 (by decide) ?_
    refine lv_iadd S.1 S.2.1 dL_law_429 ?_
    refine bx_top (y := nI (i + 2)) (nI_add i 2) ?_
    refine bl_sld S hX hbl hL hw (by omega) dL_law_430 ?_
    refine bm_vi (As := [.int (nI g), .int (xs (i + 2))]) (rest := []) S (tyJ_Z hK) hw (kX1_setPeriod l D cZ cI b2 th σ (g := g) (xs (i + 2)) hg h1 h2) (cwV 2 S.2.2.2.2 gL_law_X1_setPeriod rfl rfl rfl (by decide +kernel) ⟨Nat.le_of_ble_eq_true rfl, Nat.le_of_ble_eq_true rfl⟩) (q0 := 0) rfl rfl rfl hl.1 rfl (Nat.le_of_ble_eq_true rfl) hcl0 hsl0 dL_law_431 (fun H locs hw => ?_)
    refine lv_istore (lv' := [(6, .int (σ 4 g)), (5, .int 0), (0, .ref bs), (1, .ref (a 0)), (2, .ref (b2 0)), (3, .ref o), (4, .int (nI i))]) S.1 S.2.1 dL_law_434 hl (by decide) rfl (fun ls hl => ?_)
    refine lv_aload_n S.1 S.2.1 dL_law_436 rfl (lv_at hl 4 rfl) ?_
    refine bm_vi (As := []) (rest := []) S (tyJ_Z hK) hw (kX1_thrown l D cZ cI b2 0 (up σ 4 g (xs (i + 2)))) (cwV 0 S.2.2.2.2 gL_law_X1_thrown rfl rfl rfl (by decide +kernel) ⟨Nat.le_of_ble_eq_true rfl, Nat.le_of_ble_eq_true rfl⟩) (q0 := 0) rfl rfl rfl hl.1 rfl (Nat.le_of_ble_eq_true rfl) hcl0 hsl0 dL_law_437 (fun H locs hw => ?_)
    refine lv_iload S.1 S.2.1 dL_law_440 (lv_at hl 1 rfl) ?_
    refine br_eq (tgt := 447) S dL_law_442 (by decide) (fun c9 => ?_) (fun c9 => ?_)
    · refine lv_iload S.1 S.2.1 dL_law_447 (lv_at hl 1 rfl) ?_
      refine bz_ne (tgt := 464) S dL_law_449 (by decide) (fun c9 => ?_) (fun c9 => ?_)
      · exact absurd c9 (by decide)
      · refine lv_aload_n S.1 S.2.1 dL_law_452 rfl (lv_at hl 5 rfl) ?_
        refine lv_iconst (v := nI 0) S.1 S.2.1 dL_law_453 (by decide) ?_
        refine bl_lald (v := (σ 4 g).toInt64) S hK hw.1 17 2 rfl rfl (by decide) (by decide) rfl dL_law_454 ?_
        refine lv_iload S.1 S.2.1 dL_law_455 (lv_at hl 0 rfl) ?_
        refine lv_i2l (v := (σ 4 g).toInt64) S.1 S.2.1 dL_law_457 rfl ?_
        refine bl_lcmp S rfl dL_law_458 ?_
        refine bz_eq (tgt := 464) S dL_law_459 (by decide) (fun c9 => ?_) (fun c9 => ?_)
        · refine lv_goto (tgt := 1514) S.1 S.2.1 dL_law_464 (by decide) ?_
          refine W.widen (k := c0 + 1) (n := d0 + 6) (by omega) (by omega) ?_
          exact K (up σ 4 g (xs (i + 2))) (vp_updL fo 0 ((σ 4 g).toInt64)) 0 (inv_k hI _ _ (by decide) (by decide) (by decide) (by decide)) _ _ hw _ (lv_sub hl [2, 3, 4, 5, 6] rfl)
        · exact absurd c9 (by decide)
    · exact absurd c9 (by decide)

set_option maxHeartbeats 4000000 in
set_option maxRecDepth 100000 in
theorem law_setPreemption (l : Launch) (hfl : l.stackTraces = false) {p : Program} {e : Env} {s : State} {m : MethodId} {below : List Frame} {meth : Method} {c : Code} {D : va_G} {cZ cI cJ : ClassId} {a b2 : Nat → Nat} {o bs L : Nat} {xs : Nat → Int32} (S : CallFix p m c cL_law 7 s #[Value.ref bs] wsL_law RL) (hK : va_K D vwCl (tyJ cZ cI cJ) s) (hZ : ZT (fun q => s.heap.size ≤ q) s s.heap) (hX : va_X bs L xs s s.heap) (hbl : bs < s.heap.size) (hL : L ≤ 2048) {Q : State → Prop} {i c0 d0 : Nat} (hi : i + 4 ≤ L) (hc0 : c0 + 1 ≤ 1068) (hd0 : d0 + 6 ≤ 8554) (σ : sC) (fo : Nat → Int64) (th : Int32) (hI : Inv σ) (K : ∀ (σ' : sC) (fo' : Nat → Int64) (th' : Int32), Inv σ' → ∀ (H : Heap) (locs : List Loc), Wd D (fun q => s.heap.size ≤ q) s.heap ((wX cZ cI a σ' ++ wO cJ o fo') ++ wM cZ cI b2 th' σ') H locs → ∀ ls : Array Slot, lv_has ls 7 [(0, .ref bs), (1, .ref (a 0)), (2, .ref (b2 0)), (3, .ref o), (4, .int (nI i))] → W p l e room_1 s m #[Value.ref bs] below meth c H locs (c0 + 1) (d0 + 6) Q (F0 m 1514 ls [])) : ∀ (H : Heap) (locs : List Loc), Wd D (fun q => s.heap.size ≤ q) s.heap ((wX cZ cI a σ ++ wO cJ o fo) ++ wM cZ cI b2 th σ) H locs → ∀ ls : Array Slot, lv_has ls 7 [(0, .ref bs), (1, .ref (a 0)), (2, .ref (b2 0)), (3, .ref o), (4, .int (nI i))] → W p l e room_1 s m #[Value.ref bs] below meth c H locs c0 d0 Q (F0 m 467 ls []) := by
  intro H locs hw ls hl
  have hcl0 : c0 ≤ room_1.cells := (show c0 ≤ 1068 by omega)
  have hsl0 : d0 ≤ room_1.slots := (show d0 ≤ 8554 by omega)
  have hcl1 : c0 + 1 ≤ room_1.cells := hc0
  have hsl1 : d0 + 6 ≤ room_1.slots := hd0
  by_cases hz : xs (i + 2) = 0
  · by_cases hb : inB (xs (i + 1)) 0 2 = 0 ∨ inB (xs (i + 3)) 0 10 = 0
    · refine lv_aload_n S.1 S.2.1 dL_law_467 rfl (lv_at hl 1 rfl) ?_
      refine lv_aload_n S.1 S.2.1 dL_law_468 rfl (lv_at hl 0 rfl) ?_
      refine lv_iload S.1 S.2.1 dL_law_469 (lv_at hl 4 rfl) ?_
      refine lv_iconst (v := nI 1) S.1 S.2.1 dL_law_471 (by decide) ?_
      refine lv_iadd S.1 S.2.1 dL_law_472 ?_
      refine bx_top (y := nI (i + 1)) (nI_add i 1) ?_
      refine bl_sld S hX hbl hL hw (by omega) dL_law_473 ?_
      refine lv_aload_n S.1 S.2.1 dL_law_474 rfl (lv_at hl 0 rfl) ?_
      refine lv_iload S.1 S.2.1 dL_law_475 (lv_at hl 4 rfl) ?_
      refine lv_iconst (v := nI 2) S.1 S.2.1 dL_law_477 (by decide) ?_
      refine lv_iadd S.1 S.2.1 dL_law_478 ?_
      refine bx_top (y := nI (i + 2)) (nI_add i 2) ?_
      refine bl_sld S hX hbl hL hw (by omega) dL_law_479 ?_
      refine bz_eq (tgt := 487) S dL_law_480 (by decide) (fun c9 => ?_) (fun c9 => ?_)
      · refine lv_iconst (v := 0) S.1 S.2.1 dL_law_487 (by decide) ?_
        refine lv_aload_n S.1 S.2.1 dL_law_488 rfl (lv_at hl 0 rfl) ?_
        refine lv_iload S.1 S.2.1 dL_law_489 (lv_at hl 4 rfl) ?_
        refine lv_iconst (v := nI 3) S.1 S.2.1 dL_law_491 (by decide) ?_
        refine lv_iadd S.1 S.2.1 dL_law_492 ?_
        refine bx_top (y := nI (i + 3)) (nI_add i 3) ?_
        refine bl_sld S hX hbl hL hw (by omega) dL_law_493 ?_
        refine bl_sb (As := [.ref (a 0), .int (xs (i + 1)), .int 0, .int (xs (i + 3))]) (rest := []) S hK hZ hw (kL_setPreemption_IA l D cZ cI cJ a σ o fo (xs (i + 1)) 0 (xs (i + 3)) (tX0_setPreemption_b l hfl D cZ cI a σ (xs (i + 1)) 0 (xs (i + 3)) hb)) (vx_cwSW 4 S.2.2.2.2 gL_law_L_setPreemption rfl rfl rfl (by decide +kernel) ⟨Nat.le_of_ble_eq_true rfl, Nat.le_of_ble_eq_true rfl⟩) rfl hl.1 rfl (Nat.le_of_ble_eq_true rfl) hcl1 hsl1 dL_law_494 (fun H locs hw => ?_)
        refine lv_istore (lv' := [(5, .int 1), (0, .ref bs), (1, .ref (a 0)), (2, .ref (b2 0)), (3, .ref o), (4, .int (nI i))]) S.1 S.2.1 dL_law_497 hl (by decide) rfl (fun ls hl => ?_)
        refine lv_aload_n S.1 S.2.1 dL_law_499 rfl (lv_at hl 3 rfl) ?_
        refine lv_aload_n S.1 S.2.1 dL_law_500 rfl (lv_at hl 1 rfl) ?_
        refine lv_iload S.1 S.2.1 dL_law_501 (lv_at hl 5 rfl) ?_
        refine lv_iconst (v := nI 1) S.1 S.2.1 dL_law_503 (by decide) ?_
        refine lv_iadd S.1 S.2.1 dL_law_504 ?_
        refine bx_top (y := nI (i + 1)) (nI_add i 1) ?_
        refine bl_sld S hX hbl hL hw (by omega) dL_law_505 ?_
        refine lv_aload_n S.1 S.2.1 dL_law_506 rfl (lv_at hl 1 rfl) ?_
        refine lv_iload S.1 S.2.1 dL_law_507 (lv_at hl 5 rfl) ?_
        refine lv_iconst (v := nI 2) S.1 S.2.1 dL_law_509 (by decide) ?_
        refine lv_iadd S.1 S.2.1 dL_law_510 ?_
        refine bx_top (y := nI (i + 2)) (nI_add i 2) ?_
        refine bl_sld S hX hbl hL hw (by omega) dL_law_511 ?_
        refine bz_eq (tgt := 519) S dL_law_512 (by decide) (fun c9 => ?_) (fun c9 => ?_)
        · refine lv_iconst (v := 0) S.1 S.2.1 dL_law_519 (by decide) ?_
          refine lv_aload_n S.1 S.2.1 dL_law_520 rfl (lv_at hl 1 rfl) ?_
          refine lv_iload S.1 S.2.1 dL_law_521 (lv_at hl 5 rfl) ?_
          refine lv_iconst (v := nI 3) S.1 S.2.1 dL_law_523 (by decide) ?_
          refine lv_iadd S.1 S.2.1 dL_law_524 ?_
          refine bx_top (y := nI (i + 3)) (nI_add i 3) ?_
          refine bl_sld S hX hbl hL hw (by omega) dL_law_525 ?_
          refine bm_vv (As := [.int (xs (i + 1)), .int 0, .int (xs (i + 3))]) (rest := []) S (tyJ_Z hK) hw (kX1_setPreemption_bad l D cZ cI b2 th σ (xs (i + 1)) 0 (xs (i + 3)) hb) (cwV 3 S.2.2.2.2 gL_law_X1_setPreemption rfl rfl rfl (by decide +kernel) ⟨Nat.le_of_ble_eq_true rfl, Nat.le_of_ble_eq_true rfl⟩) (q0 := 0) rfl rfl rfl hl.1 rfl (Nat.le_of_ble_eq_true rfl) hcl1 hsl1 dL_law_526 (fun H locs hw => ?_)
          refine lv_aload_n S.1 S.2.1 dL_law_529 rfl (lv_at hl 3 rfl) ?_
          refine bm_vi (As := []) (rest := []) S (tyJ_Z hK) hw (kX1_thrown l D cZ cI b2 1 σ) (cwV 0 S.2.2.2.2 gL_law_X1_thrown rfl rfl rfl (by decide +kernel) ⟨Nat.le_of_ble_eq_true rfl, Nat.le_of_ble_eq_true rfl⟩) (q0 := 0) rfl rfl rfl hl.1 rfl (Nat.le_of_ble_eq_true rfl) hcl1 hsl1 dL_law_530 (fun H locs hw => ?_)
          refine lv_iload S.1 S.2.1 dL_law_533 (lv_at hl 0 rfl) ?_
          refine br_eq (tgt := 540) S dL_law_535 (by decide) (fun c9 => ?_) (fun c9 => ?_)
          · refine lv_goto (tgt := 1514) S.1 S.2.1 dL_law_540 (by decide) ?_
            exact K σ fo 1 hI _ _ hw _ (lv_sub hl [1, 2, 3, 4, 5] rfl)
          · exact absurd c9 (by decide)
        · exact absurd hz c9
      · exact absurd hz c9
    · obtain ⟨g, hg, ex⟩ := in_gx (fun q => hb (Or.inl q))
      obtain ⟨h1, h2⟩ := in_n (fun q => hb (Or.inr q))
      refine lv_aload_n S.1 S.2.1 dL_law_467 rfl (lv_at hl 1 rfl) ?_
      refine lv_aload_n S.1 S.2.1 dL_law_468 rfl (lv_at hl 0 rfl) ?_
      refine lv_iload S.1 S.2.1 dL_law_469 (lv_at hl 4 rfl) ?_
      refine lv_iconst (v := nI 1) S.1 S.2.1 dL_law_471 (by decide) ?_
      refine lv_iadd S.1 S.2.1 dL_law_472 ?_
      refine bx_top (y := nI (i + 1)) (nI_add i 1) ?_
      refine bl_sld S hX hbl hL hw (by omega) dL_law_473 ?_
      refine bx_top (y := nI g) ex ?_
      refine lv_aload_n S.1 S.2.1 dL_law_474 rfl (lv_at hl 0 rfl) ?_
      refine lv_iload S.1 S.2.1 dL_law_475 (lv_at hl 4 rfl) ?_
      refine lv_iconst (v := nI 2) S.1 S.2.1 dL_law_477 (by decide) ?_
      refine lv_iadd S.1 S.2.1 dL_law_478 ?_
      refine bx_top (y := nI (i + 2)) (nI_add i 2) ?_
      refine bl_sld S hX hbl hL hw (by omega) dL_law_479 ?_
      refine bz_eq (tgt := 487) S dL_law_480 (by decide) (fun c9 => ?_) (fun c9 => ?_)
      · refine lv_iconst (v := 0) S.1 S.2.1 dL_law_487 (by decide) ?_
        refine lv_aload_n S.1 S.2.1 dL_law_488 rfl (lv_at hl 0 rfl) ?_
        refine lv_iload S.1 S.2.1 dL_law_489 (lv_at hl 4 rfl) ?_
        refine lv_iconst (v := nI 3) S.1 S.2.1 dL_law_491 (by decide) ?_
        refine lv_iadd S.1 S.2.1 dL_law_492 ?_
        refine bx_top (y := nI (i + 3)) (nI_add i 3) ?_
        refine bl_sld S hX hbl hL hw (by omega) dL_law_493 ?_
        refine bl_si (As := [.ref (a 0), .int (nI g), .int 0, .int (xs (i + 3))]) (rest := []) S hK hw (kL_setPreemption l D cZ cI cJ a σ o fo (g := g) 0 (xs (i + 3)) hg (by decide) h1 h2) (vx_cwSW 4 S.2.2.2.2 gL_law_L_setPreemption rfl rfl rfl (by decide +kernel) ⟨Nat.le_of_ble_eq_true rfl, Nat.le_of_ble_eq_true rfl⟩) rfl hl.1 rfl (Nat.le_of_ble_eq_true rfl) hcl0 hsl0 dL_law_494 (fun H locs hw => ?_)
        refine lv_istore (lv' := [(5, .int 0), (0, .ref bs), (1, .ref (a 0)), (2, .ref (b2 0)), (3, .ref o), (4, .int (nI i))]) S.1 S.2.1 dL_law_497 hl (by decide) rfl (fun ls hl => ?_)
        refine lv_aload_n S.1 S.2.1 dL_law_499 rfl (lv_at hl 3 rfl) ?_
        refine lv_aload_n S.1 S.2.1 dL_law_500 rfl (lv_at hl 1 rfl) ?_
        refine lv_iload S.1 S.2.1 dL_law_501 (lv_at hl 5 rfl) ?_
        refine lv_iconst (v := nI 1) S.1 S.2.1 dL_law_503 (by decide) ?_
        refine lv_iadd S.1 S.2.1 dL_law_504 ?_
        refine bx_top (y := nI (i + 1)) (nI_add i 1) ?_
        refine bl_sld S hX hbl hL hw (by omega) dL_law_505 ?_
        refine bx_top (y := nI g) ex ?_
        refine lv_aload_n S.1 S.2.1 dL_law_506 rfl (lv_at hl 1 rfl) ?_
        refine lv_iload S.1 S.2.1 dL_law_507 (lv_at hl 5 rfl) ?_
        refine lv_iconst (v := nI 2) S.1 S.2.1 dL_law_509 (by decide) ?_
        refine lv_iadd S.1 S.2.1 dL_law_510 ?_
        refine bx_top (y := nI (i + 2)) (nI_add i 2) ?_
        refine bl_sld S hX hbl hL hw (by omega) dL_law_511 ?_
        refine bz_eq (tgt := 519) S dL_law_512 (by decide) (fun c9 => ?_) (fun c9 => ?_)
        · refine lv_iconst (v := 0) S.1 S.2.1 dL_law_519 (by decide) ?_
          refine lv_aload_n S.1 S.2.1 dL_law_520 rfl (lv_at hl 1 rfl) ?_
          refine lv_iload S.1 S.2.1 dL_law_521 (lv_at hl 5 rfl) ?_
          refine lv_iconst (v := nI 3) S.1 S.2.1 dL_law_523 (by decide) ?_
          refine lv_iadd S.1 S.2.1 dL_law_524 ?_
          refine bx_top (y := nI (i + 3)) (nI_add i 3) ?_
          refine bl_sld S hX hbl hL hw (by omega) dL_law_525 ?_
          refine bm_vv (As := [.int (nI g), .int 0, .int (xs (i + 3))]) (rest := []) S (tyJ_Z hK) hw (kX1_setPreemption l D cZ cI b2 th σ (g := g) 0 (xs (i + 3)) hg h1 h2) (cwV 3 S.2.2.2.2 gL_law_X1_setPreemption rfl rfl rfl (by decide +kernel) ⟨Nat.le_of_ble_eq_true rfl, Nat.le_of_ble_eq_true rfl⟩) (q0 := 0) rfl rfl rfl hl.1 rfl (Nat.le_of_ble_eq_true rfl) hcl0 hsl0 dL_law_526 (fun H locs hw => ?_)
          refine lv_aload_n S.1 S.2.1 dL_law_529 rfl (lv_at hl 3 rfl) ?_
          refine bm_vi (As := []) (rest := []) S (tyJ_Z hK) hw (kX1_thrown l D cZ cI b2 0 (up (up σ 5 g 0) 6 g (xs (i + 3)))) (cwV 0 S.2.2.2.2 gL_law_X1_thrown rfl rfl rfl (by decide +kernel) ⟨Nat.le_of_ble_eq_true rfl, Nat.le_of_ble_eq_true rfl⟩) (q0 := 0) rfl rfl rfl hl.1 rfl (Nat.le_of_ble_eq_true rfl) hcl0 hsl0 dL_law_530 (fun H locs hw => ?_)
          refine lv_iload S.1 S.2.1 dL_law_533 (lv_at hl 0 rfl) ?_
          refine br_eq (tgt := 540) S dL_law_535 (by decide) (fun c9 => ?_) (fun c9 => ?_)
          · refine lv_goto (tgt := 1514) S.1 S.2.1 dL_law_540 (by decide) ?_
            refine W.widen (k := c0 + 1) (n := d0 + 6) (by omega) (by omega) ?_
            exact K (up (up σ 5 g 0) 6 g (xs (i + 3))) fo 0 (inv_k (inv_k hI _ _ (by decide) (by decide) (by decide) (by decide)) _ _ (by decide) (by decide) (by decide) (by decide)) _ _ hw _ (lv_sub hl [1, 2, 3, 4, 5] rfl)
          · exact absurd c9 (by decide)
        · exact absurd hz c9
      · exact absurd hz c9
  · by_cases hb : inB (xs (i + 1)) 0 2 = 0 ∨ inB (xs (i + 3)) 0 10 = 0
    · refine lv_aload_n S.1 S.2.1 dL_law_467 rfl (lv_at hl 1 rfl) ?_
      refine lv_aload_n S.1 S.2.1 dL_law_468 rfl (lv_at hl 0 rfl) ?_
      refine lv_iload S.1 S.2.1 dL_law_469 (lv_at hl 4 rfl) ?_
      refine lv_iconst (v := nI 1) S.1 S.2.1 dL_law_471 (by decide) ?_
      refine lv_iadd S.1 S.2.1 dL_law_472 ?_
      refine bx_top (y := nI (i + 1)) (nI_add i 1) ?_
      refine bl_sld S hX hbl hL hw (by omega) dL_law_473 ?_
      refine lv_aload_n S.1 S.2.1 dL_law_474 rfl (lv_at hl 0 rfl) ?_
      refine lv_iload S.1 S.2.1 dL_law_475 (lv_at hl 4 rfl) ?_
      refine lv_iconst (v := nI 2) S.1 S.2.1 dL_law_477 (by decide) ?_
      refine lv_iadd S.1 S.2.1 dL_law_478 ?_
      refine bx_top (y := nI (i + 2)) (nI_add i 2) ?_
      refine bl_sld S hX hbl hL hw (by omega) dL_law_479 ?_
      refine bz_eq (tgt := 487) S dL_law_480 (by decide) (fun c9 => ?_) (fun c9 => ?_)
      · exact absurd c9 hz
      · refine lv_iconst (v := 1) S.1 S.2.1 dL_law_483 (by decide) ?_
        refine lv_goto (tgt := 488) S.1 S.2.1 dL_law_484 (by decide) ?_
        refine lv_aload_n S.1 S.2.1 dL_law_488 rfl (lv_at hl 0 rfl) ?_
        refine lv_iload S.1 S.2.1 dL_law_489 (lv_at hl 4 rfl) ?_
        refine lv_iconst (v := nI 3) S.1 S.2.1 dL_law_491 (by decide) ?_
        refine lv_iadd S.1 S.2.1 dL_law_492 ?_
        refine bx_top (y := nI (i + 3)) (nI_add i 3) ?_
        refine bl_sld S hX hbl hL hw (by omega) dL_law_493 ?_
        refine bl_sb (As := [.ref (a 0), .int (xs (i + 1)), .int 1, .int (xs (i + 3))]) (rest := []) S hK hZ hw (kL_setPreemption_IA l D cZ cI cJ a σ o fo (xs (i + 1)) 1 (xs (i + 3)) (tX0_setPreemption_b l hfl D cZ cI a σ (xs (i + 1)) 1 (xs (i + 3)) hb)) (vx_cwSW 4 S.2.2.2.2 gL_law_L_setPreemption rfl rfl rfl (by decide +kernel) ⟨Nat.le_of_ble_eq_true rfl, Nat.le_of_ble_eq_true rfl⟩) rfl hl.1 rfl (Nat.le_of_ble_eq_true rfl) hcl1 hsl1 dL_law_494 (fun H locs hw => ?_)
        refine lv_istore (lv' := [(5, .int 1), (0, .ref bs), (1, .ref (a 0)), (2, .ref (b2 0)), (3, .ref o), (4, .int (nI i))]) S.1 S.2.1 dL_law_497 hl (by decide) rfl (fun ls hl => ?_)
        refine lv_aload_n S.1 S.2.1 dL_law_499 rfl (lv_at hl 3 rfl) ?_
        refine lv_aload_n S.1 S.2.1 dL_law_500 rfl (lv_at hl 1 rfl) ?_
        refine lv_iload S.1 S.2.1 dL_law_501 (lv_at hl 5 rfl) ?_
        refine lv_iconst (v := nI 1) S.1 S.2.1 dL_law_503 (by decide) ?_
        refine lv_iadd S.1 S.2.1 dL_law_504 ?_
        refine bx_top (y := nI (i + 1)) (nI_add i 1) ?_
        refine bl_sld S hX hbl hL hw (by omega) dL_law_505 ?_
        refine lv_aload_n S.1 S.2.1 dL_law_506 rfl (lv_at hl 1 rfl) ?_
        refine lv_iload S.1 S.2.1 dL_law_507 (lv_at hl 5 rfl) ?_
        refine lv_iconst (v := nI 2) S.1 S.2.1 dL_law_509 (by decide) ?_
        refine lv_iadd S.1 S.2.1 dL_law_510 ?_
        refine bx_top (y := nI (i + 2)) (nI_add i 2) ?_
        refine bl_sld S hX hbl hL hw (by omega) dL_law_511 ?_
        refine bz_eq (tgt := 519) S dL_law_512 (by decide) (fun c9 => ?_) (fun c9 => ?_)
        · exact absurd c9 hz
        · refine lv_iconst (v := 1) S.1 S.2.1 dL_law_515 (by decide) ?_
          refine lv_goto (tgt := 520) S.1 S.2.1 dL_law_516 (by decide) ?_
          refine lv_aload_n S.1 S.2.1 dL_law_520 rfl (lv_at hl 1 rfl) ?_
          refine lv_iload S.1 S.2.1 dL_law_521 (lv_at hl 5 rfl) ?_
          refine lv_iconst (v := nI 3) S.1 S.2.1 dL_law_523 (by decide) ?_
          refine lv_iadd S.1 S.2.1 dL_law_524 ?_
          refine bx_top (y := nI (i + 3)) (nI_add i 3) ?_
          refine bl_sld S hX hbl hL hw (by omega) dL_law_525 ?_
          refine bm_vv (As := [.int (xs (i + 1)), .int 1, .int (xs (i + 3))]) (rest := []) S (tyJ_Z hK) hw (kX1_setPreemption_bad l D cZ cI b2 th σ (xs (i + 1)) 1 (xs (i + 3)) hb) (cwV 3 S.2.2.2.2 gL_law_X1_setPreemption rfl rfl rfl (by decide +kernel) ⟨Nat.le_of_ble_eq_true rfl, Nat.le_of_ble_eq_true rfl⟩) (q0 := 0) rfl rfl rfl hl.1 rfl (Nat.le_of_ble_eq_true rfl) hcl1 hsl1 dL_law_526 (fun H locs hw => ?_)
          refine lv_aload_n S.1 S.2.1 dL_law_529 rfl (lv_at hl 3 rfl) ?_
          refine bm_vi (As := []) (rest := []) S (tyJ_Z hK) hw (kX1_thrown l D cZ cI b2 1 σ) (cwV 0 S.2.2.2.2 gL_law_X1_thrown rfl rfl rfl (by decide +kernel) ⟨Nat.le_of_ble_eq_true rfl, Nat.le_of_ble_eq_true rfl⟩) (q0 := 0) rfl rfl rfl hl.1 rfl (Nat.le_of_ble_eq_true rfl) hcl1 hsl1 dL_law_530 (fun H locs hw => ?_)
          refine lv_iload S.1 S.2.1 dL_law_533 (lv_at hl 0 rfl) ?_
          refine br_eq (tgt := 540) S dL_law_535 (by decide) (fun c9 => ?_) (fun c9 => ?_)
          · refine lv_goto (tgt := 1514) S.1 S.2.1 dL_law_540 (by decide) ?_
            exact K σ fo 1 hI _ _ hw _ (lv_sub hl [1, 2, 3, 4, 5] rfl)
          · exact absurd c9 (by decide)
    · obtain ⟨g, hg, ex⟩ := in_gx (fun q => hb (Or.inl q))
      obtain ⟨h1, h2⟩ := in_n (fun q => hb (Or.inr q))
      refine lv_aload_n S.1 S.2.1 dL_law_467 rfl (lv_at hl 1 rfl) ?_
      refine lv_aload_n S.1 S.2.1 dL_law_468 rfl (lv_at hl 0 rfl) ?_
      refine lv_iload S.1 S.2.1 dL_law_469 (lv_at hl 4 rfl) ?_
      refine lv_iconst (v := nI 1) S.1 S.2.1 dL_law_471 (by decide) ?_
      refine lv_iadd S.1 S.2.1 dL_law_472 ?_
      refine bx_top (y := nI (i + 1)) (nI_add i 1) ?_
      refine bl_sld S hX hbl hL hw (by omega) dL_law_473 ?_
      refine bx_top (y := nI g) ex ?_
      refine lv_aload_n S.1 S.2.1 dL_law_474 rfl (lv_at hl 0 rfl) ?_
      refine lv_iload S.1 S.2.1 dL_law_475 (lv_at hl 4 rfl) ?_
      refine lv_iconst (v := nI 2) S.1 S.2.1 dL_law_477 (by decide) ?_
      refine lv_iadd S.1 S.2.1 dL_law_478 ?_
      refine bx_top (y := nI (i + 2)) (nI_add i 2) ?_
      refine bl_sld S hX hbl hL hw (by omega) dL_law_479 ?_
      refine bz_eq (tgt := 487) S dL_law_480 (by decide) (fun c9 => ?_) (fun c9 => ?_)
      · exact absurd c9 hz
      · refine lv_iconst (v := 1) S.1 S.2.1 dL_law_483 (by decide) ?_
        refine lv_goto (tgt := 488) S.1 S.2.1 dL_law_484 (by decide) ?_
        refine lv_aload_n S.1 S.2.1 dL_law_488 rfl (lv_at hl 0 rfl) ?_
        refine lv_iload S.1 S.2.1 dL_law_489 (lv_at hl 4 rfl) ?_
        refine lv_iconst (v := nI 3) S.1 S.2.1 dL_law_491 (by decide) ?_
        refine lv_iadd S.1 S.2.1 dL_law_492 ?_
        refine bx_top (y := nI (i + 3)) (nI_add i 3) ?_
        refine bl_sld S hX hbl hL hw (by omega) dL_law_493 ?_
        refine bl_si (As := [.ref (a 0), .int (nI g), .int 1, .int (xs (i + 3))]) (rest := []) S hK hw (kL_setPreemption l D cZ cI cJ a σ o fo (g := g) 1 (xs (i + 3)) hg (by decide) h1 h2) (vx_cwSW 4 S.2.2.2.2 gL_law_L_setPreemption rfl rfl rfl (by decide +kernel) ⟨Nat.le_of_ble_eq_true rfl, Nat.le_of_ble_eq_true rfl⟩) rfl hl.1 rfl (Nat.le_of_ble_eq_true rfl) hcl0 hsl0 dL_law_494 (fun H locs hw => ?_)
        refine lv_istore (lv' := [(5, .int 0), (0, .ref bs), (1, .ref (a 0)), (2, .ref (b2 0)), (3, .ref o), (4, .int (nI i))]) S.1 S.2.1 dL_law_497 hl (by decide) rfl (fun ls hl => ?_)
        refine lv_aload_n S.1 S.2.1 dL_law_499 rfl (lv_at hl 3 rfl) ?_
        refine lv_aload_n S.1 S.2.1 dL_law_500 rfl (lv_at hl 1 rfl) ?_
        refine lv_iload S.1 S.2.1 dL_law_501 (lv_at hl 5 rfl) ?_
        refine lv_iconst (v := nI 1) S.1 S.2.1 dL_law_503 (by decide) ?_
        refine lv_iadd S.1 S.2.1 dL_law_504 ?_
        refine bx_top (y := nI (i + 1)) (nI_add i 1) ?_
        refine bl_sld S hX hbl hL hw (by omega) dL_law_505 ?_
        refine bx_top (y := nI g) ex ?_
        refine lv_aload_n S.1 S.2.1 dL_law_506 rfl (lv_at hl 1 rfl) ?_
        refine lv_iload S.1 S.2.1 dL_law_507 (lv_at hl 5 rfl) ?_
        refine lv_iconst (v := nI 2) S.1 S.2.1 dL_law_509 (by decide) ?_
        refine lv_iadd S.1 S.2.1 dL_law_510 ?_
        refine bx_top (y := nI (i + 2)) (nI_add i 2) ?_
        refine bl_sld S hX hbl hL hw (by omega) dL_law_511 ?_
        refine bz_eq (tgt := 519) S dL_law_512 (by decide) (fun c9 => ?_) (fun c9 => ?_)
        · exact absurd c9 hz
        · refine lv_iconst (v := 1) S.1 S.2.1 dL_law_515 (by decide) ?_
          refine lv_goto (tgt := 520) S.1 S.2.1 dL_law_516 (by decide) ?_
          refine lv_aload_n S.1 S.2.1 dL_law_520 rfl (lv_at hl 1 rfl) ?_
          refine lv_iload S.1 S.2.1 dL_law_521 (lv_at hl 5 rfl) ?_
          refine lv_iconst (v := nI 3) S.1 S.2.1 dL_law_523 (by decide) ?_
          refine lv_iadd S.1 S.2.1 dL_law_524 ?_
          refine bx_top (y := nI (i + 3)) (nI_add i 3) ?_
          refine bl_sld S hX hbl hL hw (by omega) dL_law_525 ?_
          refine bm_vv (As := [.int (nI g), .int 1, .int (xs (i + 3))]) (rest := []) S (tyJ_Z hK) hw (kX1_setPreemption l D cZ cI b2 th σ (g := g) 1 (xs (i + 3)) hg h1 h2) (cwV 3 S.2.2.2.2 gL_law_X1_setPreemption rfl rfl rfl (by decide +kernel) ⟨Nat.le_of_ble_eq_true rfl, Nat.le_of_ble_eq_true rfl⟩) (q0 := 0) rfl rfl rfl hl.1 rfl (Nat.le_of_ble_eq_true rfl) hcl0 hsl0 dL_law_526 (fun H locs hw => ?_)
          refine lv_aload_n S.1 S.2.1 dL_law_529 rfl (lv_at hl 3 rfl) ?_
          refine bm_vi (As := []) (rest := []) S (tyJ_Z hK) hw (kX1_thrown l D cZ cI b2 0 (up (up σ 5 g 1) 6 g (xs (i + 3)))) (cwV 0 S.2.2.2.2 gL_law_X1_thrown rfl rfl rfl (by decide +kernel) ⟨Nat.le_of_ble_eq_true rfl, Nat.le_of_ble_eq_true rfl⟩) (q0 := 0) rfl rfl rfl hl.1 rfl (Nat.le_of_ble_eq_true rfl) hcl0 hsl0 dL_law_530 (fun H locs hw => ?_)
          refine lv_iload S.1 S.2.1 dL_law_533 (lv_at hl 0 rfl) ?_
          refine br_eq (tgt := 540) S dL_law_535 (by decide) (fun c9 => ?_) (fun c9 => ?_)
          · refine lv_goto (tgt := 1514) S.1 S.2.1 dL_law_540 (by decide) ?_
            refine W.widen (k := c0 + 1) (n := d0 + 6) (by omega) (by omega) ?_
            exact K (up (up σ 5 g 1) 6 g (xs (i + 3))) fo 0 (inv_k (inv_k hI _ _ (by decide) (by decide) (by decide) (by decide)) _ _ (by decide) (by decide) (by decide) (by decide)) _ _ hw _ (lv_sub hl [1, 2, 3, 4, 5] rfl)
          · exact absurd c9 (by decide)

set_option maxHeartbeats 4000000 in
set_option maxRecDepth 100000 in
theorem law_join (l : Launch) (hfl : l.stackTraces = false) {p : Program} {e : Env} {s : State} {m : MethodId} {below : List Frame} {meth : Method} {c : Code} {D : va_G} {cZ cI cJ : ClassId} {a b2 : Nat → Nat} {o bs L : Nat} {xs : Nat → Int32} (S : CallFix p m c cL_law 7 s #[Value.ref bs] wsL_law RL) (hK : va_K D vwCl (tyJ cZ cI cJ) s) (hZ : ZT (fun q => s.heap.size ≤ q) s s.heap) (hX : va_X bs L xs s s.heap) (hbl : bs < s.heap.size) (hL : L ≤ 2048) {Q : State → Prop} {i c0 d0 : Nat} (hi : i + 4 ≤ L) (hc0 : c0 + 1 ≤ 1068) (hd0 : d0 + 6 ≤ 8554) (σ : sC) (fo : Nat → Int64) (th : Int32) (hI : Inv σ) (K : ∀ (σ' : sC) (fo' : Nat → Int64) (th' : Int32), Inv σ' → ∀ (H : Heap) (locs : List Loc), Wd D (fun q => s.heap.size ≤ q) s.heap ((wX cZ cI a σ' ++ wO cJ o fo') ++ wM cZ cI b2 th' σ') H locs → ∀ ls : Array Slot, lv_has ls 7 [(0, .ref bs), (1, .ref (a 0)), (2, .ref (b2 0)), (3, .ref o), (4, .int (nI i))] → W p l e room_1 s m #[Value.ref bs] below meth c H locs (c0 + 1) (d0 + 6) Q (F0 m 1514 ls [])) : ∀ (H : Heap) (locs : List Loc), Wd D (fun q => s.heap.size ≤ q) s.heap ((wX cZ cI a σ ++ wO cJ o fo) ++ wM cZ cI b2 th σ) H locs → ∀ ls : Array Slot, lv_has ls 7 [(0, .ref bs), (1, .ref (a 0)), (2, .ref (b2 0)), (3, .ref o), (4, .int (nI i))] → W p l e room_1 s m #[Value.ref bs] below meth c H locs c0 d0 Q (F0 m 543 ls []) := by
  intro H locs hw ls hl
  have hcl0 : c0 ≤ room_1.cells := (show c0 ≤ 1068 by omega)
  have hsl0 : d0 ≤ room_1.slots := (show d0 ≤ 8554 by omega)
  have hcl1 : c0 + 1 ≤ room_1.cells := hc0
  have hsl1 : d0 + 6 ≤ room_1.slots := hd0
  by_cases hz : xs (i + 3) = 0
  · by_cases hb : inB (xs (i + 1)) 0 3 = 0 ∨ inB (xs (i + 2)) 0 3 = 0 ∨ (xs (i + 1)) = (xs (i + 2))
    · refine lv_aload_n S.1 S.2.1 dL_law_543 rfl (lv_at hl 1 rfl) ?_
      refine lv_aload_n S.1 S.2.1 dL_law_544 rfl (lv_at hl 0 rfl) ?_
      refine lv_iload S.1 S.2.1 dL_law_545 (lv_at hl 4 rfl) ?_
      refine lv_iconst (v := nI 1) S.1 S.2.1 dL_law_547 (by decide) ?_
      refine lv_iadd S.1 S.2.1 dL_law_548 ?_
      refine bx_top (y := nI (i + 1)) (nI_add i 1) ?_
      refine bl_sld S hX hbl hL hw (by omega) dL_law_549 ?_
      refine lv_aload_n S.1 S.2.1 dL_law_550 rfl (lv_at hl 0 rfl) ?_
      refine lv_iload S.1 S.2.1 dL_law_551 (lv_at hl 4 rfl) ?_
      refine lv_iconst (v := nI 2) S.1 S.2.1 dL_law_553 (by decide) ?_
      refine lv_iadd S.1 S.2.1 dL_law_554 ?_
      refine bx_top (y := nI (i + 2)) (nI_add i 2) ?_
      refine bl_sld S hX hbl hL hw (by omega) dL_law_555 ?_
      refine lv_aload_n S.1 S.2.1 dL_law_556 rfl (lv_at hl 0 rfl) ?_
      refine lv_iload S.1 S.2.1 dL_law_557 (lv_at hl 4 rfl) ?_
      refine lv_iconst (v := nI 3) S.1 S.2.1 dL_law_559 (by decide) ?_
      refine lv_iadd S.1 S.2.1 dL_law_560 ?_
      refine bx_top (y := nI (i + 3)) (nI_add i 3) ?_
      refine bl_sld S hX hbl hL hw (by omega) dL_law_561 ?_
      refine bz_eq (tgt := 569) S dL_law_562 (by decide) (fun c9 => ?_) (fun c9 => ?_)
      · refine lv_iconst (v := 0) S.1 S.2.1 dL_law_569 (by decide) ?_
        refine lv_aload_n S.1 S.2.1 dL_law_570 rfl (lv_at hl 3 rfl) ?_
        refine bl_sb (As := [.ref (a 0), .int (xs (i + 1)), .int (xs (i + 2)), .int 0, .ref o]) (rest := []) S hK hZ hw (kL_join_IA l D cZ cI cJ a σ o fo (xs (i + 1)) (xs (i + 2)) 0 (tX0_join_b l hfl D cZ cI a σ (xs (i + 1)) (xs (i + 2)) 0 hb)) (vx_cwSW 5 S.2.2.2.2 gL_law_L_join rfl rfl rfl (by decide +kernel) ⟨Nat.le_of_ble_eq_true rfl, Nat.le_of_ble_eq_true rfl⟩) rfl hl.1 rfl (Nat.le_of_ble_eq_true rfl) hcl1 hsl1 dL_law_571 (fun H locs hw => ?_)
        refine lv_istore (lv' := [(5, .int 1), (0, .ref bs), (1, .ref (a 0)), (2, .ref (b2 0)), (3, .ref o), (4, .int (nI i))]) S.1 S.2.1 dL_law_574 hl (by decide) rfl (fun ls hl => ?_)
        refine lv_aload_n S.1 S.2.1 dL_law_576 rfl (lv_at hl 3 rfl) ?_
        refine lv_aload_n S.1 S.2.1 dL_law_577 rfl (lv_at hl 1 rfl) ?_
        refine lv_iload S.1 S.2.1 dL_law_578 (lv_at hl 5 rfl) ?_
        refine lv_iconst (v := nI 1) S.1 S.2.1 dL_law_580 (by decide) ?_
        refine lv_iadd S.1 S.2.1 dL_law_581 ?_
        refine bx_top (y := nI (i + 1)) (nI_add i 1) ?_
        refine bl_sld S hX hbl hL hw (by omega) dL_law_582 ?_
        refine lv_aload_n S.1 S.2.1 dL_law_583 rfl (lv_at hl 1 rfl) ?_
        refine lv_iload S.1 S.2.1 dL_law_584 (lv_at hl 5 rfl) ?_
        refine lv_iconst (v := nI 2) S.1 S.2.1 dL_law_586 (by decide) ?_
        refine lv_iadd S.1 S.2.1 dL_law_587 ?_
        refine bx_top (y := nI (i + 2)) (nI_add i 2) ?_
        refine bl_sld S hX hbl hL hw (by omega) dL_law_588 ?_
        refine lv_aload_n S.1 S.2.1 dL_law_589 rfl (lv_at hl 1 rfl) ?_
        refine lv_iload S.1 S.2.1 dL_law_590 (lv_at hl 5 rfl) ?_
        refine lv_iconst (v := nI 3) S.1 S.2.1 dL_law_592 (by decide) ?_
        refine lv_iadd S.1 S.2.1 dL_law_593 ?_
        refine bx_top (y := nI (i + 3)) (nI_add i 3) ?_
        refine bl_sld S hX hbl hL hw (by omega) dL_law_594 ?_
        refine bz_eq (tgt := 602) S dL_law_595 (by decide) (fun c9 => ?_) (fun c9 => ?_)
        · refine lv_iconst (v := 0) S.1 S.2.1 dL_law_602 (by decide) ?_
          refine bm_vi (As := [.int (xs (i + 1)), .int (xs (i + 2)), .int 0]) (rest := []) S (tyJ_Z hK) hw (kX1_join_bad l D cZ cI b2 th σ (xs (i + 1)) (xs (i + 2)) 0 hb) (cwV 3 S.2.2.2.2 gL_law_X1_join rfl rfl rfl (by decide +kernel) ⟨Nat.le_of_ble_eq_true rfl, Nat.le_of_ble_eq_true rfl⟩) (q0 := 0) rfl rfl rfl hl.1 rfl (Nat.le_of_ble_eq_true rfl) hcl1 hsl1 dL_law_603 (fun H locs hw => ?_)
          refine lv_istore (lv' := [(6, .int 0), (5, .int 1), (0, .ref bs), (1, .ref (a 0)), (2, .ref (b2 0)), (3, .ref o), (4, .int (nI i))]) S.1 S.2.1 dL_law_606 hl (by decide) rfl (fun ls hl => ?_)
          refine lv_aload_n S.1 S.2.1 dL_law_608 rfl (lv_at hl 4 rfl) ?_
          refine bm_vi (As := []) (rest := []) S (tyJ_Z hK) hw (kX1_thrown l D cZ cI b2 1 σ) (cwV 0 S.2.2.2.2 gL_law_X1_thrown rfl rfl rfl (by decide +kernel) ⟨Nat.le_of_ble_eq_true rfl, Nat.le_of_ble_eq_true rfl⟩) (q0 := 0) rfl rfl rfl hl.1 rfl (Nat.le_of_ble_eq_true rfl) hcl1 hsl1 dL_law_609 (fun H locs hw => ?_)
          refine lv_iload S.1 S.2.1 dL_law_612 (lv_at hl 1 rfl) ?_
          refine br_eq (tgt := 619) S dL_law_614 (by decide) (fun c9 => ?_) (fun c9 => ?_)
          · refine lv_iload S.1 S.2.1 dL_law_619 (lv_at hl 1 rfl) ?_
            refine bz_ne (tgt := 643) S dL_law_621 (by decide) (fun c9 => ?_) (fun c9 => ?_)
            · refine lv_goto (tgt := 1514) S.1 S.2.1 dL_law_643 (by decide) ?_
              exact K σ fo 1 hI _ _ hw _ (lv_sub hl [2, 3, 4, 5, 6] rfl)
            · exact absurd c9 (by decide)
          · exact absurd c9 (by decide)
        · exact absurd hz c9
      · exact absurd hz c9
    · obtain ⟨r, hr, ex⟩ := in_rx (fun q => hb (Or.inl q))
      obtain ⟨t, ht, ey⟩ := in_rx (fun q => hb (Or.inr (Or.inl q)))
      have hne : ¬ nI r = nI t := fun q => hb (Or.inr (Or.inr (ex.trans (q.trans ey.symm))))
      refine lv_aload_n S.1 S.2.1 dL_law_543 rfl (lv_at hl 1 rfl) ?_
      refine lv_aload_n S.1 S.2.1 dL_law_544 rfl (lv_at hl 0 rfl) ?_
      refine lv_iload S.1 S.2.1 dL_law_545 (lv_at hl 4 rfl) ?_
      refine lv_iconst (v := nI 1) S.1 S.2.1 dL_law_547 (by decide) ?_
      refine lv_iadd S.1 S.2.1 dL_law_548 ?_
      refine bx_top (y := nI (i + 1)) (nI_add i 1) ?_
      refine bl_sld S hX hbl hL hw (by omega) dL_law_549 ?_
      refine bx_top (y := nI r) ex ?_
      refine lv_aload_n S.1 S.2.1 dL_law_550 rfl (lv_at hl 0 rfl) ?_
      refine lv_iload S.1 S.2.1 dL_law_551 (lv_at hl 4 rfl) ?_
      refine lv_iconst (v := nI 2) S.1 S.2.1 dL_law_553 (by decide) ?_
      refine lv_iadd S.1 S.2.1 dL_law_554 ?_
      refine bx_top (y := nI (i + 2)) (nI_add i 2) ?_
      refine bl_sld S hX hbl hL hw (by omega) dL_law_555 ?_
      refine bx_top (y := nI t) ey ?_
      refine lv_aload_n S.1 S.2.1 dL_law_556 rfl (lv_at hl 0 rfl) ?_
      refine lv_iload S.1 S.2.1 dL_law_557 (lv_at hl 4 rfl) ?_
      refine lv_iconst (v := nI 3) S.1 S.2.1 dL_law_559 (by decide) ?_
      refine lv_iadd S.1 S.2.1 dL_law_560 ?_
      refine bx_top (y := nI (i + 3)) (nI_add i 3) ?_
      refine bl_sld S hX hbl hL hw (by omega) dL_law_561 ?_
      refine bz_eq (tgt := 569) S dL_law_562 (by decide) (fun c9 => ?_) (fun c9 => ?_)
      · refine lv_iconst (v := 0) S.1 S.2.1 dL_law_569 (by decide) ?_
        refine lv_aload_n S.1 S.2.1 dL_law_570 rfl (lv_at hl 3 rfl) ?_
        refine bl_si (As := [.ref (a 0), .int (nI r), .int (nI t), .int 0, .ref o]) (rest := []) S hK hw (kL_join l D cZ cI cJ a σ o fo (i := r) (j := t) 0 hr ht hne (by decide) (nar_z (hI.2.2.2.1 _))) (vx_cwSW 5 S.2.2.2.2 gL_law_L_join rfl rfl rfl (by decide +kernel) ⟨Nat.le_of_ble_eq_true rfl, Nat.le_of_ble_eq_true rfl⟩) rfl hl.1 rfl (Nat.le_of_ble_eq_true rfl) hcl0 hsl0 dL_law_571 (fun H locs hw => ?_)
        refine lv_istore (lv' := [(5, .int 0), (0, .ref bs), (1, .ref (a 0)), (2, .ref (b2 0)), (3, .ref o), (4, .int (nI i))]) S.1 S.2.1 dL_law_574 hl (by decide) rfl (fun ls hl => ?_)
        refine lv_aload_n S.1 S.2.1 dL_law_576 rfl (lv_at hl 3 rfl) ?_
        refine lv_aload_n S.1 S.2.1 dL_law_577 rfl (lv_at hl 1 rfl) ?_
        refine lv_iload S.1 S.2.1 dL_law_578 (lv_at hl 5 rfl) ?_
        refine lv_iconst (v := nI 1) S.1 S.2.1 dL_law_580 (by decide) ?_
        refine lv_iadd S.1 S.2.1 dL_law_581 ?_
        refine bx_top (y := nI (i + 1)) (nI_add i 1) ?_
        refine bl_sld S hX hbl hL hw (by omega) dL_law_582 ?_
        refine bx_top (y := nI r) ex ?_
        refine lv_aload_n S.1 S.2.1 dL_law_583 rfl (lv_at hl 1 rfl) ?_
        refine lv_iload S.1 S.2.1 dL_law_584 (lv_at hl 5 rfl) ?_
        refine lv_iconst (v := nI 2) S.1 S.2.1 dL_law_586 (by decide) ?_
        refine lv_iadd S.1 S.2.1 dL_law_587 ?_
        refine bx_top (y := nI (i + 2)) (nI_add i 2) ?_
        refine bl_sld S hX hbl hL hw (by omega) dL_law_588 ?_
        refine bx_top (y := nI t) ey ?_
        refine lv_aload_n S.1 S.2.1 dL_law_589 rfl (lv_at hl 1 rfl) ?_
        refine lv_iload S.1 S.2.1 dL_law_590 (lv_at hl 5 rfl) ?_
        refine lv_iconst (v := nI 3) S.1 S.2.1 dL_law_592 (by decide) ?_
        refine lv_iadd S.1 S.2.1 dL_law_593 ?_
        refine bx_top (y := nI (i + 3)) (nI_add i 3) ?_
        refine bl_sld S hX hbl hL hw (by omega) dL_law_594 ?_
        refine bz_eq (tgt := 602) S dL_law_595 (by decide) (fun c9 => ?_) (fun c9 => ?_)
        · refine lv_iconst (v := 0) S.1 S.2.1 dL_law_602 (by decide) ?_
          refine bm_vi (As := [.int (nI r), .int (nI t), .int 0]) (rest := []) S (tyJ_Z hK) hw (kX1_join l D cZ cI b2 th σ (i := r) (j := t) 0 hr ht hne (hI.2.2.2.1 _)) (cwV 3 S.2.2.2.2 gL_law_X1_join rfl rfl rfl (by decide +kernel) ⟨Nat.le_of_ble_eq_true rfl, Nat.le_of_ble_eq_true rfl⟩) (q0 := 0) rfl rfl rfl hl.1 rfl (Nat.le_of_ble_eq_true rfl) hcl0 hsl0 dL_law_603 (fun H locs hw => ?_)
          refine lv_istore (lv' := [(6, .int (σ 1 (4 * r + t))), (5, .int 0), (0, .ref bs), (1, .ref (a 0)), (2, .ref (b2 0)), (3, .ref o), (4, .int (nI i))]) S.1 S.2.1 dL_law_606 hl (by decide) rfl (fun ls hl => ?_)
          refine lv_aload_n S.1 S.2.1 dL_law_608 rfl (lv_at hl 4 rfl) ?_
          refine bm_vi (As := []) (rest := []) S (tyJ_Z hK) hw (kX1_thrown l D cZ cI b2 0 (up (up σ 1 (4 * r + t) 0) 1 (4 * t + r) 0)) (cwV 0 S.2.2.2.2 gL_law_X1_thrown rfl rfl rfl (by decide +kernel) ⟨Nat.le_of_ble_eq_true rfl, Nat.le_of_ble_eq_true rfl⟩) (q0 := 0) rfl rfl rfl hl.1 rfl (Nat.le_of_ble_eq_true rfl) hcl0 hsl0 dL_law_609 (fun H locs hw => ?_)
          refine lv_iload S.1 S.2.1 dL_law_612 (lv_at hl 1 rfl) ?_
          refine br_eq (tgt := 619) S dL_law_614 (by decide) (fun c9 => ?_) (fun c9 => ?_)
          · refine lv_iload S.1 S.2.1 dL_law_619 (lv_at hl 1 rfl) ?_
            refine bz_ne (tgt := 643) S dL_law_621 (by decide) (fun c9 => ?_) (fun c9 => ?_)
            · exact absurd c9 (by decide)
            · refine lv_aload_n S.1 S.2.1 dL_law_624 rfl (lv_at hl 5 rfl) ?_
              refine lv_iconst (v := nI 0) S.1 S.2.1 dL_law_625 (by decide) ?_
              refine bl_lald (v := zL (σ 1 (4 * r + t))) S hK hw.1 17 2 rfl rfl (by decide) (by decide) rfl dL_law_626 ?_
              refine lv_iload S.1 S.2.1 dL_law_627 (lv_at hl 0 rfl) ?_
              refine bz_eq (tgt := 636) S dL_law_629 (by decide) (fun cz => ?_) (fun cz => ?_)
              · refine lv_lconst (v := 0) S.1 S.2.1 dL_law_636 (by decide) ?_
                refine bl_lcmp S (by unfold zL; rw [if_pos cz]) dL_law_637 ?_
                refine bz_eq (tgt := 643) S dL_law_638 (by decide) (fun c9 => ?_) (fun c9 => ?_)
                · refine lv_goto (tgt := 1514) S.1 S.2.1 dL_law_643 (by decide) ?_
                  refine W.widen (k := c0 + 1) (n := d0 + 6) (by omega) (by omega) ?_
                  exact K (up (up σ 1 (4 * r + t) 0) 1 (4 * t + r) 0) (vp_updL fo 0 (zL (σ 1 (4 * r + t)))) 0 (inv_join hI hr ht (by decide)) _ _ hw _ (lv_sub hl [2, 3, 4, 5, 6] rfl)
                · exact absurd c9 (by decide)
              · refine lv_lconst (v := 1) S.1 S.2.1 dL_law_632 (by decide) ?_
                refine lv_goto (tgt := 637) S.1 S.2.1 dL_law_633 (by decide) ?_
                refine bl_lcmp S (by unfold zL; rw [if_neg cz]) dL_law_637 ?_
                refine bz_eq (tgt := 643) S dL_law_638 (by decide) (fun c9 => ?_) (fun c9 => ?_)
                · refine lv_goto (tgt := 1514) S.1 S.2.1 dL_law_643 (by decide) ?_
                  refine W.widen (k := c0 + 1) (n := d0 + 6) (by omega) (by omega) ?_
                  exact K (up (up σ 1 (4 * r + t) 0) 1 (4 * t + r) 0) (vp_updL fo 0 (zL (σ 1 (4 * r + t)))) 0 (inv_join hI hr ht (by decide)) _ _ hw _ (lv_sub hl [2, 3, 4, 5, 6] rfl)
                · exact absurd c9 (by decide)
          · exact absurd c9 (by decide)
        · exact absurd hz c9
      · exact absurd hz c9
  · by_cases hb : inB (xs (i + 1)) 0 3 = 0 ∨ inB (xs (i + 2)) 0 3 = 0 ∨ (xs (i + 1)) = (xs (i + 2))
    · refine lv_aload_n S.1 S.2.1 dL_law_543 rfl (lv_at hl 1 rfl) ?_
      refine lv_aload_n S.1 S.2.1 dL_law_544 rfl (lv_at hl 0 rfl) ?_
      refine lv_iload S.1 S.2.1 dL_law_545 (lv_at hl 4 rfl) ?_
      refine lv_iconst (v := nI 1) S.1 S.2.1 dL_law_547 (by decide) ?_
      refine lv_iadd S.1 S.2.1 dL_law_548 ?_
      refine bx_top (y := nI (i + 1)) (nI_add i 1) ?_
      refine bl_sld S hX hbl hL hw (by omega) dL_law_549 ?_
      refine lv_aload_n S.1 S.2.1 dL_law_550 rfl (lv_at hl 0 rfl) ?_
      refine lv_iload S.1 S.2.1 dL_law_551 (lv_at hl 4 rfl) ?_
      refine lv_iconst (v := nI 2) S.1 S.2.1 dL_law_553 (by decide) ?_
      refine lv_iadd S.1 S.2.1 dL_law_554 ?_
      refine bx_top (y := nI (i + 2)) (nI_add i 2) ?_
      refine bl_sld S hX hbl hL hw (by omega) dL_law_555 ?_
      refine lv_aload_n S.1 S.2.1 dL_law_556 rfl (lv_at hl 0 rfl) ?_
      refine lv_iload S.1 S.2.1 dL_law_557 (lv_at hl 4 rfl) ?_
      refine lv_iconst (v := nI 3) S.1 S.2.1 dL_law_559 (by decide) ?_
      refine lv_iadd S.1 S.2.1 dL_law_560 ?_
      refine bx_top (y := nI (i + 3)) (nI_add i 3) ?_
      refine bl_sld S hX hbl hL hw (by omega) dL_law_561 ?_
      refine bz_eq (tgt := 569) S dL_law_562 (by decide) (fun c9 => ?_) (fun c9 => ?_)
      · exact absurd c9 hz
      · refine lv_iconst (v := 1) S.1 S.2.1 dL_law_565 (by decide) ?_
        refine lv_goto (tgt := 570) S.1 S.2.1 dL_law_566 (by decide) ?_
        refine lv_aload_n S.1 S.2.1 dL_law_570 rfl (lv_at hl 3 rfl) ?_
        refine bl_sb (As := [.ref (a 0), .int (xs (i + 1)), .int (xs (i + 2)), .int 1, .ref o]) (rest := []) S hK hZ hw (kL_join_IA l D cZ cI cJ a σ o fo (xs (i + 1)) (xs (i + 2)) 1 (tX0_join_b l hfl D cZ cI a σ (xs (i + 1)) (xs (i + 2)) 1 hb)) (vx_cwSW 5 S.2.2.2.2 gL_law_L_join rfl rfl rfl (by decide +kernel) ⟨Nat.le_of_ble_eq_true rfl, Nat.le_of_ble_eq_true rfl⟩) rfl hl.1 rfl (Nat.le_of_ble_eq_true rfl) hcl1 hsl1 dL_law_571 (fun H locs hw => ?_)
        refine lv_istore (lv' := [(5, .int 1), (0, .ref bs), (1, .ref (a 0)), (2, .ref (b2 0)), (3, .ref o), (4, .int (nI i))]) S.1 S.2.1 dL_law_574 hl (by decide) rfl (fun ls hl => ?_)
        refine lv_aload_n S.1 S.2.1 dL_law_576 rfl (lv_at hl 3 rfl) ?_
        refine lv_aload_n S.1 S.2.1 dL_law_577 rfl (lv_at hl 1 rfl) ?_
        refine lv_iload S.1 S.2.1 dL_law_578 (lv_at hl 5 rfl) ?_
        refine lv_iconst (v := nI 1) S.1 S.2.1 dL_law_580 (by decide) ?_
        refine lv_iadd S.1 S.2.1 dL_law_581 ?_
        refine bx_top (y := nI (i + 1)) (nI_add i 1) ?_
        refine bl_sld S hX hbl hL hw (by omega) dL_law_582 ?_
        refine lv_aload_n S.1 S.2.1 dL_law_583 rfl (lv_at hl 1 rfl) ?_
        refine lv_iload S.1 S.2.1 dL_law_584 (lv_at hl 5 rfl) ?_
        refine lv_iconst (v := nI 2) S.1 S.2.1 dL_law_586 (by decide) ?_
        refine lv_iadd S.1 S.2.1 dL_law_587 ?_
        refine bx_top (y := nI (i + 2)) (nI_add i 2) ?_
        refine bl_sld S hX hbl hL hw (by omega) dL_law_588 ?_
        refine lv_aload_n S.1 S.2.1 dL_law_589 rfl (lv_at hl 1 rfl) ?_
        refine lv_iload S.1 S.2.1 dL_law_590 (lv_at hl 5 rfl) ?_
        refine lv_iconst (v := nI 3) S.1 S.2.1 dL_law_592 (by decide) ?_
        refine lv_iadd S.1 S.2.1 dL_law_593 ?_
        refine bx_top (y := nI (i + 3)) (nI_add i 3) ?_
        refine bl_sld S hX hbl hL hw (by omega) dL_law_594 ?_
        refine bz_eq (tgt := 602) S dL_law_595 (by decide) (fun c9 => ?_) (fun c9 => ?_)
        · exact absurd c9 hz
        · refine lv_iconst (v := 1) S.1 S.2.1 dL_law_598 (by decide) ?_
          refine lv_goto (tgt := 603) S.1 S.2.1 dL_law_599 (by decide) ?_
          refine bm_vi (As := [.int (xs (i + 1)), .int (xs (i + 2)), .int 1]) (rest := []) S (tyJ_Z hK) hw (kX1_join_bad l D cZ cI b2 th σ (xs (i + 1)) (xs (i + 2)) 1 hb) (cwV 3 S.2.2.2.2 gL_law_X1_join rfl rfl rfl (by decide +kernel) ⟨Nat.le_of_ble_eq_true rfl, Nat.le_of_ble_eq_true rfl⟩) (q0 := 0) rfl rfl rfl hl.1 rfl (Nat.le_of_ble_eq_true rfl) hcl1 hsl1 dL_law_603 (fun H locs hw => ?_)
          refine lv_istore (lv' := [(6, .int 0), (5, .int 1), (0, .ref bs), (1, .ref (a 0)), (2, .ref (b2 0)), (3, .ref o), (4, .int (nI i))]) S.1 S.2.1 dL_law_606 hl (by decide) rfl (fun ls hl => ?_)
          refine lv_aload_n S.1 S.2.1 dL_law_608 rfl (lv_at hl 4 rfl) ?_
          refine bm_vi (As := []) (rest := []) S (tyJ_Z hK) hw (kX1_thrown l D cZ cI b2 1 σ) (cwV 0 S.2.2.2.2 gL_law_X1_thrown rfl rfl rfl (by decide +kernel) ⟨Nat.le_of_ble_eq_true rfl, Nat.le_of_ble_eq_true rfl⟩) (q0 := 0) rfl rfl rfl hl.1 rfl (Nat.le_of_ble_eq_true rfl) hcl1 hsl1 dL_law_609 (fun H locs hw => ?_)
          refine lv_iload S.1 S.2.1 dL_law_612 (lv_at hl 1 rfl) ?_
          refine br_eq (tgt := 619) S dL_law_614 (by decide) (fun c9 => ?_) (fun c9 => ?_)
          · refine lv_iload S.1 S.2.1 dL_law_619 (lv_at hl 1 rfl) ?_
            refine bz_ne (tgt := 643) S dL_law_621 (by decide) (fun c9 => ?_) (fun c9 => ?_)
            · refine lv_goto (tgt := 1514) S.1 S.2.1 dL_law_643 (by decide) ?_
              exact K σ fo 1 hI _ _ hw _ (lv_sub hl [2, 3, 4, 5, 6] rfl)
            · exact absurd c9 (by decide)
          · exact absurd c9 (by decide)
    · obtain ⟨r, hr, ex⟩ := in_rx (fun q => hb (Or.inl q))
      obtain ⟨t, ht, ey⟩ := in_rx (fun q => hb (Or.inr (Or.inl q)))
      have hne : ¬ nI r = nI t := fun q => hb (Or.inr (Or.inr (ex.trans (q.trans ey.symm))))
      refine lv_aload_n S.1 S.2.1 dL_law_543 rfl (lv_at hl 1 rfl) ?_
      refine lv_aload_n S.1 S.2.1 dL_law_544 rfl (lv_at hl 0 rfl) ?_
      refine lv_iload S.1 S.2.1 dL_law_545 (lv_at hl 4 rfl) ?_
      refine lv_iconst (v := nI 1) S.1 S.2.1 dL_law_547 (by decide) ?_
      refine lv_iadd S.1 S.2.1 dL_law_548 ?_
      refine bx_top (y := nI (i + 1)) (nI_add i 1) ?_
      refine bl_sld S hX hbl hL hw (by omega) dL_law_549 ?_
      refine bx_top (y := nI r) ex ?_
      refine lv_aload_n S.1 S.2.1 dL_law_550 rfl (lv_at hl 0 rfl) ?_
      refine lv_iload S.1 S.2.1 dL_law_551 (lv_at hl 4 rfl) ?_
      refine lv_iconst (v := nI 2) S.1 S.2.1 dL_law_553 (by decide) ?_
      refine lv_iadd S.1 S.2.1 dL_law_554 ?_
      refine bx_top (y := nI (i + 2)) (nI_add i 2) ?_
      refine bl_sld S hX hbl hL hw (by omega) dL_law_555 ?_
      refine bx_top (y := nI t) ey ?_
      refine lv_aload_n S.1 S.2.1 dL_law_556 rfl (lv_at hl 0 rfl) ?_
      refine lv_iload S.1 S.2.1 dL_law_557 (lv_at hl 4 rfl) ?_
      refine lv_iconst (v := nI 3) S.1 S.2.1 dL_law_559 (by decide) ?_
      refine lv_iadd S.1 S.2.1 dL_law_560 ?_
      refine bx_top (y := nI (i + 3)) (nI_add i 3) ?_
      refine bl_sld S hX hbl hL hw (by omega) dL_law_561 ?_
      refine bz_eq (tgt := 569) S dL_law_562 (by decide) (fun c9 => ?_) (fun c9 => ?_)
      · exact absurd c9 hz
      · refine lv_iconst (v := 1) S.1 S.2.1 dL_law_565 (by decide) ?_
        refine lv_goto (tgt := 570) S.1 S.2.1 dL_law_566 (by decide) ?_
        refine lv_aload_n S.1 S.2.1 dL_law_570 rfl (lv_at hl 3 rfl) ?_
        refine bl_si (As := [.ref (a 0), .int (nI r), .int (nI t), .int 1, .ref o]) (rest := []) S hK hw (kL_join l D cZ cI cJ a σ o fo (i := r) (j := t) 1 hr ht hne (by decide) (nar_z (hI.2.2.2.1 _))) (vx_cwSW 5 S.2.2.2.2 gL_law_L_join rfl rfl rfl (by decide +kernel) ⟨Nat.le_of_ble_eq_true rfl, Nat.le_of_ble_eq_true rfl⟩) rfl hl.1 rfl (Nat.le_of_ble_eq_true rfl) hcl0 hsl0 dL_law_571 (fun H locs hw => ?_)
        refine lv_istore (lv' := [(5, .int 0), (0, .ref bs), (1, .ref (a 0)), (2, .ref (b2 0)), (3, .ref o), (4, .int (nI i))]) S.1 S.2.1 dL_law_574 hl (by decide) rfl (fun ls hl => ?_)
        refine lv_aload_n S.1 S.2.1 dL_law_576 rfl (lv_at hl 3 rfl) ?_
        refine lv_aload_n S.1 S.2.1 dL_law_577 rfl (lv_at hl 1 rfl) ?_
        refine lv_iload S.1 S.2.1 dL_law_578 (lv_at hl 5 rfl) ?_
        refine lv_iconst (v := nI 1) S.1 S.2.1 dL_law_580 (by decide) ?_
        refine lv_iadd S.1 S.2.1 dL_law_581 ?_
        refine bx_top (y := nI (i + 1)) (nI_add i 1) ?_
        refine bl_sld S hX hbl hL hw (by omega) dL_law_582 ?_
        refine bx_top (y := nI r) ex ?_
        refine lv_aload_n S.1 S.2.1 dL_law_583 rfl (lv_at hl 1 rfl) ?_
        refine lv_iload S.1 S.2.1 dL_law_584 (lv_at hl 5 rfl) ?_
        refine lv_iconst (v := nI 2) S.1 S.2.1 dL_law_586 (by decide) ?_
        refine lv_iadd S.1 S.2.1 dL_law_587 ?_
        refine bx_top (y := nI (i + 2)) (nI_add i 2) ?_
        refine bl_sld S hX hbl hL hw (by omega) dL_law_588 ?_
        refine bx_top (y := nI t) ey ?_
        refine lv_aload_n S.1 S.2.1 dL_law_589 rfl (lv_at hl 1 rfl) ?_
        refine lv_iload S.1 S.2.1 dL_law_590 (lv_at hl 5 rfl) ?_
        refine lv_iconst (v := nI 3) S.1 S.2.1 dL_law_592 (by decide) ?_
        refine lv_iadd S.1 S.2.1 dL_law_593 ?_
        refine bx_top (y := nI (i + 3)) (nI_add i 3) ?_
        refine bl_sld S hX hbl hL hw (by omega) dL_law_594 ?_
        refine bz_eq (tgt := 602) S dL_law_595 (by decide) (fun c9 => ?_) (fun c9 => ?_)
        · exact absurd c9 hz
        · refine lv_iconst (v := 1) S.1 S.2.1 dL_law_598 (by decide) ?_
          refine lv_goto (tgt := 603) S.1 S.2.1 dL_law_599 (by decide) ?_
          refine bm_vi (As := [.int (nI r), .int (nI t), .int 1]) (rest := []) S (tyJ_Z hK) hw (kX1_join l D cZ cI b2 th σ (i := r) (j := t) 1 hr ht hne (hI.2.2.2.1 _)) (cwV 3 S.2.2.2.2 gL_law_X1_join rfl rfl rfl (by decide +kernel) ⟨Nat.le_of_ble_eq_true rfl, Nat.le_of_ble_eq_true rfl⟩) (q0 := 0) rfl rfl rfl hl.1 rfl (Nat.le_of_ble_eq_true rfl) hcl0 hsl0 dL_law_603 (fun H locs hw => ?_)
          refine lv_istore (lv' := [(6, .int (σ 1 (4 * r + t))), (5, .int 0), (0, .ref bs), (1, .ref (a 0)), (2, .ref (b2 0)), (3, .ref o), (4, .int (nI i))]) S.1 S.2.1 dL_law_606 hl (by decide) rfl (fun ls hl => ?_)
          refine lv_aload_n S.1 S.2.1 dL_law_608 rfl (lv_at hl 4 rfl) ?_
          refine bm_vi (As := []) (rest := []) S (tyJ_Z hK) hw (kX1_thrown l D cZ cI b2 0 (up (up σ 1 (4 * r + t) 1) 1 (4 * t + r) 1)) (cwV 0 S.2.2.2.2 gL_law_X1_thrown rfl rfl rfl (by decide +kernel) ⟨Nat.le_of_ble_eq_true rfl, Nat.le_of_ble_eq_true rfl⟩) (q0 := 0) rfl rfl rfl hl.1 rfl (Nat.le_of_ble_eq_true rfl) hcl0 hsl0 dL_law_609 (fun H locs hw => ?_)
          refine lv_iload S.1 S.2.1 dL_law_612 (lv_at hl 1 rfl) ?_
          refine br_eq (tgt := 619) S dL_law_614 (by decide) (fun c9 => ?_) (fun c9 => ?_)
          · refine lv_iload S.1 S.2.1 dL_law_619 (lv_at hl 1 rfl) ?_
            refine bz_ne (tgt := 643) S dL_law_621 (by decide) (fun c9 => ?_) (fun c9 => ?_)
            · exact absurd c9 (by decide)
            · refine lv_aload_n S.1 S.2.1 dL_law_624 rfl (lv_at hl 5 rfl) ?_
              refine lv_iconst (v := nI 0) S.1 S.2.1 dL_law_625 (by decide) ?_
              refine bl_lald (v := zL (σ 1 (4 * r + t))) S hK hw.1 17 2 rfl rfl (by decide) (by decide) rfl dL_law_626 ?_
              refine lv_iload S.1 S.2.1 dL_law_627 (lv_at hl 0 rfl) ?_
              refine bz_eq (tgt := 636) S dL_law_629 (by decide) (fun cz => ?_) (fun cz => ?_)
              · refine lv_lconst (v := 0) S.1 S.2.1 dL_law_636 (by decide) ?_
                refine bl_lcmp S (by unfold zL; rw [if_pos cz]) dL_law_637 ?_
                refine bz_eq (tgt := 643) S dL_law_638 (by decide) (fun c9 => ?_) (fun c9 => ?_)
                · refine lv_goto (tgt := 1514) S.1 S.2.1 dL_law_643 (by decide) ?_
                  refine W.widen (k := c0 + 1) (n := d0 + 6) (by omega) (by omega) ?_
                  exact K (up (up σ 1 (4 * r + t) 1) 1 (4 * t + r) 1) (vp_updL fo 0 (zL (σ 1 (4 * r + t)))) 0 (inv_join hI hr ht (by decide)) _ _ hw _ (lv_sub hl [2, 3, 4, 5, 6] rfl)
                · exact absurd c9 (by decide)
              · refine lv_lconst (v := 1) S.1 S.2.1 dL_law_632 (by decide) ?_
                refine lv_goto (tgt := 637) S.1 S.2.1 dL_law_633 (by decide) ?_
                refine bl_lcmp S (by unfold zL; rw [if_neg cz]) dL_law_637 ?_
                refine bz_eq (tgt := 643) S dL_law_638 (by decide) (fun c9 => ?_) (fun c9 => ?_)
                · refine lv_goto (tgt := 1514) S.1 S.2.1 dL_law_643 (by decide) ?_
                  refine W.widen (k := c0 + 1) (n := d0 + 6) (by omega) (by omega) ?_
                  exact K (up (up σ 1 (4 * r + t) 1) 1 (4 * t + r) 1) (vp_updL fo 0 (zL (σ 1 (4 * r + t)))) 0 (inv_join hI hr ht (by decide)) _ _ hw _ (lv_sub hl [2, 3, 4, 5, 6] rfl)
                · exact absurd c9 (by decide)
          · exact absurd c9 (by decide)

set_option maxHeartbeats 4000000 in
set_option maxRecDepth 100000 in
theorem law_die (l : Launch) (hfl : l.stackTraces = false) {p : Program} {e : Env} {s : State} {m : MethodId} {below : List Frame} {meth : Method} {c : Code} {D : va_G} {cZ cI cJ : ClassId} {a b2 : Nat → Nat} {o bs L : Nat} {xs : Nat → Int32} (S : CallFix p m c cL_law 7 s #[Value.ref bs] wsL_law RL) (hK : va_K D vwCl (tyJ cZ cI cJ) s) (hZ : ZT (fun q => s.heap.size ≤ q) s s.heap) (hX : va_X bs L xs s s.heap) (hbl : bs < s.heap.size) (hL : L ≤ 2048) {Q : State → Prop} {i c0 d0 : Nat} (hi : i + 4 ≤ L) (hc0 : c0 + 1 ≤ 1068) (hd0 : d0 + 6 ≤ 8554) (σ : sC) (fo : Nat → Int64) (th : Int32) (hI : Inv σ) (K : ∀ (σ' : sC) (fo' : Nat → Int64) (th' : Int32), Inv σ' → ∀ (H : Heap) (locs : List Loc), Wd D (fun q => s.heap.size ≤ q) s.heap ((wX cZ cI a σ' ++ wO cJ o fo') ++ wM cZ cI b2 th' σ') H locs → ∀ ls : Array Slot, lv_has ls 7 [(0, .ref bs), (1, .ref (a 0)), (2, .ref (b2 0)), (3, .ref o), (4, .int (nI i))] → W p l e room_1 s m #[Value.ref bs] below meth c H locs (c0 + 1) (d0 + 6) Q (F0 m 1514 ls [])) : ∀ (H : Heap) (locs : List Loc), Wd D (fun q => s.heap.size ≤ q) s.heap ((wX cZ cI a σ ++ wO cJ o fo) ++ wM cZ cI b2 th σ) H locs → ∀ ls : Array Slot, lv_has ls 7 [(0, .ref bs), (1, .ref (a 0)), (2, .ref (b2 0)), (3, .ref o), (4, .int (nI i))] → W p l e room_1 s m #[Value.ref bs] below meth c H locs c0 d0 Q (F0 m 646 ls []) := by
  intro H locs hw ls hl
  have hcl0 : c0 ≤ room_1.cells := (show c0 ≤ 1068 by omega)
  have hsl0 : d0 ≤ room_1.slots := (show d0 ≤ 8554 by omega)
  have hcl1 : c0 + 1 ≤ room_1.cells := hc0
  have hsl1 : d0 + 6 ≤ room_1.slots := hd0
  by_cases hb : inB (xs (i + 1)) 0 3 = 0
  · refine lv_aload_n S.1 S.2.1 dL_law_646 rfl (lv_at hl 1 rfl) ?_
    refine lv_aload_n S.1 S.2.1 dL_law_647 rfl (lv_at hl 0 rfl) ?_
    refine lv_iload S.1 S.2.1 dL_law_648 (lv_at hl 4 rfl) ?_
    refine lv_iconst (v := nI 1) S.1 S.2.1 dL_law_650 (by decide) ?_
    refine lv_iadd S.1 S.2.1 dL_law_651 ?_
    refine bx_top (y := nI (i + 1)) (nI_add i 1) ?_
    refine bl_sld S hX hbl hL hw (by omega) dL_law_652 ?_
    refine lv_aload_n S.1 S.2.1 dL_law_653 rfl (lv_at hl 3 rfl) ?_
    refine bl_sb (As := [.ref (a 0), .int (xs (i + 1)), .ref o]) (rest := []) S hK hZ hw (kL_die_IA l D cZ cI cJ a σ o fo (xs (i + 1)) (tX0_die_1 l hfl D cZ cI a σ (xs (i + 1)) hb)) (vx_cwSW 3 S.2.2.2.2 gL_law_L_die rfl rfl rfl (by decide +kernel) ⟨Nat.le_of_ble_eq_true rfl, Nat.le_of_ble_eq_true rfl⟩) rfl hl.1 rfl (Nat.le_of_ble_eq_true rfl) hcl1 hsl1 dL_law_654 (fun H locs hw => ?_)
    refine lv_istore (lv' := [(5, .int 1), (0, .ref bs), (1, .ref (a 0)), (2, .ref (b2 0)), (3, .ref o), (4, .int (nI i))]) S.1 S.2.1 dL_law_657 hl (by decide) rfl (fun ls hl => ?_)
    refine lv_aload_n S.1 S.2.1 dL_law_659 rfl (lv_at hl 3 rfl) ?_
    refine lv_aload_n S.1 S.2.1 dL_law_660 rfl (lv_at hl 1 rfl) ?_
    refine lv_iload S.1 S.2.1 dL_law_661 (lv_at hl 5 rfl) ?_
    refine lv_iconst (v := nI 1) S.1 S.2.1 dL_law_663 (by decide) ?_
    refine lv_iadd S.1 S.2.1 dL_law_664 ?_
    refine bx_top (y := nI (i + 1)) (nI_add i 1) ?_
    refine bl_sld S hX hbl hL hw (by omega) dL_law_665 ?_
    refine bm_vi (As := [.int (xs (i + 1))]) (rest := []) S (tyJ_Z hK) hw (kX1_die_bad l D cZ cI b2 th σ (xs (i + 1)) hb) (cwV 1 S.2.2.2.2 gL_law_X1_die rfl rfl rfl (by decide +kernel) ⟨Nat.le_of_ble_eq_true rfl, Nat.le_of_ble_eq_true rfl⟩) (q0 := 0) rfl rfl rfl hl.1 rfl (Nat.le_of_ble_eq_true rfl) hcl1 hsl1 dL_law_666 (fun H locs hw => ?_)
    refine lv_istore (lv' := [(6, .int 0), (5, .int 1), (0, .ref bs), (1, .ref (a 0)), (2, .ref (b2 0)), (3, .ref o), (4, .int (nI i))]) S.1 S.2.1 dL_law_669 hl (by decide) rfl (fun ls hl => ?_)
    refine lv_aload_n S.1 S.2.1 dL_law_671 rfl (lv_at hl 4 rfl) ?_
    refine bm_vi (As := []) (rest := []) S (tyJ_Z hK) hw (kX1_thrown l D cZ cI b2 1 σ) (cwV 0 S.2.2.2.2 gL_law_X1_thrown rfl rfl rfl (by decide +kernel) ⟨Nat.le_of_ble_eq_true rfl, Nat.le_of_ble_eq_true rfl⟩) (q0 := 0) rfl rfl rfl hl.1 rfl (Nat.le_of_ble_eq_true rfl) hcl1 hsl1 dL_law_672 (fun H locs hw => ?_)
    refine lv_iload S.1 S.2.1 dL_law_675 (lv_at hl 1 rfl) ?_
    refine br_eq (tgt := 682) S dL_law_677 (by decide) (fun c9 => ?_) (fun c9 => ?_)
    · refine lv_iload S.1 S.2.1 dL_law_682 (lv_at hl 1 rfl) ?_
      refine bz_ne (tgt := 699) S dL_law_684 (by decide) (fun c9 => ?_) (fun c9 => ?_)
      · refine lv_goto (tgt := 1514) S.1 S.2.1 dL_law_699 (by decide) ?_
        exact K σ fo 1 hI _ _ hw _ (lv_sub hl [2, 3, 4, 5, 6] rfl)
      · exact absurd c9 (by decide)
    · exact absurd c9 (by decide)
  · obtain ⟨r, hr, ex⟩ := in_rx hb
    by_cases ha : σ 0 r = 0
    · refine lv_aload_n S.1 S.2.1 dL_law_646 rfl (lv_at hl 1 rfl) ?_
      refine lv_aload_n S.1 S.2.1 dL_law_647 rfl (lv_at hl 0 rfl) ?_
      refine lv_iload S.1 S.2.1 dL_law_648 (lv_at hl 4 rfl) ?_
      refine lv_iconst (v := nI 1) S.1 S.2.1 dL_law_650 (by decide) ?_
      refine lv_iadd S.1 S.2.1 dL_law_651 ?_
      refine bx_top (y := nI (i + 1)) (nI_add i 1) ?_
      refine bl_sld S hX hbl hL hw (by omega) dL_law_652 ?_
      refine bx_top (y := nI r) ex ?_
      refine lv_aload_n S.1 S.2.1 dL_law_653 rfl (lv_at hl 3 rfl) ?_
      refine bl_sb (As := [.ref (a 0), .int (nI r), .ref o]) (rest := []) S hK hZ hw (kL_die_IS l D cZ cI cJ a σ o fo (nI r) (tX0_die_s l hfl D cZ cI a σ (r := r) hr ha)) (vx_cwSW 3 S.2.2.2.2 gL_law_L_die rfl rfl rfl (by decide +kernel) ⟨Nat.le_of_ble_eq_true rfl, Nat.le_of_ble_eq_true rfl⟩) rfl hl.1 rfl (Nat.le_of_ble_eq_true rfl) hcl1 hsl1 dL_law_654 (fun H locs hw => ?_)
      refine lv_istore (lv' := [(5, .int 2), (0, .ref bs), (1, .ref (a 0)), (2, .ref (b2 0)), (3, .ref o), (4, .int (nI i))]) S.1 S.2.1 dL_law_657 hl (by decide) rfl (fun ls hl => ?_)
      refine lv_aload_n S.1 S.2.1 dL_law_659 rfl (lv_at hl 3 rfl) ?_
      refine lv_aload_n S.1 S.2.1 dL_law_660 rfl (lv_at hl 1 rfl) ?_
      refine lv_iload S.1 S.2.1 dL_law_661 (lv_at hl 5 rfl) ?_
      refine lv_iconst (v := nI 1) S.1 S.2.1 dL_law_663 (by decide) ?_
      refine lv_iadd S.1 S.2.1 dL_law_664 ?_
      refine bx_top (y := nI (i + 1)) (nI_add i 1) ?_
      refine bl_sld S hX hbl hL hw (by omega) dL_law_665 ?_
      refine bx_top (y := nI r) ex ?_
      refine bm_vi (As := [.int (nI r)]) (rest := []) S (tyJ_Z hK) hw (kX1_die_bad2 l D cZ cI b2 th σ (r := r) hr ha) (cwV 1 S.2.2.2.2 gL_law_X1_die rfl rfl rfl (by decide +kernel) ⟨Nat.le_of_ble_eq_true rfl, Nat.le_of_ble_eq_true rfl⟩) (q0 := 0) rfl rfl rfl hl.1 rfl (Nat.le_of_ble_eq_true rfl) hcl1 hsl1 dL_law_666 (fun H locs hw => ?_)
      refine lv_istore (lv' := [(6, .int 0), (5, .int 2), (0, .ref bs), (1, .ref (a 0)), (2, .ref (b2 0)), (3, .ref o), (4, .int (nI i))]) S.1 S.2.1 dL_law_669 hl (by decide) rfl (fun ls hl => ?_)
      refine lv_aload_n S.1 S.2.1 dL_law_671 rfl (lv_at hl 4 rfl) ?_
      refine bm_vi (As := []) (rest := []) S (tyJ_Z hK) hw (kX1_thrown l D cZ cI b2 2 σ) (cwV 0 S.2.2.2.2 gL_law_X1_thrown rfl rfl rfl (by decide +kernel) ⟨Nat.le_of_ble_eq_true rfl, Nat.le_of_ble_eq_true rfl⟩) (q0 := 0) rfl rfl rfl hl.1 rfl (Nat.le_of_ble_eq_true rfl) hcl1 hsl1 dL_law_672 (fun H locs hw => ?_)
      refine lv_iload S.1 S.2.1 dL_law_675 (lv_at hl 1 rfl) ?_
      refine br_eq (tgt := 682) S dL_law_677 (by decide) (fun c9 => ?_) (fun c9 => ?_)
      · refine lv_iload S.1 S.2.1 dL_law_682 (lv_at hl 1 rfl) ?_
        refine bz_ne (tgt := 699) S dL_law_684 (by decide) (fun c9 => ?_) (fun c9 => ?_)
        · refine lv_goto (tgt := 1514) S.1 S.2.1 dL_law_699 (by decide) ?_
          exact K σ fo 2 hI _ _ hw _ (lv_sub hl [2, 3, 4, 5, 6] rfl)
        · exact absurd c9 (by decide)
      · exact absurd c9 (by decide)
    · refine lv_aload_n S.1 S.2.1 dL_law_646 rfl (lv_at hl 1 rfl) ?_
      refine lv_aload_n S.1 S.2.1 dL_law_647 rfl (lv_at hl 0 rfl) ?_
      refine lv_iload S.1 S.2.1 dL_law_648 (lv_at hl 4 rfl) ?_
      refine lv_iconst (v := nI 1) S.1 S.2.1 dL_law_650 (by decide) ?_
      refine lv_iadd S.1 S.2.1 dL_law_651 ?_
      refine bx_top (y := nI (i + 1)) (nI_add i 1) ?_
      refine bl_sld S hX hbl hL hw (by omega) dL_law_652 ?_
      refine bx_top (y := nI r) ex ?_
      refine lv_aload_n S.1 S.2.1 dL_law_653 rfl (lv_at hl 3 rfl) ?_
      refine bl_si (As := [.ref (a 0), .int (nI r), .ref o]) (rest := []) S hK hw (kL_die l D cZ cI cJ a σ o fo (r := r) hr ha) (vx_cwSW 3 S.2.2.2.2 gL_law_L_die rfl rfl rfl (by decide +kernel) ⟨Nat.le_of_ble_eq_true rfl, Nat.le_of_ble_eq_true rfl⟩) rfl hl.1 rfl (Nat.le_of_ble_eq_true rfl) hcl0 hsl0 dL_law_654 (fun H locs hw => ?_)
      refine lv_istore (lv' := [(5, .int 0), (0, .ref bs), (1, .ref (a 0)), (2, .ref (b2 0)), (3, .ref o), (4, .int (nI i))]) S.1 S.2.1 dL_law_657 hl (by decide) rfl (fun ls hl => ?_)
      refine lv_aload_n S.1 S.2.1 dL_law_659 rfl (lv_at hl 3 rfl) ?_
      refine lv_aload_n S.1 S.2.1 dL_law_660 rfl (lv_at hl 1 rfl) ?_
      refine lv_iload S.1 S.2.1 dL_law_661 (lv_at hl 5 rfl) ?_
      refine lv_iconst (v := nI 1) S.1 S.2.1 dL_law_663 (by decide) ?_
      refine lv_iadd S.1 S.2.1 dL_law_664 ?_
      refine bx_top (y := nI (i + 1)) (nI_add i 1) ?_
      refine bl_sld S hX hbl hL hw (by omega) dL_law_665 ?_
      refine bx_top (y := nI r) ex ?_
      refine bm_vi (As := [.int (nI r)]) (rest := []) S (tyJ_Z hK) hw (kX1_die l D cZ cI b2 th σ (r := r) hr ha) (cwV 1 S.2.2.2.2 gL_law_X1_die rfl rfl rfl (by decide +kernel) ⟨Nat.le_of_ble_eq_true rfl, Nat.le_of_ble_eq_true rfl⟩) (q0 := 0) rfl rfl rfl hl.1 rfl (Nat.le_of_ble_eq_true rfl) hcl0 hsl0 dL_law_666 (fun H locs hw => ?_)
      refine lv_istore (lv' := [(6, .int (dieN σ r 3)), (5, .int 0), (0, .ref bs), (1, .ref (a 0)), (2, .ref (b2 0)), (3, .ref o), (4, .int (nI i))]) S.1 S.2.1 dL_law_669 hl (by decide) rfl (fun ls hl => ?_)
      refine lv_aload_n S.1 S.2.1 dL_law_671 rfl (lv_at hl 4 rfl) ?_
      refine bm_vi (As := []) (rest := []) S (tyJ_Z hK) hw (kX1_thrown l D cZ cI b2 0 (dieG σ r 3)) (cwV 0 S.2.2.2.2 gL_law_X1_thrown rfl rfl rfl (by decide +kernel) ⟨Nat.le_of_ble_eq_true rfl, Nat.le_of_ble_eq_true rfl⟩) (q0 := 0) rfl rfl rfl hl.1 rfl (Nat.le_of_ble_eq_true rfl) hcl0 hsl0 dL_law_672 (fun H locs hw => ?_)
      refine lv_iload S.1 S.2.1 dL_law_675 (lv_at hl 1 rfl) ?_
      refine br_eq (tgt := 682) S dL_law_677 (by decide) (fun c9 => ?_) (fun c9 => ?_)
      · refine lv_iload S.1 S.2.1 dL_law_682 (lv_at hl 1 rfl) ?_
        refine bz_ne (tgt := 699) S dL_law_684 (by decide) (fun c9 => ?_) (fun c9 => ?_)
        · exact absurd c9 (by decide)
        · refine lv_aload_n S.1 S.2.1 dL_law_687 rfl (lv_at hl 5 rfl) ?_
          refine lv_iconst (v := nI 0) S.1 S.2.1 dL_law_688 (by decide) ?_
          refine bl_lald (v := (dieN σ r 3).toInt64) S hK hw.1 17 2 rfl rfl (by decide) (by decide) rfl dL_law_689 ?_
          refine lv_iload S.1 S.2.1 dL_law_690 (lv_at hl 0 rfl) ?_
          refine lv_i2l (v := (dieN σ r 3).toInt64) S.1 S.2.1 dL_law_692 rfl ?_
          refine bl_lcmp S rfl dL_law_693 ?_
          refine bz_eq (tgt := 699) S dL_law_694 (by decide) (fun c9 => ?_) (fun c9 => ?_)
          · refine lv_goto (tgt := 1514) S.1 S.2.1 dL_law_699 (by decide) ?_
            refine W.widen (k := c0 + 1) (n := d0 + 6) (by omega) (by omega) ?_
            exact K (dieG σ r 3) (vp_updL fo 0 ((dieN σ r 3).toInt64)) 0 (inv_die hI hr) _ _ hw _ (lv_sub hl [2, 3, 4, 5, 6] rfl)
          · exact absurd c9 (by decide)
      · exact absurd c9 (by decide)

set_option maxHeartbeats 4000000 in
set_option maxRecDepth 100000 in
theorem law_live (l : Launch) (hfl : l.stackTraces = false) {p : Program} {e : Env} {s : State} {m : MethodId} {below : List Frame} {meth : Method} {c : Code} {D : va_G} {cZ cI cJ : ClassId} {a b2 : Nat → Nat} {o bs L : Nat} {xs : Nat → Int32} (S : CallFix p m c cL_law 7 s #[Value.ref bs] wsL_law RL) (hK : va_K D vwCl (tyJ cZ cI cJ) s) (hZ : ZT (fun q => s.heap.size ≤ q) s s.heap) (hX : va_X bs L xs s s.heap) (hbl : bs < s.heap.size) (hL : L ≤ 2048) {Q : State → Prop} {i c0 d0 : Nat} (hi : i + 4 ≤ L) (hc0 : c0 + 1 ≤ 1068) (hd0 : d0 + 6 ≤ 8554) (σ : sC) (fo : Nat → Int64) (th : Int32) (hI : Inv σ) (K : ∀ (σ' : sC) (fo' : Nat → Int64) (th' : Int32), Inv σ' → ∀ (H : Heap) (locs : List Loc), Wd D (fun q => s.heap.size ≤ q) s.heap ((wX cZ cI a σ' ++ wO cJ o fo') ++ wM cZ cI b2 th' σ') H locs → ∀ ls : Array Slot, lv_has ls 7 [(0, .ref bs), (1, .ref (a 0)), (2, .ref (b2 0)), (3, .ref o), (4, .int (nI i))] → W p l e room_1 s m #[Value.ref bs] below meth c H locs (c0 + 1) (d0 + 6) Q (F0 m 1514 ls [])) : ∀ (H : Heap) (locs : List Loc), Wd D (fun q => s.heap.size ≤ q) s.heap ((wX cZ cI a σ ++ wO cJ o fo) ++ wM cZ cI b2 th σ) H locs → ∀ ls : Array Slot, lv_has ls 7 [(0, .ref bs), (1, .ref (a 0)), (2, .ref (b2 0)), (3, .ref o), (4, .int (nI i))] → W p l e room_1 s m #[Value.ref bs] below meth c H locs c0 d0 Q (F0 m 702 ls []) := by
  intro H locs hw ls hl
  have hcl0 : c0 ≤ room_1.cells := (show c0 ≤ 1068 by omega)
  have hsl0 : d0 ≤ room_1.slots := (show d0 ≤ 8554 by omega)
  have hcl1 : c0 + 1 ≤ room_1.cells := hc0
  have hsl1 : d0 + 6 ≤ room_1.slots := hd0
  by_cases hb : inB (xs (i + 1)) 0 3 = 0
  · refine lv_aload_n S.1 S.2.1 dL_law_702 rfl (lv_at hl 1 rfl) ?_
    refine lv_aload_n S.1 S.2.1 dL_law_703 rfl (lv_at hl 0 rfl) ?_
    refine lv_iload S.1 S.2.1 dL_law_704 (lv_at hl 4 rfl) ?_
    refine lv_iconst (v := nI 1) S.1 S.2.1 dL_law_706 (by decide) ?_
    refine lv_iadd S.1 S.2.1 dL_law_707 ?_
    refine bx_top (y := nI (i + 1)) (nI_add i 1) ?_
    refine bl_sld S hX hbl hL hw (by omega) dL_law_708 ?_
    refine lv_aload_n S.1 S.2.1 dL_law_709 rfl (lv_at hl 3 rfl) ?_
    refine bl_sb (As := [.ref (a 0), .int (xs (i + 1)), .ref o]) (rest := []) S hK hZ hw (kL_live_IA l D cZ cI cJ a σ o fo (xs (i + 1)) (tX0_live_1 l hfl D cZ cI a σ (xs (i + 1)) hb)) (vx_cwSW 3 S.2.2.2.2 gL_law_L_live rfl rfl rfl (by decide +kernel) ⟨Nat.le_of_ble_eq_true rfl, Nat.le_of_ble_eq_true rfl⟩) rfl hl.1 rfl (Nat.le_of_ble_eq_true rfl) hcl1 hsl1 dL_law_710 (fun H locs hw => ?_)
    refine lv_istore (lv' := [(5, .int 1), (0, .ref bs), (1, .ref (a 0)), (2, .ref (b2 0)), (3, .ref o), (4, .int (nI i))]) S.1 S.2.1 dL_law_713 hl (by decide) rfl (fun ls hl => ?_)
    refine lv_aload_n S.1 S.2.1 dL_law_715 rfl (lv_at hl 3 rfl) ?_
    refine lv_aload_n S.1 S.2.1 dL_law_716 rfl (lv_at hl 1 rfl) ?_
    refine lv_iload S.1 S.2.1 dL_law_717 (lv_at hl 5 rfl) ?_
    refine lv_iconst (v := nI 1) S.1 S.2.1 dL_law_719 (by decide) ?_
    refine lv_iadd S.1 S.2.1 dL_law_720 ?_
    refine bx_top (y := nI (i + 1)) (nI_add i 1) ?_
    refine bl_sld S hX hbl hL hw (by omega) dL_law_721 ?_
    refine bm_vi (As := [.int (xs (i + 1))]) (rest := []) S (tyJ_Z hK) hw (kX1_live_bad l D cZ cI b2 th σ (xs (i + 1)) hb) (cwV 1 S.2.2.2.2 gL_law_X1_live rfl rfl rfl (by decide +kernel) ⟨Nat.le_of_ble_eq_true rfl, Nat.le_of_ble_eq_true rfl⟩) (q0 := 0) rfl rfl rfl hl.1 rfl (Nat.le_of_ble_eq_true rfl) hcl1 hsl1 dL_law_722 (fun H locs hw => ?_)
    refine lv_istore (lv' := [(6, .int 0), (5, .int 1), (0, .ref bs), (1, .ref (a 0)), (2, .ref (b2 0)), (3, .ref o), (4, .int (nI i))]) S.1 S.2.1 dL_law_725 hl (by decide) rfl (fun ls hl => ?_)
    refine lv_aload_n S.1 S.2.1 dL_law_727 rfl (lv_at hl 4 rfl) ?_
    refine bm_vi (As := []) (rest := []) S (tyJ_Z hK) hw (kX1_thrown l D cZ cI b2 1 σ) (cwV 0 S.2.2.2.2 gL_law_X1_thrown rfl rfl rfl (by decide +kernel) ⟨Nat.le_of_ble_eq_true rfl, Nat.le_of_ble_eq_true rfl⟩) (q0 := 0) rfl rfl rfl hl.1 rfl (Nat.le_of_ble_eq_true rfl) hcl1 hsl1 dL_law_728 (fun H locs hw => ?_)
    refine lv_iload S.1 S.2.1 dL_law_731 (lv_at hl 1 rfl) ?_
    refine br_eq (tgt := 738) S dL_law_733 (by decide) (fun c9 => ?_) (fun c9 => ?_)
    · refine lv_iload S.1 S.2.1 dL_law_738 (lv_at hl 1 rfl) ?_
      refine bz_ne (tgt := 755) S dL_law_740 (by decide) (fun c9 => ?_) (fun c9 => ?_)
      · refine lv_goto (tgt := 1514) S.1 S.2.1 dL_law_755 (by decide) ?_
        exact K σ fo 1 hI _ _ hw _ (lv_sub hl [2, 3, 4, 5, 6] rfl)
      · exact absurd c9 (by decide)
    · exact absurd c9 (by decide)
  · obtain ⟨r, hr, ex⟩ := in_rx hb
    by_cases ha : σ 0 r = 0
    · refine lv_aload_n S.1 S.2.1 dL_law_702 rfl (lv_at hl 1 rfl) ?_
      refine lv_aload_n S.1 S.2.1 dL_law_703 rfl (lv_at hl 0 rfl) ?_
      refine lv_iload S.1 S.2.1 dL_law_704 (lv_at hl 4 rfl) ?_
      refine lv_iconst (v := nI 1) S.1 S.2.1 dL_law_706 (by decide) ?_
      refine lv_iadd S.1 S.2.1 dL_law_707 ?_
      refine bx_top (y := nI (i + 1)) (nI_add i 1) ?_
      refine bl_sld S hX hbl hL hw (by omega) dL_law_708 ?_
      refine bx_top (y := nI r) ex ?_
      refine lv_aload_n S.1 S.2.1 dL_law_709 rfl (lv_at hl 3 rfl) ?_
      refine bl_si (As := [.ref (a 0), .int (nI r), .ref o]) (rest := []) S hK hw (kL_live l D cZ cI cJ a σ o fo (r := r) hr ha) (vx_cwSW 3 S.2.2.2.2 gL_law_L_live rfl rfl rfl (by decide +kernel) ⟨Nat.le_of_ble_eq_true rfl, Nat.le_of_ble_eq_true rfl⟩) rfl hl.1 rfl (Nat.le_of_ble_eq_true rfl) hcl0 hsl0 dL_law_710 (fun H locs hw => ?_)
      refine lv_istore (lv' := [(5, .int 0), (0, .ref bs), (1, .ref (a 0)), (2, .ref (b2 0)), (3, .ref o), (4, .int (nI i))]) S.1 S.2.1 dL_law_713 hl (by decide) rfl (fun ls hl => ?_)
      refine lv_aload_n S.1 S.2.1 dL_law_715 rfl (lv_at hl 3 rfl) ?_
      refine lv_aload_n S.1 S.2.1 dL_law_716 rfl (lv_at hl 1 rfl) ?_
      refine lv_iload S.1 S.2.1 dL_law_717 (lv_at hl 5 rfl) ?_
      refine lv_iconst (v := nI 1) S.1 S.2.1 dL_law_719 (by decide) ?_
      refine lv_iadd S.1 S.2.1 dL_law_720 ?_
      refine bx_top (y := nI (i + 1)) (nI_add i 1) ?_
      refine bl_sld S hX hbl hL hw (by omega) dL_law_721 ?_
      refine bx_top (y := nI r) ex ?_
      refine bm_vi (As := [.int (nI r)]) (rest := []) S (tyJ_Z hK) hw (kX1_live l D cZ cI b2 th σ (r := r) hr ha (fun g hg => hI.2.1 r g hr hg ha)) (cwV 1 S.2.2.2.2 gL_law_X1_live rfl rfl rfl (by decide +kernel) ⟨Nat.le_of_ble_eq_true rfl, Nat.le_of_ble_eq_true rfl⟩) (q0 := 0) rfl rfl rfl hl.1 rfl (Nat.le_of_ble_eq_true rfl) hcl0 hsl0 dL_law_722 (fun H locs hw => ?_)
      refine lv_istore (lv' := [(6, .int (liveN σ r 3)), (5, .int 0), (0, .ref bs), (1, .ref (a 0)), (2, .ref (b2 0)), (3, .ref o), (4, .int (nI i))]) S.1 S.2.1 dL_law_725 hl (by decide) rfl (fun ls hl => ?_)
      refine lv_aload_n S.1 S.2.1 dL_law_727 rfl (lv_at hl 4 rfl) ?_
      refine bm_vi (As := []) (rest := []) S (tyJ_Z hK) hw (kX1_thrown l D cZ cI b2 0 (liveG σ r 3)) (cwV 0 S.2.2.2.2 gL_law_X1_thrown rfl rfl rfl (by decide +kernel) ⟨Nat.le_of_ble_eq_true rfl, Nat.le_of_ble_eq_true rfl⟩) (q0 := 0) rfl rfl rfl hl.1 rfl (Nat.le_of_ble_eq_true rfl) hcl0 hsl0 dL_law_728 (fun H locs hw => ?_)
      refine lv_iload S.1 S.2.1 dL_law_731 (lv_at hl 1 rfl) ?_
      refine br_eq (tgt := 738) S dL_law_733 (by decide) (fun c9 => ?_) (fun c9 => ?_)
      · refine lv_iload S.1 S.2.1 dL_law_738 (lv_at hl 1 rfl) ?_
        refine bz_ne (tgt := 755) S dL_law_740 (by decide) (fun c9 => ?_) (fun c9 => ?_)
        · exact absurd c9 (by decide)
        · refine lv_aload_n S.1 S.2.1 dL_law_743 rfl (lv_at hl 5 rfl) ?_
          refine lv_iconst (v := nI 0) S.1 S.2.1 dL_law_744 (by decide) ?_
          refine bl_lald (v := (liveN σ r 3).toInt64) S hK hw.1 17 2 rfl rfl (by decide) (by decide) rfl dL_law_745 ?_
          refine lv_iload S.1 S.2.1 dL_law_746 (lv_at hl 0 rfl) ?_
          refine lv_i2l (v := (liveN σ r 3).toInt64) S.1 S.2.1 dL_law_748 rfl ?_
          refine bl_lcmp S rfl dL_law_749 ?_
          refine bz_eq (tgt := 755) S dL_law_750 (by decide) (fun c9 => ?_) (fun c9 => ?_)
          · refine lv_goto (tgt := 1514) S.1 S.2.1 dL_law_755 (by decide) ?_
            refine W.widen (k := c0 + 1) (n := d0 + 6) (by omega) (by omega) ?_
            exact K (liveG σ r 3) (vp_updL fo 0 ((liveN σ r 3).toInt64)) 0 (inv_live hI hr (fun g hg => hI.2.1 r g hr hg ha) 3) _ _ hw _ (lv_sub hl [2, 3, 4, 5, 6] rfl)
          · exact absurd c9 (by decide)
      · exact absurd c9 (by decide)
    · refine lv_aload_n S.1 S.2.1 dL_law_702 rfl (lv_at hl 1 rfl) ?_
      refine lv_aload_n S.1 S.2.1 dL_law_703 rfl (lv_at hl 0 rfl) ?_
      refine lv_iload S.1 S.2.1 dL_law_704 (lv_at hl 4 rfl) ?_
      refine lv_iconst (v := nI 1) S.1 S.2.1 dL_law_706 (by decide) ?_
      refine lv_iadd S.1 S.2.1 dL_law_707 ?_
      refine bx_top (y := nI (i + 1)) (nI_add i 1) ?_
      refine bl_sld S hX hbl hL hw (by omega) dL_law_708 ?_
      refine bx_top (y := nI r) ex ?_
      refine lv_aload_n S.1 S.2.1 dL_law_709 rfl (lv_at hl 3 rfl) ?_
      refine bl_sb (As := [.ref (a 0), .int (nI r), .ref o]) (rest := []) S hK hZ hw (kL_live_IS l D cZ cI cJ a σ o fo (nI r) (tX0_live_s l hfl D cZ cI a σ (r := r) hr ha)) (vx_cwSW 3 S.2.2.2.2 gL_law_L_live rfl rfl rfl (by decide +kernel) ⟨Nat.le_of_ble_eq_true rfl, Nat.le_of_ble_eq_true rfl⟩) rfl hl.1 rfl (Nat.le_of_ble_eq_true rfl) hcl1 hsl1 dL_law_710 (fun H locs hw => ?_)
      refine lv_istore (lv' := [(5, .int 2), (0, .ref bs), (1, .ref (a 0)), (2, .ref (b2 0)), (3, .ref o), (4, .int (nI i))]) S.1 S.2.1 dL_law_713 hl (by decide) rfl (fun ls hl => ?_)
      refine lv_aload_n S.1 S.2.1 dL_law_715 rfl (lv_at hl 3 rfl) ?_
      refine lv_aload_n S.1 S.2.1 dL_law_716 rfl (lv_at hl 1 rfl) ?_
      refine lv_iload S.1 S.2.1 dL_law_717 (lv_at hl 5 rfl) ?_
      refine lv_iconst (v := nI 1) S.1 S.2.1 dL_law_719 (by decide) ?_
      refine lv_iadd S.1 S.2.1 dL_law_720 ?_
      refine bx_top (y := nI (i + 1)) (nI_add i 1) ?_
      refine bl_sld S hX hbl hL hw (by omega) dL_law_721 ?_
      refine bx_top (y := nI r) ex ?_
      refine bm_vi (As := [.int (nI r)]) (rest := []) S (tyJ_Z hK) hw (kX1_live_bad2 l D cZ cI b2 th σ (r := r) hr ha) (cwV 1 S.2.2.2.2 gL_law_X1_live rfl rfl rfl (by decide +kernel) ⟨Nat.le_of_ble_eq_true rfl, Nat.le_of_ble_eq_true rfl⟩) (q0 := 0) rfl rfl rfl hl.1 rfl (Nat.le_of_ble_eq_true rfl) hcl1 hsl1 dL_law_722 (fun H locs hw => ?_)
      refine lv_istore (lv' := [(6, .int 0), (5, .int 2), (0, .ref bs), (1, .ref (a 0)), (2, .ref (b2 0)), (3, .ref o), (4, .int (nI i))]) S.1 S.2.1 dL_law_725 hl (by decide) rfl (fun ls hl => ?_)
      refine lv_aload_n S.1 S.2.1 dL_law_727 rfl (lv_at hl 4 rfl) ?_
      refine bm_vi (As := []) (rest := []) S (tyJ_Z hK) hw (kX1_thrown l D cZ cI b2 2 σ) (cwV 0 S.2.2.2.2 gL_law_X1_thrown rfl rfl rfl (by decide +kernel) ⟨Nat.le_of_ble_eq_true rfl, Nat.le_of_ble_eq_true rfl⟩) (q0 := 0) rfl rfl rfl hl.1 rfl (Nat.le_of_ble_eq_true rfl) hcl1 hsl1 dL_law_728 (fun H locs hw => ?_)
      refine lv_iload S.1 S.2.1 dL_law_731 (lv_at hl 1 rfl) ?_
      refine br_eq (tgt := 738) S dL_law_733 (by decide) (fun c9 => ?_) (fun c9 => ?_)
      · refine lv_iload S.1 S.2.1 dL_law_738 (lv_at hl 1 rfl) ?_
        refine bz_ne (tgt := 755) S dL_law_740 (by decide) (fun c9 => ?_) (fun c9 => ?_)
        · refine lv_goto (tgt := 1514) S.1 S.2.1 dL_law_755 (by decide) ?_
          exact K σ fo 2 hI _ _ hw _ (lv_sub hl [2, 3, 4, 5, 6] rfl)
        · exact absurd c9 (by decide)
      · exact absurd c9 (by decide)

set_option maxHeartbeats 4000000 in
set_option maxRecDepth 100000 in
theorem law_handOver (l : Launch) (hfl : l.stackTraces = false) {p : Program} {e : Env} {s : State} {m : MethodId} {below : List Frame} {meth : Method} {c : Code} {D : va_G} {cZ cI cJ : ClassId} {a b2 : Nat → Nat} {o bs L : Nat} {xs : Nat → Int32} (S : CallFix p m c cL_law 7 s #[Value.ref bs] wsL_law RL) (hK : va_K D vwCl (tyJ cZ cI cJ) s) (hZ : ZT (fun q => s.heap.size ≤ q) s s.heap) (hX : va_X bs L xs s s.heap) (hbl : bs < s.heap.size) (hL : L ≤ 2048) {Q : State → Prop} {i c0 d0 : Nat} (hi : i + 4 ≤ L) (hc0 : c0 + 1 ≤ 1068) (hd0 : d0 + 6 ≤ 8554) (σ : sC) (fo : Nat → Int64) (th : Int32) (hI : Inv σ) (K : ∀ (σ' : sC) (fo' : Nat → Int64) (th' : Int32), Inv σ' → ∀ (H : Heap) (locs : List Loc), Wd D (fun q => s.heap.size ≤ q) s.heap ((wX cZ cI a σ' ++ wO cJ o fo') ++ wM cZ cI b2 th' σ') H locs → ∀ ls : Array Slot, lv_has ls 7 [(0, .ref bs), (1, .ref (a 0)), (2, .ref (b2 0)), (3, .ref o), (4, .int (nI i))] → W p l e room_1 s m #[Value.ref bs] below meth c H locs (c0 + 1) (d0 + 6) Q (F0 m 1514 ls [])) : ∀ (H : Heap) (locs : List Loc), Wd D (fun q => s.heap.size ≤ q) s.heap ((wX cZ cI a σ ++ wO cJ o fo) ++ wM cZ cI b2 th σ) H locs → ∀ ls : Array Slot, lv_has ls 7 [(0, .ref bs), (1, .ref (a 0)), (2, .ref (b2 0)), (3, .ref o), (4, .int (nI i))] → W p l e room_1 s m #[Value.ref bs] below meth c H locs c0 d0 Q (F0 m 758 ls []) := by
  intro H locs hw ls hl
  have hcl0 : c0 ≤ room_1.cells := (show c0 ≤ 1068 by omega)
  have hsl0 : d0 ≤ room_1.slots := (show d0 ≤ 8554 by omega)
  have hcl1 : c0 + 1 ≤ room_1.cells := hc0
  have hsl1 : d0 + 6 ≤ room_1.slots := hd0
  by_cases hb : arE (xs (i + 1)) (xs (i + 2)) = 0
  · refine lv_aload_n S.1 S.2.1 dL_law_758 rfl (lv_at hl 1 rfl) ?_
    refine lv_aload_n S.1 S.2.1 dL_law_759 rfl (lv_at hl 0 rfl) ?_
    refine lv_iload S.1 S.2.1 dL_law_760 (lv_at hl 4 rfl) ?_
    refine lv_iconst (v := nI 1) S.1 S.2.1 dL_law_762 (by decide) ?_
    refine lv_iadd S.1 S.2.1 dL_law_763 ?_
    refine bx_top (y := nI (i + 1)) (nI_add i 1) ?_
    refine bl_sld S hX hbl hL hw (by omega) dL_law_764 ?_
    refine lv_aload_n S.1 S.2.1 dL_law_765 rfl (lv_at hl 0 rfl) ?_
    refine lv_iload S.1 S.2.1 dL_law_766 (lv_at hl 4 rfl) ?_
    refine lv_iconst (v := nI 2) S.1 S.2.1 dL_law_768 (by decide) ?_
    refine lv_iadd S.1 S.2.1 dL_law_769 ?_
    refine bx_top (y := nI (i + 2)) (nI_add i 2) ?_
    refine bl_sld S hX hbl hL hw (by omega) dL_law_770 ?_
    refine bl_sb (As := [.ref (a 0), .int (xs (i + 1)), .int (xs (i + 2))]) (rest := []) S hK hZ hw (kL_handOver_IA l D cZ cI cJ a σ o fo (xs (i + 1)) (xs (i + 2)) (tX0_handOver_b l hfl D cZ cI a σ (xs (i + 1)) (xs (i + 2)) hb)) (vx_cwSW 3 S.2.2.2.2 gL_law_L_handOver rfl rfl rfl (by decide +kernel) ⟨Nat.le_of_ble_eq_true rfl, Nat.le_of_ble_eq_true rfl⟩) rfl hl.1 rfl (Nat.le_of_ble_eq_true rfl) hcl1 hsl1 dL_law_771 (fun H locs hw => ?_)
    refine lv_istore (lv' := [(5, .int 1), (0, .ref bs), (1, .ref (a 0)), (2, .ref (b2 0)), (3, .ref o), (4, .int (nI i))]) S.1 S.2.1 dL_law_774 hl (by decide) rfl (fun ls hl => ?_)
    refine lv_aload_n S.1 S.2.1 dL_law_776 rfl (lv_at hl 3 rfl) ?_
    refine lv_aload_n S.1 S.2.1 dL_law_777 rfl (lv_at hl 1 rfl) ?_
    refine lv_iload S.1 S.2.1 dL_law_778 (lv_at hl 5 rfl) ?_
    refine lv_iconst (v := nI 1) S.1 S.2.1 dL_law_780 (by decide) ?_
    refine lv_iadd S.1 S.2.1 dL_law_781 ?_
    refine bx_top (y := nI (i + 1)) (nI_add i 1) ?_
    refine bl_sld S hX hbl hL hw (by omega) dL_law_782 ?_
    refine lv_aload_n S.1 S.2.1 dL_law_783 rfl (lv_at hl 1 rfl) ?_
    refine lv_iload S.1 S.2.1 dL_law_784 (lv_at hl 5 rfl) ?_
    refine lv_iconst (v := nI 2) S.1 S.2.1 dL_law_786 (by decide) ?_
    refine lv_iadd S.1 S.2.1 dL_law_787 ?_
    refine bx_top (y := nI (i + 2)) (nI_add i 2) ?_
    refine bl_sld S hX hbl hL hw (by omega) dL_law_788 ?_
    refine bm_vv (As := [.int (xs (i + 1)), .int (xs (i + 2))]) (rest := []) S (tyJ_Z hK) hw (kX1_handOver_bad l D cZ cI b2 th σ (xs (i + 1)) (xs (i + 2)) hb) (cwV 2 S.2.2.2.2 gL_law_X1_handOver rfl rfl rfl (by decide +kernel) ⟨Nat.le_of_ble_eq_true rfl, Nat.le_of_ble_eq_true rfl⟩) (q0 := 0) rfl rfl rfl hl.1 rfl (Nat.le_of_ble_eq_true rfl) hcl1 hsl1 dL_law_789 (fun H locs hw => ?_)
    refine lv_aload_n S.1 S.2.1 dL_law_792 rfl (lv_at hl 3 rfl) ?_
    refine bm_vi (As := []) (rest := []) S (tyJ_Z hK) hw (kX1_thrown l D cZ cI b2 1 σ) (cwV 0 S.2.2.2.2 gL_law_X1_thrown rfl rfl rfl (by decide +kernel) ⟨Nat.le_of_ble_eq_true rfl, Nat.le_of_ble_eq_true rfl⟩) (q0 := 0) rfl rfl rfl hl.1 rfl (Nat.le_of_ble_eq_true rfl) hcl1 hsl1 dL_law_793 (fun H locs hw => ?_)
    refine lv_iload S.1 S.2.1 dL_law_796 (lv_at hl 0 rfl) ?_
    refine br_eq (tgt := 803) S dL_law_798 (by decide) (fun c9 => ?_) (fun c9 => ?_)
    · refine lv_goto (tgt := 1514) S.1 S.2.1 dL_law_803 (by decide) ?_
      exact K σ fo 1 hI _ _ hw _ (lv_sub hl [1, 2, 3, 4, 5] rfl)
    · exact absurd c9 (by decide)
  · obtain ⟨r, g, hr, hg, ex, ey⟩ := are_x hb
    by_cases hm : σ 10 (4 * g + r) = 2
    · refine lv_aload_n S.1 S.2.1 dL_law_758 rfl (lv_at hl 1 rfl) ?_
      refine lv_aload_n S.1 S.2.1 dL_law_759 rfl (lv_at hl 0 rfl) ?_
      refine lv_iload S.1 S.2.1 dL_law_760 (lv_at hl 4 rfl) ?_
      refine lv_iconst (v := nI 1) S.1 S.2.1 dL_law_762 (by decide) ?_
      refine lv_iadd S.1 S.2.1 dL_law_763 ?_
      refine bx_top (y := nI (i + 1)) (nI_add i 1) ?_
      refine bl_sld S hX hbl hL hw (by omega) dL_law_764 ?_
      refine bx_top (y := nI r) ex ?_
      refine lv_aload_n S.1 S.2.1 dL_law_765 rfl (lv_at hl 0 rfl) ?_
      refine lv_iload S.1 S.2.1 dL_law_766 (lv_at hl 4 rfl) ?_
      refine lv_iconst (v := nI 2) S.1 S.2.1 dL_law_768 (by decide) ?_
      refine lv_iadd S.1 S.2.1 dL_law_769 ?_
      refine bx_top (y := nI (i + 2)) (nI_add i 2) ?_
      refine bl_sld S hX hbl hL hw (by omega) dL_law_770 ?_
      refine bx_top (y := nI g) ey ?_
      refine bl_si (As := [.ref (a 0), .int (nI r), .int (nI g)]) (rest := []) S hK hw (kL_handOver l D cZ cI cJ a σ o fo (r := r) (g := g) hr hg hm) (vx_cwSW 3 S.2.2.2.2 gL_law_L_handOver rfl rfl rfl (by decide +kernel) ⟨Nat.le_of_ble_eq_true rfl, Nat.le_of_ble_eq_true rfl⟩) rfl hl.1 rfl (Nat.le_of_ble_eq_true rfl) hcl0 hsl0 dL_law_771 (fun H locs hw => ?_)
      refine lv_istore (lv' := [(5, .int 0), (0, .ref bs), (1, .ref (a 0)), (2, .ref (b2 0)), (3, .ref o), (4, .int (nI i))]) S.1 S.2.1 dL_law_774 hl (by decide) rfl (fun ls hl => ?_)
      refine lv_aload_n S.1 S.2.1 dL_law_776 rfl (lv_at hl 3 rfl) ?_
      refine lv_aload_n S.1 S.2.1 dL_law_777 rfl (lv_at hl 1 rfl) ?_
      refine lv_iload S.1 S.2.1 dL_law_778 (lv_at hl 5 rfl) ?_
      refine lv_iconst (v := nI 1) S.1 S.2.1 dL_law_780 (by decide) ?_
      refine lv_iadd S.1 S.2.1 dL_law_781 ?_
      refine bx_top (y := nI (i + 1)) (nI_add i 1) ?_
      refine bl_sld S hX hbl hL hw (by omega) dL_law_782 ?_
      refine bx_top (y := nI r) ex ?_
      refine lv_aload_n S.1 S.2.1 dL_law_783 rfl (lv_at hl 1 rfl) ?_
      refine lv_iload S.1 S.2.1 dL_law_784 (lv_at hl 5 rfl) ?_
      refine lv_iconst (v := nI 2) S.1 S.2.1 dL_law_786 (by decide) ?_
      refine lv_iadd S.1 S.2.1 dL_law_787 ?_
      refine bx_top (y := nI (i + 2)) (nI_add i 2) ?_
      refine bl_sld S hX hbl hL hw (by omega) dL_law_788 ?_
      refine bx_top (y := nI g) ey ?_
      refine bm_vv (As := [.int (nI r), .int (nI g)]) (rest := []) S (tyJ_Z hK) hw (kX1_handOver l D cZ cI b2 th σ (r := r) (g := g) hr hg hm hI.1) (cwV 2 S.2.2.2.2 gL_law_X1_handOver rfl rfl rfl (by decide +kernel) ⟨Nat.le_of_ble_eq_true rfl, Nat.le_of_ble_eq_true rfl⟩) (q0 := 0) rfl rfl rfl hl.1 rfl (Nat.le_of_ble_eq_true rfl) hcl0 hsl0 dL_law_789 (fun H locs hw => ?_)
      refine lv_aload_n S.1 S.2.1 dL_law_792 rfl (lv_at hl 3 rfl) ?_
      refine bm_vi (As := []) (rest := []) S (tyJ_Z hK) hw (kX1_thrown l D cZ cI b2 0 (advF (restF σ r g 0) r g 0)) (cwV 0 S.2.2.2.2 gL_law_X1_thrown rfl rfl rfl (by decide +kernel) ⟨Nat.le_of_ble_eq_true rfl, Nat.le_of_ble_eq_true rfl⟩) (q0 := 0) rfl rfl rfl hl.1 rfl (Nat.le_of_ble_eq_true rfl) hcl0 hsl0 dL_law_793 (fun H locs hw => ?_)
      refine lv_iload S.1 S.2.1 dL_law_796 (lv_at hl 0 rfl) ?_
      refine br_eq (tgt := 803) S dL_law_798 (by decide) (fun c9 => ?_) (fun c9 => ?_)
      · refine lv_goto (tgt := 1514) S.1 S.2.1 dL_law_803 (by decide) ?_
        refine W.widen (k := c0 + 1) (n := d0 + 6) (by omega) (by omega) ?_
        exact K (advF (restF σ r g 0) r g 0) fo 0 (inv_hand hI hm) _ _ hw _ (lv_sub hl [1, 2, 3, 4, 5] rfl)
      · exact absurd c9 (by decide)
    · refine lv_aload_n S.1 S.2.1 dL_law_758 rfl (lv_at hl 1 rfl) ?_
      refine lv_aload_n S.1 S.2.1 dL_law_759 rfl (lv_at hl 0 rfl) ?_
      refine lv_iload S.1 S.2.1 dL_law_760 (lv_at hl 4 rfl) ?_
      refine lv_iconst (v := nI 1) S.1 S.2.1 dL_law_762 (by decide) ?_
      refine lv_iadd S.1 S.2.1 dL_law_763 ?_
      refine bx_top (y := nI (i + 1)) (nI_add i 1) ?_
      refine bl_sld S hX hbl hL hw (by omega) dL_law_764 ?_
      refine bx_top (y := nI r) ex ?_
      refine lv_aload_n S.1 S.2.1 dL_law_765 rfl (lv_at hl 0 rfl) ?_
      refine lv_iload S.1 S.2.1 dL_law_766 (lv_at hl 4 rfl) ?_
      refine lv_iconst (v := nI 2) S.1 S.2.1 dL_law_768 (by decide) ?_
      refine lv_iadd S.1 S.2.1 dL_law_769 ?_
      refine bx_top (y := nI (i + 2)) (nI_add i 2) ?_
      refine bl_sld S hX hbl hL hw (by omega) dL_law_770 ?_
      refine bx_top (y := nI g) ey ?_
      refine bl_sb (As := [.ref (a 0), .int (nI r), .int (nI g)]) (rest := []) S hK hZ hw (kL_handOver_IS l D cZ cI cJ a σ o fo (nI r) (nI g) (tX0_handOver_s l hfl D cZ cI a σ (r := r) (g := g) hr hg hm)) (vx_cwSW 3 S.2.2.2.2 gL_law_L_handOver rfl rfl rfl (by decide +kernel) ⟨Nat.le_of_ble_eq_true rfl, Nat.le_of_ble_eq_true rfl⟩) rfl hl.1 rfl (Nat.le_of_ble_eq_true rfl) hcl1 hsl1 dL_law_771 (fun H locs hw => ?_)
      refine lv_istore (lv' := [(5, .int 2), (0, .ref bs), (1, .ref (a 0)), (2, .ref (b2 0)), (3, .ref o), (4, .int (nI i))]) S.1 S.2.1 dL_law_774 hl (by decide) rfl (fun ls hl => ?_)
      refine lv_aload_n S.1 S.2.1 dL_law_776 rfl (lv_at hl 3 rfl) ?_
      refine lv_aload_n S.1 S.2.1 dL_law_777 rfl (lv_at hl 1 rfl) ?_
      refine lv_iload S.1 S.2.1 dL_law_778 (lv_at hl 5 rfl) ?_
      refine lv_iconst (v := nI 1) S.1 S.2.1 dL_law_780 (by decide) ?_
      refine lv_iadd S.1 S.2.1 dL_law_781 ?_
      refine bx_top (y := nI (i + 1)) (nI_add i 1) ?_
      refine bl_sld S hX hbl hL hw (by omega) dL_law_782 ?_
      refine bx_top (y := nI r) ex ?_
      refine lv_aload_n S.1 S.2.1 dL_law_783 rfl (lv_at hl 1 rfl) ?_
      refine lv_iload S.1 S.2.1 dL_law_784 (lv_at hl 5 rfl) ?_
      refine lv_iconst (v := nI 2) S.1 S.2.1 dL_law_786 (by decide) ?_
      refine lv_iadd S.1 S.2.1 dL_law_787 ?_
      refine bx_top (y := nI (i + 2)) (nI_add i 2) ?_
      refine bl_sld S hX hbl hL hw (by omega) dL_law_788 ?_
      refine bx_top (y := nI g) ey ?_
      refine bm_vv (As := [.int (nI r), .int (nI g)]) (rest := []) S (tyJ_Z hK) hw (kX1_handOver_bad2 l D cZ cI b2 th σ (r := r) (g := g) hr hg hm) (cwV 2 S.2.2.2.2 gL_law_X1_handOver rfl rfl rfl (by decide +kernel) ⟨Nat.le_of_ble_eq_true rfl, Nat.le_of_ble_eq_true rfl⟩) (q0 := 0) rfl rfl rfl hl.1 rfl (Nat.le_of_ble_eq_true rfl) hcl1 hsl1 dL_law_789 (fun H locs hw => ?_)
      refine lv_aload_n S.1 S.2.1 dL_law_792 rfl (lv_at hl 3 rfl) ?_
      refine bm_vi (As := []) (rest := []) S (tyJ_Z hK) hw (kX1_thrown l D cZ cI b2 2 σ) (cwV 0 S.2.2.2.2 gL_law_X1_thrown rfl rfl rfl (by decide +kernel) ⟨Nat.le_of_ble_eq_true rfl, Nat.le_of_ble_eq_true rfl⟩) (q0 := 0) rfl rfl rfl hl.1 rfl (Nat.le_of_ble_eq_true rfl) hcl1 hsl1 dL_law_793 (fun H locs hw => ?_)
      refine lv_iload S.1 S.2.1 dL_law_796 (lv_at hl 0 rfl) ?_
      refine br_eq (tgt := 803) S dL_law_798 (by decide) (fun c9 => ?_) (fun c9 => ?_)
      · refine lv_goto (tgt := 1514) S.1 S.2.1 dL_law_803 (by decide) ?_
        exact K σ fo 2 hI _ _ hw _ (lv_sub hl [1, 2, 3, 4, 5] rfl)
      · exact absurd c9 (by decide)

set_option maxHeartbeats 4000000 in
set_option maxRecDepth 100000 in
theorem law_serve (l : Launch) (hfl : l.stackTraces = false) {p : Program} {e : Env} {s : State} {m : MethodId} {below : List Frame} {meth : Method} {c : Code} {D : va_G} {cZ cI cJ : ClassId} {a b2 : Nat → Nat} {o bs L : Nat} {xs : Nat → Int32} (S : CallFix p m c cL_law 7 s #[Value.ref bs] wsL_law RL) (hK : va_K D vwCl (tyJ cZ cI cJ) s) (hZ : ZT (fun q => s.heap.size ≤ q) s s.heap) (hX : va_X bs L xs s s.heap) (hbl : bs < s.heap.size) (hL : L ≤ 2048) {Q : State → Prop} {i c0 d0 : Nat} (hi : i + 4 ≤ L) (hc0 : c0 + 1 ≤ 1068) (hd0 : d0 + 6 ≤ 8554) (σ : sC) (fo : Nat → Int64) (th : Int32) (hI : Inv σ) (K : ∀ (σ' : sC) (fo' : Nat → Int64) (th' : Int32), Inv σ' → ∀ (H : Heap) (locs : List Loc), Wd D (fun q => s.heap.size ≤ q) s.heap ((wX cZ cI a σ' ++ wO cJ o fo') ++ wM cZ cI b2 th' σ') H locs → ∀ ls : Array Slot, lv_has ls 7 [(0, .ref bs), (1, .ref (a 0)), (2, .ref (b2 0)), (3, .ref o), (4, .int (nI i))] → W p l e room_1 s m #[Value.ref bs] below meth c H locs (c0 + 1) (d0 + 6) Q (F0 m 1514 ls [])) : ∀ (H : Heap) (locs : List Loc), Wd D (fun q => s.heap.size ≤ q) s.heap ((wX cZ cI a σ ++ wO cJ o fo) ++ wM cZ cI b2 th σ) H locs → ∀ ls : Array Slot, lv_has ls 7 [(0, .ref bs), (1, .ref (a 0)), (2, .ref (b2 0)), (3, .ref o), (4, .int (nI i))] → W p l e room_1 s m #[Value.ref bs] below meth c H locs c0 d0 Q (F0 m 806 ls []) := by
  intro H locs hw ls hl
  have hcl0 : c0 ≤ room_1.cells := (show c0 ≤ 1068 by omega)
  have hsl0 : d0 ≤ room_1.slots := (show d0 ≤ 8554 by omega)
  have hcl1 : c0 + 1 ≤ room_1.cells := hc0
  have hsl1 : d0 + 6 ≤ room_1.slots := hd0
  by_cases hb : inB (xs (i + 1)) 0 2 = 0 ∨ inB (xs (i + 2)) 1 100 = 0
  · refine lv_aload_n S.1 S.2.1 dL_law_806 rfl (lv_at hl 1 rfl) ?_
    refine lv_aload_n S.1 S.2.1 dL_law_807 rfl (lv_at hl 0 rfl) ?_
    refine lv_iload S.1 S.2.1 dL_law_808 (lv_at hl 4 rfl) ?_
    refine lv_iconst (v := nI 1) S.1 S.2.1 dL_law_810 (by decide) ?_
    refine lv_iadd S.1 S.2.1 dL_law_811 ?_
    refine bx_top (y := nI (i + 1)) (nI_add i 1) ?_
    refine bl_sld S hX hbl hL hw (by omega) dL_law_812 ?_
    refine lv_aload_n S.1 S.2.1 dL_law_813 rfl (lv_at hl 0 rfl) ?_
    refine lv_iload S.1 S.2.1 dL_law_814 (lv_at hl 4 rfl) ?_
    refine lv_iconst (v := nI 2) S.1 S.2.1 dL_law_816 (by decide) ?_
    refine lv_iadd S.1 S.2.1 dL_law_817 ?_
    refine bx_top (y := nI (i + 2)) (nI_add i 2) ?_
    refine bl_sld S hX hbl hL hw (by omega) dL_law_818 ?_
    refine lv_aload_n S.1 S.2.1 dL_law_819 rfl (lv_at hl 3 rfl) ?_
    refine bl_sb (As := [.ref (a 0), .int (xs (i + 1)), .int (xs (i + 2)), .ref o]) (rest := []) S hK hZ hw (kL_serve_IA l D cZ cI cJ a σ o fo (xs (i + 1)) (xs (i + 2)) (tX0_serve_b l hfl D cZ cI a σ (xs (i + 1)) (xs (i + 2)) hb)) (vx_cwSW 4 S.2.2.2.2 gL_law_L_serve rfl rfl rfl (by decide +kernel) ⟨Nat.le_of_ble_eq_true rfl, Nat.le_of_ble_eq_true rfl⟩) rfl hl.1 rfl (Nat.le_of_ble_eq_true rfl) hcl1 hsl1 dL_law_820 (fun H locs hw => ?_)
    refine lv_istore (lv' := [(5, .int 1), (0, .ref bs), (1, .ref (a 0)), (2, .ref (b2 0)), (3, .ref o), (4, .int (nI i))]) S.1 S.2.1 dL_law_823 hl (by decide) rfl (fun ls hl => ?_)
    refine lv_aload_n S.1 S.2.1 dL_law_825 rfl (lv_at hl 3 rfl) ?_
    refine lv_aload_n S.1 S.2.1 dL_law_826 rfl (lv_at hl 1 rfl) ?_
    refine lv_iload S.1 S.2.1 dL_law_827 (lv_at hl 5 rfl) ?_
    refine lv_iconst (v := nI 1) S.1 S.2.1 dL_law_829 (by decide) ?_
    refine lv_iadd S.1 S.2.1 dL_law_830 ?_
    refine bx_top (y := nI (i + 1)) (nI_add i 1) ?_
    refine bl_sld S hX hbl hL hw (by omega) dL_law_831 ?_
    refine lv_aload_n S.1 S.2.1 dL_law_832 rfl (lv_at hl 1 rfl) ?_
    refine lv_iload S.1 S.2.1 dL_law_833 (lv_at hl 5 rfl) ?_
    refine lv_iconst (v := nI 2) S.1 S.2.1 dL_law_835 (by decide) ?_
    refine lv_iadd S.1 S.2.1 dL_law_836 ?_
    refine bx_top (y := nI (i + 2)) (nI_add i 2) ?_
    refine bl_sld S hX hbl hL hw (by omega) dL_law_837 ?_
    refine bm_vi (As := [.int (xs (i + 1)), .int (xs (i + 2))]) (rest := []) S (tyJ_Z hK) hw (kX1_serve_bad l D cZ cI b2 th σ (xs (i + 1)) (xs (i + 2)) hb) (cwV 2 S.2.2.2.2 gL_law_X1_serve rfl rfl rfl (by decide +kernel) ⟨Nat.le_of_ble_eq_true rfl, Nat.le_of_ble_eq_true rfl⟩) (q0 := 0) rfl rfl rfl hl.1 rfl (Nat.le_of_ble_eq_true rfl) hcl1 hsl1 dL_law_838 (fun H locs hw => ?_)
    refine lv_istore (lv' := [(6, .int 0), (5, .int 1), (0, .ref bs), (1, .ref (a 0)), (2, .ref (b2 0)), (3, .ref o), (4, .int (nI i))]) S.1 S.2.1 dL_law_841 hl (by decide) rfl (fun ls hl => ?_)
    refine lv_aload_n S.1 S.2.1 dL_law_843 rfl (lv_at hl 4 rfl) ?_
    refine bm_vi (As := []) (rest := []) S (tyJ_Z hK) hw (kX1_thrown l D cZ cI b2 1 σ) (cwV 0 S.2.2.2.2 gL_law_X1_thrown rfl rfl rfl (by decide +kernel) ⟨Nat.le_of_ble_eq_true rfl, Nat.le_of_ble_eq_true rfl⟩) (q0 := 0) rfl rfl rfl hl.1 rfl (Nat.le_of_ble_eq_true rfl) hcl1 hsl1 dL_law_844 (fun H locs hw => ?_)
    refine lv_iload S.1 S.2.1 dL_law_847 (lv_at hl 1 rfl) ?_
    refine br_eq (tgt := 854) S dL_law_849 (by decide) (fun c9 => ?_) (fun c9 => ?_)
    · refine lv_iload S.1 S.2.1 dL_law_854 (lv_at hl 1 rfl) ?_
      refine bz_ne (tgt := 871) S dL_law_856 (by decide) (fun c9 => ?_) (fun c9 => ?_)
      · refine lv_goto (tgt := 1514) S.1 S.2.1 dL_law_871 (by decide) ?_
        exact K σ fo 1 hI _ _ hw _ (lv_sub hl [2, 3, 4, 5, 6] rfl)
      · exact absurd c9 (by decide)
    · exact absurd c9 (by decide)
  · obtain ⟨g, hg, ex⟩ := in_gx (fun q => hb (Or.inl q))
    obtain ⟨h1, h2⟩ := in_n (fun q => hb (Or.inr q))
    refine lv_aload_n S.1 S.2.1 dL_law_806 rfl (lv_at hl 1 rfl) ?_
    refine lv_aload_n S.1 S.2.1 dL_law_807 rfl (lv_at hl 0 rfl) ?_
    refine lv_iload S.1 S.2.1 dL_law_808 (lv_at hl 4 rfl) ?_
    refine lv_iconst (v := nI 1) S.1 S.2.1 dL_law_810 (by decide) ?_
    refine lv_iadd S.1 S.2.1 dL_law_811 ?_
    refine bx_top (y := nI (i + 1)) (nI_add i 1) ?_
    refine bl_sld S hX hbl hL hw (by omega) dL_law_812 ?_
    refine bx_top (y := nI g) ex ?_
    refine lv_aload_n S.1 S.2.1 dL_law_813 rfl (lv_at hl 0 rfl) ?_
    refine lv_iload S.1 S.2.1 dL_law_814 (lv_at hl 4 rfl) ?_
    refine lv_iconst (v := nI 2) S.1 S.2.1 dL_law_816 (by decide) ?_
    refine lv_iadd S.1 S.2.1 dL_law_817 ?_
    refine bx_top (y := nI (i + 2)) (nI_add i 2) ?_
    refine bl_sld S hX hbl hL hw (by omega) dL_law_818 ?_
    refine lv_aload_n S.1 S.2.1 dL_law_819 rfl (lv_at hl 3 rfl) ?_
    refine bl_si (As := [.ref (a 0), .int (nI g), .int (xs (i + 2)), .ref o]) (rest := []) S hK hw (kL_serve l D cZ cI cJ a σ o fo (g := g) (xs (i + 2)) hg h1 h2) (vx_cwSW 4 S.2.2.2.2 gL_law_L_serve rfl rfl rfl (by decide +kernel) ⟨Nat.le_of_ble_eq_true rfl, Nat.le_of_ble_eq_true rfl⟩) rfl hl.1 rfl (Nat.le_of_ble_eq_true rfl) hcl0 hsl0 dL_law_820 (fun H locs hw => ?_)
    refine lv_istore (lv' := [(5, .int 0), (0, .ref bs), (1, .ref (a 0)), (2, .ref (b2 0)), (3, .ref o), (4, .int (nI i))]) S.1 S.2.1 dL_law_823 hl (by decide) rfl (fun ls hl => ?_)
    refine lv_aload_n S.1 S.2.1 dL_law_825 rfl (lv_at hl 3 rfl) ?_
    refine lv_aload_n S.1 S.2.1 dL_law_826 rfl (lv_at hl 1 rfl) ?_
    refine lv_iload S.1 S.2.1 dL_law_827 (lv_at hl 5 rfl) ?_
    refine lv_iconst (v := nI 1) S.1 S.2.1 dL_law_829 (by decide) ?_
    refine lv_iadd S.1 S.2.1 dL_law_830 ?_
    refine bx_top (y := nI (i + 1)) (nI_add i 1) ?_
    refine bl_sld S hX hbl hL hw (by omega) dL_law_831 ?_
    refine bx_top (y := nI g) ex ?_
    refine lv_aload_n S.1 S.2.1 dL_law_832 rfl (lv_at hl 1 rfl) ?_
    refine lv_iload S.1 S.2.1 dL_law_833 (lv_at hl 5 rfl) ?_
    refine lv_iconst (v := nI 2) S.1 S.2.1 dL_law_835 (by decide) ?_
    refine lv_iadd S.1 S.2.1 dL_law_836 ?_
    refine bx_top (y := nI (i + 2)) (nI_add i 2) ?_
    refine bl_sld S hX hbl hL hw (by omega) dL_law_837 ?_
    refine bm_vi (As := [.int (nI g), .int (xs (i + 2))]) (rest := []) S (tyJ_Z hK) hw (kX1_serve l D cZ cI b2 th σ (g := g) (xs (i + 2)) hg h1 h2) (cwV 2 S.2.2.2.2 gL_law_X1_serve rfl rfl rfl (by decide +kernel) ⟨Nat.le_of_ble_eq_true rfl, Nat.le_of_ble_eq_true rfl⟩) (q0 := 0) rfl rfl rfl hl.1 rfl (Nat.le_of_ble_eq_true rfl) hcl0 hsl0 dL_law_838 (fun H locs hw => ?_)
    refine lv_istore (lv' := [(6, .int (serveN σ g (xs (i + 2)) 4)), (5, .int 0), (0, .ref bs), (1, .ref (a 0)), (2, .ref (b2 0)), (3, .ref o), (4, .int (nI i))]) S.1 S.2.1 dL_law_841 hl (by decide) rfl (fun ls hl => ?_)
    refine lv_aload_n S.1 S.2.1 dL_law_843 rfl (lv_at hl 4 rfl) ?_
    refine bm_vi (As := []) (rest := []) S (tyJ_Z hK) hw (kX1_thrown l D cZ cI b2 0 (serveG σ g (xs (i + 2)) 4)) (cwV 0 S.2.2.2.2 gL_law_X1_thrown rfl rfl rfl (by decide +kernel) ⟨Nat.le_of_ble_eq_true rfl, Nat.le_of_ble_eq_true rfl⟩) (q0 := 0) rfl rfl rfl hl.1 rfl (Nat.le_of_ble_eq_true rfl) hcl0 hsl0 dL_law_844 (fun H locs hw => ?_)
    refine lv_iload S.1 S.2.1 dL_law_847 (lv_at hl 1 rfl) ?_
    refine br_eq (tgt := 854) S dL_law_849 (by decide) (fun c9 => ?_) (fun c9 => ?_)
    · refine lv_iload S.1 S.2.1 dL_law_854 (lv_at hl 1 rfl) ?_
      refine bz_ne (tgt := 871) S dL_law_856 (by decide) (fun c9 => ?_) (fun c9 => ?_)
      · exact absurd c9 (by decide)
      · refine lv_aload_n S.1 S.2.1 dL_law_859 rfl (lv_at hl 5 rfl) ?_
        refine lv_iconst (v := nI 0) S.1 S.2.1 dL_law_860 (by decide) ?_
        refine bl_lald (v := (serveN σ g (xs (i + 2)) 4).toInt64) S hK hw.1 17 2 rfl rfl (by decide) (by decide) rfl dL_law_861 ?_
        refine lv_iload S.1 S.2.1 dL_law_862 (lv_at hl 0 rfl) ?_
        refine lv_i2l (v := (serveN σ g (xs (i + 2)) 4).toInt64) S.1 S.2.1 dL_law_864 rfl ?_
        refine bl_lcmp S rfl dL_law_865 ?_
        refine bz_eq (tgt := 871) S dL_law_866 (by decide) (fun c9 => ?_) (fun c9 => ?_)
        · refine lv_goto (tgt := 1514) S.1 S.2.1 dL_law_871 (by decide) ?_
          refine W.widen (k := c0 + 1) (n := d0 + 6) (by omega) (by omega) ?_
          exact K (serveG σ g (xs (i + 2)) 4) (vp_updL fo 0 ((serveN σ g (xs (i + 2)) 4).toInt64)) 0 (inv_serve hI _ _) _ _ hw _ (lv_sub hl [2, 3, 4, 5, 6] rfl)
        · exact absurd c9 (by decide)
    · exact absurd c9 (by decide)
