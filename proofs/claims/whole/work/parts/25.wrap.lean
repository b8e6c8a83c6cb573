set_option maxHeartbeats 4000000 in
set_option maxRecDepth 100000 in
theorem kL_setPriority (l : Launch) (D : va_G) (cZ cI cJ : ClassId) (a : Nat → Nat) (σ : sC) (o : Nat) (fo : Nat → Int64) {r g : Nat} (v : Int32) (hr : r < 4) (hg : g < 3) (h1 : ¬ v < 0) (h2 : ¬ 254 < v) : MI l yL_setPriority wsL_setPriority ({ frames := 6, cells := 0, slots := 0, locals := 144 } : Room) D (tyJ cZ cI cJ) [.ref (a 0), .int (nI r), .int (nI g), .int v, .ref o] (wX cZ cI a σ ++ wO cJ o fo) 0 (wX cZ cI a (setPF σ r g v) ++ wO cJ o (vp_updL fo 0 ((σ 9 (4 * g + r)).toInt64))) := by
  refine MI.ofH (cc := cL_setPriority) (maxL := 6) (hh := [(0, 12, 15, 13)]) (by decide) rfl (Nat.le_of_ble_eq_true rfl) ?_
  intro p e s m args below meth c A Q S hK hret ls hl hw
  replace hl : lv_has ls 6 [(0, .ref (a 0)), (1, .int (nI r)), (2, .int (nI g)), (3, .int v), (4, .ref o)] := hl
  replace S : CallFix p m c cL_setPriority 6 s args wsL_setPriority RL := S
  refine lv_aload S.1 S.2.1 dL_setPriority_0 (lv_at hl 4 rfl) ?_
  refine lv_iconst (v := nI 0) S.1 S.2.1 dL_setPriority_2 (by decide) ?_
  refine lv_aload_n S.1 S.2.1 dL_setPriority_3 rfl (lv_at hl 0 rfl) ?_
  refine lv_iload_n S.1 S.2.1 dL_setPriority_4 rfl (lv_at hl 1 rfl) ?_
  refine lv_iload_n S.1 S.2.1 dL_setPriority_5 rfl (lv_at hl 2 rfl) ?_
  refine lv_iload_n S.1 S.2.1 dL_setPriority_6 rfl (lv_at hl 3 rfl) ?_
  refine bl_vi (As := [.int (nI r), .int (nI g), .int v]) (rest := [.int (nI 0), .ref o]) S (tyJ_Z hK) hw (kX0_setPriority l D cZ cI a σ (r := r) (g := g) v hr hg h1 h2) (cwV 3 S.2.2.2.2 gL_setPriority_X0_setPriority rfl rfl rfl (by decide +kernel) ⟨Nat.le_of_ble_eq_true rfl, Nat.le_of_ble_eq_true rfl⟩) (q0 := 0) rfl rfl rfl hl.1 rfl (Nat.le_of_ble_eq_true rfl) (Nat.zero_le _) (Nat.zero_le _) dL_setPriority_7 (fun H locs hw => ?_)
  refine lv_i2l (v := (σ 9 (4 * g + r)).toInt64) S.1 S.2.1 dL_setPriority_10 rfl ?_
  refine bl_last (ws' := wX cZ cI a (setPF σ r g v) ++ wO cJ o (vp_updL fo 0 ((σ 9 (4 * g + r)).toInt64))) S hK hw 17 2 rfl rfl (by decide) (by decide) rfl dL_setPriority_11 (fun H locs hw => ?_)
  refine lv_goto (tgt := 19) S.1 S.2.1 dL_setPriority_12 (by decide) ?_
  refine lv_iconst (v := 0) S.1 S.2.1 dL_setPriority_19 (by decide) ?_
  exact hret hw dL_setPriority_20 rfl rfl

set_option maxHeartbeats 4000000 in
set_option maxRecDepth 100000 in
theorem kL_setPriority_IA (l : Launch) (D : va_G) (cZ cI cJ : ClassId) (a : Nat → Nat) (σ : sC) (o : Nat) (fo : Nat → Int64) (x y v : Int32) (hM : MT l yX0_setPriority wsX0_setPriority ({ frames := 7, cells := 1, slots := 6, locals := 110 } : Room) D (tyZ cZ cI) [.ref (a 0), .int x, .int y, .int v] (wX cZ cI a σ) eIA) : MB l yL_setPriority wsL_setPriority ({ frames := 8, cells := 1, slots := 6, locals := 140 } : Room) D (tyJ cZ cI cJ) [.ref (a 0), .int x, .int y, .int v, .ref o] (wX cZ cI a σ ++ wO cJ o fo) 1 := by
  refine MB.of (cc := cL_setPriority) (maxL := 6) (hh := [(0, 12, 15, 13)]) (by decide) rfl (Nat.le_of_ble_eq_true rfl) ?_
  intro p e s m args below meth c Q S hK hZ hD ht hret ls hl hw
  replace hl : lv_has ls 6 [(0, .ref (a 0)), (1, .int x), (2, .int y), (3, .int v), (4, .ref o)] := hl
  replace S : CallFix p m c cL_setPriority 6 s args wsL_setPriority RL := S
  refine lv_aload S.1 S.2.1 dL_setPriority_0 (lv_at hl 4 rfl) ?_
  refine lv_iconst (v := nI 0) S.1 S.2.1 dL_setPriority_2 (by decide) ?_
  refine lv_aload_n S.1 S.2.1 dL_setPriority_3 rfl (lv_at hl 0 rfl) ?_
  refine lv_iload_n S.1 S.2.1 dL_setPriority_4 rfl (lv_at hl 1 rfl) ?_
  refine lv_iload_n S.1 S.2.1 dL_setPriority_5 rfl (lv_at hl 2 rfl) ?_
  refine lv_iload_n S.1 S.2.1 dL_setPriority_6 rfl (lv_at hl 3 rfl) ?_
  refine bl_vx (As := [.int x, .int y, .int v]) (rest := [.int (nI 0), .ref o]) S (tyJ_Z hK) hZ hw hD hM (cwV 3 S.2.2.2.2 gL_setPriority_X0_setPriority rfl rfl rfl (by decide +kernel) ⟨Nat.le_of_ble_eq_true rfl, Nat.le_of_ble_eq_true rfl⟩) (q0 := 0) rfl rfl rfl hl.1 rfl (Nat.le_of_ble_eq_true rfl) (by decide) (by decide) dL_setPriority_7 (fun ce q9 H locs hS hce hcv hcf => ?_)
  refine vx_catch (own := RL) (name := eIA) S.2.2.2.1 [] ⟨0, 12, 15, 13⟩ [] ht (fun z hz => nomatch hz) (by decide) (by decide) (S.2.2.2.2 (.classLink RL 13 eIA) (by decide +kernel)) (va_Nw.use rfl (hZ.2.2.2.1 (.castable eIA eIA) (by decide +kernel))) hce hcv hcf ?_
  refine W.eq (g2 := F0 m 15 ls [.ref q9]) rfl ?_
  refine lv_astore (lv' := [(5, .ref q9), (0, .ref (a 0)), (1, .int x), (2, .int y), (3, .int v), (4, .ref o)]) S.1 S.2.1 dL_setPriority_15 hl (by decide) rfl (fun ls hl => ?_)
  refine lv_iconst (v := 1) S.1 S.2.1 dL_setPriority_17 (by decide) ?_
  exact hret hS dL_setPriority_18 rfl

set_option maxHeartbeats 4000000 in
set_option maxRecDepth 100000 in
theorem kL_track (l : Launch) (D : va_G) (cZ cI cJ : ClassId) (a : Nat → Nat) (σ : sC) (o : Nat) (fo : Nat → Int64) {r k : Nat} (v : Int32) (hr : r < 4) (hk : k < 2) (h1 : ¬ v < 0) (h2 : ¬ 100 < v) : MI l yL_track wsL_track ({ frames := 2, cells := 0, slots := 0, locals := 47 } : Room) D (tyJ cZ cI cJ) [.ref (a 0), .int (nI r), .int (nI k), .int v, .ref o] (wX cZ cI a σ ++ wO cJ o fo) 0 (wX cZ cI a (up σ 3 (2 * r + k) v) ++ wO cJ o (vp_updL fo 0 ((σ 3 (2 * r + k)).toInt64))) := by
  refine MI.ofH (cc := cL_track) (maxL := 6) (hh := [(0, 12, 15, 13)]) (by decide) rfl (Nat.le_of_ble_eq_true rfl) ?_
  intro p e s m args below meth c A Q S hK hret ls hl hw
  replace hl : lv_has ls 6 [(0, .ref (a 0)), (1, .int (nI r)), (2, .int (nI k)), (3, .int v), (4, .ref o)] := hl
  replace S : CallFix p m c cL_track 6 s args wsL_track RL := S
  refine lv_aload S.1 S.2.1 dL_track_0 (lv_at hl 4 rfl) ?_
  refine lv_iconst (v := nI 0) S.1 S.2.1 dL_track_2 (by decide) ?_
  refine lv_aload_n S.1 S.2.1 dL_track_3 rfl (lv_at hl 0 rfl) ?_
  refine lv_iload_n S.1 S.2.1 dL_track_4 rfl (lv_at hl 1 rfl) ?_
  refine lv_iload_n S.1 S.2.1 dL_track_5 rfl (lv_at hl 2 rfl) ?_
  refine lv_iload_n S.1 S.2.1 dL_track_6 rfl (lv_at hl 3 rfl) ?_
  refine bl_vi (As := [.int (nI r), .int (nI k), .int v]) (rest := [.int (nI 0), .ref o]) S (tyJ_Z hK) hw (kX0_track l D cZ cI a σ (r := r) (k := k) v hr hk h1 h2) (cwV 3 S.2.2.2.2 gL_track_X0_track rfl rfl rfl (by decide +kernel) ⟨Nat.le_of_ble_eq_true rfl, Nat.le_of_ble_eq_true rfl⟩) (q0 := 0) rfl rfl rfl hl.1 rfl (Nat.le_of_ble_eq_true rfl) (Nat.zero_le _) (Nat.zero_le _) dL_track_7 (fun H locs hw => ?_)
  refine lv_i2l (v := (σ 3 (2 * r + k)).toInt64) S.1 S.2.1 dL_track_10 rfl ?_
  refine bl_last (ws' := wX cZ cI a (up σ 3 (2 * r + k) v) ++ wO cJ o (vp_updL fo 0 ((σ 3 (2 * r + k)).toInt64))) S hK hw 17 2 rfl rfl (by decide) (by decide) rfl dL_track_11 (fun H locs hw => ?_)
  refine lv_goto (tgt := 19) S.1 S.2.1 dL_track_12 (by decide) ?_
  refine lv_iconst (v := 0) S.1 S.2.1 dL_track_19 (by decide) ?_
  exact hret hw dL_track_20 rfl rfl

set_option maxHeartbeats 4000000 in
set_option maxRecDepth 100000 in
theorem kL_track_IA (l : Launch) (D : va_G) (cZ cI cJ : ClassId) (a : Nat → Nat) (σ : sC) (o : Nat) (fo : Nat → Int64) (x y v : Int32) (hM : MT l yX0_track wsX0_track ({ frames := 7, cells := 1, slots := 6, locals := 110 } : Room) D (tyZ cZ cI) [.ref (a 0), .int x, .int y, .int v] (wX cZ cI a σ) eIA) : MB l yL_track wsL_track ({ frames := 8, cells := 1, slots := 6, locals := 140 } : Room) D (tyJ cZ cI cJ) [.ref (a 0), .int x, .int y, .int v, .ref o] (wX cZ cI a σ ++ wO cJ o fo) 1 := by
  refine MB.of (cc := cL_track) (maxL := 6) (hh := [(0, 12, 15, 13)]) (by decide) rfl (Nat.le_of_ble_eq_true rfl) ?_
  intro p e s m args below meth c Q S hK hZ hD ht hret ls hl hw
  replace hl : lv_has ls 6 [(0, .ref (a 0)), (1, .int x), (2, .int y), (3, .int v), (4, .ref o)] := hl
  replace S : CallFix p m c cL_track 6 s args wsL_track RL := S
  refine lv_aload S.1 S.2.1 dL_track_0 (lv_at hl 4 rfl) ?_
  refine lv_iconst (v := nI 0) S.1 S.2.1 dL_track_2 (by decide) ?_
  refine lv_aload_n S.1 S.2.1 dL_track_3 rfl (lv_at hl 0 rfl) ?_
  refine lv_iload_n S.1 S.2.1 dL_track_4 rfl (lv_at hl 1 rfl) ?_
  refine lv_iload_n S.1 S.2.1 dL_track_5 rfl (lv_at hl 2 rfl) ?_
  refine lv_iload_n S.1 S.2.1 dL_track_6 rfl (lv_at hl 3 rfl) ?_
  refine bl_vx (As := [.int x, .int y, .int v]) (rest := [.int (nI 0), .ref o]) S (tyJ_Z hK) hZ hw hD hM (cwV 3 S.2.2.2.2 gL_track_X0_track rfl rfl rfl (by decide +kernel) ⟨Nat.le_of_ble_eq_true rfl, Nat.le_of_ble_eq_true rfl⟩) (q0 := 0) rfl rfl rfl hl.1 rfl (Nat.le_of_ble_eq_true rfl) (by decide) (by decide) dL_track_7 (fun ce q9 H locs hS hce hcv hcf => ?_)
  refine vx_catch (own := RL) (name := eIA) S.2.2.2.1 [] ⟨0, 12, 15, 13⟩ [] ht (fun z hz => nomatch hz) (by decide) (by decide) (S.2.2.2.2 (.classLink RL 13 eIA) (by decide +kernel)) (va_Nw.use rfl (hZ.2.2.2.1 (.castable eIA eIA) (by decide +kernel))) hce hcv hcf ?_
  refine W.eq (g2 := F0 m 15 ls [.ref q9]) rfl ?_
  refine lv_astore (lv' := [(5, .ref q9), (0, .ref (a 0)), (1, .int x), (2, .int y), (3, .int v), (4, .ref o)]) S.1 S.2.1 dL_track_15 hl (by decide) rfl (fun ls hl => ?_)
  refine lv_iconst (v := 1) S.1 S.2.1 dL_track_17 (by decide) ?_
  exact hret hS dL_track_18 rfl

set_option maxHeartbeats 4000000 in
set_option maxRecDepth 100000 in
theorem kL_setLink (l : Launch) (D : va_G) (cZ cI cJ : ClassId) (a : Nat → Nat) (σ : sC) (o : Nat) (fo : Nat → Int64) {r k : Nat} (b : Int32) (hr : r < 4) (hk : k < 2) (hb : vp_nar .boolean b = b) (hz : narrow .boolean (.int (σ 2 (2 * r + k))) = .int (σ 2 (2 * r + k))) : MI l yL_setLink wsL_setLink ({ frames := 2, cells := 0, slots := 0, locals := 46 } : Room) D (tyJ cZ cI cJ) [.ref (a 0), .int (nI r), .int (nI k), .int b, .ref o] (wX cZ cI a σ ++ wO cJ o fo) 0 (wX cZ cI a (up σ 2 (2 * r + k) b) ++ wO cJ o (vp_updL fo 0 (zL (σ 2 (2 * r + k))))) := by
  refine MI.ofH (cc := cL_setLink) (maxL := 6) (hh := [(0, 19, 22, 13)]) (by decide) rfl (Nat.le_of_ble_eq_true rfl) ?_
  intro p e s m args below meth c A Q S hK hret ls hl hw
  replace hl : lv_has ls 6 [(0, .ref (a 0)), (1, .int (nI r)), (2, .int (nI k)), (3, .int b), (4, .ref o)] := hl
  replace S : CallFix p m c cL_setLink 6 s args wsL_setLink RL := S
  refine lv_aload S.1 S.2.1 dL_setLink_0 (lv_at hl 4 rfl) ?_
  refine lv_iconst (v := nI 0) S.1 S.2.1 dL_setLink_2 (by decide) ?_
  refine lv_aload_n S.1 S.2.1 dL_setLink_3 rfl (lv_at hl 0 rfl) ?_
  refine lv_iload_n S.1 S.2.1 dL_setLink_4 rfl (lv_at hl 1 rfl) ?_
  refine lv_iload_n S.1 S.2.1 dL_setLink_5 rfl (lv_at hl 2 rfl) ?_
  refine lv_iload_n S.1 S.2.1 dL_setLink_6 rfl (lv_at hl 3 rfl) ?_
  refine bl_vi (As := [.int (nI r), .int (nI k), .int b]) (rest := [.int (nI 0), .ref o]) S (tyJ_Z hK) hw (kX0_setLink l D cZ cI a σ (r := r) (k := k) b hr hk hb hz) (cwV 3 S.2.2.2.2 gL_setLink_X0_setLink rfl rfl rfl (by decide +kernel) ⟨Nat.le_of_ble_eq_true rfl, Nat.le_of_ble_eq_true rfl⟩) (q0 := 0) rfl rfl rfl hl.1 rfl (Nat.le_of_ble_eq_true rfl) (Nat.zero_le _) (Nat.zero_le _) dL_setLink_7 (fun H locs hw => ?_)
  refine bz_eq (tgt := 17) S dL_setLink_10 (by decide) (fun c9 => ?_) (fun c9 => ?_)
  · refine lv_lconst (v := 0) S.1 S.2.1 dL_setLink_17 (by decide) ?_
    refine bl_last (ws' := wX cZ cI a (up σ 2 (2 * r + k) b) ++ wO cJ o (vp_updL fo 0 0)) S hK hw 17 2 rfl rfl (by decide) (by decide) rfl dL_setLink_18 (fun H locs hw => ?_)
    refine lv_goto (tgt := 26) S.1 S.2.1 dL_setLink_19 (by decide) ?_
    refine lv_iconst (v := 0) S.1 S.2.1 dL_setLink_26 (by decide) ?_
    exact hret hw dL_setLink_27 rfl (by unfold zL; rw [if_pos c9])
  · refine lv_lconst (v := 1) S.1 S.2.1 dL_setLink_13 (by decide) ?_
    refine lv_goto (tgt := 18) S.1 S.2.1 dL_setLink_14 (by decide) ?_
    refine bl_last (ws' := wX cZ cI a (up σ 2 (2 * r + k) b) ++ wO cJ o (vp_updL fo 0 1)) S hK hw 17 2 rfl rfl (by decide) (by decide) rfl dL_setLink_18 (fun H locs hw => ?_)
    refine lv_goto (tgt := 26) S.1 S.2.1 dL_setLink_19 (by decide) ?_
    refine lv_iconst (v := 0) S.1 S.2.1 dL_setLink_26 (by decide) ?_
    exact hret hw dL_setLink_27 rfl (by unfold zL; rw [if_neg c9])

set_option maxHeartbeats 4000000 in
set_option maxRecDepth 100000 in
theorem kL_setLink_IA (l : Launch) (D : va_G) (cZ cI cJ : ClassId) (a : Nat → Nat) (σ : sC) (o : Nat) (fo : Nat → Int64) (x y b : Int32) (hM : MT l yX0_setLink wsX0_setLink ({ frames := 7, cells := 1, slots := 6, locals := 110 } : Room) D (tyZ cZ cI) [.ref (a 0), .int x, .int y, .int b] (wX cZ cI a σ) eIA) : MB l yL_setLink wsL_setLink ({ frames := 8, cells := 1, slots := 6, locals := 140 } : Room) D (tyJ cZ cI cJ) [.ref (a 0), .int x, .int y, .int b, .ref o] (wX cZ cI a σ ++ wO cJ o fo) 1 := by
  refine MB.of (cc := cL_setLink) (maxL := 6) (hh := [(0, 19, 22, 13)]) (by decide) rfl (Nat.le_of_ble_eq_true rfl) ?_
  intro p e s m args below meth c Q S hK hZ hD ht hret ls hl hw
  replace hl : lv_has ls 6 [(0, .ref (a 0)), (1, .int x), (2, .int y), (3, .int b), (4, .ref o)] := hl
  replace S : CallFix p m c cL_setLink 6 s args wsL_setLink RL := S
  refine lv_aload S.1 S.2.1 dL_setLink_0 (lv_at hl 4 rfl) ?_
  refine lv_iconst (v := nI 0) S.1 S.2.1 dL_setLink_2 (by decide) ?_
  refine lv_aload_n S.1 S.2.1 dL_setLink_3 rfl (lv_at hl 0 rfl) ?_
  refine lv_iload_n S.1 S.2.1 dL_setLink_4 rfl (lv_at hl 1 rfl) ?_
  refine lv_iload_n S.1 S.2.1 dL_setLink_5 rfl (lv_at hl 2 rfl) ?_
  refine lv_iload_n S.1 S.2.1 dL_setLink_6 rfl (lv_at hl 3 rfl) ?_
  refine bl_vx (As := [.int x, .int y, .int b]) (rest := [.int (nI 0), .ref o]) S (tyJ_Z hK) hZ hw hD hM (cwV 3 S.2.2.2.2 gL_setLink_X0_setLink rfl rfl rfl (by decide +kernel) ⟨Nat.le_of_ble_eq_true rfl, Nat.le_of_ble_eq_true rfl⟩) (q0 := 0) rfl rfl rfl hl.1 rfl (Nat.le_of_ble_eq_true rfl) (by decide) (by decide) dL_setLink_7 (fun ce q9 H locs hS hce hcv hcf => ?_)
  refine vx_catch (own := RL) (name := eIA) S.2.2.2.1 [] ⟨0, 19, 22, 13⟩ [] ht (fun z hz => nomatch hz) (by decide) (by decide) (S.2.2.2.2 (.classLink RL 13 eIA) (by decide +kernel)) (va_Nw.use rfl (hZ.2.2.2.1 (.castable eIA eIA) (by decide +kernel))) hce hcv hcf ?_
  refine W.eq (g2 := F0 m 22 ls [.ref q9]) rfl ?_
  refine lv_astore (lv' := [(5, .ref q9), (0, .ref (a 0)), (1, .int x), (2, .int y), (3, .int b), (4, .ref o)]) S.1 S.2.1 dL_setLink_22 hl (by decide) rfl (fun ls hl => ?_)
  refine lv_iconst (v := 1) S.1 S.2.1 dL_setLink_24 (by decide) ?_
  exact hret hS dL_setLink_25 rfl

set_option maxHeartbeats 4000000 in
set_option maxRecDepth 100000 in
theorem kL_setPeriod (l : Launch) (D : va_G) (cZ cI cJ : ClassId) (a : Nat → Nat) (σ : sC) (o : Nat) (fo : Nat → Int64) {g : Nat} (v : Int32) (hg : g < 3) (h1 : ¬ v < 1) (h2 : ¬ 10 < v) : MI l yL_setPeriod wsL_setPeriod ({ frames := 2, cells := 0, slots := 0, locals := 45 } : Room) D (tyJ cZ cI cJ) [.ref (a 0), .int (nI g), .int v, .ref o] (wX cZ cI a σ ++ wO cJ o fo) 0 (wX cZ cI a (up σ 4 g v) ++ wO cJ o (vp_updL fo 0 ((σ 4 g).toInt64))) := by
  refine MI.ofH (cc := cL_setPeriod) (maxL := 5) (hh := [(0, 10, 13, 13)]) (by decide) rfl (Nat.le_of_ble_eq_true rfl) ?_
  intro p e s m args below meth c A Q S hK hret ls hl hw
  replace hl : lv_has ls 5 [(0, .ref (a 0)), (1, .int (nI g)), (2, .int v), (3, .ref o)] := hl
  replace S : CallFix p m c cL_setPeriod 5 s args wsL_setPeriod RL := S
  refine lv_aload_n S.1 S.2.1 dL_setPeriod_0 rfl (lv_at hl 3 rfl) ?_
  refine lv_iconst (v := nI 0) S.1 S.2.1 dL_setPeriod_1 (by decide) ?_
  refine lv_aload_n S.1 S.2.1 dL_setPeriod_2 rfl (lv_at hl 0 rfl) ?_
  refine lv_iload_n S.1 S.2.1 dL_setPeriod_3 rfl (lv_at hl 1 rfl) ?_
  refine lv_iload_n S.1 S.2.1 dL_setPeriod_4 rfl (lv_at hl 2 rfl) ?_
  refine bl_vi (As := [.int (nI g), .int v]) (rest := [.int (nI 0), .ref o]) S (tyJ_Z hK) hw (kX0_setPeriod l D cZ cI a σ (g := g) v hg h1 h2) (cwV 2 S.2.2.2.2 gL_setPeriod_X0_setPeriod rfl rfl rfl (by decide +kernel) ⟨Nat.le_of_ble_eq_true rfl, Nat.le_of_ble_eq_true rfl⟩) (q0 := 0) rfl rfl rfl hl.1 rfl (Nat.le_of_ble_eq_true rfl) (Nat.zero_le _) (Nat.zero_le _) dL_setPeriod_5 (fun H locs hw => ?_)
  refine lv_i2l (v := (σ 4 g).toInt64) S.1 S.2.1 dL_setPeriod_8 rfl ?_
  refine bl_last (ws' := wX cZ cI a (up σ 4 g v) ++ wO cJ o (vp_updL fo 0 ((σ 4 g).toInt64))) S hK hw 17 2 rfl rfl (by decide) (by decide) rfl dL_setPeriod_9 (fun H locs hw => ?_)
  refine lv_goto (tgt := 17) S.1 S.2.1 dL_setPeriod_10 (by decide) ?_
  refine lv_iconst (v := 0) S.1 S.2.1 dL_setPeriod_17 (by decide) ?_
  exact hret hw dL_setPeriod_18 rfl rfl

set_option maxHeartbeats 4000000 in
set_option maxRecDepth 100000 in
theorem kL_setPeriod_IA (l : Launch) (D : va_G) (cZ cI cJ : ClassId) (a : Nat → Nat) (σ : sC) (o : Nat) (fo : Nat → Int64) (x v : Int32) (hM : MT l yX0_setPeriod wsX0_setPeriod ({ frames := 7, cells := 1, slots := 6, locals := 110 } : Room) D (tyZ cZ cI) [.ref (a 0), .int x, .int v] (wX cZ cI a σ) eIA) : MB l yL_setPeriod wsL_setPeriod ({ frames := 8, cells := 1, slots := 6, locals := 140 } : Room) D (tyJ cZ cI cJ) [.ref (a 0), .int x, .int v, .ref o] (wX cZ cI a σ ++ wO cJ o fo) 1 := by
  refine MB.of (cc := cL_setPeriod) (maxL := 5) (hh := [(0, 10, 13, 13)]) (by decide) rfl (Nat.le_of_ble_eq_true rfl) ?_
  intro p e s m args below meth c Q S hK hZ hD ht hret ls hl hw
  replace hl : lv_has ls 5 [(0, .ref (a 0)), (1, .int x), (2, .int v), (3, .ref o)] := hl
  replace S : CallFix p m c cL_setPeriod 5 s args wsL_setPeriod RL := S
  refine lv_aload_n S.1 S.2.1 dL_setPeriod_0 rfl (lv_at hl 3 rfl) ?_
  refine lv_iconst (v := nI 0) S.1 S.2.1 dL_setPeriod_1 (by decide) ?_
  refine lv_aload_n S.1 S.2.1 dL_setPeriod_2 rfl (lv_at hl 0 rfl) ?_
  refine lv_iload_n S.1 S.2.1 dL_setPeriod_3 rfl (lv_at hl 1 rfl) ?_
  refine lv_iload_n S.1 S.2.1 dL_setPeriod_4 rfl (lv_at hl 2 rfl) ?_
  refine bl_vx (As := [.int x, .int v]) (rest := [.int (nI 0), .ref o]) S (tyJ_Z hK) hZ hw hD hM (cwV 2 S.2.2.2.2 gL_setPeriod_X0_setPeriod rfl rfl rfl (by decide +kernel) ⟨Nat.le_of_ble_eq_true rfl, Nat.le_of_ble_eq_true rfl⟩) (q0 := 0) rfl rfl rfl hl.1 rfl (Nat.le_of_ble_eq_true rfl) (by decide) (by decide) dL_setPeriod_5 (fun ce q9 H locs hS hce hcv hcf => ?_)
  refine vx_catch (own := RL) (name := eIA) S.2.2.2.1 [] ⟨0, 10, 13, 13⟩ [] ht (fun z hz => nomatch hz) (by decide) (by decide) (S.2.2.2.2 (.classLink RL 13 eIA) (by decide +kernel)) (va_Nw.use rfl (hZ.2.2.2.1 (.castable eIA eIA) (by decide +kernel))) hce hcv hcf ?_
  refine W.eq (g2 := F0 m 13 ls [.ref q9]) rfl ?_
  refine lv_astore (lv' := [(4, .ref q9), (0, .ref (a 0)), (1, .int x), (2, .int v), (3, .ref o)]) S.1 S.2.1 dL_setPeriod_13 hl (by decide) rfl (fun ls hl => ?_)
  refine lv_iconst (v := 1) S.1 S.2.1 dL_setPeriod_15 (by decide) ?_
  exact hret hS dL_setPeriod_16 rfl

set_option maxHeartbeats 4000000 in
set_option maxRecDepth 100000 in
theorem kL_setPreemption (l : Launch) (D : va_G) (cZ cI cJ : ClassId) (a : Nat → Nat) (σ : sC) (o : Nat) (fo : Nat → Int64) {g : Nat} (b v : Int32) (hg : g < 3) (hb : vp_nar .boolean b = b) (h1 : ¬ v < 0) (h2 : ¬ 10 < v) : MI l yL_setPreemption wsL_setPreemption ({ frames := 2, cells := 0, slots := 0, locals := 45 } : Room) D (tyJ cZ cI cJ) [.ref (a 0), .int (nI g), .int b, .int v] (wX cZ cI a σ ++ wO cJ o fo) 0 (wX cZ cI a (up (up σ 5 g b) 6 g v) ++ wO cJ o fo) := by
  refine MI.ofH (cc := cL_setPreemption) (maxL := 5) (hh := [(0, 7, 10, 13)]) (by decide) rfl (Nat.le_of_ble_eq_true rfl) ?_
  intro p e s m args below meth c A Q S hK hret ls hl hw
  replace hl : lv_has ls 5 [(0, .ref (a 0)), (1, .int (nI g)), (2, .int b), (3, .int v)] := hl
  replace S : CallFix p m c cL_setPreemption 5 s args wsL_setPreemption RL := S
  refine lv_aload_n S.1 S.2.1 dL_setPreemption_0 rfl (lv_at hl 0 rfl) ?_
  refine lv_iload_n S.1 S.2.1 dL_setPreemption_1 rfl (lv_at hl 1 rfl) ?_
  refine lv_iload_n S.1 S.2.1 dL_setPreemption_2 rfl (lv_at hl 2 rfl) ?_
  refine lv_iload_n S.1 S.2.1 dL_setPreemption_3 rfl (lv_at hl 3 rfl) ?_
  refine bl_vv (As := [.int (nI g), .int b, .int v]) (rest := []) S (tyJ_Z hK) hw (kX0_setPreemption l D cZ cI a σ (g := g) b v hg hb h1 h2) (cwV 3 S.2.2.2.2 gL_setPreemption_X0_setPreemption rfl rfl rfl (by decide +kernel) ⟨Nat.le_of_ble_eq_true rfl, Nat.le_of_ble_eq_true rfl⟩) (q0 := 0) rfl rfl rfl hl.1 rfl (Nat.le_of_ble_eq_true rfl) (Nat.zero_le _) (Nat.zero_le _) dL_setPreemption_4 (fun H locs hw => ?_)
  refine lv_goto (tgt := 14) S.1 S.2.1 dL_setPreemption_7 (by decide) ?_
  refine lv_iconst (v := 0) S.1 S.2.1 dL_setPreemption_14 (by decide) ?_
  exact hret hw dL_setPreemption_15 rfl rfl

set_option maxHeartbeats 4000000 in
set_option maxRecDepth 100000 in
theorem kL_setPreemption_IA (l : Launch) (D : va_G) (cZ cI cJ : ClassId) (a : Nat → Nat) (σ : sC) (o : Nat) (fo : Nat → Int64) (x b v : Int32) (hM : MT l yX0_setPreemption wsX0_setPreemption ({ frames := 7, cells := 1, slots := 6, locals := 110 } : Room) D (tyZ cZ cI) [.ref (a 0), .int x, .int b, .int v] (wX cZ cI a σ) eIA) : MB l yL_setPreemption wsL_setPreemption ({ frames := 8, cells := 1, slots := 6, locals := 140 } : Room) D (tyJ cZ cI cJ) [.ref (a 0), .int x, .int b, .int v] (wX cZ cI a σ ++ wO cJ o fo) 1 := by
  refine MB.of (cc := cL_setPreemption) (maxL := 5) (hh := [(0, 7, 10, 13)]) (by decide) rfl (Nat.le_of_ble_eq_true rfl) ?_
  intro p e s m args below meth c Q S hK hZ hD ht hret ls hl hw
  replace hl : lv_has ls 5 [(0, .ref (a 0)), (1, .int x), (2, .int b), (3, .int v)] := hl
  replace S : CallFix p m c cL_setPreemption 5 s args wsL_setPreemption RL := S
  refine lv_aload_n S.1 S.2.1 dL_setPreemption_0 rfl (lv_at hl 0 rfl) ?_
  refine lv_iload_n S.1 S.2.1 dL_setPreemption_1 rfl (lv_at hl 1 rfl) ?_
  refine lv_iload_n S.1 S.2.1 dL_setPreemption_2 rfl (lv_at hl 2 rfl) ?_
  refine lv_iload_n S.1 S.2.1 dL_setPreemption_3 rfl (lv_at hl 3 rfl) ?_
  refine bl_vx (As := [.int x, .int b, .int v]) (rest := []) S (tyJ_Z hK) hZ hw hD hM (cwV 3 S.2.2.2.2 gL_setPreemption_X0_setPreemption rfl rfl rfl (by decide +kernel) ⟨Nat.le_of_ble_eq_true rfl, Nat.le_of_ble_eq_true rfl⟩) (q0 := 0) rfl rfl rfl hl.1 rfl (Nat.le_of_ble_eq_true rfl) (by decide) (by decide) dL_setPreemption_4 (fun ce q9 H locs hS hce hcv hcf => ?_)
  refine vx_catch (own := RL) (name := eIA) S.2.2.2.1 [] ⟨0, 7, 10, 13⟩ [] ht (fun z hz => nomatch hz) (by decide) (by decide) (S.2.2.2.2 (.classLink RL 13 eIA) (by decide +kernel)) (va_Nw.use rfl (hZ.2.2.2.1 (.castable eIA eIA) (by decide +kernel))) hce hcv hcf ?_
  refine W.eq (g2 := F0 m 10 ls [.ref q9]) rfl ?_
  refine lv_astore (lv' := [(4, .ref q9), (0, .ref (a 0)), (1, .int x), (2, .int b), (3, .int v)]) S.1 S.2.1 dL_setPreemption_10 hl (by decide) rfl (fun ls hl => ?_)
  refine lv_iconst (v := 1) S.1 S.2.1 dL_setPreemption_12 (by decide) ?_
  exact hret hS dL_setPreemption_13 rfl

set_option maxHeartbeats 4000000 in
set_option maxRecDepth 100000 in
theorem kL_join (l : Launch) (D : va_G) (cZ cI cJ : ClassId) (a : Nat → Nat) (σ : sC) (o : Nat) (fo : Nat → Int64) {i j : Nat} (b : Int32) (hi : i < 4) (hj : j < 4) (hne : ¬ nI i = nI j) (hb : vp_nar .boolean b = b) (hz : narrow .boolean (.int (σ 1 (4 * i + j))) = .int (σ 1 (4 * i + j))) : MI l yL_join wsL_join ({ frames := 2, cells := 0, slots := 0, locals := 44 } : Room) D (tyJ cZ cI cJ) [.ref (a 0), .int (nI i), .int (nI j), .int b, .ref o] (wX cZ cI a σ ++ wO cJ o fo) 0 (wX cZ cI a (up (up σ 1 (4 * i + j) b) 1 (4 * j + i) b) ++ wO cJ o (vp_updL fo 0 (zL (σ 1 (4 * i + j))))) := by
  refine MI.ofH (cc := cL_join) (maxL := 6) (hh := [(0, 19, 22, 13)]) (by decide) rfl (Nat.le_of_ble_eq_true rfl) ?_
  intro p e s m args below meth c A Q S hK hret ls hl hw
  replace hl : lv_has ls 6 [(0, .ref (a 0)), (1, .int (nI i)), (2, .int (nI j)), (3, .int b), (4, .ref o)] := hl
  replace S : CallFix p m c cL_join 6 s args wsL_join RL := S
  refine lv_aload S.1 S.2.1 dL_join_0 (lv_at hl 4 rfl) ?_
  refine lv_iconst (v := nI 0) S.1 S.2.1 dL_join_2 (by decide) ?_
  refine lv_aload_n S.1 S.2.1 dL_join_3 rfl (lv_at hl 0 rfl) ?_
  refine lv_iload_n S.1 S.2.1 dL_join_4 rfl (lv_at hl 1 rfl) ?_
  refine lv_iload_n S.1 S.2.1 dL_join_5 rfl (lv_at hl 2 rfl) ?_
  refine lv_iload_n S.1 S.2.1 dL_join_6 rfl (lv_at hl 3 rfl) ?_
  refine bl_vi (As := [.int (nI i), .int (nI j), .int b]) (rest := [.int (nI 0), .ref o]) S (tyJ_Z hK) hw (kX0_join l D cZ cI a σ (i := i) (j := j) b hi hj hne hb hz) (cwV 3 S.2.2.2.2 gL_join_X0_join rfl rfl rfl (by decide +kernel) ⟨Nat.le_of_ble_eq_true rfl, Nat.le_of_ble_eq_true rfl⟩) (q0 := 0) rfl rfl rfl hl.1 rfl (Nat.le_of_ble_eq_true rfl) (Nat.zero_le _) (Nat.zero_le _) dL_join_7 (fun H locs hw => ?_)
  refine bz_eq (tgt := 17) S dL_join_10 (by decide) (fun c9 => ?_) (fun c9 => ?_)
  · refine lv_lconst (v := 0) S.1 S.2.1 dL_join_17 (by decide) ?_
    refine bl_last (ws' := wX cZ cI a (up (up σ 1 (4 * i + j) b) 1 (4 * j + i) b) ++ wO cJ o (vp_updL fo 0 0)) S hK hw 17 2 rfl rfl (by decide) (by decide) rfl dL_join_18 (fun H locs hw => ?_)
    refine lv_goto (tgt := 26) S.1 S.2.1 dL_join_19 (by decide) ?_
    refine lv_iconst (v := 0) S.1 S.2.1 dL_join_26 (by decide) ?_
    exact hret hw dL_join_27 rfl (by unfold zL; rw [if_pos c9])
  · refine lv_lconst (v := 1) S.1 S.2.1 dL_join_13 (by decide) ?_
    refine lv_goto (tgt := 18) S.1 S.2.1 dL_join_14 (by decide) ?_
    refine bl_last (ws' := wX cZ cI a (up (up σ 1 (4 * i + j) b) 1 (4 * j + i) b) ++ wO cJ o (vp_updL fo 0 1)) S hK hw 17 2 rfl rfl (by decide) (by decide) rfl dL_join_18 (fun H locs hw => ?_)
    refine lv_goto (tgt := 26) S.1 S.2.1 dL_join_19 (by decide) ?_
    refine lv_iconst (v := 0) S.1 S.2.1 dL_join_26 (by decide) ?_
    exact hret hw dL_join_27 rfl (by unfold zL; rw [if_neg c9])

set_option maxHeartbeats 4000000 in
set_option maxRecDepth 100000 in
theorem kL_join_IA (l : Launch) (D : va_G) (cZ cI cJ : ClassId) (a : Nat → Nat) (σ : sC) (o : Nat) (fo : Nat → Int64) (x y b : Int32) (hM : MT l yX0_join wsX0_join ({ frames := 7, cells := 1, slots := 6, locals := 110 } : Room) D (tyZ cZ cI) [.ref (a 0), .int x, .int y, .int b] (wX cZ cI a σ) eIA) : MB l yL_join wsL_join ({ frames := 8, cells := 1, slots := 6, locals := 140 } : Room) D (tyJ cZ cI cJ) [.ref (a 0), .int x, .int y, .int b, .ref o] (wX cZ cI a σ ++ wO cJ o fo) 1 := by
  refine MB.of (cc := cL_join) (maxL := 6) (hh := [(0, 19, 22, 13)]) (by decide) rfl (Nat.le_of_ble_eq_true rfl) ?_
  intro p e s m args below meth c Q S hK hZ hD ht hret ls hl hw
  replace hl : lv_has ls 6 [(0, .ref (a 0)), (1, .int x), (2, .int y), (3, .int b), (4, .ref o)] := hl
  replace S : CallFix p m c cL_join 6 s args wsL_join RL := S
  refine lv_aload S.1 S.2.1 dL_join_0 (lv_at hl 4 rfl) ?_
  refine lv_iconst (v := nI 0) S.1 S.2.1 dL_join_2 (by decide) ?_
  refine lv_aload_n S.1 S.2.1 dL_join_3 rfl (lv_at hl 0 rfl) ?_
  refine lv_iload_n S.1 S.2.1 dL_join_4 rfl (lv_at hl 1 rfl) ?_
  refine lv_iload_n S.1 S.2.1 dL_join_5 rfl (lv_at hl 2 rfl) ?_
  refine lv_iload_n S.1 S.2.1 dL_join_6 rfl (lv_at hl 3 rfl) ?_
  refine bl_vx (As := [.int x, .int y, .int b]) (rest := [.int (nI 0), .ref o]) S (tyJ_Z hK) hZ hw hD hM (cwV 3 S.2.2.2.2 gL_join_X0_join rfl rfl rfl (by decide +kernel) ⟨Nat.le_of_ble_eq_true rfl, Nat.le_of_ble_eq_true rfl⟩) (q0 := 0) rfl rfl rfl hl.1 rfl (Nat.le_of_ble_eq_true rfl) (by decide) (by decide) dL_join_7 (fun ce q9 H locs hS hce hcv hcf => ?_)
  refine vx_catch (own := RL) (name := eIA) S.2.2.2.1 [] ⟨0, 19, 22, 13⟩ [] ht (fun z hz => nomatch hz) (by decide) (by decide) (S.2.2.2.2 (.classLink RL 13 eIA) (by decide +kernel)) (va_Nw.use rfl (hZ.2.2.2.1 (.castable eIA eIA) (by decide +kernel))) hce hcv hcf ?_
  refine W.eq (g2 := F0 m 22 ls [.ref q9]) rfl ?_
  refine lv_astore (lv' := [(5, .ref q9), (0, .ref (a 0)), (1, .int x), (2, .int y), (3, .int b), (4, .ref o)]) S.1 S.2.1 dL_join_22 hl (by decide) rfl (fun ls hl => ?_)
  refine lv_iconst (v := 1) S.1 S.2.1 dL_join_24 (by decide) ?_
  exact hret hS dL_join_25 rfl

set_option maxHeartbeats 4000000 in
set_option maxRecDepth 100000 in
theorem kL_die (l : Launch) (D : va_G) (cZ cI cJ : ClassId) (a : Nat → Nat) (σ : sC) (o : Nat) (fo : Nat → Int64) {r : Nat} (hr : r < 4) (ha : ¬ σ 0 r = 0) : MI l yL_die wsL_die ({ frames := 2, cells := 0, slots := 0, locals := 45 } : Room) D (tyJ cZ cI cJ) [.ref (a 0), .int (nI r), .ref o] (wX cZ cI a σ ++ wO cJ o fo) 0 (wX cZ cI a (dieG σ r 3) ++ wO cJ o (vp_updL fo 0 ((dieN σ r 3).toInt64))) := by
  refine MI.ofH (cc := cL_die) (maxL := 4) (hh := [(0, 9, 12, 13), (0, 9, 15, 37)]) (by decide) rfl (Nat.le_of_ble_eq_true rfl) ?_
  intro p e s m args below meth c A Q S hK hret ls hl hw
  replace hl : lv_has ls 4 [(0, .ref (a 0)), (1, .int (nI r)), (2, .ref o)] := hl
  replace S : CallFix p m c cL_die 4 s args wsL_die RL := S
  refine lv_aload_n S.1 S.2.1 dL_die_0 rfl (lv_at hl 2 rfl) ?_
  refine lv_iconst (v := nI 0) S.1 S.2.1 dL_die_1 (by decide) ?_
  refine lv_aload_n S.1 S.2.1 dL_die_2 rfl (lv_at hl 0 rfl) ?_
  refine lv_iload_n S.1 S.2.1 dL_die_3 rfl (lv_at hl 1 rfl) ?_
  refine bl_vi (As := [.int (nI r)]) (rest := [.int (nI 0), .ref o]) S (tyJ_Z hK) hw (kX0_die l D cZ cI a σ (r := r) hr ha) (cwV 1 S.2.2.2.2 gL_die_X0_die rfl rfl rfl (by decide +kernel) ⟨Nat.le_of_ble_eq_true rfl, Nat.le_of_ble_eq_true rfl⟩) (q0 := 0) rfl rfl rfl hl.1 rfl (Nat.le_of_ble_eq_true rfl) (Nat.zero_le _) (Nat.zero_le _) dL_die_4 (fun H locs hw => ?_)
  refine lv_i2l (v := (dieN σ r 3).toInt64) S.1 S.2.1 dL_die_7 rfl ?_
  refine bl_last (ws' := wX cZ cI a (dieG σ r 3) ++ wO cJ o (vp_updL fo 0 ((dieN σ r 3).toInt64))) S hK hw 17 2 rfl rfl (by decide) (by decide) rfl dL_die_8 (fun H locs hw => ?_)
  refine lv_goto (tgt := 18) S.1 S.2.1 dL_die_9 (by decide) ?_
  refine lv_iconst (v := 0) S.1 S.2.1 dL_die_18 (by decide) ?_
  exact hret hw dL_die_19 rfl rfl

set_option maxHeartbeats 4000000 in
set_option maxRecDepth 100000 in
theorem kL_die_IA (l : Launch) (D : va_G) (cZ cI cJ : ClassId) (a : Nat → Nat) (σ : sC) (o : Nat) (fo : Nat → Int64) (x : Int32) (hM : MT l yX0_die wsX0_die ({ frames := 7, cells := 1, slots := 6, locals := 110 } : Room) D (tyZ cZ cI) [.ref (a 0), .int x] (wX cZ cI a σ) eIA) : MB l yL_die wsL_die ({ frames := 8, cells := 1, slots := 6, locals := 140 } : Room) D (tyJ cZ cI cJ) [.ref (a 0), .int x, .ref o] (wX cZ cI a σ ++ wO cJ o fo) 1 := by
  refine MB.of (cc := cL_die) (maxL := 4) (hh := [(0, 9, 12, 13), (0, 9, 15, 37)]) (by decide) rfl (Nat.le_of_ble_eq_true rfl) ?_
  intro p e s m args below meth c Q S hK hZ hD ht hret ls hl hw
  replace hl : lv_has ls 4 [(0, .ref (a 0)), (1, .int x), (2, .ref o)] := hl
  replace S : CallFix p m c cL_die 4 s args wsL_die RL := S
  refine lv_aload_n S.1 S.2.1 dL_die_0 rfl (lv_at hl 2 rfl) ?_
  refine lv_iconst (v := nI 0) S.1 S.2.1 dL_die_1 (by decide) ?_
  refine lv_aload_n S.1 S.2.1 dL_die_2 rfl (lv_at hl 0 rfl) ?_
  refine lv_iload_n S.1 S.2.1 dL_die_3 rfl (lv_at hl 1 rfl) ?_
  refine bl_vx (As := [.int x]) (rest := [.int (nI 0), .ref o]) S (tyJ_Z hK) hZ hw hD hM (cwV 1 S.2.2.2.2 gL_die_X0_die rfl rfl rfl (by decide +kernel) ⟨Nat.le_of_ble_eq_true rfl, Nat.le_of_ble_eq_true rfl⟩) (q0 := 0) rfl rfl rfl hl.1 rfl (Nat.le_of_ble_eq_true rfl) (by decide) (by decide) dL_die_4 (fun ce q9 H locs hS hce hcv hcf => ?_)
  refine vx_catch (own := RL) (name := eIA) S.2.2.2.1 [] ⟨0, 9, 12, 13⟩ [⟨0, 9, 15, 37⟩] ht (fun z hz => nomatch hz) (by decide) (by decide) (S.2.2.2.2 (.classLink RL 13 eIA) (by decide +kernel)) (va_Nw.use rfl (hZ.2.2.2.1 (.castable eIA eIA) (by decide +kernel))) hce hcv hcf ?_
  refine W.eq (g2 := F0 m 12 ls [.ref q9]) rfl ?_
  refine lv_astore_n (lv' := [(3, .ref q9), (0, .ref (a 0)), (1, .int x), (2, .ref o)]) S.1 S.2.1 dL_die_12 rfl hl (by decide) rfl (fun ls hl => ?_)
  refine lv_iconst (v := 1) S.1 S.2.1 dL_die_13 (by decide) ?_
  exact hret hS dL_die_14 rfl

set_option maxHeartbeats 4000000 in
set_option maxRecDepth 100000 in
theorem kL_die_IS (l : Launch) (D : va_G) (cZ cI cJ : ClassId) (a : Nat → Nat) (σ : sC) (o : Nat) (fo : Nat → Int64) (x : Int32) (hM : MT l yX0_die wsX0_die ({ frames := 7, cells := 1, slots := 6, locals := 110 } : Room) D (tyZ cZ cI) [.ref (a 0), .int x] (wX cZ cI a σ) eIS) : MB l yL_die wsL_die ({ frames := 8, cells := 1, slots := 6, locals := 140 } : Room) D (tyJ cZ cI cJ) [.ref (a 0), .int x, .ref o] (wX cZ cI a σ ++ wO cJ o fo) 2 := by
  refine MB.of (cc := cL_die) (maxL := 4) (hh := [(0, 9, 12, 13), (0, 9, 15, 37)]) (by decide) rfl (Nat.le_of_ble_eq_true rfl) ?_
  intro p e s m args below meth c Q S hK hZ hD ht hret ls hl hw
  replace hl : lv_has ls 4 [(0, .ref (a 0)), (1, .int x), (2, .ref o)] := hl
  replace S : CallFix p m c cL_die 4 s args wsL_die RL := S
  refine lv_aload_n S.1 S.2.1 dL_die_0 rfl (lv_at hl 2 rfl) ?_
  refine lv_iconst (v := nI 0) S.1 S.2.1 dL_die_1 (by decide) ?_
  refine lv_aload_n S.1 S.2.1 dL_die_2 rfl (lv_at hl 0 rfl) ?_
  refine lv_iload_n S.1 S.2.1 dL_die_3 rfl (lv_at hl 1 rfl) ?_
  refine bl_vx (As := [.int x]) (rest := [.int (nI 0), .ref o]) S (tyJ_Z hK) hZ hw hD hM (cwV 1 S.2.2.2.2 gL_die_X0_die rfl rfl rfl (by decide +kernel) ⟨Nat.le_of_ble_eq_true rfl, Nat.le_of_ble_eq_true rfl⟩) (q0 := 0) rfl rfl rfl hl.1 rfl (Nat.le_of_ble_eq_true rfl) (by decide) (by decide) dL_die_4 (fun ce q9 H locs hS hce hcv hcf => ?_)
  refine vx_catch (own := RL) (name := eIS) S.2.2.2.1 [⟨0, 9, 12, 13⟩] ⟨0, 9, 15, 37⟩ [] ht (fun z hz => by obtain rfl := List.mem_singleton.mp hz; exact Or.inr ⟨by decide, eIA, S.2.2.2.2 (.classLink RL 13 eIA) (by decide +kernel), hZ.2.2.2.2⟩) (by decide) (by decide) (S.2.2.2.2 (.classLink RL 37 eIS) (by decide +kernel)) (va_Nw.use rfl (hZ.2.2.2.1 (.castable eIS eIS) (by decide +kernel))) hce hcv hcf ?_
  refine W.eq (g2 := F0 m 15 ls [.ref q9]) rfl ?_
  refine lv_astore_n (lv' := [(3, .ref q9), (0, .ref (a 0)), (1, .int x), (2, .ref o)]) S.1 S.2.1 dL_die_15 rfl hl (by decide) rfl (fun ls hl => ?_)
  refine lv_iconst (v := 2) S.1 S.2.1 dL_die_16 (by decide) ?_
  exact hret hS dL_die_17 rfl

set_option maxHeartbeats 4000000 in
set_option maxRecDepth 100000 in
theorem kL_live (l : Launch) (D : va_G) (cZ cI cJ : ClassId) (a : Nat → Nat) (σ : sC) (o : Nat) (fo : Nat → Int64) {r : Nat} (hr : r < 4) (ha : σ 0 r = 0) : MI l yL_live wsL_live ({ frames := 5, cells := 0, slots := 0, locals := 114 } : Room) D (tyJ cZ cI cJ) [.ref (a 0), .int (nI r), .ref o] (wX cZ cI a σ ++ wO cJ o fo) 0 (wX cZ cI a (liveG σ r 3) ++ wO cJ o (vp_updL fo 0 ((liveN σ r 3).toInt64))) := by
  refine MI.ofH (cc := cL_live) (maxL := 4) (hh := [(0, 9, 12, 13), (0, 9, 15, 37)]) (by decide) rfl (Nat.le_of_ble_eq_true rfl) ?_
  intro p e s m args below meth c A Q S hK hret ls hl hw
  replace hl : lv_has ls 4 [(0, .ref (a 0)), (1, .int (nI r)), (2, .ref o)] := hl
  replace S : CallFix p m c cL_live 4 s args wsL_live RL := S
  refine lv_aload_n S.1 S.2.1 dL_live_0 rfl (lv_at hl 2 rfl) ?_
  refine lv_iconst (v := nI 0) S.1 S.2.1 dL_live_1 (by decide) ?_
  refine lv_aload_n S.1 S.2.1 dL_live_2 rfl (lv_at hl 0 rfl) ?_
  refine lv_iload_n S.1 S.2.1 dL_live_3 rfl (lv_at hl 1 rfl) ?_
  refine bl_vi (As := [.int (nI r)]) (rest := [.int (nI 0), .ref o]) S (tyJ_Z hK) hw (kX0_live l D cZ cI a σ (r := r) hr ha) (cwV 1 S.2.2.2.2 gL_live_X0_live rfl rfl rfl (by decide +kernel) ⟨Nat.le_of_ble_eq_true rfl, Nat.le_of_ble_eq_true rfl⟩) (q0 := 0) rfl rfl rfl hl.1 rfl (Nat.le_of_ble_eq_true rfl) (Nat.zero_le _) (Nat.zero_le _) dL_live_4 (fun H locs hw => ?_)
  refine lv_i2l (v := (liveN σ r 3).toInt64) S.1 S.2.1 dL_live_7 rfl ?_
  refine bl_last (ws' := wX cZ cI a (liveG σ r 3) ++ wO cJ o (vp_updL fo 0 ((liveN σ r 3).toInt64))) S hK hw 17 2 rfl rfl (by decide) (by decide) rfl dL_live_8 (fun H locs hw => ?_)
  refine lv_goto (tgt := 18) S.1 S.2.1 dL_live_9 (by decide) ?_
  refine lv_iconst (v := 0) S.1 S.2.1 dL_live_18 (by decide) ?_
  exact hret hw dL_live_19 rfl rfl

set_option maxHeartbeats 4000000 in
set_option maxRecDepth 100000 in
theorem kL_live_IA (l : Launch) (D : va_G) (cZ cI cJ : ClassId) (a : Nat → Nat) (σ : sC) (o : Nat) (fo : Nat → Int64) (x : Int32) (hM : MT l yX0_live wsX0_live ({ frames := 7, cells := 1, slots := 6, locals := 110 } : Room) D (tyZ cZ cI) [.ref (a 0), .int x] (wX cZ cI a σ) eIA) : MB l yL_live wsL_live ({ frames := 8, cells := 1, slots := 6, locals := 140 } : Room) D (tyJ cZ cI cJ) [.ref (a 0), .int x, .ref o] (wX cZ cI a σ ++ wO cJ o fo) 1 := by
  refine MB.of (cc := cL_live) (maxL := 4) (hh := [(0, 9, 12, 13), (0, 9, 15, 37)]) (by decide) rfl (Nat.le_of_ble_eq_true rfl) ?_
  intro p e s m args below meth c Q S hK hZ hD ht hret ls hl hw
  replace hl : lv_has ls 4 [(0, .ref (a 0)), (1, .int x), (2, .ref o)] := hl
  replace S : CallFix p m c cL_live 4 s args wsL_live RL := S
  refine lv_aload_n S.1 S.2.1 dL_live_0 rfl (lv_at hl 2 rfl) ?_
  refine lv_iconst (v := nI 0) S.1 S.2.1 dL_live_1 (by decide) ?_
  refine lv_aload_n S.1 S.2.1 dL_live_2 rfl (lv_at hl 0 rfl) ?_
  refine lv_iload_n S.1 S.2.1 dL_live_3 rfl (lv_at hl 1 rfl) ?_
  refine bl_vx (As := [.int x]) (rest := [.int (nI 0), .ref o]) S (tyJ_Z hK) hZ hw hD hM (cwV 1 S.2.2.2.2 gL_live_X0_live rfl rfl rfl (by decide +kernel) ⟨Nat.le_of_ble_eq_true rfl, Nat.le_of_ble_eq_true rfl⟩) (q0 := 0) rfl rfl rfl hl.1 rfl (Nat.le_of_ble_eq_true rfl) (by decide) (by decide) dL_live_4 (fun ce q9 H locs hS hce hcv hcf => ?_)
  refine vx_catch (own := RL) (name := eIA) S.2.2.2.1 [] ⟨0, 9, 12, 13⟩ [⟨0, 9, 15, 37⟩] ht (fun z hz => nomatch hz) (by decide) (by decide) (S.2.2.2.2 (.classLink RL 13 eIA) (by decide +kernel)) (va_Nw.use rfl (hZ.2.2.2.1 (.castable eIA eIA) (by decide +kernel))) hce hcv hcf ?_
  refine W.eq (g2 := F0 m 12 ls [.ref q9]) rfl ?_
  refine lv_astore_n (lv' := [(3, .ref q9), (0, .ref (a 0)), (1, .int x), (2, .ref o)]) S.1 S.2.1 dL_live_12 rfl hl (by decide) rfl (fun ls hl => ?_)
  refine lv_iconst (v := 1) S.1 S.2.1 dL_live_13 (by decide) ?_
  exact hret hS dL_live_14 rfl

set_option maxHeartbeats 4000000 in
set_option maxRecDepth 100000 in
theorem kL_live_IS (l : Launch) (D : va_G) (cZ cI cJ : ClassId) (a : Nat → Nat) (σ : sC) (o : Nat) (fo : Nat → Int64) (x : Int32) (hM : MT l yX0_live wsX0_live ({ frames := 7, cells := 1, slots := 6, locals := 110 } : Room) D (tyZ cZ cI) [.ref (a 0), .int x] (wX cZ cI a σ) eIS) : MB l yL_live wsL_live ({ frames := 8, cells := 1, slots := 6, locals := 140 } : Room) D (tyJ cZ cI cJ) [.ref (a 0), .int x, .ref o] (wX cZ cI a σ ++ wO cJ o fo) 2 := by
  refine MB.of (cc := cL_live) (maxL := 4) (hh := [(0, 9, 12, 13), (0, 9, 15, 37)]) (by decide) rfl (Nat.le_of_ble_eq_true rfl) ?_
  intro p e s m args below meth c Q S hK hZ hD ht hret ls hl hw
  replace hl : lv_has ls 4 [(0, .ref (a 0)), (1, .int x), (2, .ref o)] := hl
  replace S : CallFix p m c cL_live 4 s args wsL_live RL := S
  refine lv_aload_n S.1 S.2.1 dL_live_0 rfl (lv_at hl 2 rfl) ?_
  refine lv_iconst (v := nI 0) S.1 S.2.1 dL_live_1 (by decide) ?_
  refine lv_aload_n S.1 S.2.1 dL_live_2 rfl (lv_at hl 0 rfl) ?_
  refine lv_iload_n S.1 S.2.1 dL_live_3 rfl (lv_at hl 1 rfl) ?_
  refine bl_vx (As := [.int x]) (rest := [.int (nI 0), .ref o]) S (tyJ_Z hK) hZ hw hD hM (cwV 1 S.2.2.2.2 gL_live_X0_live rfl rfl rfl (by decide +kernel) ⟨Nat.le_of_ble_eq_true rfl, Nat.le_of_ble_eq_true rfl⟩) (q0 := 0) rfl rfl rfl hl.1 rfl (Nat.le_of_ble_eq_true rfl) (by decide) (by decide) dL_live_4 (fun ce q9 H locs hS hce hcv hcf => ?_)
  refine vx_catch (own := RL) (name := eIS) S.2.2.2.1 [⟨0, 9, 12, 13⟩] ⟨0, 9, 15, 37⟩ [] ht (fun z hz => by obtain rfl := List.mem_singleton.mp hz; exact Or.inr ⟨by decide, eIA, S.2.2.2.2 (.classLink RL 13 eIA) (by decide +kernel), hZ.2.2.2.2⟩) (by decide) (by decide) (S.2.2.2.2 (.classLink RL 37 eIS) (by decide +kernel)) (va_Nw.use rfl (hZ.2.2.2.1 (.castable eIS eIS) (by decide +kernel))) hce hcv hcf ?_
  refine W.eq (g2 := F0 m 15 ls [.ref q9]) rfl ?_
  refine lv_astore_n (lv' := [(3, .ref q9), (0, .ref (a 0)), (1, .int x), (2, .ref o)]) S.1 S.2.1 dL_live_15 rfl hl (by decide) rfl (fun ls hl => ?_)
  refine lv_iconst (v := 2) S.1 S.2.1 dL_live_16 (by decide) ?_
  exact hret hS dL_live_17 rfl

set_option maxHeartbeats 4000000 in
set_option maxRecDepth 100000 in
theorem kL_handOver (l : Launch) (D : va_G) (cZ cI cJ : ClassId) (a : Nat → Nat) (σ : sC) (o : Nat) (fo : Nat → Int64) {r g : Nat} (hr : r < 4) (hg : g < 3) (hm : σ 10 (4 * g + r) = 2) : MI l yL_handOver wsL_handOver ({ frames := 6, cells := 0, slots := 0, locals := 141 } : Room) D (tyJ cZ cI cJ) [.ref (a 0), .int (nI r), .int (nI g)] (wX cZ cI a σ ++ wO cJ o fo) 0 (wX cZ cI a (advF (restF σ r g 0) r g 0) ++ wO cJ o fo) := by
  refine MI.ofH (cc := cL_handOver) (maxL := 4) (hh := [(0, 6, 9, 13), (0, 6, 12, 37)]) (by decide) rfl (Nat.le_of_ble_eq_true rfl) ?_
  intro p e s m args below meth c A Q S hK hret ls hl hw
  replace hl : lv_has ls 4 [(0, .ref (a 0)), (1, .int (nI r)), (2, .int (nI g))] := hl
  replace S : CallFix p m c cL_handOver 4 s args wsL_handOver RL := S
  refine lv_aload_n S.1 S.2.1 dL_handOver_0 rfl (lv_at hl 0 rfl) ?_
  refine lv_iload_n S.1 S.2.1 dL_handOver_1 rfl (lv_at hl 1 rfl) ?_
  refine lv_iload_n S.1 S.2.1 dL_handOver_2 rfl (lv_at hl 2 rfl) ?_
  refine bl_vv (As := [.int (nI r), .int (nI g)]) (rest := []) S (tyJ_Z hK) hw (kX0_handOver l D cZ cI a σ (r := r) (g := g) hr hg hm) (cwV 2 S.2.2.2.2 gL_handOver_X0_handOver rfl rfl rfl (by decide +kernel) ⟨Nat.le_of_ble_eq_true rfl, Nat.le_of_ble_eq_true rfl⟩) (q0 := 0) rfl rfl rfl hl.1 rfl (Nat.le_of_ble_eq_true rfl) (Nat.zero_le _) (Nat.zero_le _) dL_handOver_3 (fun H locs hw => ?_)
  refine lv_goto (tgt := 15) S.1 S.2.1 dL_handOver_6 (by decide) ?_
  refine lv_iconst (v := 0) S.1 S.2.1 dL_handOver_15 (by decide) ?_
  exact hret hw dL_handOver_16 rfl rfl

set_option maxHeartbeats 4000000 in
set_option maxRecDepth 100000 in
theorem kL_handOver_IA (l : Launch) (D : va_G) (cZ cI cJ : ClassId) (a : Nat → Nat) (σ : sC) (o : Nat) (fo : Nat → Int64) (x y : Int32) (hM : MT l yX0_handOver wsX0_handOver ({ frames := 7, cells := 1, slots := 6, locals := 110 } : Room) D (tyZ cZ cI) [.ref (a 0), .int x, .int y] (wX cZ cI a σ) eIA) : MB l yL_handOver wsL_handOver ({ frames := 8, cells := 1, slots := 6, locals := 140 } : Room) D (tyJ cZ cI cJ) [.ref (a 0), .int x, .int y] (wX cZ cI a σ ++ wO cJ o fo) 1 := by
  refine MB.of (cc := cL_handOver) (maxL := 4) (hh := [(0, 6, 9, 13), (0, 6, 12, 37)]) (by decide) rfl (Nat.le_of_ble_eq_true rfl) ?_
  intro p e s m args below meth c Q S hK hZ hD ht hret ls hl hw
  replace hl : lv_has ls 4 [(0, .ref (a 0)), (1, .int x), (2, .int y)] := hl
  replace S : CallFix p m c cL_handOver 4 s args wsL_handOver RL := S
  refine lv_aload_n S.1 S.2.1 dL_handOver_0 rfl (lv_at hl 0 rfl) ?_
  refine lv_iload_n S.1 S.2.1 dL_handOver_1 rfl (lv_at hl 1 rfl) ?_
  refine lv_iload_n S.1 S.2.1 dL_handOver_2 rfl (lv_at hl 2 rfl) ?_
  refine bl_vx (As := [.int x, .int y]) (rest := []) S (tyJ_Z hK) hZ hw hD hM (cwV 2 S.2.2.2.2 gL_handOver_X0_handOver rfl rfl rfl (by decide +kernel) ⟨Nat.le_of_ble_eq_true rfl, Nat.le_of_ble_eq_true rfl⟩) (q0 := 0) rfl rfl rfl hl.1 rfl (Nat.le_of_ble_eq_true rfl) (by decide) (by decide) dL_handOver_3 (fun ce q9 H locs hS hce hcv hcf => ?_)
  refine vx_catch (own := RL) (name := eIA) S.2.2.2.1 [] ⟨0, 6, 9, 13⟩ [⟨0, 6, 12, 37⟩] ht (fun z hz => nomatch hz) (by decide) (by decide) (S.2.2.2.2 (.classLink RL 13 eIA) (by decide +kernel)) (va_Nw.use rfl (hZ.2.2.2.1 (.castable eIA eIA) (by decide +kernel))) hce hcv hcf ?_
  refine W.eq (g2 := F0 m 9 ls [.ref q9]) rfl ?_
  refine lv_astore_n (lv' := [(3, .ref q9), (0, .ref (a 0)), (1, .int x), (2, .int y)]) S.1 S.2.1 dL_handOver_9 rfl hl (by decide) rfl (fun ls hl => ?_)
  refine lv_iconst (v := 1) S.1 S.2.1 dL_handOver_10 (by decide) ?_
  exact hret hS dL_handOver_11 rfl

set_option maxHeartbeats 4000000 in
set_option maxRecDepth 100000 in
theorem kL_handOver_IS (l : Launch) (D : va_G) (cZ cI cJ : ClassId) (a : Nat → Nat) (σ : sC) (o : Nat) (fo : Nat → Int64) (x y : Int32) (hM : MT l yX0_handOver wsX0_handOver ({ frames := 7, cells := 1, slots := 6, locals := 110 } : Room) D (tyZ cZ cI) [.ref (a 0), .int x, .int y] (wX cZ cI a σ) eIS) : MB l yL_handOver wsL_handOver ({ frames := 8, cells := 1, slots := 6, locals := 140 } : Room) D (tyJ cZ cI cJ) [.ref (a 0), .int x, .int y] (wX cZ cI a σ ++ wO cJ o fo) 2 := by
  refine MB.of (cc := cL_handOver) (maxL := 4) (hh := [(0, 6, 9, 13), (0, 6, 12, 37)]) (by decide) rfl (Nat.le_of_ble_eq_true rfl) ?_
  intro p e s m args below meth c Q S hK hZ hD ht hret ls hl hw
  replace hl : lv_has ls 4 [(0, .ref (a 0)), (1, .int x), (2, .int y)] := hl
  replace S : CallFix p m c cL_handOver 4 s args wsL_handOver RL := S
  refine lv_aload_n S.1 S.2.1 dL_handOver_0 rfl (lv_at hl 0 rfl) ?_
  refine lv_iload_n S.1 S.2.1 dL_handOver_1 rfl (lv_at hl 1 rfl) ?_
  refine lv_iload_n S.1 S.2.1 dL_handOver_2 rfl (lv_at hl 2 rfl) ?_
  refine bl_vx (As := [.int x, .int y]) (rest := []) S (tyJ_Z hK) hZ hw hD hM (cwV 2 S.2.2.2.2 gL_handOver_X0_handOver rfl rfl rfl (by decide +kernel) ⟨Nat.le_of_ble_eq_true rfl, Nat.le_of_ble_eq_true rfl⟩) (q0 := 0) rfl rfl rfl hl.1 rfl (Nat.le_of_ble_eq_true rfl) (by decide) (by decide) dL_handOver_3 (fun ce q9 H locs hS hce hcv hcf => ?_)
  refine vx_catch (own := RL) (name := eIS) S.2.2.2.1 [⟨0, 6, 9, 13⟩] ⟨0, 6, 12, 37⟩ [] ht (fun z hz => by obtain rfl := List.mem_singleton.mp hz; exact Or.inr ⟨by decide, eIA, S.2.2.2.2 (.classLink RL 13 eIA) (by decide +kernel), hZ.2.2.2.2⟩) (by decide) (by decide) (S.2.2.2.2 (.classLink RL 37 eIS) (by decide +kernel)) (va_Nw.use rfl (hZ.2.2.2.1 (.castable eIS eIS) (by decide +kernel))) hce hcv hcf ?_
  refine W.eq (g2 := F0 m 12 ls [.ref q9]) rfl ?_
  refine lv_astore_n (lv' := [(3, .ref q9), (0, .ref (a 0)), (1, .int x), (2, .int y)]) S.1 S.2.1 dL_handOver_12 rfl hl (by decide) rfl (fun ls hl => ?_)
  refine lv_iconst (v := 2) S.1 S.2.1 dL_handOver_13 (by decide) ?_
  exact hret hS dL_handOver_14 rfl

set_option maxHeartbeats 4000000 in
set_option maxRecDepth 100000 in
theorem kL_serve (l : Launch) (D : va_G) (cZ cI cJ : ClassId) (a : Nat → Nat) (σ : sC) (o : Nat) (fo : Nat → Int64) {g : Nat} (v : Int32) (hg : g < 3) (h1 : ¬ v < 1) (h2 : ¬ 100 < v) : MI l yL_serve wsL_serve ({ frames := 2, cells := 0, slots := 0, locals := 47 } : Room) D (tyJ cZ cI cJ) [.ref (a 0), .int (nI g), .int v, .ref o] (wX cZ cI a σ ++ wO cJ o fo) 0 (wX cZ cI a (serveG σ g v 4) ++ wO cJ o (vp_updL fo 0 ((serveN σ g v 4).toInt64))) := by
  refine MI.ofH (cc := cL_serve) (maxL := 5) (hh := [(0, 10, 13, 13)]) (by decide) rfl (Nat.le_of_ble_eq_true rfl) ?_
  intro p e s m args below meth c A Q S hK hret ls hl hw
  replace hl : lv_has ls 5 [(0, .ref (a 0)), (1, .int (nI g)), (2, .int v), (3, .ref o)] := hl
  replace S : CallFix p m c cL_serve 5 s args wsL_serve RL := S
  refine lv_aload_n S.1 S.2.1 dL_serve_0 rfl (lv_at hl 3 rfl) ?_
  refine lv_iconst (v := nI 0) S.1 S.2.1 dL_serve_1 (by decide) ?_
  refine lv_aload_n S.1 S.2.1 dL_serve_2 rfl (lv_at hl 0 rfl) ?_
  refine lv_iload_n S.1 S.2.1 dL_serve_3 rfl (lv_at hl 1 rfl) ?_
  refine lv_iload_n S.1 S.2.1 dL_serve_4 rfl (lv_at hl 2 rfl) ?_
  refine bl_vi (As := [.int (nI g), .int v]) (rest := [.int (nI 0), .ref o]) S (tyJ_Z hK) hw (kX0_serve l D cZ cI a σ (g := g) v hg h1 h2) (cwV 2 S.2.2.2.2 gL_serve_X0_serve rfl rfl rfl (by decide +kernel) ⟨Nat.le_of_ble_eq_true rfl, Nat.le_of_ble_eq_true rfl⟩) (q0 := 0) rfl rfl rfl hl.1 rfl (Nat.le_of_ble_eq_true rfl) (Nat.zero_le _) (Nat.zero_le _) dL_serve_5 (fun H locs hw => ?_)
  refine lv_i2l (v := (serveN σ g v 4).toInt64) S.1 S.2.1 dL_serve_8 rfl ?_
  refine bl_last (ws' := wX cZ cI a (serveG σ g v 4) ++ wO cJ o (vp_updL fo 0 ((serveN σ g v 4).toInt64))) S hK hw 17 2 rfl rfl (by decide) (by decide) rfl dL_serve_9 (fun H locs hw => ?_)
  refine lv_goto (tgt := 17) S.1 S.2.1 dL_serve_10 (by decide) ?_
  refine lv_iconst (v := 0) S.1 S.2.1 dL_serve_17 (by decide) ?_
  exact hret hw dL_serve_18 rfl rfl

set_option maxHeartbeats 4000000 in
set_option maxRecDepth 100000 in
theorem kL_serve_IA (l : Launch) (D : va_G) (cZ cI cJ : ClassId) (a : Nat → Nat) (σ : sC) (o : Nat) (fo : Nat → Int64) (x v : Int32) (hM : MT l yX0_serve wsX0_serve ({ frames := 7, cells := 1, slots := 6, locals := 110 } : Room) D (tyZ cZ cI) [.ref (a 0), .int x, .int v] (wX cZ cI a σ) eIA) : MB l yL_serve wsL_serve ({ frames := 8, cells := 1, slots := 6, locals := 140 } : Room) D (tyJ cZ cI cJ) [.ref (a 0), .int x, .int v, .ref o] (wX cZ cI a σ ++ wO cJ o fo) 1 := by
  refine MB.of (cc := cL_serve) (maxL := 5) (hh := [(0, 10, 13, 13)]) (by decide) rfl (Nat.le_of_ble_eq_true rfl) ?_
  intro p e s m args below meth c Q S hK hZ hD ht hret ls hl hw
  replace hl : lv_has ls 5 [(0, .ref (a 0)), (1, .int x), (2, .int v), (3, .ref o)] := hl
  replace S : CallFix p m c cL_serve 5 s args wsL_serve RL := S
  refine lv_aload_n S.1 S.2.1 dL_serve_0 rfl (lv_at hl 3 rfl) ?_
  refine lv_iconst (v := nI 0) S.1 S.2.1 dL_serve_1 (by decide) ?_
  refine lv_aload_n S.1 S.2.1 dL_serve_2 rfl (lv_at hl 0 rfl) ?_
  refine lv_iload_n S.1 S.2.1 dL_serve_3 rfl (lv_at hl 1 rfl) ?_
  refine lv_iload_n S.1 S.2.1 dL_serve_4 rfl (lv_at hl 2 rfl) ?_
  refine bl_vx (As := [.int x, .int v]) (rest := [.int (nI 0), .ref o]) S (tyJ_Z hK) hZ hw hD hM (cwV 2 S.2.2.2.2 gL_serve_X0_serve rfl rfl rfl (by decide +kernel) ⟨Nat.le_of_ble_eq_true rfl, Nat.le_of_ble_eq_true rfl⟩) (q0 := 0) rfl rfl rfl hl.1 rfl (Nat.le_of_ble_eq_true rfl) (by decide) (by decide) dL_serve_5 (fun ce q9 H locs hS hce hcv hcf => ?_)
  refine vx_catch (own := RL) (name := eIA) S.2.2.2.1 [] ⟨0, 10, 13, 13⟩ [] ht (fun z hz => nomatch hz) (by decide) (by decide) (S.2.2.2.2 (.classLink RL 13 eIA) (by decide +kernel)) (va_Nw.use rfl (hZ.2.2.2.1 (.castable eIA eIA) (by decide +kernel))) hce hcv hcf ?_
  refine W.eq (g2 := F0 m 13 ls [.ref q9]) rfl ?_
  refine lv_astore (lv' := [(4, .ref q9), (0, .ref (a 0)), (1, .int x), (2, .int v), (3, .ref o)]) S.1 S.2.1 dL_serve_13 hl (by decide) rfl (fun ls hl => ?_)
  refine lv_iconst (v := 1) S.1 S.2.1 dL_serve_15 (by decide) ?_
  exact hret hS dL_serve_16 rfl

set_option maxHeartbeats 4000000 in
set_option maxRecDepth 100000 in
theorem kL_tick (l : Launch) (D : va_G) (cZ cI cJ : ClassId) (a : Nat → Nat) (σ : sC) (o : Nat) (fo : Nat → Int64) {nt : Nat} (hn : nt < 100) (h1 : ¬ nI nt < 1) (h2 : ¬ 50 < nI nt) : MI l yL_tick wsL_tick ({ frames := 7, cells := 0, slots := 0, locals := 165 } : Room) D (tyJ cZ cI cJ) [.ref (a 0), .int (nI nt), .ref o] (wX cZ cI a σ ++ wO cJ o fo) 0 (wX cZ cI a (tickF σ nt) ++ wO cJ o (vp_updL fo 0 (((tickF σ nt) 17 0).toInt64))) := by
  refine MI.ofH (cc := cL_tick) (maxL := 4) (hh := [(0, 9, 12, 13)]) (by decide) rfl (Nat.le_of_ble_eq_true rfl) ?_
  intro p e s m args below meth c A Q S hK hret ls hl hw
  replace hl : lv_has ls 4 [(0, .ref (a 0)), (1, .int (nI nt)), (2, .ref o)] := hl
  replace S : CallFix p m c cL_tick 4 s args wsL_tick RL := S
  refine lv_aload_n S.1 S.2.1 dL_tick_0 rfl (lv_at hl 2 rfl) ?_
  refine lv_iconst (v := nI 0) S.1 S.2.1 dL_tick_1 (by decide) ?_
  refine lv_aload_n S.1 S.2.1 dL_tick_2 rfl (lv_at hl 0 rfl) ?_
  refine lv_iload_n S.1 S.2.1 dL_tick_3 rfl (lv_at hl 1 rfl) ?_
  refine bl_vi (As := [.int (nI nt)]) (rest := [.int (nI 0), .ref o]) S (tyJ_Z hK) hw (kX0_tick l D cZ cI a σ (nt := nt) hn h1 h2) (cwV 1 S.2.2.2.2 gL_tick_X0_tick rfl rfl rfl (by decide +kernel) ⟨Nat.le_of_ble_eq_true rfl, Nat.le_of_ble_eq_true rfl⟩) (q0 := 0) rfl rfl rfl hl.1 rfl (Nat.le_of_ble_eq_true rfl) (Nat.zero_le _) (Nat.zero_le _) dL_tick_4 (fun H locs hw => ?_)
  refine lv_i2l (v := ((tickF σ nt) 17 0).toInt64) S.1 S.2.1 dL_tick_7 rfl ?_
  refine bl_last (ws' := wX cZ cI a (tickF σ nt) ++ wO cJ o (vp_updL fo 0 (((tickF σ nt) 17 0).toInt64))) S hK hw 17 2 rfl rfl (by decide) (by decide) rfl dL_tick_8 (fun H locs hw => ?_)
  refine lv_goto (tgt := 15) S.1 S.2.1 dL_tick_9 (by decide) ?_
  refine lv_iconst (v := 0) S.1 S.2.1 dL_tick_15 (by decide) ?_
  exact hret hw dL_tick_16 rfl rfl

set_option maxHeartbeats 4000000 in
set_option maxRecDepth 100000 in
theorem kL_tick_IA (l : Launch) (D : va_G) (cZ cI cJ : ClassId) (a : Nat → Nat) (σ : sC) (o : Nat) (fo : Nat → Int64) (x : Int32) (hM : MT l yX0_tick wsX0_tick ({ frames := 7, cells := 1, slots := 6, locals := 110 } : Room) D (tyZ cZ cI) [.ref (a 0), .int x] (wX cZ cI a σ) eIA) : MB l yL_tick wsL_tick ({ frames := 8, cells := 1, slots := 6, locals := 140 } : Room) D (tyJ cZ cI cJ) [.ref (a 0), .int x, .ref o] (wX cZ cI a σ ++ wO cJ o fo) 1 := by
  refine MB.of (cc := cL_tick) (maxL := 4) (hh := [(0, 9, 12, 13)]) (by decide) rfl (Nat.le_of_ble_eq_true rfl) ?_
  intro p e s m args below meth c Q S hK hZ hD ht hret ls hl hw
  replace hl : lv_has ls 4 [(0, .ref (a 0)), (1, .int x), (2, .ref o)] := hl
  replace S : CallFix p m c cL_tick 4 s args wsL_tick RL := S
  refine lv_aload_n S.1 S.2.1 dL_tick_0 rfl (lv_at hl 2 rfl) ?_
  refine lv_iconst (v := nI 0) S.1 S.2.1 dL_tick_1 (by decide) ?_
  refine lv_aload_n S.1 S.2.1 dL_tick_2 rfl (lv_at hl 0 rfl) ?_
  refine lv_iload_n S.1 S.2.1 dL_tick_3 rfl (lv_at hl 1 rfl) ?_
  refine bl_vx (As := [.int x]) (rest := [.int (nI 0), .ref o]) S (tyJ_Z hK) hZ hw hD hM (cwV 1 S.2.2.2.2 gL_tick_X0_tick rfl rfl rfl (by decide +kernel) ⟨Nat.le_of_ble_eq_true rfl, Nat.le_of_ble_eq_true rfl⟩) (q0 := 0) rfl rfl rfl hl.1 rfl (Nat.le_of_ble_eq_true rfl) (by decide) (by decide) dL_tick_4 (fun ce q9 H locs hS hce hcv hcf => ?_)
  refine vx_catch (own := RL) (name := eIA) S.2.2.2.1 [] ⟨0, 9, 12, 13⟩ [] ht (fun z hz => nomatch hz) (by decide) (by decide) (S.2.2.2.2 (.classLink RL 13 eIA) (by decide +kernel)) (va_Nw.use rfl (hZ.2.2.2.1 (.castable eIA eIA) (by decide +kernel))) hce hcv hcf ?_
  refine W.eq (g2 := F0 m 12 ls [.ref q9]) rfl ?_
  refine lv_astore_n (lv' := [(3, .ref q9), (0, .ref (a 0)), (1, .int x), (2, .ref o)]) S.1 S.2.1 dL_tick_12 rfl hl (by decide) rfl (fun ls hl => ?_)
  refine lv_iconst (v := 1) S.1 S.2.1 dL_tick_13 (by decide) ?_
  exact hret hS dL_tick_14 rfl

set_option maxHeartbeats 4000000 in
set_option maxRecDepth 100000 in
theorem kL_state (l : Launch) (D : va_G) (cZ cI cJ : ClassId) (a : Nat → Nat) (σ : sC) (o : Nat) (fo : Nat → Int64) {r g : Nat} (hr : r < 4) (hg : g < 3) : MI l yL_state wsL_state ({ frames := 2, cells := 0, slots := 0, locals := 43 } : Room) D (tyJ cZ cI cJ) [.ref (a 0), .int (nI r), .int (nI g), .ref o] (wX cZ cI a σ ++ wO cJ o fo) 0 (wX cZ cI a σ ++ wO cJ o (vp_updL fo 0 ((σ 10 (4 * g + r)).toInt64))) := by
  refine MI.ofH (cc := cL_state) (maxL := 5) (hh := [(0, 10, 13, 13)]) (by decide) rfl (Nat.le_of_ble_eq_true rfl) ?_
  intro p e s m args below meth c A Q S hK hret ls hl hw
  replace hl : lv_has ls 5 [(0, .ref (a 0)), (1, .int (nI r)), (2, .int (nI g)), (3, .ref o)] := hl
  replace S : CallFix p m c cL_state 5 s args wsL_state RL := S
  refine lv_aload_n S.1 S.2.1 dL_state_0 rfl (lv_at hl 3 rfl) ?_
  refine lv_iconst (v := nI 0) S.1 S.2.1 dL_state_1 (by decide) ?_
  refine lv_aload_n S.1 S.2.1 dL_state_2 rfl (lv_at hl 0 rfl) ?_
  refine lv_iload_n S.1 S.2.1 dL_state_3 rfl (lv_at hl 1 rfl) ?_
  refine lv_iload_n S.1 S.2.1 dL_state_4 rfl (lv_at hl 2 rfl) ?_
  refine bl_vi (As := [.int (nI r), .int (nI g)]) (rest := [.int (nI 0), .ref o]) S (tyJ_Z hK) hw (kX0_state l D cZ cI a σ (r := r) (g := g) hr hg) (cwV 2 S.2.2.2.2 gL_state_X0_state rfl rfl rfl (by decide +kernel) ⟨Nat.le_of_ble_eq_true rfl, Nat.le_of_ble_eq_true rfl⟩) (q0 := 0) rfl rfl rfl hl.1 rfl (Nat.le_of_ble_eq_true rfl) (Nat.zero_le _) (Nat.zero_le _) dL_state_5 (fun H locs hw => ?_)
  refine lv_i2l (v := (σ 10 (4 * g + r)).toInt64) S.1 S.2.1 dL_state_8 rfl ?_
  refine bl_last (ws' := wX cZ cI a σ ++ wO cJ o (vp_updL fo 0 ((σ 10 (4 * g + r)).toInt64))) S hK hw 17 2 rfl rfl (by decide) (by decide) rfl dL_state_9 (fun H locs hw => ?_)
  refine lv_goto (tgt := 17) S.1 S.2.1 dL_state_10 (by decide) ?_
  refine lv_iconst (v := 0) S.1 S.2.1 dL_state_17 (by decide) ?_
  exact hret hw dL_state_18 rfl rfl

set_option maxHeartbeats 4000000 in
set_option maxRecDepth 100000 in
theorem kL_state_IA (l : Launch) (D : va_G) (cZ cI cJ : ClassId) (a : Nat → Nat) (σ : sC) (o : Nat) (fo : Nat → Int64) (x y : Int32) (hM : MT l yX0_state wsX0_state ({ frames := 7, cells := 1, slots := 6, locals := 110 } : Room) D (tyZ cZ cI) [.ref (a 0), .int x, .int y] (wX cZ cI a σ) eIA) : MB l yL_state wsL_state ({ frames := 8, cells := 1, slots := 6, locals := 140 } : Room) D (tyJ cZ cI cJ) [.ref (a 0), .int x, .int y, .ref o] (wX cZ cI a σ ++ wO cJ o fo) 1 := by
  refine MB.of (cc := cL_state) (maxL := 5) (hh := [(0, 10, 13, 13)]) (by decide) rfl (Nat.le_of_ble_eq_true rfl) ?_
  intro p e s m args below meth c Q S hK hZ hD ht hret ls hl hw
  replace hl : lv_has ls 5 [(0, .ref (a 0)), (1, .int x), (2, .int y), (3, .ref o)] := hl
  replace S : CallFix p m c cL_state 5 s args wsL_state RL := S
  refine lv_aload_n S.1 S.2.1 dL_state_0 rfl (lv_at hl 3 rfl) ?_
  refine lv_iconst (v := nI 0) S.1 S.2.1 dL_state_1 (by decide) ?_
  refine lv_aload_n S.1 S.2.1 dL_state_2 rfl (lv_at hl 0 rfl) ?_
  refine lv_iload_n S.1 S.2.1 dL_state_3 rfl (lv_at hl 1 rfl) ?_
  refine lv_iload_n S.1 S.2.1 dL_state_4 rfl (lv_at hl 2 rfl) ?_
  refine bl_vx (As := [.int x, .int y]) (rest := [.int (nI 0), .ref o]) S (tyJ_Z hK) hZ hw hD hM (cwV 2 S.2.2.2.2 gL_state_X0_state rfl rfl rfl (by decide +kernel) ⟨Nat.le_of_ble_eq_true rfl, Nat.le_of_ble_eq_true rfl⟩) (q0 := 0) rfl rfl rfl hl.1 rfl (Nat.le_of_ble_eq_true rfl) (by decide) (by decide) dL_state_5 (fun ce q9 H locs hS hce hcv hcf => ?_)
  refine vx_catch (own := RL) (name := eIA) S.2.2.2.1 [] ⟨0, 10, 13, 13⟩ [] ht (fun z hz => nomatch hz) (by decide) (by decide) (S.2.2.2.2 (.classLink RL 13 eIA) (by decide +kernel)) (va_Nw.use rfl (hZ.2.2.2.1 (.castable eIA eIA) (by decide +kernel))) hce hcv hcf ?_
  refine W.eq (g2 := F0 m 13 ls [.ref q9]) rfl ?_
  refine lv_astore (lv' := [(4, .ref q9), (0, .ref (a 0)), (1, .int x), (2, .int y), (3, .ref o)]) S.1 S.2.1 dL_state_13 hl (by decide) rfl (fun ls hl => ?_)
  refine lv_iconst (v := 1) S.1 S.2.1 dL_state_15 (by decide) ?_
  exact hret hS dL_state_16 rfl

set_option maxHeartbeats 4000000 in
set_option maxRecDepth 100000 in
theorem kL_priority (l : Launch) (D : va_G) (cZ cI cJ : ClassId) (a : Nat → Nat) (σ : sC) (o : Nat) (fo : Nat → Int64) {r g : Nat} (hr : r < 4) (hg : g < 3) : MI l yL_priority wsL_priority ({ frames := 3, cells := 0, slots := 0, locals := 68 } : Room) D (tyJ cZ cI cJ) [.ref (a 0), .int (nI r), .int (nI g), .ref o] (wX cZ cI a σ ++ wO cJ o fo) 0 (wX cZ cI a σ ++ wO cJ o (vp_updL fo 0 ((prioF σ r g).toInt64))) := by
  refine MI.ofH (cc := cL_priority) (maxL := 5) (hh := [(0, 10, 13, 13)]) (by decide) rfl (Nat.le_of_ble_eq_true rfl) ?_
  intro p e s m args below meth c A Q S hK hret ls hl hw
  replace hl : lv_has ls 5 [(0, .ref (a 0)), (1, .int (nI r)), (2, .int (nI g)), (3, .ref o)] := hl
  replace S : CallFix p m c cL_priority 5 s args wsL_priority RL := S
  refine lv_aload_n S.1 S.2.1 dL_priority_0 rfl (lv_at hl 3 rfl) ?_
  refine lv_iconst (v := nI 0) S.1 S.2.1 dL_priority_1 (by decide) ?_
  refine lv_aload_n S.1 S.2.1 dL_priority_2 rfl (lv_at hl 0 rfl) ?_
  refine lv_iload_n S.1 S.2.1 dL_priority_3 rfl (lv_at hl 1 rfl) ?_
  refine lv_iload_n S.1 S.2.1 dL_priority_4 rfl (lv_at hl 2 rfl) ?_
  refine bl_vi (As := [.int (nI r), .int (nI g)]) (rest := [.int (nI 0), .ref o]) S (tyJ_Z hK) hw (kX0_priority l D cZ cI a σ (r := r) (g := g) hr hg) (cwV 2 S.2.2.2.2 gL_priority_X0_priority rfl rfl rfl (by decide +kernel) ⟨Nat.le_of_ble_eq_true rfl, Nat.le_of_ble_eq_true rfl⟩) (q0 := 0) rfl rfl rfl hl.1 rfl (Nat.le_of_ble_eq_true rfl) (Nat.zero_le _) (Nat.zero_le _) dL_priority_5 (fun H locs hw => ?_)
  refine lv_i2l (v := (prioF σ r g).toInt64) S.1 S.2.1 dL_priority_8 rfl ?_
  refine bl_last (ws' := wX cZ cI a σ ++ wO cJ o (vp_updL fo 0 ((prioF σ r g).toInt64))) S hK hw 17 2 rfl rfl (by decide) (by decide) rfl dL_priority_9 (fun H locs hw => ?_)
  refine lv_goto (tgt := 17) S.1 S.2.1 dL_priority_10 (by decide) ?_
  refine lv_iconst (v := 0) S.1 S.2.1 dL_priority_17 (by decide) ?_
  exact hret hw dL_priority_18 rfl rfl

set_option maxHeartbeats 4000000 in
set_option maxRecDepth 100000 in
theorem kL_priority_IA (l : Launch) (D : va_G) (cZ cI cJ : ClassId) (a : Nat → Nat) (σ : sC) (o : Nat) (fo : Nat → Int64) (x y : Int32) (hM : MT l yX0_priority wsX0_priority ({ frames := 7, cells := 1, slots := 6, locals := 110 } : Room) D (tyZ cZ cI) [.ref (a 0), .int x, .int y] (wX cZ cI a σ) eIA) : MB l yL_priority wsL_priority ({ frames := 8, cells := 1, slots := 6, locals := 140 } : Room) D (tyJ cZ cI cJ) [.ref (a 0), .int x, .int y, .ref o] (wX cZ cI a σ ++ wO cJ o fo) 1 := by
  refine MB.of (cc := cL_priority) (maxL := 5) (hh := [(0, 10, 13, 13)]) (by decide) rfl (Nat.le_of_ble_eq_true rfl) ?_
  intro p e s m args below meth c Q S hK hZ hD ht hret ls hl hw
  replace hl : lv_has ls 5 [(0, .ref (a 0)), (1, .int x), (2, .int y), (3, .ref o)] := hl
  replace S : CallFix p m c cL_priority 5 s args wsL_priority RL := S
  refine lv_aload_n S.1 S.2.1 dL_priority_0 rfl (lv_at hl 3 rfl) ?_
  refine lv_iconst (v := nI 0) S.1 S.2.1 dL_priority_1 (by decide) ?_
  refine lv_aload_n S.1 S.2.1 dL_priority_2 rfl (lv_at hl 0 rfl) ?_
  refine lv_iload_n S.1 S.2.1 dL_priority_3 rfl (lv_at hl 1 rfl) ?_
  refine lv_iload_n S.1 S.2.1 dL_priority_4 rfl (lv_at hl 2 rfl) ?_
  refine bl_vx (As := [.int x, .int y]) (rest := [.int (nI 0), .ref o]) S (tyJ_Z hK) hZ hw hD hM (cwV 2 S.2.2.2.2 gL_priority_X0_priority rfl rfl rfl (by decide +kernel) ⟨Nat.le_of_ble_eq_true rfl, Nat.le_of_ble_eq_true rfl⟩) (q0 := 0) rfl rfl rfl hl.1 rfl (Nat.le_of_ble_eq_true rfl) (by decide) (by decide) dL_priority_5 (fun ce q9 H locs hS hce hcv hcf => ?_)
  refine vx_catch (own := RL) (name := eIA) S.2.2.2.1 [] ⟨0, 10, 13, 13⟩ [] ht (fun z hz => nomatch hz) (by decide) (by decide) (S.2.2.2.2 (.classLink RL 13 eIA) (by decide +kernel)) (va_Nw.use rfl (hZ.2.2.2.1 (.castable eIA eIA) (by decide +kernel))) hce hcv hcf ?_
  refine W.eq (g2 := F0 m 13 ls [.ref q9]) rfl ?_
  refine lv_astore (lv' := [(4, .ref q9), (0, .ref (a 0)), (1, .int x), (2, .int y), (3, .ref o)]) S.1 S.2.1 dL_priority_13 hl (by decide) rfl (fun ls hl => ?_)
  refine lv_iconst (v := 1) S.1 S.2.1 dL_priority_15 (by decide) ?_
  exact hret hS dL_priority_16 rfl

set_option maxHeartbeats 4000000 in
set_option maxRecDepth 100000 in
theorem kL_timer (l : Launch) (D : va_G) (cZ cI cJ : ClassId) (a : Nat → Nat) (σ : sC) (o : Nat) (fo : Nat → Int64) {r g : Nat} (hr : r < 4) (hg : g < 3) (ho : ¬ σ 10 (4 * g + r) = 0) : MI l yL_timer wsL_timer ({ frames := 2, cells := 0, slots := 0, locals := 43 } : Room) D (tyJ cZ cI cJ) [.ref (a 0), .int (nI r), .int (nI g), .ref o] (wX cZ cI a σ ++ wO cJ o fo) 0 (wX cZ cI a σ ++ wO cJ o (vp_updL fo 0 ((σ 11 (4 * g + r)).toInt64))) := by
  refine MI.ofH (cc := cL_timer) (maxL := 5) (hh := [(0, 10, 13, 13), (0, 10, 17, 37)]) (by decide) rfl (Nat.le_of_ble_eq_true rfl) ?_
  intro p e s m args below meth c A Q S hK hret ls hl hw
  replace hl : lv_has ls 5 [(0, .ref (a 0)), (1, .int (nI r)), (2, .int (nI g)), (3, .ref o)] := hl
  replace S : CallFix p m c cL_timer 5 s args wsL_timer RL := S
  refine lv_aload_n S.1 S.2.1 dL_timer_0 rfl (lv_at hl 3 rfl) ?_
  refine lv_iconst (v := nI 0) S.1 S.2.1 dL_timer_1 (by decide) ?_
  refine lv_aload_n S.1 S.2.1 dL_timer_2 rfl (lv_at hl 0 rfl) ?_
  refine lv_iload_n S.1 S.2.1 dL_timer_3 rfl (lv_at hl 1 rfl) ?_
  refine lv_iload_n S.1 S.2.1 dL_timer_4 rfl (lv_at hl 2 rfl) ?_
  refine bl_vi (As := [.int (nI r), .int (nI g)]) (rest := [.int (nI 0), .ref o]) S (tyJ_Z hK) hw (kX0_timer l D cZ cI a σ (r := r) (g := g) hr hg ho) (cwV 2 S.2.2.2.2 gL_timer_X0_timer rfl rfl rfl (by decide +kernel) ⟨Nat.le_of_ble_eq_true rfl, Nat.le_of_ble_eq_true rfl⟩) (q0 := 0) rfl rfl rfl hl.1 rfl (Nat.le_of_ble_eq_true rfl) (Nat.zero_le _) (Nat.zero_le _) dL_timer_5 (fun H locs hw => ?_)
  refine lv_i2l (v := (σ 11 (4 * g + r)).toInt64) S.1 S.2.1 dL_timer_8 rfl ?_
  refine bl_last (ws' := wX cZ cI a σ ++ wO cJ o (vp_updL fo 0 ((σ 11 (4 * g + r)).toInt64))) S hK hw 17 2 rfl rfl (by decide) (by decide) rfl dL_timer_9 (fun H locs hw => ?_)
  refine lv_goto (tgt := 21) S.1 S.2.1 dL_timer_10 (by decide) ?_
  refine lv_iconst (v := 0) S.1 S.2.1 dL_timer_21 (by decide) ?_
  exact hret hw dL_timer_22 rfl rfl

set_option maxHeartbeats 4000000 in
set_option maxRecDepth 100000 in
theorem kL_timer_IA (l : Launch) (D : va_G) (cZ cI cJ : ClassId) (a : Nat → Nat) (σ : sC) (o : Nat) (fo : Nat → Int64) (x y : Int32) (hM : MT l yX0_timer wsX0_timer ({ frames := 7, cells := 1, slots := 6, locals := 110 } : Room) D (tyZ cZ cI) [.ref (a 0), .int x, .int y] (wX cZ cI a σ) eIA) : MB l yL_timer wsL_timer ({ frames := 8, cells := 1, slots := 6, locals := 140 } : Room) D (tyJ cZ cI cJ) [.ref (a 0), .int x, .int y, .ref o] (wX cZ cI a σ ++ wO cJ o fo) 1 := by
  refine MB.of (cc := cL_timer) (maxL := 5) (hh := [(0, 10, 13, 13), (0, 10, 17, 37)]) (by decide) rfl (Nat.le_of_ble_eq_true rfl) ?_
  intro p e s m args below meth c Q S hK hZ hD ht hret ls hl hw
  replace hl : lv_has ls 5 [(0, .ref (a 0)), (1, .int x), (2, .int y), (3, .ref o)] := hl
  replace S : CallFix p m c cL_timer 5 s args wsL_timer RL := S
  refine lv_aload_n S.1 S.2.1 dL_timer_0 rfl (lv_at hl 3 rfl) ?_
  refine lv_iconst (v := nI 0) S.1 S.2.1 dL_timer_1 (by decide) ?_
  refine lv_aload_n S.1 S.2.1 dL_timer_2 rfl (lv_at hl 0 rfl) ?_
  refine lv_iload_n S.1 S.2.1 dL_timer_3 rfl (lv_at hl 1 rfl) ?_
  refine lv_iload_n S.1 S.2.1 dL_timer_4 rfl (lv_at hl 2 rfl) ?_
  refine bl_vx (As := [.int x, .int y]) (rest := [.int (nI 0), .ref o]) S (tyJ_Z hK) hZ hw hD hM (cwV 2 S.2.2.2.2 gL_timer_X0_timer rfl rfl rfl (by decide +kernel) ⟨Nat.le_of_ble_eq_true rfl, Nat.le_of_ble_eq_true rfl⟩) (q0 := 0) rfl rfl rfl hl.1 rfl (Nat.le_of_ble_eq_true rfl) (by decide) (by decide) dL_timer_5 (fun ce q9 H locs hS hce hcv hcf => ?_)
  refine vx_catch (own := RL) (name := eIA) S.2.2.2.1 [] ⟨0, 10, 13, 13⟩ [⟨0, 10, 17, 37⟩] ht (fun z hz => nomatch hz) (by decide) (by decide) (S.2.2.2.2 (.classLink RL 13 eIA) (by decide +kernel)) (va_Nw.use rfl (hZ.2.2.2.1 (.castable eIA eIA) (by decide +kernel))) hce hcv hcf ?_
  refine W.eq (g2 := F0 m 13 ls [.ref q9]) rfl ?_
  refine lv_astore (lv' := [(4, .ref q9), (0, .ref (a 0)), (1, .int x), (2, .int y), (3, .ref o)]) S.1 S.2.1 dL_timer_13 hl (by decide) rfl (fun ls hl => ?_)
  refine lv_iconst (v := 1) S.1 S.2.1 dL_timer_15 (by decide) ?_
  exact hret hS dL_timer_16 rfl

set_option maxHeartbeats 4000000 in
set_option maxRecDepth 100000 in
theorem kL_timer_IS (l : Launch) (D : va_G) (cZ cI cJ : ClassId) (a : Nat → Nat) (σ : sC) (o : Nat) (fo : Nat → Int64) (x y : Int32) (hM : MT l yX0_timer wsX0_timer ({ frames := 7, cells := 1, slots := 6, locals := 110 } : Room) D (tyZ cZ cI) [.ref (a 0), .int x, .int y] (wX cZ cI a σ) eIS) : MB l yL_timer wsL_timer ({ frames := 8, cells := 1, slots := 6, locals := 140 } : Room) D (tyJ cZ cI cJ) [.ref (a 0), .int x, .int y, .ref o] (wX cZ cI a σ ++ wO cJ o fo) 2 := by
  refine MB.of (cc := cL_timer) (maxL := 5) (hh := [(0, 10, 13, 13), (0, 10, 17, 37)]) (by decide) rfl (Nat.le_of_ble_eq_true rfl) ?_
  intro p e s m args below meth c Q S hK hZ hD ht hret ls hl hw
  replace hl : lv_has ls 5 [(0, .ref (a 0)), (1, .int x), (2, .int y), (3, .ref o)] := hl
  replace S : CallFix p m c cL_timer 5 s args wsL_timer RL := S
  refine lv_aload_n S.1 S.2.1 dL_timer_0 rfl (lv_at hl 3 rfl) ?_
  refine lv_iconst (v := nI 0) S.1 S.2.1 dL_timer_1 (by decide) ?_
  refine lv_aload_n S.1 S.2.1 dL_timer_2 rfl (lv_at hl 0 rfl) ?_
  refine lv_iload_n S.1 S.2.1 dL_timer_3 rfl (lv_at hl 1 rfl) ?_
  refine lv_iload_n S.1 S.2.1 dL_timer_4 rfl (lv_at hl 2 rfl) ?_
  refine bl_vx (As := [.int x, .int y]) (rest := [.int (nI 0), .ref o]) S (tyJ_Z hK) hZ hw hD hM (cwV 2 S.2.2.2.2 gL_timer_X0_timer rfl rfl rfl (by decide +kernel) ⟨Nat.le_of_ble_eq_true rfl, Nat.le_of_ble_eq_true rfl⟩) (q0 := 0) rfl rfl rfl hl.1 rfl (Nat.le_of_ble_eq_true rfl) (by decide) (by decide) dL_timer_5 (fun ce q9 H locs hS hce hcv hcf => ?_)
  refine vx_catch (own := RL) (name := eIS) S.2.2.2.1 [⟨0, 10, 13, 13⟩] ⟨0, 10, 17, 37⟩ [] ht (fun z hz => by obtain rfl := List.mem_singleton.mp hz; exact Or.inr ⟨by decide, eIA, S.2.2.2.2 (.classLink RL 13 eIA) (by decide +kernel), hZ.2.2.2.2⟩) (by decide) (by decide) (S.2.2.2.2 (.classLink RL 37 eIS) (by decide +kernel)) (va_Nw.use rfl (hZ.2.2.2.1 (.castable eIS eIS) (by decide +kernel))) hce hcv hcf ?_
  refine W.eq (g2 := F0 m 17 ls [.ref q9]) rfl ?_
  refine lv_astore (lv' := [(4, .ref q9), (0, .ref (a 0)), (1, .int x), (2, .int y), (3, .ref o)]) S.1 S.2.1 dL_timer_17 hl (by decide) rfl (fun ls hl => ?_)
  refine lv_iconst (v := 2) S.1 S.2.1 dL_timer_19 (by decide) ?_
  exact hret hS dL_timer_20 rfl

set_option maxHeartbeats 4000000 in
set_option maxRecDepth 100000 in
theorem kL_masters (l : Launch) (D : va_G) (cZ cI cJ : ClassId) (a : Nat → Nat) (σ : sC) (o : Nat) (fo : Nat → Int64) {g : Nat} (hg : g < 3) : MI l yL_masters wsL_masters ({ frames := 3, cells := 0, slots := 0, locals := 66 } : Room) D (tyJ cZ cI cJ) [.ref (a 0), .int (nI g), .ref o] (wX cZ cI a σ ++ wO cJ o fo) 0 (wX cZ cI a σ ++ wO cJ o (vp_updL fo 0 ((memW σ 2 g).toInt64))) := by
  refine MI.ofH (cc := cL_masters) (maxL := 4) (hh := [(0, 9, 12, 13)]) (by decide) rfl (Nat.le_of_ble_eq_true rfl) ?_
  intro p e s m args below meth c A Q S hK hret ls hl hw
  replace hl : lv_has ls 4 [(0, .ref (a 0)), (1, .int (nI g)), (2, .ref o)] := hl
  replace S : CallFix p m c cL_masters 4 s args wsL_masters RL := S
  refine lv_aload_n S.1 S.2.1 dL_masters_0 rfl (lv_at hl 2 rfl) ?_
  refine lv_iconst (v := nI 0) S.1 S.2.1 dL_masters_1 (by decide) ?_
  refine lv_aload_n S.1 S.2.1 dL_masters_2 rfl (lv_at hl 0 rfl) ?_
  refine lv_iload_n S.1 S.2.1 dL_masters_3 rfl (lv_at hl 1 rfl) ?_
  refine bl_vi (As := [.int (nI g)]) (rest := [.int (nI 0), .ref o]) S (tyJ_Z hK) hw (kX0_masters l D cZ cI a σ (g := g) hg) (cwV 1 S.2.2.2.2 gL_masters_X0_masters rfl rfl rfl (by decide +kernel) ⟨Nat.le_of_ble_eq_true rfl, Nat.le_of_ble_eq_true rfl⟩) (q0 := 0) rfl rfl rfl hl.1 rfl (Nat.le_of_ble_eq_true rfl) (Nat.zero_le _) (Nat.zero_le _) dL_masters_4 (fun H locs hw => ?_)
  refine lv_i2l (v := (memW σ 2 g).toInt64) S.1 S.2.1 dL_masters_7 rfl ?_
  refine bl_last (ws' := wX cZ cI a σ ++ wO cJ o (vp_updL fo 0 ((memW σ 2 g).toInt64))) S hK hw 17 2 rfl rfl (by decide) (by decide) rfl dL_masters_8 (fun H locs hw => ?_)
  refine lv_goto (tgt := 15) S.1 S.2.1 dL_masters_9 (by decide) ?_
  refine lv_iconst (v := 0) S.1 S.2.1 dL_masters_15 (by decide) ?_
  exact hret hw dL_masters_16 rfl rfl

set_option maxHeartbeats 4000000 in
set_option maxRecDepth 100000 in
theorem kL_masters_IA (l : Launch) (D : va_G) (cZ cI cJ : ClassId) (a : Nat → Nat) (σ : sC) (o : Nat) (fo : Nat → Int64) (x : Int32) (hM : MT l yX0_masters wsX0_masters ({ frames := 7, cells := 1, slots := 6, locals := 110 } : Room) D (tyZ cZ cI) [.ref (a 0), .int x] (wX cZ cI a σ) eIA) : MB l yL_masters wsL_masters ({ frames := 8, cells := 1, slots := 6, locals := 140 } : Room) D (tyJ cZ cI cJ) [.ref (a 0), .int x, .ref o] (wX cZ cI a σ ++ wO cJ o fo) 1 := by
  refine MB.of (cc := cL_masters) (maxL := 4) (hh := [(0, 9, 12, 13)]) (by decide) rfl (Nat.le_of_ble_eq_true rfl) ?_
  intro p e s m args below meth c Q S hK hZ hD ht hret ls hl hw
  replace hl : lv_has ls 4 [(0, .ref (a 0)), (1, .int x), (2, .ref o)] := hl
  replace S : CallFix p m c cL_masters 4 s args wsL_masters RL := S
  refine lv_aload_n S.1 S.2.1 dL_masters_0 rfl (lv_at hl 2 rfl) ?_
  refine lv_iconst (v := nI 0) S.1 S.2.1 dL_masters_1 (by decide) ?_
  refine lv_aload_n S.1 S.2.1 dL_masters_2 rfl (lv_at hl 0 rfl) ?_
  refine lv_iload_n S.1 S.2.1 dL_masters_3 rfl (lv_at hl 1 rfl) ?_
  refine bl_vx (As := [.int x]) (rest := [.int (nI 0), .ref o]) S (tyJ_Z hK) hZ hw hD hM (cwV 1 S.2.2.2.2 gL_masters_X0_masters rfl rfl rfl (by decide +kernel) ⟨Nat.le_of_ble_eq_true rfl, Nat.le_of_ble_eq_true rfl⟩) (q0 := 0) rfl rfl rfl hl.1 rfl (Nat.le_of_ble_eq_true rfl) (by decide) (by decide) dL_masters_4 (fun ce q9 H locs hS hce hcv hcf => ?_)
  refine vx_catch (own := RL) (name := eIA) S.2.2.2.1 [] ⟨0, 9, 12, 13⟩ [] ht (fun z hz => nomatch hz) (by decide) (by decide) (S.2.2.2.2 (.classLink RL 13 eIA) (by decide +kernel)) (va_Nw.use rfl (hZ.2.2.2.1 (.castable eIA eIA) (by decide +kernel))) hce hcv hcf ?_
  refine W.eq (g2 := F0 m 12 ls [.ref q9]) rfl ?_
  refine lv_astore_n (lv' := [(3, .ref q9), (0, .ref (a 0)), (1, .int x), (2, .ref o)]) S.1 S.2.1 dL_masters_12 rfl hl (by decide) rfl (fun ls hl => ?_)
  refine lv_iconst (v := 1) S.1 S.2.1 dL_masters_13 (by decide) ?_
  exact hret hS dL_masters_14 rfl

set_option maxHeartbeats 4000000 in
set_option maxRecDepth 100000 in
theorem kL_changes (l : Launch) (D : va_G) (cZ cI cJ : ClassId) (a : Nat → Nat) (σ : sC) (o : Nat) (fo : Nat → Int64) {r g : Nat} (hr : r < 4) (hg : g < 3) : MI l yL_changes wsL_changes ({ frames := 2, cells := 0, slots := 0, locals := 43 } : Room) D (tyJ cZ cI cJ) [.ref (a 0), .int (nI r), .int (nI g), .ref o] (wX cZ cI a σ ++ wO cJ o fo) 0 (wX cZ cI a σ ++ wO cJ o (vp_updL fo 0 ((σ 14 (4 * g + r)).toInt64))) := by
  refine MI.ofH (cc := cL_changes) (maxL := 5) (hh := [(0, 10, 13, 13)]) (by decide) rfl (Nat.le_of_ble_eq_true rfl) ?_
  intro p e s m args below meth c A Q S hK hret ls hl hw
  replace hl : lv_has ls 5 [(0, .ref (a 0)), (1, .int (nI r)), (2, .int (nI g)), (3, .ref o)] := hl
  replace S : CallFix p m c cL_changes 5 s args wsL_changes RL := S
  refine lv_aload_n S.1 S.2.1 dL_changes_0 rfl (lv_at hl 3 rfl) ?_
  refine lv_iconst (v := nI 0) S.1 S.2.1 dL_changes_1 (by decide) ?_
  refine lv_aload_n S.1 S.2.1 dL_changes_2 rfl (lv_at hl 0 rfl) ?_
  refine lv_iload_n S.1 S.2.1 dL_changes_3 rfl (lv_at hl 1 rfl) ?_
  refine lv_iload_n S.1 S.2.1 dL_changes_4 rfl (lv_at hl 2 rfl) ?_
  refine bl_vi (As := [.int (nI r), .int (nI g)]) (rest := [.int (nI 0), .ref o]) S (tyJ_Z hK) hw (kX0_changes l D cZ cI a σ (r := r) (g := g) hr hg) (cwV 2 S.2.2.2.2 gL_changes_X0_changes rfl rfl rfl (by decide +kernel) ⟨Nat.le_of_ble_eq_true rfl, Nat.le_of_ble_eq_true rfl⟩) (q0 := 0) rfl rfl rfl hl.1 rfl (Nat.le_of_ble_eq_true rfl) (Nat.zero_le _) (Nat.zero_le _) dL_changes_5 (fun H locs hw => ?_)
  refine lv_i2l (v := (σ 14 (4 * g + r)).toInt64) S.1 S.2.1 dL_changes_8 rfl ?_
  refine bl_last (ws' := wX cZ cI a σ ++ wO cJ o (vp_updL fo 0 ((σ 14 (4 * g + r)).toInt64))) S hK hw 17 2 rfl rfl (by decide) (by decide) rfl dL_changes_9 (fun H locs hw => ?_)
  refine lv_goto (tgt := 17) S.1 S.2.1 dL_changes_10 (by decide) ?_
  refine lv_iconst (v := 0) S.1 S.2.1 dL_changes_17 (by decide) ?_
  exact hret hw dL_changes_18 rfl rfl

set_option maxHeartbeats 4000000 in
set_option maxRecDepth 100000 in
theorem kL_changes_IA (l : Launch) (D : va_G) (cZ cI cJ : ClassId) (a : Nat → Nat) (σ : sC) (o : Nat) (fo : Nat → Int64) (x y : Int32) (hM : MT l yX0_changes wsX0_changes ({ frames := 7, cells := 1, slots := 6, locals := 110 } : Room) D (tyZ cZ cI) [.ref (a 0), .int x, .int y] (wX cZ cI a σ) eIA) : MB l yL_changes wsL_changes ({ frames := 8, cells := 1, slots := 6, locals := 140 } : Room) D (tyJ cZ cI cJ) [.ref (a 0), .int x, .int y, .ref o] (wX cZ cI a σ ++ wO cJ o fo) 1 := by
  refine MB.of (cc := cL_changes) (maxL := 5) (hh := [(0, 10, 13, 13)]) (by decide) rfl (Nat.le_of_ble_eq_true rfl) ?_
  intro p e s m args below meth c Q S hK hZ hD ht hret ls hl hw
  replace hl : lv_has ls 5 [(0, .ref (a 0)), (1, .int x), (2, .int y), (3, .ref o)] := hl
  replace S : CallFix p m c cL_changes 5 s args wsL_changes RL := S
  refine lv_aload_n S.1 S.2.1 dL_changes_0 rfl (lv_at hl 3 rfl) ?_
  refine lv_iconst (v := nI 0) S.1 S.2.1 dL_changes_1 (by decide) ?_
  refine lv_aload_n S.1 S.2.1 dL_changes_2 rfl (lv_at hl 0 rfl) ?_
  refine lv_iload_n S.1 S.2.1 dL_changes_3 rfl (lv_at hl 1 rfl) ?_
  refine lv_iload_n S.1 S.2.1 dL_changes_4 rfl (lv_at hl 2 rfl) ?_
  refine bl_vx (As := [.int x, .int y]) (rest := [.int (nI 0), .ref o]) S (tyJ_Z hK) hZ hw hD hM (cwV 2 S.2.2.2.2 gL_changes_X0_changes rfl rfl rfl (by decide +kernel) ⟨Nat.le_of_ble_eq_true rfl, Nat.le_of_ble_eq_true rfl⟩) (q0 := 0) rfl rfl rfl hl.1 rfl (Nat.le_of_ble_eq_true rfl) (by decide) (by decide) dL_changes_5 (fun ce q9 H locs hS hce hcv hcf => ?_)
  refine vx_catch (own := RL) (name := eIA) S.2.2.2.1 [] ⟨0, 10, 13, 13⟩ [] ht (fun z hz => nomatch hz) (by decide) (by decide) (S.2.2.2.2 (.classLink RL 13 eIA) (by decide +kernel)) (va_Nw.use rfl (hZ.2.2.2.1 (.castable eIA eIA) (by decide +kernel))) hce hcv hcf ?_
  refine W.eq (g2 := F0 m 13 ls [.ref q9]) rfl ?_
  refine lv_astore (lv' := [(4, .ref q9), (0, .ref (a 0)), (1, .int x), (2, .int y), (3, .ref o)]) S.1 S.2.1 dL_changes_13 hl (by decide) rfl (fun ls hl => ?_)
  refine lv_iconst (v := 1) S.1 S.2.1 dL_changes_15 (by decide) ?_
  exact hret hS dL_changes_16 rfl

set_option maxHeartbeats 4000000 in
set_option maxRecDepth 100000 in
theorem kL_gaps (l : Launch) (D : va_G) (cZ cI cJ : ClassId) (a : Nat → Nat) (σ : sC) (o : Nat) (fo : Nat → Int64) {g : Nat} (hg : g < 3) : MI l yL_gaps wsL_gaps ({ frames := 2, cells := 0, slots := 0, locals := 41 } : Room) D (tyJ cZ cI cJ) [.ref (a 0), .int (nI g), .ref o] (wX cZ cI a σ ++ wO cJ o fo) 0 (wX cZ cI a σ ++ wO cJ o (vp_updL fo 0 ((σ 7 g).toInt64))) := by
  refine MI.ofH (cc := cL_gaps) (maxL := 4) (hh := [(0, 9, 12, 13)]) (by decide) rfl (Nat.le_of_ble_eq_true rfl) ?_
  intro p e s m args below meth c A Q S hK hret ls hl hw
  replace hl : lv_has ls 4 [(0, .ref (a 0)), (1, .int (nI g)), (2, .ref o)] := hl
  replace S : CallFix p m c cL_gaps 4 s args wsL_gaps RL := S
  refine lv_aload_n S.1 S.2.1 dL_gaps_0 rfl (lv_at hl 2 rfl) ?_
  refine lv_iconst (v := nI 0) S.1 S.2.1 dL_gaps_1 (by decide) ?_
  refine lv_aload_n S.1 S.2.1 dL_gaps_2 rfl (lv_at hl 0 rfl) ?_
  refine lv_iload_n S.1 S.2.1 dL_gaps_3 rfl (lv_at hl 1 rfl) ?_
  refine bl_vi (As := [.int (nI g)]) (rest := [.int (nI 0), .ref o]) S (tyJ_Z hK) hw (kX0_gaps l D cZ cI a σ (g := g) hg) (cwV 1 S.2.2.2.2 gL_gaps_X0_gaps rfl rfl rfl (by decide +kernel) ⟨Nat.le_of_ble_eq_true rfl, Nat.le_of_ble_eq_true rfl⟩) (q0 := 0) rfl rfl rfl hl.1 rfl (Nat.le_of_ble_eq_true rfl) (Nat.zero_le _) (Nat.zero_le _) dL_gaps_4 (fun H locs hw => ?_)
  refine lv_i2l (v := (σ 7 g).toInt64) S.1 S.2.1 dL_gaps_7 rfl ?_
  refine bl_last (ws' := wX cZ cI a σ ++ wO cJ o (vp_updL fo 0 ((σ 7 g).toInt64))) S hK hw 17 2 rfl rfl (by decide) (by decide) rfl dL_gaps_8 (fun H locs hw => ?_)
  refine lv_goto (tgt := 15) S.1 S.2.1 dL_gaps_9 (by decide) ?_
  refine lv_iconst (v := 0) S.1 S.2.1 dL_gaps_15 (by decide) ?_
  exact hret hw dL_gaps_16 rfl rfl

set_option maxHeartbeats 4000000 in
set_option maxRecDepth 100000 in
theorem kL_gaps_IA (l : Launch) (D : va_G) (cZ cI cJ : ClassId) (a : Nat → Nat) (σ : sC) (o : Nat) (fo : Nat → Int64) (x : Int32) (hM : MT l yX0_gaps wsX0_gaps ({ frames := 7, cells := 1, slots := 6, locals := 110 } : Room) D (tyZ cZ cI) [.ref (a 0), .int x] (wX cZ cI a σ) eIA) : MB l yL_gaps wsL_gaps ({ frames := 8, cells := 1, slots := 6, locals := 140 } : Room) D (tyJ cZ cI cJ) [.ref (a 0), .int x, .ref o] (wX cZ cI a σ ++ wO cJ o fo) 1 := by
  refine MB.of (cc := cL_gaps) (maxL := 4) (hh := [(0, 9, 12, 13)]) (by decide) rfl (Nat.le_of_ble_eq_true rfl) ?_
  intro p e s m args below meth c Q S hK hZ hD ht hret ls hl hw
  replace hl : lv_has ls 4 [(0, .ref (a 0)), (1, .int x), (2, .ref o)] := hl
  replace S : CallFix p m c cL_gaps 4 s args wsL_gaps RL := S
  refine lv_aload_n S.1 S.2.1 dL_gaps_0 rfl (lv_at hl 2 rfl) ?_
  refine lv_iconst (v := nI 0) S.1 S.2.1 dL_gaps_1 (by decide) ?_
  refine lv_aload_n S.1 S.2.1 dL_gaps_2 rfl (lv_at hl 0 rfl) ?_
  refine lv_iload_n S.1 S.2.1 dL_gaps_3 rfl (lv_at hl 1 rfl) ?_
  refine bl_vx (As := [.int x]) (rest := [.int (nI 0), .ref o]) S (tyJ_Z hK) hZ hw hD hM (cwV 1 S.2.2.2.2 gL_gaps_X0_gaps rfl rfl rfl (by decide +kernel) ⟨Nat.le_of_ble_eq_true rfl, Nat.le_of_ble_eq_true rfl⟩) (q0 := 0) rfl rfl rfl hl.1 rfl (Nat.le_of_ble_eq_true rfl) (by decide) (by decide) dL_gaps_4 (fun ce q9 H locs hS hce hcv hcf => ?_)
  refine vx_catch (own := RL) (name := eIA) S.2.2.2.1 [] ⟨0, 9, 12, 13⟩ [] ht (fun z hz => nomatch hz) (by decide) (by decide) (S.2.2.2.2 (.classLink RL 13 eIA) (by decide +kernel)) (va_Nw.use rfl (hZ.2.2.2.1 (.castable eIA eIA) (by decide +kernel))) hce hcv hcf ?_
  refine W.eq (g2 := F0 m 12 ls [.ref q9]) rfl ?_
  refine lv_astore_n (lv' := [(3, .ref q9), (0, .ref (a 0)), (1, .int x), (2, .ref o)]) S.1 S.2.1 dL_gaps_12 rfl hl (by decide) rfl (fun ls hl => ?_)
  refine lv_iconst (v := 1) S.1 S.2.1 dL_gaps_13 (by decide) ?_
  exact hret hS dL_gaps_14 rfl

set_option maxHeartbeats 4000000 in
set_option maxRecDepth 100000 in
theorem kL_sent (l : Launch) (D : va_G) (cZ cI cJ : ClassId) (a : Nat → Nat) (σ : sC) (o : Nat) (fo : Nat → Int64) {g : Nat} (hg : g < 3) : MI l yL_sent wsL_sent ({ frames := 2, cells := 0, slots := 0, locals := 41 } : Room) D (tyJ cZ cI cJ) [.ref (a 0), .int (nI g), .ref o] (wX cZ cI a σ ++ wO cJ o fo) 0 (wX cZ cI a σ ++ wO cJ o (vp_updL fo 0 ((σ 8 g).toInt64))) := by
  refine MI.ofH (cc := cL_sent) (maxL := 4) (hh := [(0, 9, 12, 13)]) (by decide) rfl (Nat.le_of_ble_eq_true rfl) ?_
  intro p e s m args below meth c A Q S hK hret ls hl hw
  replace hl : lv_has ls 4 [(0, .ref (a 0)), (1, .int (nI g)), (2, .ref o)] := hl
  replace S : CallFix p m c cL_sent 4 s args wsL_sent RL := S
  refine lv_aload_n S.1 S.2.1 dL_sent_0 rfl (lv_at hl 2 rfl) ?_
  refine lv_iconst (v := nI 0) S.1 S.2.1 dL_sent_1 (by decide) ?_
  refine lv_aload_n S.1 S.2.1 dL_sent_2 rfl (lv_at hl 0 rfl) ?_
  refine lv_iload_n S.1 S.2.1 dL_sent_3 rfl (lv_at hl 1 rfl) ?_
  refine bl_vi (As := [.int (nI g)]) (rest := [.int (nI 0), .ref o]) S (tyJ_Z hK) hw (kX0_sent l D cZ cI a σ (g := g) hg) (cwV 1 S.2.2.2.2 gL_sent_X0_sent rfl rfl rfl (by decide +kernel) ⟨Nat.le_of_ble_eq_true rfl, Nat.le_of_ble_eq_true rfl⟩) (q0 := 0) rfl rfl rfl hl.1 rfl (Nat.le_of_ble_eq_true rfl) (Nat.zero_le _) (Nat.zero_le _) dL_sent_4 (fun H locs hw => ?_)
  refine lv_i2l (v := (σ 8 g).toInt64) S.1 S.2.1 dL_sent_7 rfl ?_
  refine bl_last (ws' := wX cZ cI a σ ++ wO cJ o (vp_updL fo 0 ((σ 8 g).toInt64))) S hK hw 17 2 rfl rfl (by decide) (by decide) rfl dL_sent_8 (fun H locs hw => ?_)
  refine lv_goto (tgt := 15) S.1 S.2.1 dL_sent_9 (by decide) ?_
  refine lv_iconst (v := 0) S.1 S.2.1 dL_sent_15 (by decide) ?_
  exact hret hw dL_sent_16 rfl rfl

set_option maxHeartbeats 4000000 in
set_option maxRecDepth 100000 in
theorem kL_sent_IA (l : Launch) (D : va_G) (cZ cI cJ : ClassId) (a : Nat → Nat) (σ : sC) (o : Nat) (fo : Nat → Int64) (x : Int32) (hM : MT l yX0_sent wsX0_sent ({ frames := 7, cells := 1, slots := 6, locals := 110 } : Room) D (tyZ cZ cI) [.ref (a 0), .int x] (wX cZ cI a σ) eIA) : MB l yL_sent wsL_sent ({ frames := 8, cells := 1, slots := 6, locals := 140 } : Room) D (tyJ cZ cI cJ) [.ref (a 0), .int x, .ref o] (wX cZ cI a σ ++ wO cJ o fo) 1 := by
  refine MB.of (cc := cL_sent) (maxL := 4) (hh := [(0, 9, 12, 13)]) (by decide) rfl (Nat.le_of_ble_eq_true rfl) ?_
  intro p e s m args below meth c Q S hK hZ hD ht hret ls hl hw
  replace hl : lv_has ls 4 [(0, .ref (a 0)), (1, .int x), (2, .ref o)] := hl
  replace S : CallFix p m c cL_sent 4 s args wsL_sent RL := S
  refine lv_aload_n S.1 S.2.1 dL_sent_0 rfl (lv_at hl 2 rfl) ?_
  refine lv_iconst (v := nI 0) S.1 S.2.1 dL_sent_1 (by decide) ?_
  refine lv_aload_n S.1 S.2.1 dL_sent_2 rfl (lv_at hl 0 rfl) ?_
  refine lv_iload_n S.1 S.2.1 dL_sent_3 rfl (lv_at hl 1 rfl) ?_
  refine bl_vx (As := [.int x]) (rest := [.int (nI 0), .ref o]) S (tyJ_Z hK) hZ hw hD hM (cwV 1 S.2.2.2.2 gL_sent_X0_sent rfl rfl rfl (by decide +kernel) ⟨Nat.le_of_ble_eq_true rfl, Nat.le_of_ble_eq_true rfl⟩) (q0 := 0) rfl rfl rfl hl.1 rfl (Nat.le_of_ble_eq_true rfl) (by decide) (by decide) dL_sent_4 (fun ce q9 H locs hS hce hcv hcf => ?_)
  refine vx_catch (own := RL) (name := eIA) S.2.2.2.1 [] ⟨0, 9, 12, 13⟩ [] ht (fun z hz => nomatch hz) (by decide) (by decide) (S.2.2.2.2 (.classLink RL 13 eIA) (by decide +kernel)) (va_Nw.use rfl (hZ.2.2.2.1 (.castable eIA eIA) (by decide +kernel))) hce hcv hcf ?_
  refine W.eq (g2 := F0 m 12 ls [.ref q9]) rfl ?_
  refine lv_astore_n (lv' := [(3, .ref q9), (0, .ref (a 0)), (1, .int x), (2, .ref o)]) S.1 S.2.1 dL_sent_12 rfl hl (by decide) rfl (fun ls hl => ?_)
  refine lv_iconst (v := 1) S.1 S.2.1 dL_sent_13 (by decide) ?_
  exact hret hS dL_sent_14 rfl

set_option maxHeartbeats 4000000 in
set_option maxRecDepth 100000 in
theorem kL_known (l : Launch) (D : va_G) (cZ cI cJ : ClassId) (a : Nat → Nat) (σ : sC) (o : Nat) (fo : Nat → Int64) {r g : Nat} (hr : r < 4) (hg : g < 3) : MI l yL_known wsL_known ({ frames := 2, cells := 0, slots := 0, locals := 43 } : Room) D (tyJ cZ cI cJ) [.ref (a 0), .int (nI r), .int (nI g), .ref o] (wX cZ cI a σ ++ wO cJ o fo) 0 (wX cZ cI a σ ++ wO cJ o (vp_updL fo 0 ((σ 13 (4 * g + r)).toInt64))) := by
  refine MI.ofH (cc := cL_known) (maxL := 5) (hh := [(0, 10, 13, 13)]) (by decide) rfl (Nat.le_of_ble_eq_true rfl) ?_
  intro p e s m args below meth c A Q S hK hret ls hl hw
  replace hl : lv_has ls 5 [(0, .ref (a 0)), (1, .int (nI r)), (2, .int (nI g)), (3, .ref o)] := hl
  replace S : CallFix p m c cL_known 5 s args wsL_known RL := S
  refine lv_aload_n S.1 S.2.1 dL_known_0 rfl (lv_at hl 3 rfl) ?_
  refine lv_iconst (v := nI 0) S.1 S.2.1 dL_known_1 (by decide) ?_
  refine lv_aload_n S.1 S.2.1 dL_known_2 rfl (lv_at hl 0 rfl) ?_
  refine lv_iload_n S.1 S.2.1 dL_known_3 rfl (lv_at hl 1 rfl) ?_
  refine lv_iload_n S.1 S.2.1 dL_known_4 rfl (lv_at hl 2 rfl) ?_
  refine bl_vi (As := [.int (nI r), .int (nI g)]) (rest := [.int (nI 0), .ref o]) S (tyJ_Z hK) hw (kX0_known l D cZ cI a σ (r := r) (g := g) hr hg) (cwV 2 S.2.2.2.2 gL_known_X0_known rfl rfl rfl (by decide +kernel) ⟨Nat.le_of_ble_eq_true rfl, Nat.le_of_ble_eq_true rfl⟩) (q0 := 0) rfl rfl rfl hl.1 rfl (Nat.le_of_ble_eq_true rfl) (Nat.zero_le _) (Nat.zero_le _) dL_known_5 (fun H locs hw => ?_)
  refine lv_i2l (v := (σ 13 (4 * g + r)).toInt64) S.1 S.2.1 dL_known_8 rfl ?_
  refine bl_last (ws' := wX cZ cI a σ ++ wO cJ o (vp_updL fo 0 ((σ 13 (4 * g + r)).toInt64))) S hK hw 17 2 rfl rfl (by decide) (by decide) rfl dL_known_9 (fun H locs hw => ?_)
  refine lv_goto (tgt := 17) S.1 S.2.1 dL_known_10 (by decide) ?_
  refine lv_iconst (v := 0) S.1 S.2.1 dL_known_17 (by decide) ?_
  exact hret hw dL_known_18 rfl rfl

set_option maxHeartbeats 4000000 in
set_option maxRecDepth 100000 in
theorem kL_known_IA (l : Launch) (D : va_G) (cZ cI cJ : ClassId) (a : Nat → Nat) (σ : sC) (o : Nat) (fo : Nat → Int64) (x y : Int32) (hM : MT l yX0_known wsX0_known ({ frames := 7, cells := 1, slots := 6, locals := 110 } : Room) D (tyZ cZ cI) [.ref (a 0), .int x, .int y] (wX cZ cI a σ) eIA) : MB l yL_known wsL_known ({ frames := 8, cells := 1, slots := 6, locals := 140 } : Room) D (tyJ cZ cI cJ) [.ref (a 0), .int x, .int y, .ref o] (wX cZ cI a σ ++ wO cJ o fo) 1 := by
  refine MB.of (cc := cL_known) (maxL := 5) (hh := [(0, 10, 13, 13)]) (by decide) rfl (Nat.le_of_ble_eq_true rfl) ?_
  intro p e s m args below meth c Q S hK hZ hD ht hret ls hl hw
  replace hl : lv_has ls 5 [(0, .ref (a 0)), (1, .int x), (2, .int y), (3, .ref o)] := hl
  replace S : CallFix p m c cL_known 5 s args wsL_known RL := S
  refine lv_aload_n S.1 S.2.1 dL_known_0 rfl (lv_at hl 3 rfl) ?_
  refine lv_iconst (v := nI 0) S.1 S.2.1 dL_known_1 (by decide) ?_
  refine lv_aload_n S.1 S.2.1 dL_known_2 rfl (lv_at hl 0 rfl) ?_
  refine lv_iload_n S.1 S.2.1 dL_known_3 rfl (lv_at hl 1 rfl) ?_
  refine lv_iload_n S.1 S.2.1 dL_known_4 rfl (lv_at hl 2 rfl) ?_
  refine bl_vx (As := [.int x, .int y]) (rest := [.int (nI 0), .ref o]) S (tyJ_Z hK) hZ hw hD hM (cwV 2 S.2.2.2.2 gL_known_X0_known rfl rfl rfl (by decide +kernel) ⟨Nat.le_of_ble_eq_true rfl, Nat.le_of_ble_eq_true rfl⟩) (q0 := 0) rfl rfl rfl hl.1 rfl (Nat.le_of_ble_eq_true rfl) (by decide) (by decide) dL_known_5 (fun ce q9 H locs hS hce hcv hcf => ?_)
  refine vx_catch (own := RL) (name := eIA) S.2.2.2.1 [] ⟨0, 10, 13, 13⟩ [] ht (fun z hz => nomatch hz) (by decide) (by decide) (S.2.2.2.2 (.classLink RL 13 eIA) (by decide +kernel)) (va_Nw.use rfl (hZ.2.2.2.1 (.castable eIA eIA) (by decide +kernel))) hce hcv hcf ?_
  refine W.eq (g2 := F0 m 13 ls [.ref q9]) rfl ?_
  refine lv_astore (lv' := [(4, .ref q9), (0, .ref (a 0)), (1, .int x), (2, .int y), (3, .ref o)]) S.1 S.2.1 dL_known_13 hl (by decide) rfl (fun ls hl => ?_)
  refine lv_iconst (v := 1) S.1 S.2.1 dL_known_15 (by decide) ?_
  exact hret hS dL_known_16 rfl

set_option maxHeartbeats 4000000 in
set_option maxRecDepth 100000 in
theorem kL_isSettled (l : Launch) (D : va_G) (cZ cI cJ : ClassId) (a : Nat → Nat) (σ : sC) (o : Nat) (fo : Nat → Int64) {g : Nat} (hg : g < 3) : MI l yL_isSettled wsL_isSettled ({ frames := 3, cells := 0, slots := 0, locals := 66 } : Room) D (tyJ cZ cI cJ) [.ref (a 0), .int (nI g), .ref o] (wX cZ cI a σ ++ wO cJ o fo) 0 (wX cZ cI a σ ++ wO cJ o (vp_updL fo 0 (zL (setlF σ g)))) := by
  refine MI.ofH (cc := cL_isSettled) (maxL := 4) (hh := [(0, 16, 19, 13)]) (by decide) rfl (Nat.le_of_ble_eq_true rfl) ?_
  intro p e s m args below meth c A Q S hK hret ls hl hw
  replace hl : lv_has ls 4 [(0, .ref (a 0)), (1, .int (nI g)), (2, .ref o)] := hl
  replace S : CallFix p m c cL_isSettled 4 s args wsL_isSettled RL := S
  refine lv_aload_n S.1 S.2.1 dL_isSettled_0 rfl (lv_at hl 2 rfl) ?_
  refine lv_iconst (v := nI 0) S.1 S.2.1 dL_isSettled_1 (by decide) ?_
  refine lv_aload_n S.1 S.2.1 dL_isSettled_2 rfl (lv_at hl 0 rfl) ?_
  refine lv_iload_n S.1 S.2.1 dL_isSettled_3 rfl (lv_at hl 1 rfl) ?_
  refine bl_vi (As := [.int (nI g)]) (rest := [.int (nI 0), .ref o]) S (tyJ_Z hK) hw (kX0_isSettled l D cZ cI a σ (g := g) hg) (cwV 1 S.2.2.2.2 gL_isSettled_X0_isSettled rfl rfl rfl (by decide +kernel) ⟨Nat.le_of_ble_eq_true rfl, Nat.le_of_ble_eq_true rfl⟩) (q0 := 0) rfl rfl rfl hl.1 rfl (Nat.le_of_ble_eq_true rfl) (Nat.zero_le _) (Nat.zero_le _) dL_isSettled_4 (fun H locs hw => ?_)
  refine bz_eq (tgt := 14) S dL_isSettled_7 (by decide) (fun c9 => ?_) (fun c9 => ?_)
  · refine lv_lconst (v := 0) S.1 S.2.1 dL_isSettled_14 (by decide) ?_
    refine bl_last (ws' := wX cZ cI a σ ++ wO cJ o (vp_updL fo 0 0)) S hK hw 17 2 rfl rfl (by decide) (by decide) rfl dL_isSettled_15 (fun H locs hw => ?_)
    refine lv_goto (tgt := 22) S.1 S.2.1 dL_isSettled_16 (by decide) ?_
    refine lv_iconst (v := 0) S.1 S.2.1 dL_isSettled_22 (by decide) ?_
    exact hret hw dL_isSettled_23 rfl (by unfold zL; rw [if_pos c9])
  · refine lv_lconst (v := 1) S.1 S.2.1 dL_isSettled_10 (by decide) ?_
    refine lv_goto (tgt := 15) S.1 S.2.1 dL_isSettled_11 (by decide) ?_
    refine bl_last (ws' := wX cZ cI a σ ++ wO cJ o (vp_updL fo 0 1)) S hK hw 17 2 rfl rfl (by decide) (by decide) rfl dL_isSettled_15 (fun H locs hw => ?_)
    refine lv_goto (tgt := 22) S.1 S.2.1 dL_isSettled_16 (by decide) ?_
    refine lv_iconst (v := 0) S.1 S.2.1 dL_isSettled_22 (by decide) ?_
    exact hret hw dL_isSettled_23 rfl (by unfold zL; rw [if_neg c9])

set_option maxHeartbeats 4000000 in
set_option maxRecDepth 100000 in
theorem kL_isSettled_IA (l : Launch) (D : va_G) (cZ cI cJ : ClassId) (a : Nat → Nat) (σ : sC) (o : Nat) (fo : Nat → Int64) (x : Int32) (hM : MT l yX0_isSettled wsX0_isSettled ({ frames := 7, cells := 1, slots := 6, locals := 110 } : Room) D (tyZ cZ cI) [.ref (a 0), .int x] (wX cZ cI a σ) eIA) : MB l yL_isSettled wsL_isSettled ({ frames := 8, cells := 1, slots := 6, locals := 140 } : Room) D (tyJ cZ cI cJ) [.ref (a 0), .int x, .ref o] (wX cZ cI a σ ++ wO cJ o fo) 1 := by
  refine MB.of (cc := cL_isSettled) (maxL := 4) (hh := [(0, 16, 19, 13)]) (by decide) rfl (Nat.le_of_ble_eq_true rfl) ?_
  intro p e s m args below meth c Q S hK hZ hD ht hret ls hl hw
  replace hl : lv_has ls 4 [(0, .ref (a 0)), (1, .int x), (2, .ref o)] := hl
  replace S : CallFix p m c cL_isSettled 4 s args wsL_isSettled RL := S
  refine lv_aload_n S.1 S.2.1 dL_isSettled_0 rfl (lv_at hl 2 rfl) ?_
  refine lv_iconst (v := nI 0) S.1 S.2.1 dL_isSettled_1 (by decide) ?_
  refine lv_aload_n S.1 S.2.1 dL_isSettled_2 rfl (lv_at hl 0 rfl) ?_
  refine lv_iload_n S.1 S.2.1 dL_isSettled_3 rfl (lv_at hl 1 rfl) ?_
  refine bl_vx (As := [.int x]) (rest := [.int (nI 0), .ref o]) S (tyJ_Z hK) hZ hw hD hM (cwV 1 S.2.2.2.2 gL_isSettled_X0_isSettled rfl rfl rfl (by decide +kernel) ⟨Nat.le_of_ble_eq_true rfl, Nat.le_of_ble_eq_true rfl⟩) (q0 := 0) rfl rfl rfl hl.1 rfl (Nat.le_of_ble_eq_true rfl) (by decide) (by decide) dL_isSettled_4 (fun ce q9 H locs hS hce hcv hcf => ?_)
  refine vx_catch (own := RL) (name := eIA) S.2.2.2.1 [] ⟨0, 16, 19, 13⟩ [] ht (fun z hz => nomatch hz) (by decide) (by decide) (S.2.2.2.2 (.classLink RL 13 eIA) (by decide +kernel)) (va_Nw.use rfl (hZ.2.2.2.1 (.castable eIA eIA) (by decide +kernel))) hce hcv hcf ?_
  refine W.eq (g2 := F0 m 19 ls [.ref q9]) rfl ?_
  refine lv_astore_n (lv' := [(3, .ref q9), (0, .ref (a 0)), (1, .int x), (2, .ref o)]) S.1 S.2.1 dL_isSettled_19 rfl hl (by decide) rfl (fun ls hl => ?_)
  refine lv_iconst (v := 1) S.1 S.2.1 dL_isSettled_20 (by decide) ?_
  exact hret hS dL_isSettled_21 rfl
