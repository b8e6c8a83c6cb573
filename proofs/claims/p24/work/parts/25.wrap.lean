/-! ===== the law's small methods: low, cell, and the two wrappers that catch ===== -/
def lowF (v n : Int32) : Int32 := (v &&& 2147483647) - (v &&& 2147483647) / n * n
set_option maxHeartbeats 4000000 in
set_option maxRecDepth 100000 in
theorem kL_low (l : Launch) (D : va_G) (tys : List (ClassId × FieldType)) (v n : Int32) (hn : ¬ n = 0) : MI l yL_low wsL_low ({ frames := 0, cells := 0, slots := 0, locals := 0 } : Room) D tys [.int v, .int n] [] (lowF v n) [] := by
  refine MI.of (cc := cL_low) (maxL := 2) (ty := .int) (by decide) rfl rfl ⟨rfl, rfl⟩ (Nat.le_of_ble_eq_true rfl) ?_
  intro p e s m args below meth c A Q S hK hret ls hl hw
  replace hl : lv_has ls 2 [(0, .int v), (1, .int n)] := hl
  replace S : CallFix p m c cL_low 2 s args wsL_low RL := S
  refine lv_iload_n S.1 S.2.1 dL_low_0 rfl (lv_at hl 0 rfl) ?_
  refine lv_ldc S.1 S.2.1 S.2.2.2.1 (S.2.2.2.2 (.constant RL 7 2147483647) (by decide +kernel)) dL_low_1 ?_
  refine lv_iand S.1 S.2.1 dL_low_3 ?_
  refine lv_iload_n S.1 S.2.1 dL_low_4 rfl (lv_at hl 1 rfl) ?_
  refine lv_irem S.1 S.2.1 dL_low_5 hn ?_
  exact hret hw dL_low_6 rfl rfl
set_option maxHeartbeats 4000000 in
set_option maxRecDepth 100000 in
theorem kL_cell (l : Launch) {bs L : Nat} {xs : Nat → Int32} {i : Nat} (hi : i < L) (hL : L < 100) : MX l yL_cell wsL_cell ({ frames := 0, cells := 0, slots := 0, locals := 0 } : Room) bs L xs (nI i) (xs i) := by
  intro sz
  refine Met.ofW (cc := cL_cell) (maxL := 2) (ret := some .int) (by decide) rfl ?_
  intro p e s m args below meth c s₁ B hml hv
  obtain ⟨rfl, hsz, hX, hb⟩ := hv
  subst hsz
  have hlocks := B.notSynchronized
  have hroom : (headSpec wsL_cell ({ frames := 0, cells := 0, slots := 0, locals := 0 } : Room)).room = ({ frames := 0, cells := 0, slots := 0, locals := 0 } : Room) := rfl
  rw [hroom, lg_entry_eq]
  have hl := lv_entry ([.ref bs, .int (nI i)]) (n := 2) (Nat.le_of_ble_eq_true rfl)
  generalize (lg_sl ([.ref bs, .int (nI i)]) ++ List.replicate (2 - (lg_sl ([.ref bs, .int (nI i)])).length) Slot.unset).toArray = ls at hl ⊢
  replace hl : lv_has ls 2 [(0, .ref bs), (1, .int (nI i))] := hl
  have hS : va_S (fun q => s.heap.size ≤ q) s.heap s.heap [] := va_S.rf
  have hbA : ¬ (fun q => s.heap.size ≤ q) bs := Nat.not_le.mpr hb
  refine lv_iload_n B.exec B.bytes dL_cell_0 rfl (lv_at hl 1 rfl) ?_
  refine lv_aload_n B.exec B.bytes dL_cell_1 rfl (lv_at hl 0 rfl) ?_
  refine va_slen B.exec B.bytes hX hb hbA hS dL_cell_2 ?_
  refine lv_icmp_ge (tgt := 12) B.exec B.bytes dL_cell_3 (by decide) (fun c3 => ?_) (fun c3 => ?_)
  · exact absurd (lt_nI hi hL) (Int32.not_lt.mpr c3)
  · refine lv_aload_n B.exec B.bytes dL_cell_6 rfl (lv_at hl 0 rfl) ?_
    refine lv_iload_n B.exec B.bytes dL_cell_7 rfl (lv_at hl 1 rfl) ?_
    refine va_sld B.exec B.bytes hX hb hbA hS (vp_in_nI hi (by omega)) dL_cell_8 ?_
    rw [nI_clamp (by omega)]
    refine lv_goto (tgt := 27) B.exec B.bytes dL_cell_9 (by decide) ?_
    exact W.zret (v := xs i) (ty := .int) B.exec B.bytes B.returns rfl (fun t ht hW => ⟨⟨xs i, (), rfl, rfl, trivial⟩, hS.F ht⟩) hS.2.2 dL_cell_27
set_option maxHeartbeats 4000000 in
set_option maxRecDepth 100000 in
theorem kL_timer_IS (l : Launch) (D : va_G) (cZ cI : ClassId) (a : Nat → Nat) (σ : sC) (x y : Int32) (hM : MT l yX0_timer wsX0_timer ({ frames := 7, cells := 1, slots := 6, locals := 110 } : Room) D (tyZ cZ cI) [.ref (a 0), .int x, .int y] (wX cZ cI a σ) eIS) : MB l yL_timer wsL_timer ({ frames := 8, cells := 1, slots := 6, locals := 140 } : Room) D (tyZ cZ cI) [.ref (a 0), .int x, .int y] (wX cZ cI a σ) (-1) := by
  refine MB.of (cc := cL_timer) (maxL := 4) (hh := [(0, 6, 7, 14), (0, 6, 11, 39)]) (by decide) rfl (Nat.le_of_ble_eq_true rfl) ?_
  intro p e s m args below meth c Q S hK hZ hD ht hret ls hl hw
  replace hl : lv_has ls 4 [(0, .ref (a 0)), (1, .int x), (2, .int y)] := hl
  replace S : CallFix p m c cL_timer 4 s args wsL_timer RL := S
  refine lv_aload_n S.1 S.2.1 dL_timer_0 rfl (lv_at hl 0 rfl) ?_
  refine lv_iload_n S.1 S.2.1 dL_timer_1 rfl (lv_at hl 1 rfl) ?_
  refine lv_iload_n S.1 S.2.1 dL_timer_2 rfl (lv_at hl 2 rfl) ?_
  refine bl_vx (As := [.int x, .int y]) (rest := []) S hK hZ hw hD hM (cwV 2 S.2.2.2.2 gL_timer_X0_timer rfl rfl rfl (by decide +kernel) ⟨Nat.le_of_ble_eq_true rfl, Nat.le_of_ble_eq_true rfl⟩) (q0 := 0) rfl rfl rfl hl.1 rfl (Nat.le_of_ble_eq_true rfl) (by decide) (by decide) dL_timer_3 (fun ce q9 H locs hg hS hce hcv hcf => ?_)
  refine vx_catch (own := RL) (name := eIS) S.2.2.2.1 [⟨0, 6, 7, 14⟩] ⟨0, 6, 11, 39⟩ [] ht (fun z hz => by obtain rfl := List.mem_singleton.mp hz; exact Or.inr ⟨by decide, eIA, S.2.2.2.2 (.classLink RL 14 eIA) (by decide +kernel), hZ.2.2.2.2⟩) (by decide) (by decide) (S.2.2.2.2 (.classLink RL 39 eIS) (by decide +kernel)) (va_Nw.use rfl (hZ.2.2.2.1 (.castable eIS eIS) (by decide +kernel))) hce hcv hcf ?_
  refine W.eq (g2 := F0 m 11 ls [.ref q9]) rfl ?_
  refine lv_astore_n (lv' := [(3, .ref q9), (0, .ref (a 0)), (1, .int x), (2, .int y)]) S.1 S.2.1 dL_timer_11 rfl hl (by decide) rfl (fun ls hl => ?_)
  refine lv_iconst (v := -1) S.1 S.2.1 dL_timer_12 (by decide) ?_
  exact hret hS hg dL_timer_13 rfl
set_option maxHeartbeats 4000000 in
set_option maxRecDepth 100000 in
theorem kL_die_IA (l : Launch) (D : va_G) (cZ cI : ClassId) (a : Nat → Nat) (σ : sC) (x : Int32) (hM : MT l yX0_die wsX0_die ({ frames := 7, cells := 1, slots := 6, locals := 110 } : Room) D (tyZ cZ cI) [.ref (a 0), .int x] (wX cZ cI a σ) eIA) : MB l yL_die wsL_die ({ frames := 8, cells := 1, slots := 6, locals := 140 } : Room) D (tyZ cZ cI) [.ref (a 0), .int x] (wX cZ cI a σ) (-99999) := by
  refine MB.of (cc := cL_die) (maxL := 3) (hh := [(0, 5, 6, 14), (0, 5, 10, 39)]) (by decide) rfl (Nat.le_of_ble_eq_true rfl) ?_
  intro p e s m args below meth c Q S hK hZ hD ht hret ls hl hw
  replace hl : lv_has ls 3 [(0, .ref (a 0)), (1, .int x)] := hl
  replace S : CallFix p m c cL_die 3 s args wsL_die RL := S
  refine lv_aload_n S.1 S.2.1 dL_die_0 rfl (lv_at hl 0 rfl) ?_
  refine lv_iload_n S.1 S.2.1 dL_die_1 rfl (lv_at hl 1 rfl) ?_
  refine bl_vx (As := [.int x]) (rest := []) S hK hZ hw hD hM (cwV 1 S.2.2.2.2 gL_die_X0_die rfl rfl rfl (by decide +kernel) ⟨Nat.le_of_ble_eq_true rfl, Nat.le_of_ble_eq_true rfl⟩) (q0 := 0) rfl rfl rfl hl.1 rfl (Nat.le_of_ble_eq_true rfl) (by decide) (by decide) dL_die_2 (fun ce q9 H locs hg hS hce hcv hcf => ?_)
  refine vx_catch (own := RL) (name := eIA) S.2.2.2.1 [] ⟨0, 5, 6, 14⟩ [⟨0, 5, 10, 39⟩] ht (fun z hz => nomatch hz) (by decide) (by decide) (S.2.2.2.2 (.classLink RL 14 eIA) (by decide +kernel)) (va_Nw.use rfl (hZ.2.2.2.1 (.castable eIA eIA) (by decide +kernel))) hce hcv hcf ?_
  refine W.eq (g2 := F0 m 6 ls [.ref q9]) rfl ?_
  refine lv_astore_n (lv' := [(2, .ref q9), (0, .ref (a 0)), (1, .int x)]) S.1 S.2.1 dL_die_6 rfl hl (by decide) rfl (fun ls hl => ?_)
  refine lv_ldc S.1 S.2.1 S.2.2.2.1 (S.2.2.2.2 (.constant RL 16 (-99999)) (by decide +kernel)) dL_die_7 ?_
  exact hret hS hg dL_die_9 rfl
