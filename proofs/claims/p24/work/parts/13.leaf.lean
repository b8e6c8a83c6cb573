theorem pl_x {r g : Nat} (hr : r < 4) (hg : g < 3) : nI g * 4 + nI r = nI (4 * g + r) := (by decide +kernel : ∀ r, r < 4 → ∀ g, g < 3 → nI g * 4 + nI r = nI (4 * g + r)) r hr g hg
theorem pl_k {r k : Nat} (hr : r < 4) (hk : k < 2) : nI r * 2 + nI k = nI (2 * r + k) := (by decide +kernel : ∀ r, r < 4 → ∀ k, k < 2 → nI r * 2 + nI k = nI (2 * r + k)) r hr k hk
theorem pl_j {r q : Nat} (hr : r < 4) (hq : q < 4) : nI r * 4 + nI q = nI (4 * r + q) := (by decide +kernel : ∀ r, r < 4 → ∀ q, q < 4 → nI r * 4 + nI q = nI (4 * r + q)) r hr q hq
theorem lt_nI {i n : Nat} (h : i < n) (hn : n < 100) : nI i < nI n := nI_lt h (by omega)
theorem nlt_nI {n : Nat} (hn : n < 100) : ¬ nI n < nI n := nI_nlt (Nat.le_refl n) (by omega)

set_option maxHeartbeats 4000000 in
set_option maxRecDepth 100000 in
theorem kX0_placeOf (l : Launch) (D : va_G) (tys : List (ClassId × FieldType)) {r g : Nat} (hr : r < 4) (hg : g < 3) : MI l yX0_placeOf wsX0_placeOf ({ frames := 0, cells := 0, slots := 0, locals := 0 } : Room) D tys [.int (nI r), .int (nI g)] [] (nI (4 * g + r)) [] := by
  refine MI.of (cc := cX0_placeOf) (maxL := 2) (ty := .int) (by decide) rfl (rfl) ⟨rfl, rfl⟩ (Nat.le_of_ble_eq_true rfl) ?_
  intro p e s m args below meth c A Q S hK hret ls hl hw
  replace hl : lv_has ls 2 [(0, .int (nI r)), (1, .int (nI g))] := hl
  replace S : CallFix p m c cX0_placeOf 2 s args wsX0_placeOf RX0 := S
  refine lv_iload_n S.1 S.2.1 dX0_placeOf_0 rfl (lv_at hl 1 rfl) ?_
  refine lv_iconst (v := 4) S.1 S.2.1 dX0_placeOf_1 (by decide) ?_
  refine lv_imul S.1 S.2.1 dX0_placeOf_2 ?_
  refine lv_iload_n S.1 S.2.1 dX0_placeOf_3 rfl (lv_at hl 0 rfl) ?_
  refine lv_iadd S.1 S.2.1 dX0_placeOf_4 ?_
  refine bx_top (y := nI (4 * g + r)) (pl_x hr hg) ?_
  exact hret hw dX0_placeOf_5 (rfl) rfl

set_option maxHeartbeats 4000000 in
set_option maxRecDepth 100000 in
theorem kX0_linkOf (l : Launch) (D : va_G) (tys : List (ClassId × FieldType)) {r k : Nat} (hr : r < 4) (hk : k < 2) : MI l yX0_linkOf wsX0_linkOf ({ frames := 0, cells := 0, slots := 0, locals := 0 } : Room) D tys [.int (nI r), .int (nI k)] [] (nI (2 * r + k)) [] := by
  refine MI.of (cc := cX0_linkOf) (maxL := 2) (ty := .int) (by decide) rfl (rfl) ⟨rfl, rfl⟩ (Nat.le_of_ble_eq_true rfl) ?_
  intro p e s m args below meth c A Q S hK hret ls hl hw
  replace hl : lv_has ls 2 [(0, .int (nI r)), (1, .int (nI k))] := hl
  replace S : CallFix p m c cX0_linkOf 2 s args wsX0_linkOf RX0 := S
  refine lv_iload_n S.1 S.2.1 dX0_linkOf_0 rfl (lv_at hl 0 rfl) ?_
  refine lv_iconst (v := 2) S.1 S.2.1 dX0_linkOf_1 (by decide) ?_
  refine lv_imul S.1 S.2.1 dX0_linkOf_2 ?_
  refine lv_iload_n S.1 S.2.1 dX0_linkOf_3 rfl (lv_at hl 1 rfl) ?_
  refine lv_iadd S.1 S.2.1 dX0_linkOf_4 ?_
  refine bx_top (y := nI (2 * r + k)) (pl_k hr hk) ?_
  exact hret hw dX0_linkOf_5 (rfl) rfl

theorem inX0_skewOf : ∀ w ∈ u_ws RX0 TX0 18, w ∈ wsX0_skewOf := fun _ h => List.mem_cons_of_mem _ (List.mem_append_right _ h)
theorem flX0_skewOf_23 : Cond.fieldLink RX0 23 "StandbyPair" "periods" "[I" ∈ wsX0_skewOf := by decide +kernel
set_option maxHeartbeats 4000000 in
set_option maxRecDepth 100000 in
theorem kX0_skewOf (l : Launch) (D : va_G) (cZ cI : ClassId) (a : Nat → Nat) (σ : sC) (own : Int32) {g : Nat} (hg : g < 3) : MI l yX0_skewOf wsX0_skewOf ({ frames := 0, cells := 0, slots := 0, locals := 0 } : Room) D (tyZ cZ cI) [.ref (a 0), .int own, .int (nI g)] (wX cZ cI a σ) (skewF σ own g) (wX cZ cI a σ) := by
  refine MI.of (cc := cX0_skewOf) (maxL := 3) (ty := .int) (by decide) rfl (rfl) ⟨rfl, rfl⟩ (Nat.le_of_ble_eq_true rfl) ?_
  intro p e s m args below meth c A Q S hK hret ls hl hw
  replace hl : lv_has ls 3 [(0, .ref (a 0)), (1, .int own), (2, .int (nI g))] := hl
  replace S : CallFix p m c cX0_skewOf 3 s args wsX0_skewOf RX0 := S
  have hin := inX0_skewOf
  refine lv_aload_n S.1 S.2.1 dX0_skewOf_0 rfl (lv_at hl 0 rfl) ?_
  refine bx_get S hK hin hw.1 0 rfl rfl 4 (by decide) flX0_skewOf_23 rfl dX0_skewOf_1 ?_
  refine lv_iload_n S.1 S.2.1 dX0_skewOf_4 rfl (lv_at hl 2 rfl) ?_
  refine bx_iald (v := σ 4 g) S hK hw.1 5 1 rfl rfl (by omega) (by decide) rfl dX0_skewOf_5 ?_
  refine lv_sipush (v := 256) S.1 S.2.1 dX0_skewOf_6 (by decide) ?_
  refine lv_iload_n S.1 S.2.1 dX0_skewOf_9 rfl (lv_at hl 1 rfl) ?_
  refine lv_isub S.1 S.2.1 dX0_skewOf_10 ?_
  refine lv_imul S.1 S.2.1 dX0_skewOf_11 ?_
  refine lv_sipush (v := 256) S.1 S.2.1 dX0_skewOf_12 (by decide) ?_
  refine lv_idiv S.1 S.2.1 dX0_skewOf_15 (by decide) ?_
  exact hret hw dX0_skewOf_16 (rfl) (congrArg (wX cZ cI a) (rfl))

theorem inX0_waitOf : ∀ w ∈ u_ws RX0 TX0 18, w ∈ wsX0_waitOf := fun _ h => List.mem_cons_of_mem _ (List.mem_append_right _ h)
theorem flX0_waitOf_23 : Cond.fieldLink RX0 23 "StandbyPair" "periods" "[I" ∈ wsX0_waitOf := by decide +kernel
set_option maxHeartbeats 4000000 in
set_option maxRecDepth 100000 in
theorem kX0_waitOf (l : Launch) (D : va_G) (cZ cI : ClassId) (a : Nat → Nat) (σ : sC) (own : Int32) {g : Nat} (hg : g < 3) : MI l yX0_waitOf wsX0_waitOf ({ frames := 1, cells := 0, slots := 0, locals := 22 } : Room) D (tyZ cZ cI) [.ref (a 0), .int own, .int (nI g)] (wX cZ cI a σ) (waitF σ own g) (wX cZ cI a σ) := by
  refine MI.of (cc := cX0_waitOf) (maxL := 3) (ty := .int) (by decide) rfl (rfl) ⟨rfl, rfl⟩ (Nat.le_of_ble_eq_true rfl) ?_
  intro p e s m args below meth c A Q S hK hret ls hl hw
  replace hl : lv_has ls 3 [(0, .ref (a 0)), (1, .int own), (2, .int (nI g))] := hl
  replace S : CallFix p m c cX0_waitOf 3 s args wsX0_waitOf RX0 := S
  have hin := inX0_waitOf
  refine lv_iconst (v := 3) S.1 S.2.1 dX0_waitOf_0 (by decide) ?_
  refine lv_aload_n S.1 S.2.1 dX0_waitOf_1 rfl (lv_at hl 0 rfl) ?_
  refine bx_get S hK hin hw.1 0 rfl rfl 4 (by decide) flX0_waitOf_23 rfl dX0_waitOf_2 ?_
  refine lv_iload_n S.1 S.2.1 dX0_waitOf_5 rfl (lv_at hl 2 rfl) ?_
  refine bx_iald (v := σ 4 g) S hK hw.1 5 1 rfl rfl (by omega) (by decide) rfl dX0_waitOf_6 ?_
  refine lv_imul S.1 S.2.1 dX0_waitOf_7 ?_
  refine lv_aload_n S.1 S.2.1 dX0_waitOf_8 rfl (lv_at hl 0 rfl) ?_
  refine lv_iload_n S.1 S.2.1 dX0_waitOf_9 rfl (lv_at hl 1 rfl) ?_
  refine lv_iload_n S.1 S.2.1 dX0_waitOf_10 rfl (lv_at hl 2 rfl) ?_
  refine bc_vi (As := [.int own, .int (nI g)]) (rest := [.int (3 * (σ 4 g))]) S hK hw (kX0_skewOf l D cZ cI a σ own (g := g) (by omega)) (cwV 2 S.2.2.2.2 gX0_waitOf_X0_skewOf rfl rfl rfl (by decide +kernel) ⟨Nat.le_of_ble_eq_true rfl, Nat.le_of_ble_eq_true rfl⟩) (q0 := 0) rfl rfl rfl hl.1 rfl (Nat.le_of_ble_eq_true rfl) (Nat.zero_le _) (Nat.zero_le _) dX0_waitOf_11 (fun H locs hw => ?_)
  refine lv_iadd S.1 S.2.1 dX0_waitOf_14 ?_
  exact hret hw dX0_waitOf_15 (rfl) (congrArg (wX cZ cI a) (rfl))

theorem inX0_loweredPriority : ∀ w ∈ u_ws RX0 TX0 18, w ∈ wsX0_loweredPriority := fun _ h => List.mem_cons_of_mem _ (List.mem_append_right _ h)
theorem flX0_loweredPriority_38 : Cond.fieldLink RX0 38 "StandbyPair" "basePriorities" "[I" ∈ wsX0_loweredPriority := by decide +kernel
theorem flX0_loweredPriority_16 : Cond.fieldLink RX0 16 "StandbyPair" "linkUp" "[Z" ∈ wsX0_loweredPriority := by decide +kernel
theorem flX0_loweredPriority_19 : Cond.fieldLink RX0 19 "StandbyPair" "decrements" "[I" ∈ wsX0_loweredPriority := by decide +kernel
set_option maxHeartbeats 4000000 in
set_option maxRecDepth 100000 in
theorem kX0_loweredPriority (l : Launch) (D : va_G) (cZ cI : ClassId) (a : Nat → Nat) (σ : sC) {r g : Nat} (hr : r < 4) (hg : g < 3) : MI l yX0_loweredPriority wsX0_loweredPriority ({ frames := 1, cells := 0, slots := 0, locals := 21 } : Room) D (tyZ cZ cI) [.ref (a 0), .int (nI r), .int (nI g)] (wX cZ cI a σ) (lowP σ r g) (wX cZ cI a σ) := by
  refine MI.of (cc := cX0_loweredPriority) (maxL := 6) (ty := .int) (by decide) rfl (rfl) ⟨rfl, rfl⟩ (Nat.le_of_ble_eq_true rfl) ?_
  intro p e s m args below meth c A Q S hK hret ls hl hw
  replace hl : lv_has ls 6 [(0, .ref (a 0)), (1, .int (nI r)), (2, .int (nI g))] := hl
  replace S : CallFix p m c cX0_loweredPriority 6 s args wsX0_loweredPriority RX0 := S
  have hin := inX0_loweredPriority
  have mx1 : Cond.methodLink RX0 150 Lib.Math.max.name ∈ wsX0_loweredPriority := by decide +kernel
  have mx2 : Cond.static Lib.Math.max.name ∈ wsX0_loweredPriority := by decide +kernel
  have mx3 : Cond.initialized "java/lang/Math" ∈ wsX0_loweredPriority := by decide +kernel
  have mx4 : Cond.code Lib.Math.max.name Lib.Math.max.code 2 (some .int) ∈ wsX0_loweredPriority := by decide +kernel
  refine lv_aload_n S.1 S.2.1 dX0_loweredPriority_0 rfl (lv_at hl 0 rfl) ?_
  refine bx_get S hK hin hw.1 0 rfl rfl 9 (by decide) flX0_loweredPriority_38 rfl dX0_loweredPriority_1 ?_
  refine lv_iload_n S.1 S.2.1 dX0_loweredPriority_4 rfl (lv_at hl 1 rfl) ?_
  refine lv_iload_n S.1 S.2.1 dX0_loweredPriority_5 rfl (lv_at hl 2 rfl) ?_
  refine bc_si (As := [.int (nI r), .int (nI g)]) (rest := [.ref (a 10)]) S hK hw (kX0_placeOf l D _ (r := r) (g := g) (by omega) (by omega)) (va_cwS 2 S.2.2.2.2 gX0_loweredPriority_X0_placeOf rfl rfl rfl (by decide +kernel) ⟨Nat.le_of_ble_eq_true rfl, Nat.le_of_ble_eq_true rfl⟩) rfl hl.1 rfl (Nat.le_of_ble_eq_true rfl) (Nat.zero_le _) (Nat.zero_le _) dX0_loweredPriority_6 (fun H locs hw => ?_)
  refine bx_iald (v := σ 9 (4 * g + r)) S hK hw.1 10 1 rfl rfl (by omega) (by decide) rfl dX0_loweredPriority_9 ?_
  refine lv_istore_n (lv' := [(3, .int (σ 9 (4 * g + r))), (0, .ref (a 0)), (1, .int (nI r)), (2, .int (nI g))]) S.1 S.2.1 dX0_loweredPriority_10 rfl hl (by decide) rfl (fun ls hl => ?_)
  refine lv_iconst (v := nI 0) S.1 S.2.1 dX0_loweredPriority_11 (by decide) ?_
  refine lv_istore (lv' := [(4, .int (nI 0)), (3, .int (σ 9 (4 * g + r))), (0, .ref (a 0)), (1, .int (nI r)), (2, .int (nI g))]) S.1 S.2.1 dX0_loweredPriority_12 hl (by decide) rfl (fun ls hl => ?_)
  have L14 : ∀ (n i14 : Nat), i14 + n = 2 → ∀ (H : Heap) (locs : List Loc), Wd D A s.heap (wX cZ cI a σ) H locs → ∀ ls : Array Slot, lv_has ls 6 [(0, .ref (a 0)), (1, .int (nI r)), (2, .int (nI g)), (3, .int (itF (low1 σ r) (σ 9 (4 * g + r)) i14)), (4, .int (nI i14))] → W p l e ({ frames := 1, cells := 0, slots := 0, locals := 21 } : Room) s m args below meth c H locs 0 0 Q (F0 m 14 ls []) := by
    intro n
    induction n with
    | zero =>
      intro i14 hi H locs hw ls hl
      obtain rfl : i14 = 2 := by omega
      refine lv_iload S.1 S.2.1 dX0_loweredPriority_14 (lv_at hl 4 rfl) ?_
      refine lv_iconst (v := nI 2) S.1 S.2.1 dX0_loweredPriority_16 (by decide) ?_
      refine br_ge (tgt := 54) S dX0_loweredPriority_17 (by decide) (fun c17 => ?_) (fun c17 => ?_)
      · refine lv_iload_n S.1 S.2.1 dX0_loweredPriority_54 rfl (lv_at hl 3 rfl) ?_
        refine lv_iconst (v := 1) S.1 S.2.1 dX0_loweredPriority_55 (by decide) ?_
        refine va_mmax S.1 S.2.1 (S.2.2.1.trans hl.1.symm) S.2.2.2.1 (S.2.2.2.2 _ mx1) (S.2.2.2.2 _ mx2) (S.2.2.2.2 _ mx3) (S.2.2.2.2 _ mx4) (by decide) (by decide) (Nat.zero_le _) (Nat.zero_le _) dX0_loweredPriority_56 ?_
        exact hret hw dX0_loweredPriority_59 (rfl) (congrArg (wX cZ cI a) (rfl))
      · exact absurd c17 (nlt_nI (by decide))
    | succ n ih_14 =>
      intro i14 hi H locs hw ls hl
      have hi14 : i14 < 2 := by omega
      refine lv_iload S.1 S.2.1 dX0_loweredPriority_14 (lv_at hl 4 rfl) ?_
      refine lv_iconst (v := nI 2) S.1 S.2.1 dX0_loweredPriority_16 (by decide) ?_
      refine br_ge (tgt := 54) S dX0_loweredPriority_17 (by decide) (fun c17 => ?_) (fun c17 => ?_)
      · exact absurd c17 (not_not_intro (lt_nI hi14 (by decide)))
      · refine lv_iload_n S.1 S.2.1 dX0_loweredPriority_20 rfl (lv_at hl 1 rfl) ?_
        refine lv_iload S.1 S.2.1 dX0_loweredPriority_21 (lv_at hl 4 rfl) ?_
        refine bc_si (As := [.int (nI r), .int (nI i14)]) (rest := []) S hK hw (kX0_linkOf l D _ (r := r) (k := i14) (by omega) (by omega)) (va_cwS 2 S.2.2.2.2 gX0_loweredPriority_X0_linkOf rfl rfl rfl (by decide +kernel) ⟨Nat.le_of_ble_eq_true rfl, Nat.le_of_ble_eq_true rfl⟩) rfl hl.1 rfl (Nat.le_of_ble_eq_true rfl) (Nat.zero_le _) (Nat.zero_le _) dX0_loweredPriority_23 (fun H locs hw => ?_)
        refine lv_istore (lv' := [(5, .int (nI (2 * r + i14))), (0, .ref (a 0)), (1, .int (nI r)), (2, .int (nI g)), (3, .int (itF (low1 σ r) (σ 9 (4 * g + r)) i14)), (4, .int (nI i14))]) S.1 S.2.1 dX0_loweredPriority_26 hl (by decide) rfl (fun ls hl => ?_)
        refine lv_aload_n S.1 S.2.1 dX0_loweredPriority_28 rfl (lv_at hl 1 rfl) ?_
        refine bx_get S hK hin hw.1 0 rfl rfl 2 (by decide) flX0_loweredPriority_16 rfl dX0_loweredPriority_29 ?_
        refine lv_iload S.1 S.2.1 dX0_loweredPriority_32 (lv_at hl 0 rfl) ?_
        refine bx_zald (v := σ 2 (2 * r + i14)) S hK hw.1 3 0 rfl rfl (by omega) (by decide) rfl dX0_loweredPriority_34 ?_
        refine bz_ne (tgt := 48) S dX0_loweredPriority_35 (by decide) (fun c35 => ?_) (fun c35 => ?_)
        · refine lv_iinc (v := nI (i14 + 1)) (lv' := [(4, .int (nI (i14 + 1))), (5, .int (nI (2 * r + i14))), (0, .ref (a 0)), (1, .int (nI r)), (2, .int (nI g)), (3, .int (itF (low1 σ r) (σ 9 (4 * g + r)) i14))]) S.1 S.2.1 dX0_loweredPriority_48 hl (k := 5) rfl (nI_1 i14) (by decide) rfl (fun ls hl => ?_)
          refine lv_goto (tgt := 14) S.1 S.2.1 dX0_loweredPriority_51 (by decide) ?_
          have ea : itF (low1 σ r) (σ 9 (4 * g + r)) (i14 + 1) = itF (low1 σ r) (σ 9 (4 * g + r)) i14 := by simp only [itF, low1, eq_true c17, eq_false c35, ↓reduceIte]
          exact ih_14 (i14 + 1) (by omega) _ _ hw _ (by rw [ea]; exact lv_sub hl [2, 3, 4, 5, 0] rfl)
        · refine lv_iload_n S.1 S.2.1 dX0_loweredPriority_38 rfl (lv_at hl 4 rfl) ?_
          refine lv_aload_n S.1 S.2.1 dX0_loweredPriority_39 rfl (lv_at hl 1 rfl) ?_
          refine bx_get S hK hin hw.1 0 rfl rfl 3 (by decide) flX0_loweredPriority_19 rfl dX0_loweredPriority_40 ?_
          refine lv_iload S.1 S.2.1 dX0_loweredPriority_43 (lv_at hl 0 rfl) ?_
          refine bx_iald (v := σ 3 (2 * r + i14)) S hK hw.1 4 1 rfl rfl (by omega) (by decide) rfl dX0_loweredPriority_45 ?_
          refine lv_isub S.1 S.2.1 dX0_loweredPriority_46 ?_
          refine lv_istore_n (lv' := [(3, .int ((itF (low1 σ r) (σ 9 (4 * g + r)) i14) - (σ 3 (2 * r + i14)))), (5, .int (nI (2 * r + i14))), (0, .ref (a 0)), (1, .int (nI r)), (2, .int (nI g)), (4, .int (nI i14))]) S.1 S.2.1 dX0_loweredPriority_47 rfl hl (by decide) rfl (fun ls hl => ?_)
          refine lv_iinc (v := nI (i14 + 1)) (lv' := [(4, .int (nI (i14 + 1))), (3, .int ((itF (low1 σ r) (σ 9 (4 * g + r)) i14) - (σ 3 (2 * r + i14)))), (5, .int (nI (2 * r + i14))), (0, .ref (a 0)), (1, .int (nI r)), (2, .int (nI g))]) S.1 S.2.1 dX0_loweredPriority_48 hl (k := 5) rfl (nI_1 i14) (by decide) rfl (fun ls hl => ?_)
          refine lv_goto (tgt := 14) S.1 S.2.1 dX0_loweredPriority_51 (by decide) ?_
          have ea : itF (low1 σ r) (σ 9 (4 * g + r)) (i14 + 1) = (itF (low1 σ r) (σ 9 (4 * g + r)) i14) - (σ 3 (2 * r + i14)) := by simp only [itF, low1, eq_true c17, eq_true c35, ↓reduceIte]
          exact ih_14 (i14 + 1) (by omega) _ _ hw _ (by rw [ea]; exact lv_sub hl [3, 4, 5, 1, 0] rfl)
  exact L14 (2 - 0) 0 (by omega) _ _ hw _ (lv_sub hl [2, 3, 4, 1, 0] rfl)
