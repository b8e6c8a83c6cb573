set_option maxHeartbeats 4000000 in
set_option maxRecDepth 100000 in
theorem kX1_in (l : Launch) (D : va_G) (tys : List (ClassId × FieldType)) (v lo hi : Int32) : MI l yX1_in wsX1_in ({ frames := 0, cells := 0, slots := 0, locals := 0 } : Room) D tys [.int v, .int lo, .int hi] [] (inB v lo hi) [] := by
  refine MI.of (cc := cX1_in) (maxL := 3) (ty := .boolean) (by decide) rfl (nar_z (inB_z v lo hi)) ⟨rfl, rfl⟩ (Nat.le_of_ble_eq_true rfl) ?_
  intro p e s m args below meth c A Q S hK hret ls hl hw
  replace hl : lv_has ls 3 [(0, .int v), (1, .int lo), (2, .int hi)] := hl
  replace S : CallFix p m c cX1_in 3 s args wsX1_in RX1 := S
  refine lv_iload_n S.1 S.2.1 dX1_in_0 rfl (lv_at hl 0 rfl) ?_
  refine lv_iload_n S.1 S.2.1 dX1_in_1 rfl (lv_at hl 1 rfl) ?_
  refine br_lt (tgt := 14) S dX1_in_2 (by decide) (fun c2 => ?_) (fun c2 => ?_)
  · refine lv_iconst (v := 0) S.1 S.2.1 dX1_in_14 (by decide) ?_
    exact hret hw dX1_in_15 (by simp only [inB, eq_true c2, ↓reduceIte]) rfl
  · refine lv_iload_n S.1 S.2.1 dX1_in_5 rfl (lv_at hl 0 rfl) ?_
    refine lv_iload_n S.1 S.2.1 dX1_in_6 rfl (lv_at hl 2 rfl) ?_
    refine br_gt (tgt := 14) S dX1_in_7 (by decide) (fun c7 => ?_) (fun c7 => ?_)
    · refine lv_iconst (v := 0) S.1 S.2.1 dX1_in_14 (by decide) ?_
      exact hret hw dX1_in_15 (by simp only [inB, eq_false c2, eq_true c7, ↓reduceIte]) rfl
    · refine lv_iconst (v := 1) S.1 S.2.1 dX1_in_10 (by decide) ?_
      refine lv_goto (tgt := 15) S.1 S.2.1 dX1_in_11 (by decide) ?_
      exact hret hw dX1_in_15 (by simp only [inB, eq_false c2, eq_false c7, ↓reduceIte]) rfl

set_option maxHeartbeats 4000000 in
set_option maxRecDepth 100000 in
theorem kX1_isRouter (l : Launch) (D : va_G) (tys : List (ClassId × FieldType)) (x : Int32) : MI l yX1_isRouter wsX1_isRouter ({ frames := 1, cells := 0, slots := 0, locals := 22 } : Room) D tys [.int x] [] (inB x 0 3) [] := by
  refine MI.of (cc := cX1_isRouter) (maxL := 1) (ty := .boolean) (by decide) rfl (nar_z (inB_z x 0 3)) ⟨rfl, rfl⟩ (Nat.le_of_ble_eq_true rfl) ?_
  intro p e s m args below meth c A Q S hK hret ls hl hw
  replace hl : lv_has ls 1 [(0, .int x)] := hl
  replace S : CallFix p m c cX1_isRouter 1 s args wsX1_isRouter RX1 := S
  refine lv_iload_n S.1 S.2.1 dX1_isRouter_0 rfl (lv_at hl 0 rfl) ?_
  refine lv_iconst (v := 0) S.1 S.2.1 dX1_isRouter_1 (by decide) ?_
  refine lv_iconst (v := 3) S.1 S.2.1 dX1_isRouter_2 (by decide) ?_
  refine bc_si (As := [.int x, .int 0, .int 3]) (rest := []) S hK hw (kX1_in l D _ x 0 3) (va_cwS 3 S.2.2.2.2 gX1_isRouter_X1_in rfl rfl rfl (by decide +kernel) ⟨Nat.le_of_ble_eq_true rfl, Nat.le_of_ble_eq_true rfl⟩) rfl hl.1 rfl (Nat.le_of_ble_eq_true rfl) (Nat.zero_le _) (Nat.zero_le _) dX1_isRouter_3 (fun H locs hw => ?_)
  exact hret hw dX1_isRouter_6 (rfl) rfl

set_option maxHeartbeats 4000000 in
set_option maxRecDepth 100000 in
theorem kX1_isGroup (l : Launch) (D : va_G) (tys : List (ClassId × FieldType)) (x : Int32) : MI l yX1_isGroup wsX1_isGroup ({ frames := 1, cells := 0, slots := 0, locals := 22 } : Room) D tys [.int x] [] (inB x 0 2) [] := by
  refine MI.of (cc := cX1_isGroup) (maxL := 1) (ty := .boolean) (by decide) rfl (nar_z (inB_z x 0 2)) ⟨rfl, rfl⟩ (Nat.le_of_ble_eq_true rfl) ?_
  intro p e s m args below meth c A Q S hK hret ls hl hw
  replace hl : lv_has ls 1 [(0, .int x)] := hl
  replace S : CallFix p m c cX1_isGroup 1 s args wsX1_isGroup RX1 := S
  refine lv_iload_n S.1 S.2.1 dX1_isGroup_0 rfl (lv_at hl 0 rfl) ?_
  refine lv_iconst (v := 0) S.1 S.2.1 dX1_isGroup_1 (by decide) ?_
  refine lv_iconst (v := 2) S.1 S.2.1 dX1_isGroup_2 (by decide) ?_
  refine bc_si (As := [.int x, .int 0, .int 2]) (rest := []) S hK hw (kX1_in l D _ x 0 2) (va_cwS 3 S.2.2.2.2 gX1_isGroup_X1_in rfl rfl rfl (by decide +kernel) ⟨Nat.le_of_ble_eq_true rfl, Nat.le_of_ble_eq_true rfl⟩) rfl hl.1 rfl (Nat.le_of_ble_eq_true rfl) (Nat.zero_le _) (Nat.zero_le _) dX1_isGroup_3 (fun H locs hw => ?_)
  exact hret hw dX1_isGroup_6 (rfl) rfl

set_option maxHeartbeats 4000000 in
set_option maxRecDepth 100000 in
theorem kX1_are (l : Launch) (D : va_G) (tys : List (ClassId × FieldType)) (x y : Int32) : MI l yX1_are wsX1_are ({ frames := 2, cells := 0, slots := 0, locals := 42 } : Room) D tys [.int x, .int y] [] (arE x y) [] := by
  refine MI.of (cc := cX1_are) (maxL := 2) (ty := .boolean) (by decide) rfl (nar_z (arE_z x y)) ⟨rfl, rfl⟩ (Nat.le_of_ble_eq_true rfl) ?_
  intro p e s m args below meth c A Q S hK hret ls hl hw
  replace hl : lv_has ls 2 [(0, .int x), (1, .int y)] := hl
  replace S : CallFix p m c cX1_are 2 s args wsX1_are RX1 := S
  refine lv_iload_n S.1 S.2.1 dX1_are_0 rfl (lv_at hl 0 rfl) ?_
  refine bc_si (As := [.int x]) (rest := []) S hK hw (kX1_isRouter l D _ x) (va_cwS 1 S.2.2.2.2 gX1_are_X1_isRouter rfl rfl rfl (by decide +kernel) ⟨Nat.le_of_ble_eq_true rfl, Nat.le_of_ble_eq_true rfl⟩) rfl hl.1 rfl (Nat.le_of_ble_eq_true rfl) (Nat.zero_le _) (Nat.zero_le _) dX1_are_1 (fun H locs hw => ?_)
  refine bz_eq (tgt := 18) S dX1_are_4 (by decide) (fun c4 => ?_) (fun c4 => ?_)
  · refine lv_iconst (v := 0) S.1 S.2.1 dX1_are_18 (by decide) ?_
    exact hret hw dX1_are_19 (by simp only [arE, eq_true c4, ↓reduceIte]) rfl
  · refine lv_iload_n S.1 S.2.1 dX1_are_7 rfl (lv_at hl 1 rfl) ?_
    refine bc_si (As := [.int y]) (rest := []) S hK hw (kX1_isGroup l D _ y) (va_cwS 1 S.2.2.2.2 gX1_are_X1_isGroup rfl rfl rfl (by decide +kernel) ⟨Nat.le_of_ble_eq_true rfl, Nat.le_of_ble_eq_true rfl⟩) rfl hl.1 rfl (Nat.le_of_ble_eq_true rfl) (Nat.zero_le _) (Nat.zero_le _) dX1_are_8 (fun H locs hw => ?_)
    refine bz_eq (tgt := 18) S dX1_are_11 (by decide) (fun c11 => ?_) (fun c11 => ?_)
    · refine lv_iconst (v := 0) S.1 S.2.1 dX1_are_18 (by decide) ?_
      exact hret hw dX1_are_19 (by simp only [arE, eq_false c4, eq_true c11, ↓reduceIte]) rfl
    · refine lv_iconst (v := 1) S.1 S.2.1 dX1_are_14 (by decide) ?_
      refine lv_goto (tgt := 19) S.1 S.2.1 dX1_are_15 (by decide) ?_
      exact hret hw dX1_are_19 (by simp only [arE, eq_false c4, eq_false c11, ↓reduceIte]) rfl

set_option maxHeartbeats 4000000 in
set_option maxRecDepth 100000 in
theorem kX1_isLink (l : Launch) (D : va_G) (tys : List (ClassId × FieldType)) (x y : Int32) : MI l yX1_isLink wsX1_isLink ({ frames := 2, cells := 0, slots := 0, locals := 42 } : Room) D tys [.int x, .int y] [] (lkE x y) [] := by
  refine MI.of (cc := cX1_isLink) (maxL := 2) (ty := .boolean) (by decide) rfl (nar_z (lkE_z x y)) ⟨rfl, rfl⟩ (Nat.le_of_ble_eq_true rfl) ?_
  intro p e s m args below meth c A Q S hK hret ls hl hw
  replace hl : lv_has ls 2 [(0, .int x), (1, .int y)] := hl
  replace S : CallFix p m c cX1_isLink 2 s args wsX1_isLink RX1 := S
  refine lv_iload_n S.1 S.2.1 dX1_isLink_0 rfl (lv_at hl 0 rfl) ?_
  refine bc_si (As := [.int x]) (rest := []) S hK hw (kX1_isRouter l D _ x) (va_cwS 1 S.2.2.2.2 gX1_isLink_X1_isRouter rfl rfl rfl (by decide +kernel) ⟨Nat.le_of_ble_eq_true rfl, Nat.le_of_ble_eq_true rfl⟩) rfl hl.1 rfl (Nat.le_of_ble_eq_true rfl) (Nat.zero_le _) (Nat.zero_le _) dX1_isLink_1 (fun H locs hw => ?_)
  refine bz_eq (tgt := 20) S dX1_isLink_4 (by decide) (fun c4 => ?_) (fun c4 => ?_)
  · refine lv_iconst (v := 0) S.1 S.2.1 dX1_isLink_20 (by decide) ?_
    exact hret hw dX1_isLink_21 (by simp only [lkE, eq_true c4, ↓reduceIte]) rfl
  · refine lv_iload_n S.1 S.2.1 dX1_isLink_7 rfl (lv_at hl 1 rfl) ?_
    refine lv_iconst (v := 0) S.1 S.2.1 dX1_isLink_8 (by decide) ?_
    refine lv_iconst (v := 1) S.1 S.2.1 dX1_isLink_9 (by decide) ?_
    refine bc_si (As := [.int y, .int 0, .int 1]) (rest := []) S hK hw (kX1_in l D _ y 0 1) (va_cwS 3 S.2.2.2.2 gX1_isLink_X1_in rfl rfl rfl (by decide +kernel) ⟨Nat.le_of_ble_eq_true rfl, Nat.le_of_ble_eq_true rfl⟩) rfl hl.1 rfl (Nat.le_of_ble_eq_true rfl) (Nat.zero_le _) (Nat.zero_le _) dX1_isLink_10 (fun H locs hw => ?_)
    refine bz_eq (tgt := 20) S dX1_isLink_13 (by decide) (fun c13 => ?_) (fun c13 => ?_)
    · refine lv_iconst (v := 0) S.1 S.2.1 dX1_isLink_20 (by decide) ?_
      exact hret hw dX1_isLink_21 (by simp only [lkE, eq_false c4, eq_true c13, ↓reduceIte]) rfl
    · refine lv_iconst (v := 1) S.1 S.2.1 dX1_isLink_16 (by decide) ?_
      refine lv_goto (tgt := 21) S.1 S.2.1 dX1_isLink_17 (by decide) ?_
      exact hret hw dX1_isLink_21 (by simp only [lkE, eq_false c4, eq_false c13, ↓reduceIte]) rfl

theorem inX1_goesWell : ∀ w ∈ u_ws RX1 TX1 19, w ∈ wsX1_goesWell := fun _ h => List.mem_cons_of_mem _ (List.mem_append_right _ h)
theorem flX1_goesWell_59 : Cond.fieldLink RX1 59 "StandbyPairModel" "thrown" "I" ∈ wsX1_goesWell := by decide +kernel
set_option maxHeartbeats 4000000 in
set_option maxRecDepth 100000 in
theorem kX1_goesWell (l : Launch) (D : va_G) (cZ cI : ClassId) (a : Nat → Nat) (th : Int32) (σ : sC) (k : Int32) : MI l yX1_goesWell wsX1_goesWell ({ frames := 0, cells := 0, slots := 0, locals := 0 } : Room) D (tyZ cZ cI) [.ref (a 0), .int k] (wM cZ cI a th σ) (gwF k) (wM cZ cI a k σ) := by
  refine MI.of (cc := cX1_goesWell) (maxL := 2) (ty := .boolean) (by decide) rfl (nar_z (gwF_z k)) ⟨rfl, rfl⟩ (Nat.le_of_ble_eq_true rfl) ?_
  intro p e s m args below meth c A Q S hK hret ls hl hw
  replace hl : lv_has ls 2 [(0, .ref (a 0)), (1, .int k)] := hl
  replace S : CallFix p m c cX1_goesWell 2 s args wsX1_goesWell RX1 := S
  have hin := inX1_goesWell
  refine lv_aload_n S.1 S.2.1 dX1_goesWell_0 rfl (lv_at hl 0 rfl) ?_
  refine lv_iload_n S.1 S.2.1 dX1_goesWell_1 rfl (lv_at hl 1 rfl) ?_
  refine bx_put S hK hin tyX1 tyX1_ok nmX1 hw 0 rfl rfl 0 (by decide) flX1_goesWell_59 rfl (by decide +kernel) (Nat.le_of_ble_eq_true rfl) (wM_th cZ cI a th σ k) dX1_goesWell_2 (fun H locs hw => ?_)
  refine lv_iload_n S.1 S.2.1 dX1_goesWell_5 rfl (lv_at hl 1 rfl) ?_
  refine bz_ne (tgt := 13) S dX1_goesWell_6 (by decide) (fun c6 => ?_) (fun c6 => ?_)
  · refine lv_iconst (v := 0) S.1 S.2.1 dX1_goesWell_13 (by decide) ?_
    exact hret hw dX1_goesWell_14 (by simp only [gwF, eq_false c6, ↓reduceIte]) (congrArg (wM cZ cI a k) (rfl))
  · refine lv_iconst (v := 1) S.1 S.2.1 dX1_goesWell_9 (by decide) ?_
    refine lv_goto (tgt := 14) S.1 S.2.1 dX1_goesWell_10 (by decide) ?_
    exact hret hw dX1_goesWell_14 (by simp only [gwF, eq_true c6, ↓reduceIte]) (congrArg (wM cZ cI a k) (rfl))

theorem inX1_thrown : ∀ w ∈ u_ws RX1 TX1 19, w ∈ wsX1_thrown := fun _ h => List.mem_cons_of_mem _ (List.mem_append_right _ h)
theorem flX1_thrown_59 : Cond.fieldLink RX1 59 "StandbyPairModel" "thrown" "I" ∈ wsX1_thrown := by decide +kernel
set_option maxHeartbeats 4000000 in
set_option maxRecDepth 100000 in
theorem kX1_thrown (l : Launch) (D : va_G) (cZ cI : ClassId) (a : Nat → Nat) (th : Int32) (σ : sC)  : MI l yX1_thrown wsX1_thrown ({ frames := 0, cells := 0, slots := 0, locals := 0 } : Room) D (tyZ cZ cI) [.ref (a 0)] (wM cZ cI a th σ) th (wM cZ cI a th σ) := by
  refine MI.of (cc := cX1_thrown) (maxL := 1) (ty := .int) (by decide) rfl (rfl) ⟨rfl, rfl⟩ (Nat.le_of_ble_eq_true rfl) ?_
  intro p e s m args below meth c A Q S hK hret ls hl hw
  replace hl : lv_has ls 1 [(0, .ref (a 0))] := hl
  replace S : CallFix p m c cX1_thrown 1 s args wsX1_thrown RX1 := S
  have hin := inX1_thrown
  refine lv_aload_n S.1 S.2.1 dX1_thrown_0 rfl (lv_at hl 0 rfl) ?_
  refine bx_get S hK hin hw.1 0 rfl rfl 0 (by decide) flX1_thrown_59 rfl dX1_thrown_1 ?_
  exact hret hw dX1_thrown_4 (rfl) (congrArg (wM cZ cI a th) (rfl))

theorem inX1_priorityAt : ∀ w ∈ u_ws RX1 TX1 19, w ∈ wsX1_priorityAt := fun _ h => List.mem_cons_of_mem _ (List.mem_append_right _ h)
theorem flX1_priorityAt_13 : Cond.fieldLink RX1 13 "StandbyPairModel" "bases" "[I" ∈ wsX1_priorityAt := by decide +kernel
theorem flX1_priorityAt_20 : Cond.fieldLink RX1 20 "StandbyPairModel" "isDown" "[Z" ∈ wsX1_priorityAt := by decide +kernel
theorem flX1_priorityAt_17 : Cond.fieldLink RX1 17 "StandbyPairModel" "decrements" "[I" ∈ wsX1_priorityAt := by decide +kernel
set_option maxHeartbeats 4000000 in
set_option maxRecDepth 100000 in
theorem kX1_priorityAt (l : Launch) (D : va_G) (cZ cI : ClassId) (a : Nat → Nat) (th : Int32) (σ : sC) {r g : Nat} (hr : r < 4) (hg : g < 3) : MI l yX1_priorityAt wsX1_priorityAt ({ frames := 0, cells := 0, slots := 0, locals := 0 } : Room) D (tyZ cZ cI) [.ref (a 0), .int (nI (3 * r + g))] (wM cZ cI a th σ) (lowP σ r g) (wM cZ cI a th σ) := by
  refine MI.of (cc := cX1_priorityAt) (maxL := 5) (ty := .int) (by decide) rfl (rfl) ⟨rfl, rfl⟩ (Nat.le_of_ble_eq_true rfl) ?_
  intro p e s m args below meth c A Q S hK hret ls hl hw
  replace hl : lv_has ls 5 [(0, .ref (a 0)), (1, .int (nI (3 * r + g)))] := hl
  replace S : CallFix p m c cX1_priorityAt 5 s args wsX1_priorityAt RX1 := S
  have hin := inX1_priorityAt
  refine lv_aload_n S.1 S.2.1 dX1_priorityAt_0 rfl (lv_at hl 0 rfl) ?_
  refine bx_get S hK hin hw.1 0 rfl rfl 2 (by decide) flX1_priorityAt_13 rfl dX1_priorityAt_1 ?_
  refine lv_iload_n S.1 S.2.1 dX1_priorityAt_4 rfl (lv_at hl 1 rfl) ?_
  refine bx_iald (v := σ 9 (4 * g + r)) S hK hw.1 2 1 rfl rfl (by omega) (by decide) (congrArg (σ 9) (pm_at (r := r) (g := g) (by omega) (by omega))) dX1_priorityAt_5 ?_
  refine lv_istore_n (lv' := [(2, .int (σ 9 (4 * g + r))), (0, .ref (a 0)), (1, .int (nI (3 * r + g)))]) S.1 S.2.1 dX1_priorityAt_6 rfl hl (by decide) rfl (fun ls hl => ?_)
  refine lv_iconst (v := nI 0) S.1 S.2.1 dX1_priorityAt_7 (by decide) ?_
  refine lv_istore_n (lv' := [(3, .int (nI 0)), (2, .int (σ 9 (4 * g + r))), (0, .ref (a 0)), (1, .int (nI (3 * r + g)))]) S.1 S.2.1 dX1_priorityAt_8 rfl hl (by decide) rfl (fun ls hl => ?_)
  have L9 : ∀ (n i9 : Nat), i9 + n = 2 → ∀ (H : Heap) (locs : List Loc), Wd D A s.heap (wM cZ cI a th σ) H locs → ∀ ls : Array Slot, lv_has ls 5 [(0, .ref (a 0)), (1, .int (nI (3 * r + g))), (2, .int (itF (low1 σ r) (σ 9 (4 * g + r)) i9)), (3, .int (nI i9))] → W p l e ({ frames := 0, cells := 0, slots := 0, locals := 0 } : Room) s m args below meth c H locs 0 0 Q (F0 m 9 ls []) := by
    intro n
    induction n with
    | zero =>
      intro i9 hi H locs hw ls hl
      obtain rfl : i9 = 2 := by omega
      refine lv_iload_n S.1 S.2.1 dX1_priorityAt_9 rfl (lv_at hl 3 rfl) ?_
      refine lv_iconst (v := nI 2) S.1 S.2.1 dX1_priorityAt_10 (by decide) ?_
      refine br_ge (tgt := 53) S dX1_priorityAt_11 (by decide) (fun c11 => ?_) (fun c11 => ?_)
      · refine lv_iload_n S.1 S.2.1 dX1_priorityAt_53 rfl (lv_at hl 2 rfl) ?_
        refine lv_iconst (v := 1) S.1 S.2.1 dX1_priorityAt_54 (by decide) ?_
        refine br_ge (tgt := 62) S dX1_priorityAt_55 (by decide) (fun c55 => ?_) (fun c55 => ?_)
        · refine lv_iload_n S.1 S.2.1 dX1_priorityAt_62 rfl (lv_at hl 2 rfl) ?_
          exact hret hw dX1_priorityAt_63 (by simp only [lowP, lowM, eq_false c11, eq_false c55, ↓reduceIte]) (congrArg (wM cZ cI a th) (rfl))
        · refine lv_iconst (v := 1) S.1 S.2.1 dX1_priorityAt_58 (by decide) ?_
          refine lv_goto (tgt := 63) S.1 S.2.1 dX1_priorityAt_59 (by decide) ?_
          exact hret hw dX1_priorityAt_63 (by simp only [lowP, lowM, eq_false c11, eq_true c55, ↓reduceIte]) (congrArg (wM cZ cI a th) (rfl))
      · exact absurd c11 (nlt_nI (by decide))
    | succ n ih_9 =>
      intro i9 hi H locs hw ls hl
      have hi9 : i9 < 2 := by omega
      refine lv_iload_n S.1 S.2.1 dX1_priorityAt_9 rfl (lv_at hl 3 rfl) ?_
      refine lv_iconst (v := nI 2) S.1 S.2.1 dX1_priorityAt_10 (by decide) ?_
      refine br_ge (tgt := 53) S dX1_priorityAt_11 (by decide) (fun c11 => ?_) (fun c11 => ?_)
      · exact absurd c11 (not_not_intro (lt_nI hi9 (by decide)))
      · refine lv_iconst (v := 2) S.1 S.2.1 dX1_priorityAt_14 (by decide) ?_
        refine lv_iload_n S.1 S.2.1 dX1_priorityAt_15 rfl (lv_at hl 1 rfl) ?_
        refine lv_iconst (v := 3) S.1 S.2.1 dX1_priorityAt_16 (by decide) ?_
        refine lv_idiv S.1 S.2.1 dX1_priorityAt_17 (by decide) ?_
        refine bx_top (y := nI r) (dv3 hr hg) ?_
        refine lv_imul S.1 S.2.1 dX1_priorityAt_18 ?_
        refine lv_iload_n S.1 S.2.1 dX1_priorityAt_19 rfl (lv_at hl 3 rfl) ?_
        refine lv_iadd S.1 S.2.1 dX1_priorityAt_20 ?_
        refine bx_top (y := nI (2 * r + i9)) (ml2 hr (by omega)) ?_
        refine lv_istore (lv' := [(4, .int (nI (2 * r + i9))), (0, .ref (a 0)), (1, .int (nI (3 * r + g))), (2, .int (itF (low1 σ r) (σ 9 (4 * g + r)) i9)), (3, .int (nI i9))]) S.1 S.2.1 dX1_priorityAt_21 hl (by decide) rfl (fun ls hl => ?_)
        refine lv_iload_n S.1 S.2.1 dX1_priorityAt_23 rfl (lv_at hl 3 rfl) ?_
        refine lv_aload_n S.1 S.2.1 dX1_priorityAt_24 rfl (lv_at hl 1 rfl) ?_
        refine bx_get S hK hin hw.1 0 rfl rfl 4 (by decide) flX1_priorityAt_20 rfl dX1_priorityAt_25 ?_
        refine lv_iload S.1 S.2.1 dX1_priorityAt_28 (lv_at hl 0 rfl) ?_
        refine bx_zald (v := flip (σ 2 (2 * r + i9))) S hK hw.1 4 0 rfl rfl (by omega) (by decide) rfl dX1_priorityAt_30 ?_
        refine bz_eq (tgt := 44) S dX1_priorityAt_31 (by decide) (fun c31 => ?_) (fun c31 => ?_)
        · refine lv_iconst (v := 0) S.1 S.2.1 dX1_priorityAt_44 (by decide) ?_
          refine lv_isub S.1 S.2.1 dX1_priorityAt_45 ?_
          refine lv_istore_n (lv' := [(2, .int ((itF (low1 σ r) (σ 9 (4 * g + r)) i9) - 0)), (4, .int (nI (2 * r + i9))), (0, .ref (a 0)), (1, .int (nI (3 * r + g))), (3, .int (nI i9))]) S.1 S.2.1 dX1_priorityAt_46 rfl hl (by decide) rfl (fun ls hl => ?_)
          refine lv_iinc (v := nI (i9 + 1)) (lv' := [(3, .int (nI (i9 + 1))), (2, .int ((itF (low1 σ r) (σ 9 (4 * g + r)) i9) - 0)), (4, .int (nI (2 * r + i9))), (0, .ref (a 0)), (1, .int (nI (3 * r + g)))]) S.1 S.2.1 dX1_priorityAt_47 hl (k := 4) rfl (nI_1 i9) (by decide) rfl (fun ls hl => ?_)
          refine lv_goto (tgt := 9) S.1 S.2.1 dX1_priorityAt_50 (by decide) ?_
          have ea : itF (low1 σ r) (σ 9 (4 * g + r)) (i9 + 1) = (itF (low1 σ r) (σ 9 (4 * g + r)) i9) - 0 := by simp only [itF, low1, eq_true c11, eq_false ((flip_0 _).mp c31), ↓reduceIte, Int32.sub_zero]
          exact ih_9 (i9 + 1) (by omega) _ _ hw _ (by rw [ea]; exact lv_sub hl [3, 4, 1, 0] rfl)
        · refine lv_aload_n S.1 S.2.1 dX1_priorityAt_34 rfl (lv_at hl 1 rfl) ?_
          refine bx_get S hK hin hw.1 0 rfl rfl 3 (by decide) flX1_priorityAt_17 rfl dX1_priorityAt_35 ?_
          refine lv_iload S.1 S.2.1 dX1_priorityAt_38 (lv_at hl 0 rfl) ?_
          refine bx_iald (v := σ 3 (2 * r + i9)) S hK hw.1 3 1 rfl rfl (by omega) (by decide) rfl dX1_priorityAt_40 ?_
          refine lv_goto (tgt := 45) S.1 S.2.1 dX1_priorityAt_41 (by decide) ?_
          refine lv_isub S.1 S.2.1 dX1_priorityAt_45 ?_
          refine lv_istore_n (lv' := [(2, .int ((itF (low1 σ r) (σ 9 (4 * g + r)) i9) - (σ 3 (2 * r + i9)))), (4, .int (nI (2 * r + i9))), (0, .ref (a 0)), (1, .int (nI (3 * r + g))), (3, .int (nI i9))]) S.1 S.2.1 dX1_priorityAt_46 rfl hl (by decide) rfl (fun ls hl => ?_)
          refine lv_iinc (v := nI (i9 + 1)) (lv' := [(3, .int (nI (i9 + 1))), (2, .int ((itF (low1 σ r) (σ 9 (4 * g + r)) i9) - (σ 3 (2 * r + i9)))), (4, .int (nI (2 * r + i9))), (0, .ref (a 0)), (1, .int (nI (3 * r + g)))]) S.1 S.2.1 dX1_priorityAt_47 hl (k := 4) rfl (nI_1 i9) (by decide) rfl (fun ls hl => ?_)
          refine lv_goto (tgt := 9) S.1 S.2.1 dX1_priorityAt_50 (by decide) ?_
          have ea : itF (low1 σ r) (σ 9 (4 * g + r)) (i9 + 1) = (itF (low1 σ r) (σ 9 (4 * g + r)) i9) - (σ 3 (2 * r + i9)) := by simp only [itF, low1, eq_true c11, eq_true (flip_1 c31), ↓reduceIte, Int32.sub_zero]
          exact ih_9 (i9 + 1) (by omega) _ _ hw _ (by rw [ea]; exact lv_sub hl [3, 4, 1, 0] rfl)
  exact L9 (2 - 0) 0 (by omega) _ _ hw _ (lv_sub hl [2, 3, 1, 0] rfl)

theorem inX1_skew : ∀ w ∈ u_ws RX1 TX1 19, w ∈ wsX1_skew := fun _ h => List.mem_cons_of_mem _ (List.mem_append_right _ h)
theorem flX1_skew_26 : Cond.fieldLink RX1 26 "StandbyPairModel" "periods" "[I" ∈ wsX1_skew := by decide +kernel
set_option maxHeartbeats 4000000 in
set_option maxRecDepth 100000 in
theorem kX1_skew (l : Launch) (D : va_G) (cZ cI : ClassId) (a : Nat → Nat) (th : Int32) (σ : sC) {r g : Nat} (hr : r < 4) (hg : g < 3) : MI l yX1_skew wsX1_skew ({ frames := 1, cells := 0, slots := 0, locals := 24 } : Room) D (tyZ cZ cI) [.ref (a 0), .int (nI (3 * r + g))] (wM cZ cI a th σ) (skewF σ (lowP σ r g) g) (wM cZ cI a th σ) := by
  refine MI.of (cc := cX1_skew) (maxL := 2) (ty := .int) (by decide) rfl (rfl) ⟨rfl, rfl⟩ (Nat.le_of_ble_eq_true rfl) ?_
  intro p e s m args below meth c A Q S hK hret ls hl hw
  replace hl : lv_has ls 2 [(0, .ref (a 0)), (1, .int (nI (3 * r + g)))] := hl
  replace S : CallFix p m c cX1_skew 2 s args wsX1_skew RX1 := S
  have hin := inX1_skew
  refine lv_aload_n S.1 S.2.1 dX1_skew_0 rfl (lv_at hl 0 rfl) ?_
  refine bx_get S hK hin hw.1 0 rfl rfl 6 (by decide) flX1_skew_26 rfl dX1_skew_1 ?_
  refine lv_iload_n S.1 S.2.1 dX1_skew_4 rfl (lv_at hl 1 rfl) ?_
  refine lv_iconst (v := 3) S.1 S.2.1 dX1_skew_5 (by decide) ?_
  refine lv_irem S.1 S.2.1 dX1_skew_6 (by decide) ?_
  refine bx_top (y := nI g) (md3 hr hg) ?_
  refine bx_iald (v := σ 4 g) S hK hw.1 6 1 rfl rfl (by omega) (by decide) rfl dX1_skew_7 ?_
  refine lv_sipush (v := 256) S.1 S.2.1 dX1_skew_8 (by decide) ?_
  refine lv_aload_n S.1 S.2.1 dX1_skew_11 rfl (lv_at hl 0 rfl) ?_
  refine lv_iload_n S.1 S.2.1 dX1_skew_12 rfl (lv_at hl 1 rfl) ?_
  refine bc_vi (As := [.int (nI (3 * r + g))]) (rest := [.int 256, .int (σ 4 g)]) S hK hw (kX1_priorityAt l D cZ cI a th σ (r := r) (g := g) (by omega) (by omega)) (cwV 1 S.2.2.2.2 gX1_skew_X1_priorityAt rfl rfl rfl (by decide +kernel) ⟨Nat.le_of_ble_eq_true rfl, Nat.le_of_ble_eq_true rfl⟩) (q0 := 0) rfl rfl rfl hl.1 rfl (Nat.le_of_ble_eq_true rfl) (Nat.zero_le _) (Nat.zero_le _) dX1_skew_13 (fun H locs hw => ?_)
  refine lv_isub S.1 S.2.1 dX1_skew_16 ?_
  refine lv_imul S.1 S.2.1 dX1_skew_17 ?_
  refine lv_sipush (v := 256) S.1 S.2.1 dX1_skew_18 (by decide) ?_
  refine lv_idiv S.1 S.2.1 dX1_skew_21 (by decide) ?_
  exact hret hw dX1_skew_22 (rfl) (congrArg (wM cZ cI a th) (rfl))

theorem inX1_waitAt : ∀ w ∈ u_ws RX1 TX1 19, w ∈ wsX1_waitAt := fun _ h => List.mem_cons_of_mem _ (List.mem_append_right _ h)
theorem flX1_waitAt_26 : Cond.fieldLink RX1 26 "StandbyPairModel" "periods" "[I" ∈ wsX1_waitAt := by decide +kernel
set_option maxHeartbeats 4000000 in
set_option maxRecDepth 100000 in
theorem kX1_waitAt (l : Launch) (D : va_G) (cZ cI : ClassId) (a : Nat → Nat) (th : Int32) (σ : sC) {r g : Nat} (hr : r < 4) (hg : g < 3) : MI l yX1_waitAt wsX1_waitAt ({ frames := 2, cells := 0, slots := 0, locals := 45 } : Room) D (tyZ cZ cI) [.ref (a 0), .int (nI (3 * r + g))] (wM cZ cI a th σ) (waitF σ (lowP σ r g) g) (wM cZ cI a th σ) := by
  refine MI.of (cc := cX1_waitAt) (maxL := 2) (ty := .int) (by decide) rfl (rfl) ⟨rfl, rfl⟩ (Nat.le_of_ble_eq_true rfl) ?_
  intro p e s m args below meth c A Q S hK hret ls hl hw
  replace hl : lv_has ls 2 [(0, .ref (a 0)), (1, .int (nI (3 * r + g)))] := hl
  replace S : CallFix p m c cX1_waitAt 2 s args wsX1_waitAt RX1 := S
  have hin := inX1_waitAt
  refine lv_iconst (v := 3) S.1 S.2.1 dX1_waitAt_0 (by decide) ?_
  refine lv_aload_n S.1 S.2.1 dX1_waitAt_1 rfl (lv_at hl 0 rfl) ?_
  refine bx_get S hK hin hw.1 0 rfl rfl 6 (by decide) flX1_waitAt_26 rfl dX1_waitAt_2 ?_
  refine lv_iload_n S.1 S.2.1 dX1_waitAt_5 rfl (lv_at hl 1 rfl) ?_
  refine lv_iconst (v := 3) S.1 S.2.1 dX1_waitAt_6 (by decide) ?_
  refine lv_irem S.1 S.2.1 dX1_waitAt_7 (by decide) ?_
  refine bx_top (y := nI g) (md3 hr hg) ?_
  refine bx_iald (v := σ 4 g) S hK hw.1 6 1 rfl rfl (by omega) (by decide) rfl dX1_waitAt_8 ?_
  refine lv_imul S.1 S.2.1 dX1_waitAt_9 ?_
  refine lv_aload_n S.1 S.2.1 dX1_waitAt_10 rfl (lv_at hl 0 rfl) ?_
  refine lv_iload_n S.1 S.2.1 dX1_waitAt_11 rfl (lv_at hl 1 rfl) ?_
  refine bc_vi (As := [.int (nI (3 * r + g))]) (rest := [.int (3 * (σ 4 g))]) S hK hw (kX1_skew l D cZ cI a th σ (r := r) (g := g) (by omega) (by omega)) (cwV 1 S.2.2.2.2 gX1_waitAt_X1_skew rfl rfl rfl (by decide +kernel) ⟨Nat.le_of_ble_eq_true rfl, Nat.le_of_ble_eq_true rfl⟩) (q0 := 0) rfl rfl rfl hl.1 rfl (Nat.le_of_ble_eq_true rfl) (Nat.zero_le _) (Nat.zero_le _) dX1_waitAt_12 (fun H locs hw => ?_)
  refine lv_iadd S.1 S.2.1 dX1_waitAt_15 ?_
  exact hret hw dX1_waitAt_16 (rfl) (congrArg (wM cZ cI a th) (rfl))

theorem inX1_copy : ∀ w ∈ u_ws RX1 TX1 19, w ∈ wsX1_copy := fun _ h => List.mem_cons_of_mem _ (List.mem_append_right _ h)
theorem flX1_copy_44 : Cond.fieldLink RX1 44 "StandbyPairModel" "served" "[I" ∈ wsX1_copy := by decide +kernel
theorem flX1_copy_81 : Cond.fieldLink RX1 81 "StandbyPairModel" "repairs" "I" ∈ wsX1_copy := by decide +kernel
theorem flX1_copy_47 : Cond.fieldLink RX1 47 "StandbyPairModel" "isAsked" "[Z" ∈ wsX1_copy := by decide +kernel
set_option maxHeartbeats 4000000 in
set_option maxRecDepth 100000 in
theorem kX1_copy (l : Launch) (D : va_G) (cZ cI : ClassId) (a : Nat → Nat) (th : Int32) (σ : sC) {t g f : Nat} (ht : t < 4) (hg : g < 3) (hf : f < 4) : MV l yX1_copy wsX1_copy ({ frames := 0, cells := 0, slots := 0, locals := 0 } : Room) D (tyZ cZ cI) [.ref (a 0), .int (nI (3 * f + g)), .int (nI (3 * t + g))] (wM cZ cI a th σ) (wM cZ cI a th (copyF σ t f g)) := by
  refine MV.of (cc := cX1_copy) (maxL := 4) (by decide) rfl ⟨rfl, rfl⟩ (Nat.le_of_ble_eq_true rfl) ?_
  intro p e s m args below meth c A Q S hK hret ls hl hw
  replace hl : lv_has ls 4 [(0, .ref (a 0)), (1, .int (nI (3 * f + g))), (2, .int (nI (3 * t + g)))] := hl
  replace S : CallFix p m c cX1_copy 4 s args wsX1_copy RX1 := S
  have hin := inX1_copy
  refine lv_aload_n S.1 S.2.1 dX1_copy_0 rfl (lv_at hl 0 rfl) ?_
  refine bx_get S hK hin hw.1 0 rfl rfl 12 (by decide) flX1_copy_44 rfl dX1_copy_1 ?_
  refine lv_iload_n S.1 S.2.1 dX1_copy_4 rfl (lv_at hl 1 rfl) ?_
  refine bx_iald (v := σ 13 (4 * g + f)) S hK hw.1 12 1 rfl rfl (by omega) (by decide) (congrArg (σ 13) (pm_at (r := f) (g := g) (by omega) (by omega))) dX1_copy_5 ?_
  refine lv_aload_n S.1 S.2.1 dX1_copy_6 rfl (lv_at hl 0 rfl) ?_
  refine bx_get S hK hin hw.1 0 rfl rfl 12 (by decide) flX1_copy_44 rfl dX1_copy_7 ?_
  refine lv_iload_n S.1 S.2.1 dX1_copy_10 rfl (lv_at hl 2 rfl) ?_
  refine bx_iald (v := σ 13 (4 * g + t)) S hK hw.1 12 1 rfl rfl (by omega) (by decide) (congrArg (σ 13) (pm_at (r := t) (g := g) (by omega) (by omega))) dX1_copy_11 ?_
  refine lv_isub S.1 S.2.1 dX1_copy_12 ?_
  refine lv_istore_n (lv' := [(3, .int ((σ 13 (4 * g + f)) - (σ 13 (4 * g + t)))), (0, .ref (a 0)), (1, .int (nI (3 * f + g))), (2, .int (nI (3 * t + g)))]) S.1 S.2.1 dX1_copy_13 rfl hl (by decide) rfl (fun ls hl => ?_)
  have J34 : ∀ (H : Heap) (locs : List Loc), Wd D A s.heap (wM cZ cI a th σ) H locs → (copyF σ t f g = copy2 (copy1 σ t f g) t g) → ∀ ls : Array Slot, lv_has ls 4 [(0, .ref (a 0)), (1, .int (nI (3 * f + g))), (2, .int (nI (3 * t + g)))] → W p l e ({ frames := 0, cells := 0, slots := 0, locals := 0 } : Room) s m args below meth c H locs 0 0 Q (F0 m 34 ls []) := by
    intro H locs hw hj ls hl
    refine lv_aload_n S.1 S.2.1 dX1_copy_34 rfl (lv_at hl 0 rfl) ?_
    refine bx_get S hK hin hw.1 0 rfl rfl 12 (by decide) flX1_copy_44 rfl dX1_copy_35 ?_
    refine lv_iload_n S.1 S.2.1 dX1_copy_38 rfl (lv_at hl 2 rfl) ?_
    refine lv_aload_n S.1 S.2.1 dX1_copy_39 rfl (lv_at hl 0 rfl) ?_
    refine bx_get S hK hin hw.1 0 rfl rfl 12 (by decide) flX1_copy_44 rfl dX1_copy_40 ?_
    refine lv_iload_n S.1 S.2.1 dX1_copy_43 rfl (lv_at hl 1 rfl) ?_
    refine bx_iald (v := σ 13 (4 * g + f)) S hK hw.1 12 1 rfl rfl (by omega) (by decide) (congrArg (σ 13) (pm_at (r := f) (g := g) (by omega) (by omega))) dX1_copy_44 ?_
    refine bx_iast S hK hw 12 1 rfl rfl (by omega) (by decide) (wM_s12 cZ cI a th σ (r := t) (g := g) (by omega) (by omega) (σ 13 (4 * g + f))) dX1_copy_45 (fun H locs hw => ?_)
    refine lv_aload_n S.1 S.2.1 dX1_copy_46 rfl (lv_at hl 0 rfl) ?_
    refine lv_dup S.1 S.2.1 dX1_copy_47 rfl ?_
    refine bx_get S hK hin hw.1 0 rfl rfl 17 (by decide) flX1_copy_81 rfl dX1_copy_48 ?_
    refine lv_aload_n S.1 S.2.1 dX1_copy_51 rfl (lv_at hl 0 rfl) ?_
    refine bx_get S hK hin hw.1 0 rfl rfl 13 (by decide) flX1_copy_47 rfl dX1_copy_52 ?_
    refine lv_iload_n S.1 S.2.1 dX1_copy_55 rfl (lv_at hl 2 rfl) ?_
    refine bx_zald (v := (up σ 13 (4 * g + t) (σ 13 (4 * g + f))) 15 (4 * g + t)) S hK hw.1 13 0 rfl rfl (by omega) (by decide) (congrArg ((up σ 13 (4 * g + t) (σ 13 (4 * g + f))) 15) (pm_at (r := t) (g := g) (by omega) (by omega))) dX1_copy_56 ?_
    refine bz_eq (tgt := 64) S dX1_copy_57 (by decide) (fun c57 => ?_) (fun c57 => ?_)
    · refine lv_iconst (v := 0) S.1 S.2.1 dX1_copy_64 (by decide) ?_
      refine lv_iadd S.1 S.2.1 dX1_copy_65 ?_
      refine bx_put S hK hin tyX1 tyX1_ok nmX1 hw 0 rfl rfl 17 (by decide) flX1_copy_81 rfl (by decide +kernel) (Nat.le_of_ble_eq_true rfl) (wM_rep cZ cI a th (up σ 13 (4 * g + t) (σ 13 (4 * g + f))) (((up σ 13 (4 * g + t) (σ 13 (4 * g + f))) 16 0) + 0)) dX1_copy_66 (fun H locs hw => ?_)
      refine lv_aload_n S.1 S.2.1 dX1_copy_69 rfl (lv_at hl 0 rfl) ?_
      refine bx_get S hK hin hw.1 0 rfl rfl 13 (by decide) flX1_copy_47 rfl dX1_copy_70 ?_
      refine lv_iload_n S.1 S.2.1 dX1_copy_73 rfl (lv_at hl 2 rfl) ?_
      refine lv_iconst (v := 0) S.1 S.2.1 dX1_copy_74 (by decide) ?_
      refine bx_zast S hK hw 13 0 rfl rfl (by omega) (by decide) (by decide) (wM_s13 cZ cI a th (up (up σ 13 (4 * g + t) (σ 13 (4 * g + f))) 16 0 (((up σ 13 (4 * g + t) (σ 13 (4 * g + f))) 16 0) + 0)) (r := t) (g := g) (by omega) (by omega) 0) dX1_copy_75 (fun H locs hw => ?_)
      refine lv_goto (tgt := 86) S.1 S.2.1 dX1_copy_76 (by decide) ?_
      exact hret hw dX1_copy_86 (congrArg (wM cZ cI a th) (by rw [hj, copy1_m]; exact copy_m0 _ c57))
    · refine lv_iconst (v := 1) S.1 S.2.1 dX1_copy_60 (by decide) ?_
      refine lv_goto (tgt := 65) S.1 S.2.1 dX1_copy_61 (by decide) ?_
      refine lv_iadd S.1 S.2.1 dX1_copy_65 ?_
      refine bx_put S hK hin tyX1 tyX1_ok nmX1 hw 0 rfl rfl 17 (by decide) flX1_copy_81 rfl (by decide +kernel) (Nat.le_of_ble_eq_true rfl) (wM_rep cZ cI a th (up σ 13 (4 * g + t) (σ 13 (4 * g + f))) (((up σ 13 (4 * g + t) (σ 13 (4 * g + f))) 16 0) + 1)) dX1_copy_66 (fun H locs hw => ?_)
      refine lv_aload_n S.1 S.2.1 dX1_copy_69 rfl (lv_at hl 0 rfl) ?_
      refine bx_get S hK hin hw.1 0 rfl rfl 13 (by decide) flX1_copy_47 rfl dX1_copy_70 ?_
      refine lv_iload_n S.1 S.2.1 dX1_copy_73 rfl (lv_at hl 2 rfl) ?_
      refine lv_iconst (v := 0) S.1 S.2.1 dX1_copy_74 (by decide) ?_
      refine bx_zast S hK hw 13 0 rfl rfl (by omega) (by decide) (by decide) (wM_s13 cZ cI a th (up (up σ 13 (4 * g + t) (σ 13 (4 * g + f))) 16 0 (((up σ 13 (4 * g + t) (σ 13 (4 * g + f))) 16 0) + 1)) (r := t) (g := g) (by omega) (by omega) 0) dX1_copy_75 (fun H locs hw => ?_)
      refine lv_goto (tgt := 86) S.1 S.2.1 dX1_copy_76 (by decide) ?_
      exact hret hw dX1_copy_86 (congrArg (wM cZ cI a th) (by rw [hj, copy1_m]; exact copy_m1 _ c57))
  refine lv_iload_n S.1 S.2.1 dX1_copy_14 rfl (lv_at hl 0 rfl) ?_
  refine bz_gt (tgt := 19) S dX1_copy_15 (by decide) (fun c15 => ?_) (fun c15 => ?_)
  · refine lv_iload_n S.1 S.2.1 dX1_copy_19 rfl (lv_at hl 0 rfl) ?_
    refine lv_bipush (v := 10) S.1 S.2.1 dX1_copy_20 (by decide) ?_
    refine br_le (tgt := 34) S dX1_copy_22 (by decide) (fun c22 => ?_) (fun c22 => ?_)
    · exact J34 _ _ hw (by simp only [copyF, eq_true c15, eq_false c22, ↓reduceIte]) _ (lv_sub hl [1, 2, 3] rfl)
    · refine lv_aload_n S.1 S.2.1 dX1_copy_25 rfl (lv_at hl 1 rfl) ?_
      refine bx_get S hK hin hw.1 0 rfl rfl 13 (by decide) flX1_copy_47 rfl dX1_copy_26 ?_
      refine lv_iload_n S.1 S.2.1 dX1_copy_29 rfl (lv_at hl 3 rfl) ?_
      refine bx_zald (v := σ 15 (4 * g + t)) S hK hw.1 13 0 rfl rfl (by omega) (by decide) (congrArg (σ 15) (pm_at (r := t) (g := g) (by omega) (by omega))) dX1_copy_30 ?_
      refine bz_eq (tgt := 79) S dX1_copy_31 (by decide) (fun c31 => ?_) (fun c31 => ?_)
      · refine lv_aload_n S.1 S.2.1 dX1_copy_79 rfl (lv_at hl 1 rfl) ?_
        refine bx_get S hK hin hw.1 0 rfl rfl 13 (by decide) flX1_copy_47 rfl dX1_copy_80 ?_
        refine lv_iload_n S.1 S.2.1 dX1_copy_83 rfl (lv_at hl 3 rfl) ?_
        refine lv_iconst (v := 1) S.1 S.2.1 dX1_copy_84 (by decide) ?_
        refine bx_zast S hK hw 13 0 rfl rfl (by omega) (by decide) (by decide) (wM_s13 cZ cI a th σ (r := t) (g := g) (by omega) (by omega) 1) dX1_copy_85 (fun H locs hw => ?_)
        exact hret hw dX1_copy_86 (congrArg (wM cZ cI a th) (by simp only [copyF, eq_true c15, eq_true c22, eq_true c31, ↓reduceIte]))
      · exact J34 _ _ hw (by simp only [copyF, eq_true c15, eq_true c22, eq_false c31, ↓reduceIte]) _ (lv_sub hl [1, 2, 3] rfl)
  · exact hret hw dX1_copy_18 (congrArg (wM cZ cI a th) (by simp only [copyF, eq_false c15, ↓reduceIte]))

theorem inX1_rest : ∀ w ∈ u_ws RX1 TX1 19, w ∈ wsX1_rest := fun _ h => List.mem_cons_of_mem _ (List.mem_append_right _ h)
theorem flX1_rest_35 : Cond.fieldLink RX1 35 "StandbyPairModel" "states" "[I" ∈ wsX1_rest := by decide +kernel
theorem flX1_rest_41 : Cond.fieldLink RX1 41 "StandbyPairModel" "heard" "[I" ∈ wsX1_rest := by decide +kernel
theorem flX1_rest_38 : Cond.fieldLink RX1 38 "StandbyPairModel" "timers" "[I" ∈ wsX1_rest := by decide +kernel
set_option maxHeartbeats 4000000 in
set_option maxRecDepth 100000 in
theorem kX1_rest (l : Launch) (D : va_G) (cZ cI : ClassId) (a : Nat → Nat) (th : Int32) (σ : sC) {r g : Nat} (h : Int32) (hr : r < 4) (hg : g < 3) : MV l yX1_rest wsX1_rest ({ frames := 3, cells := 0, slots := 0, locals := 66 } : Room) D (tyZ cZ cI) [.ref (a 0), .int (nI (3 * r + g)), .int h] (wM cZ cI a th σ) (wM cZ cI a th (restF σ r g h)) := by
  refine MV.of (cc := cX1_rest) (maxL := 3) (by decide) rfl ⟨rfl, rfl⟩ (Nat.le_of_ble_eq_true rfl) ?_
  intro p e s m args below meth c A Q S hK hret ls hl hw
  replace hl : lv_has ls 3 [(0, .ref (a 0)), (1, .int (nI (3 * r + g))), (2, .int h)] := hl
  replace S : CallFix p m c cX1_rest 3 s args wsX1_rest RX1 := S
  have hin := inX1_rest
  refine lv_aload_n S.1 S.2.1 dX1_rest_0 rfl (lv_at hl 0 rfl) ?_
  refine bx_get S hK hin hw.1 0 rfl rfl 9 (by decide) flX1_rest_35 rfl dX1_rest_1 ?_
  refine lv_iload_n S.1 S.2.1 dX1_rest_4 rfl (lv_at hl 1 rfl) ?_
  refine lv_iconst (v := 1) S.1 S.2.1 dX1_rest_5 (by decide) ?_
  refine bx_iast S hK hw 9 1 rfl rfl (by omega) (by decide) (wM_s9 cZ cI a th σ (r := r) (g := g) (by omega) (by omega) 1) dX1_rest_6 (fun H locs hw => ?_)
  refine lv_aload_n S.1 S.2.1 dX1_rest_7 rfl (lv_at hl 0 rfl) ?_
  refine bx_get S hK hin hw.1 0 rfl rfl 11 (by decide) flX1_rest_41 rfl dX1_rest_8 ?_
  refine lv_iload_n S.1 S.2.1 dX1_rest_11 rfl (lv_at hl 1 rfl) ?_
  refine lv_iload_n S.1 S.2.1 dX1_rest_12 rfl (lv_at hl 2 rfl) ?_
  refine bx_iast S hK hw 11 1 rfl rfl (by omega) (by decide) (wM_s11 cZ cI a th (up σ 10 (4 * g + r) 1) (r := r) (g := g) (by omega) (by omega) h) dX1_rest_13 (fun H locs hw => ?_)
  refine lv_aload_n S.1 S.2.1 dX1_rest_14 rfl (lv_at hl 0 rfl) ?_
  refine bx_get S hK hin hw.1 0 rfl rfl 10 (by decide) flX1_rest_38 rfl dX1_rest_15 ?_
  refine lv_iload_n S.1 S.2.1 dX1_rest_18 rfl (lv_at hl 1 rfl) ?_
  refine lv_aload_n S.1 S.2.1 dX1_rest_19 rfl (lv_at hl 0 rfl) ?_
  refine lv_iload_n S.1 S.2.1 dX1_rest_20 rfl (lv_at hl 1 rfl) ?_
  refine bc_vi (As := [.int (nI (3 * r + g))]) (rest := [.int (nI (3 * r + g)), .ref (a 10)]) S hK hw (kX1_waitAt l D cZ cI a th (up (up σ 10 (4 * g + r) 1) 12 (4 * g + r) h) (r := r) (g := g) (by omega) (by omega)) (cwV 1 S.2.2.2.2 gX1_rest_X1_waitAt rfl rfl rfl (by decide +kernel) ⟨Nat.le_of_ble_eq_true rfl, Nat.le_of_ble_eq_true rfl⟩) (q0 := 0) rfl rfl rfl hl.1 rfl (Nat.le_of_ble_eq_true rfl) (Nat.zero_le _) (Nat.zero_le _) dX1_rest_21 (fun H locs hw => ?_)
  refine bx_iast S hK hw 10 1 rfl rfl (by omega) (by decide) (wM_s10 cZ cI a th (up (up σ 10 (4 * g + r) 1) 12 (4 * g + r) h) (r := r) (g := g) (by omega) (by omega) (waitF (up (up σ 10 (4 * g + r) 1) 12 (4 * g + r) h) (lowP (up (up σ 10 (4 * g + r) 1) 12 (4 * g + r) h) r g) g)) dX1_rest_24 (fun H locs hw => ?_)
  exact hret hw dX1_rest_25 (congrArg (wM cZ cI a th) (rfl))

theorem inX1_receive : ∀ w ∈ u_ws RX1 TX1 19, w ∈ wsX1_receive := fun _ h => List.mem_cons_of_mem _ (List.mem_append_right _ h)
theorem flX1_receive_35 : Cond.fieldLink RX1 35 "StandbyPairModel" "states" "[I" ∈ wsX1_receive := by decide +kernel
theorem flX1_receive_29 : Cond.fieldLink RX1 29 "StandbyPairModel" "isOff" "[Z" ∈ wsX1_receive := by decide +kernel
theorem flX1_receive_41 : Cond.fieldLink RX1 41 "StandbyPairModel" "heard" "[I" ∈ wsX1_receive := by decide +kernel
theorem flX1_receive_32 : Cond.fieldLink RX1 32 "StandbyPairModel" "delays" "[I" ∈ wsX1_receive := by decide +kernel
theorem flX1_receive_38 : Cond.fieldLink RX1 38 "StandbyPairModel" "timers" "[I" ∈ wsX1_receive := by decide +kernel
set_option maxHeartbeats 4000000 in
set_option maxRecDepth 100000 in
theorem kX1_receive (l : Launch) (D : va_G) (cZ cI : ClassId) (a : Nat → Nat) (th : Int32) (σ : sC) {r g q : Nat} (num : Int32) (hr : r < 4) (hg : g < 3) (hq : q < 4) (hro : σ 10 (4 * g + r) = 2 ∨ σ 10 (4 * g + r) = 1) : MV l yX1_receive wsX1_receive ({ frames := 4, cells := 0, slots := 0, locals := 88 } : Room) D (tyZ cZ cI) [.ref (a 0), .int (nI (3 * q + g)), .int (nI (3 * r + g)), .int num] (wM cZ cI a th σ) (wM cZ cI a th (recF σ r g q num)) := by
  refine MV.of (cc := cX1_receive) (maxL := 5) (by decide) rfl ⟨rfl, rfl⟩ (Nat.le_of_ble_eq_true rfl) ?_
  intro p e s m args below meth c A Q S hK hret ls hl hw
  replace hl : lv_has ls 5 [(0, .ref (a 0)), (1, .int (nI (3 * q + g))), (2, .int (nI (3 * r + g))), (3, .int num)] := hl
  replace S : CallFix p m c cX1_receive 5 s args wsX1_receive RX1 := S
  have hin := inX1_receive
  refine lv_aload_n S.1 S.2.1 dX1_receive_0 rfl (lv_at hl 0 rfl) ?_
  refine lv_iload_n S.1 S.2.1 dX1_receive_1 rfl (lv_at hl 2 rfl) ?_
  refine bc_vi (As := [.int (nI (3 * r + g))]) (rest := []) S hK hw (kX1_priorityAt l D cZ cI a th σ (r := r) (g := g) (by omega) (by omega)) (cwV 1 S.2.2.2.2 gX1_receive_X1_priorityAt rfl rfl rfl (by decide +kernel) ⟨Nat.le_of_ble_eq_true rfl, Nat.le_of_ble_eq_true rfl⟩) (q0 := 0) rfl rfl rfl hl.1 rfl (Nat.le_of_ble_eq_true rfl) (Nat.zero_le _) (Nat.zero_le _) dX1_receive_2 (fun H locs hw => ?_)
  refine lv_istore (lv' := [(4, .int (lowP σ r g)), (0, .ref (a 0)), (1, .int (nI (3 * q + g))), (2, .int (nI (3 * r + g))), (3, .int num)]) S.1 S.2.1 dX1_receive_5 hl (by decide) rfl (fun ls hl => ?_)
  refine lv_aload_n S.1 S.2.1 dX1_receive_7 rfl (lv_at hl 1 rfl) ?_
  refine bx_get S hK hin hw.1 0 rfl rfl 9 (by decide) flX1_receive_35 rfl dX1_receive_8 ?_
  refine lv_iload_n S.1 S.2.1 dX1_receive_11 rfl (lv_at hl 3 rfl) ?_
  refine bx_iald (v := σ 10 (4 * g + r)) S hK hw.1 9 1 rfl rfl (by omega) (by decide) (congrArg (σ 10) (pm_at (r := r) (g := g) (by omega) (by omega))) dX1_receive_12 ?_
  refine lv_iconst (v := 2) S.1 S.2.1 dX1_receive_13 (by decide) ?_
  refine br_ne (tgt := 49) S dX1_receive_14 (by decide) (fun c14 => ?_) (fun c14 => ?_)
  · refine lv_iload_n S.1 S.2.1 dX1_receive_49 rfl (lv_at hl 4 rfl) ?_
    refine bz_ne (tgt := 75) S dX1_receive_50 (by decide) (fun c50 => ?_) (fun c50 => ?_)
    · refine lv_aload_n S.1 S.2.1 dX1_receive_75 rfl (lv_at hl 1 rfl) ?_
      refine bx_get S hK hin hw.1 0 rfl rfl 7 (by decide) flX1_receive_29 rfl dX1_receive_76 ?_
      refine lv_iload_n S.1 S.2.1 dX1_receive_79 rfl (lv_at hl 3 rfl) ?_
      refine lv_iconst (v := 3) S.1 S.2.1 dX1_receive_80 (by decide) ?_
      refine lv_irem S.1 S.2.1 dX1_receive_81 (by decide) ?_
      refine bx_top (y := nI g) (md3 hr hg) ?_
      refine bx_zald (v := flip (σ 5 g)) S hK hw.1 7 0 rfl rfl (by omega) (by decide) rfl dX1_receive_82 ?_
      refine bz_ne (tgt := 92) S dX1_receive_83 (by decide) (fun c83 => ?_) (fun c83 => ?_)
      · refine lv_aload_n S.1 S.2.1 dX1_receive_92 rfl (lv_at hl 1 rfl) ?_
        refine lv_iload_n S.1 S.2.1 dX1_receive_93 rfl (lv_at hl 3 rfl) ?_
        refine lv_iconst (v := 0) S.1 S.2.1 dX1_receive_94 (by decide) ?_
        refine bc_vv (As := [.int (nI (3 * r + g)), .int 0]) (rest := []) S hK hw (kX1_rest l D cZ cI a th σ (r := r) (g := g) 0 (by omega) (by omega)) (cwV 2 S.2.2.2.2 gX1_receive_X1_rest rfl rfl rfl (by decide +kernel) ⟨Nat.le_of_ble_eq_true rfl, Nat.le_of_ble_eq_true rfl⟩) (q0 := 0) rfl rfl rfl hl.1 rfl (Nat.le_of_ble_eq_true rfl) (Nat.zero_le _) (Nat.zero_le _) dX1_receive_95 (fun H locs hw => ?_)
        refine lv_aload_n S.1 S.2.1 dX1_receive_98 rfl (lv_at hl 1 rfl) ?_
        refine lv_iload_n S.1 S.2.1 dX1_receive_99 rfl (lv_at hl 2 rfl) ?_
        refine lv_iload_n S.1 S.2.1 dX1_receive_100 rfl (lv_at hl 3 rfl) ?_
        refine bc_vv (As := [.int (nI (3 * q + g)), .int (nI (3 * r + g))]) (rest := []) S hK hw (kX1_copy l D cZ cI a th (restF σ r g 0) (t := r) (g := g) (f := q) (by omega) (by omega) (by omega)) (cwV 2 S.2.2.2.2 gX1_receive_X1_copy rfl rfl rfl (by decide +kernel) ⟨Nat.le_of_ble_eq_true rfl, Nat.le_of_ble_eq_true rfl⟩) (q0 := 0) rfl rfl rfl hl.1 rfl (Nat.le_of_ble_eq_true rfl) (Nat.zero_le _) (Nat.zero_le _) dX1_receive_101 (fun H locs hw => ?_)
        refine lv_goto (tgt := 143) S.1 S.2.1 dX1_receive_104 (by decide) ?_
        exact hret hw dX1_receive_143 (congrArg (wM cZ cI a th) (by rw [rest_b _ (hro.resolve_left c14)]; simp only [recF, recvB, eq_false c14, eq_false c50, eq_true (flip_1 c83), ↓reduceIte]))
      · refine lv_iload S.1 S.2.1 dX1_receive_86 (lv_at hl 0 rfl) ?_
        refine lv_iload_n S.1 S.2.1 dX1_receive_88 rfl (lv_at hl 4 rfl) ?_
        refine br_gt (tgt := 107) S dX1_receive_89 (by decide) (fun c89 => ?_) (fun c89 => ?_)
        · refine lv_aload_n S.1 S.2.1 dX1_receive_107 rfl (lv_at hl 1 rfl) ?_
          refine bx_get S hK hin hw.1 0 rfl rfl 11 (by decide) flX1_receive_41 rfl dX1_receive_108 ?_
          refine lv_iload_n S.1 S.2.1 dX1_receive_111 rfl (lv_at hl 3 rfl) ?_
          refine bx_iald (v := σ 12 (4 * g + r)) S hK hw.1 11 1 rfl rfl (by omega) (by decide) (congrArg (σ 12) (pm_at (r := r) (g := g) (by omega) (by omega))) dX1_receive_112 ?_
          refine lv_aload_n S.1 S.2.1 dX1_receive_113 rfl (lv_at hl 1 rfl) ?_
          refine bx_get S hK hin hw.1 0 rfl rfl 8 (by decide) flX1_receive_32 rfl dX1_receive_114 ?_
          refine lv_iload_n S.1 S.2.1 dX1_receive_117 rfl (lv_at hl 3 rfl) ?_
          refine lv_iconst (v := 3) S.1 S.2.1 dX1_receive_118 (by decide) ?_
          refine lv_irem S.1 S.2.1 dX1_receive_119 (by decide) ?_
          refine bx_top (y := nI g) (md3 hr hg) ?_
          refine bx_iald (v := σ 6 g) S hK hw.1 8 1 rfl rfl (by omega) (by decide) rfl dX1_receive_120 ?_
          refine br_ge (tgt := 143) S dX1_receive_121 (by decide) (fun c121 => ?_) (fun c121 => ?_)
          · exact hret hw dX1_receive_143 (congrArg (wM cZ cI a th) (by simp only [recF, recvB, eq_false c14, eq_false c50, eq_false ((flip_0 _).mp c83), eq_true c89, eq_false c121, ↓reduceIte]))
          · refine lv_aload_n S.1 S.2.1 dX1_receive_124 rfl (lv_at hl 1 rfl) ?_
            refine lv_iload_n S.1 S.2.1 dX1_receive_125 rfl (lv_at hl 3 rfl) ?_
            refine lv_aload_n S.1 S.2.1 dX1_receive_126 rfl (lv_at hl 1 rfl) ?_
            refine bx_get S hK hin hw.1 0 rfl rfl 11 (by decide) flX1_receive_41 rfl dX1_receive_127 ?_
            refine lv_iload_n S.1 S.2.1 dX1_receive_130 rfl (lv_at hl 3 rfl) ?_
            refine bx_iald (v := σ 12 (4 * g + r)) S hK hw.1 11 1 rfl rfl (by omega) (by decide) (congrArg (σ 12) (pm_at (r := r) (g := g) (by omega) (by omega))) dX1_receive_131 ?_
            refine lv_iconst (v := 1) S.1 S.2.1 dX1_receive_132 (by decide) ?_
            refine lv_iadd S.1 S.2.1 dX1_receive_133 ?_
            refine bc_vv (As := [.int (nI (3 * r + g)), .int ((σ 12 (4 * g + r)) + 1)]) (rest := []) S hK hw (kX1_rest l D cZ cI a th σ (r := r) (g := g) ((σ 12 (4 * g + r)) + 1) (by omega) (by omega)) (cwV 2 S.2.2.2.2 gX1_receive_X1_rest rfl rfl rfl (by decide +kernel) ⟨Nat.le_of_ble_eq_true rfl, Nat.le_of_ble_eq_true rfl⟩) (q0 := 0) rfl rfl rfl hl.1 rfl (Nat.le_of_ble_eq_true rfl) (Nat.zero_le _) (Nat.zero_le _) dX1_receive_134 (fun H locs hw => ?_)
            refine lv_aload_n S.1 S.2.1 dX1_receive_137 rfl (lv_at hl 1 rfl) ?_
            refine lv_iload_n S.1 S.2.1 dX1_receive_138 rfl (lv_at hl 2 rfl) ?_
            refine lv_iload_n S.1 S.2.1 dX1_receive_139 rfl (lv_at hl 3 rfl) ?_
            refine bc_vv (As := [.int (nI (3 * q + g)), .int (nI (3 * r + g))]) (rest := []) S hK hw (kX1_copy l D cZ cI a th (restF σ r g ((σ 12 (4 * g + r)) + 1)) (t := r) (g := g) (f := q) (by omega) (by omega) (by omega)) (cwV 2 S.2.2.2.2 gX1_receive_X1_copy rfl rfl rfl (by decide +kernel) ⟨Nat.le_of_ble_eq_true rfl, Nat.le_of_ble_eq_true rfl⟩) (q0 := 0) rfl rfl rfl hl.1 rfl (Nat.le_of_ble_eq_true rfl) (Nat.zero_le _) (Nat.zero_le _) dX1_receive_140 (fun H locs hw => ?_)
            exact hret hw dX1_receive_143 (congrArg (wM cZ cI a th) (by rw [rest_b _ (hro.resolve_left c14)]; simp only [recF, recvB, eq_false c14, eq_false c50, eq_false ((flip_0 _).mp c83), eq_true c89, eq_true c121, ↓reduceIte]))
        · refine lv_aload_n S.1 S.2.1 dX1_receive_92 rfl (lv_at hl 1 rfl) ?_
          refine lv_iload_n S.1 S.2.1 dX1_receive_93 rfl (lv_at hl 3 rfl) ?_
          refine lv_iconst (v := 0) S.1 S.2.1 dX1_receive_94 (by decide) ?_
          refine bc_vv (As := [.int (nI (3 * r + g)), .int 0]) (rest := []) S hK hw (kX1_rest l D cZ cI a th σ (r := r) (g := g) 0 (by omega) (by omega)) (cwV 2 S.2.2.2.2 gX1_receive_X1_rest rfl rfl rfl (by decide +kernel) ⟨Nat.le_of_ble_eq_true rfl, Nat.le_of_ble_eq_true rfl⟩) (q0 := 0) rfl rfl rfl hl.1 rfl (Nat.le_of_ble_eq_true rfl) (Nat.zero_le _) (Nat.zero_le _) dX1_receive_95 (fun H locs hw => ?_)
          refine lv_aload_n S.1 S.2.1 dX1_receive_98 rfl (lv_at hl 1 rfl) ?_
          refine lv_iload_n S.1 S.2.1 dX1_receive_99 rfl (lv_at hl 2 rfl) ?_
          refine lv_iload_n S.1 S.2.1 dX1_receive_100 rfl (lv_at hl 3 rfl) ?_
          refine bc_vv (As := [.int (nI (3 * q + g)), .int (nI (3 * r + g))]) (rest := []) S hK hw (kX1_copy l D cZ cI a th (restF σ r g 0) (t := r) (g := g) (f := q) (by omega) (by omega) (by omega)) (cwV 2 S.2.2.2.2 gX1_receive_X1_copy rfl rfl rfl (by decide +kernel) ⟨Nat.le_of_ble_eq_true rfl, Nat.le_of_ble_eq_true rfl⟩) (q0 := 0) rfl rfl rfl hl.1 rfl (Nat.le_of_ble_eq_true rfl) (Nat.zero_le _) (Nat.zero_le _) dX1_receive_101 (fun H locs hw => ?_)
          refine lv_goto (tgt := 143) S.1 S.2.1 dX1_receive_104 (by decide) ?_
          exact hret hw dX1_receive_143 (congrArg (wM cZ cI a th) (by rw [rest_b _ (hro.resolve_left c14)]; simp only [recF, recvB, eq_false c14, eq_false c50, eq_false ((flip_0 _).mp c83), eq_false c89, ↓reduceIte]))
    · refine lv_aload_n S.1 S.2.1 dX1_receive_53 rfl (lv_at hl 1 rfl) ?_
      refine bx_get S hK hin hw.1 0 rfl rfl 10 (by decide) flX1_receive_38 rfl dX1_receive_54 ?_
      refine lv_iload_n S.1 S.2.1 dX1_receive_57 rfl (lv_at hl 3 rfl) ?_
      refine lv_aload_n S.1 S.2.1 dX1_receive_58 rfl (lv_at hl 1 rfl) ?_
      refine lv_iload_n S.1 S.2.1 dX1_receive_59 rfl (lv_at hl 3 rfl) ?_
      refine bc_vi (As := [.int (nI (3 * r + g))]) (rest := [.int (nI (3 * r + g)), .ref (a 10)]) S hK hw (kX1_skew l D cZ cI a th σ (r := r) (g := g) (by omega) (by omega)) (cwV 1 S.2.2.2.2 gX1_receive_X1_skew rfl rfl rfl (by decide +kernel) ⟨Nat.le_of_ble_eq_true rfl, Nat.le_of_ble_eq_true rfl⟩) (q0 := 0) rfl rfl rfl hl.1 rfl (Nat.le_of_ble_eq_true rfl) (Nat.zero_le _) (Nat.zero_le _) dX1_receive_60 (fun H locs hw => ?_)
      refine lv_iconst (v := 1) S.1 S.2.1 dX1_receive_63 (by decide) ?_
      refine lv_iadd S.1 S.2.1 dX1_receive_64 ?_
      refine bx_iast S hK hw 10 1 rfl rfl (by omega) (by decide) (wM_s10 cZ cI a th σ (r := r) (g := g) (by omega) (by omega) ((skewF σ (lowP σ r g) g) + 1)) dX1_receive_65 (fun H locs hw => ?_)
      refine lv_aload_n S.1 S.2.1 dX1_receive_66 rfl (lv_at hl 1 rfl) ?_
      refine lv_iload_n S.1 S.2.1 dX1_receive_67 rfl (lv_at hl 2 rfl) ?_
      refine lv_iload_n S.1 S.2.1 dX1_receive_68 rfl (lv_at hl 3 rfl) ?_
      refine bc_vv (As := [.int (nI (3 * q + g)), .int (nI (3 * r + g))]) (rest := []) S hK hw (kX1_copy l D cZ cI a th (up σ 11 (4 * g + r) ((skewF σ (lowP σ r g) g) + 1)) (t := r) (g := g) (f := q) (by omega) (by omega) (by omega)) (cwV 2 S.2.2.2.2 gX1_receive_X1_copy rfl rfl rfl (by decide +kernel) ⟨Nat.le_of_ble_eq_true rfl, Nat.le_of_ble_eq_true rfl⟩) (q0 := 0) rfl rfl rfl hl.1 rfl (Nat.le_of_ble_eq_true rfl) (Nat.zero_le _) (Nat.zero_le _) dX1_receive_69 (fun H locs hw => ?_)
      refine lv_goto (tgt := 143) S.1 S.2.1 dX1_receive_72 (by decide) ?_
      exact hret hw dX1_receive_143 (congrArg (wM cZ cI a th) (by simp only [recF, recvB, eq_false c14, eq_true c50, ↓reduceIte]))
  · refine lv_iload_n S.1 S.2.1 dX1_receive_17 rfl (lv_at hl 4 rfl) ?_
    refine lv_iload S.1 S.2.1 dX1_receive_18 (lv_at hl 0 rfl) ?_
    refine br_gt (tgt := 34) S dX1_receive_20 (by decide) (fun c20 => ?_) (fun c20 => ?_)
    · refine lv_aload_n S.1 S.2.1 dX1_receive_34 rfl (lv_at hl 1 rfl) ?_
      refine lv_iload_n S.1 S.2.1 dX1_receive_35 rfl (lv_at hl 3 rfl) ?_
      refine lv_iconst (v := 0) S.1 S.2.1 dX1_receive_36 (by decide) ?_
      refine bc_vv (As := [.int (nI (3 * r + g)), .int 0]) (rest := []) S hK hw (kX1_rest l D cZ cI a th σ (r := r) (g := g) 0 (by omega) (by omega)) (cwV 2 S.2.2.2.2 gX1_receive_X1_rest rfl rfl rfl (by decide +kernel) ⟨Nat.le_of_ble_eq_true rfl, Nat.le_of_ble_eq_true rfl⟩) (q0 := 0) rfl rfl rfl hl.1 rfl (Nat.le_of_ble_eq_true rfl) (Nat.zero_le _) (Nat.zero_le _) dX1_receive_37 (fun H locs hw => ?_)
      refine lv_aload_n S.1 S.2.1 dX1_receive_40 rfl (lv_at hl 1 rfl) ?_
      refine lv_iload_n S.1 S.2.1 dX1_receive_41 rfl (lv_at hl 2 rfl) ?_
      refine lv_iload_n S.1 S.2.1 dX1_receive_42 rfl (lv_at hl 3 rfl) ?_
      refine bc_vv (As := [.int (nI (3 * q + g)), .int (nI (3 * r + g))]) (rest := []) S hK hw (kX1_copy l D cZ cI a th (restF σ r g 0) (t := r) (g := g) (f := q) (by omega) (by omega) (by omega)) (cwV 2 S.2.2.2.2 gX1_receive_X1_copy rfl rfl rfl (by decide +kernel) ⟨Nat.le_of_ble_eq_true rfl, Nat.le_of_ble_eq_true rfl⟩) (q0 := 0) rfl rfl rfl hl.1 rfl (Nat.le_of_ble_eq_true rfl) (Nat.zero_le _) (Nat.zero_le _) dX1_receive_43 (fun H locs hw => ?_)
      refine lv_goto (tgt := 143) S.1 S.2.1 dX1_receive_46 (by decide) ?_
      exact hret hw dX1_receive_143 (congrArg (wM cZ cI a th) (by simp only [recF, recvM, eq_true c14, eq_true c20, ↓reduceIte]))
    · refine lv_iload_n S.1 S.2.1 dX1_receive_23 rfl (lv_at hl 4 rfl) ?_
      refine lv_iload S.1 S.2.1 dX1_receive_24 (lv_at hl 0 rfl) ?_
      refine br_ne (tgt := 143) S dX1_receive_26 (by decide) (fun c26 => ?_) (fun c26 => ?_)
      · exact hret hw dX1_receive_143 (congrArg (wM cZ cI a th) (by simp only [recF, recvM, eq_true c14, eq_false c20, eq_false c26, ↓reduceIte]))
      · refine lv_iload_n S.1 S.2.1 dX1_receive_29 rfl (lv_at hl 2 rfl) ?_
        refine lv_iload_n S.1 S.2.1 dX1_receive_30 rfl (lv_at hl 3 rfl) ?_
        refine br_le (tgt := 143) S dX1_receive_31 (by decide) (fun c31 => ?_) (fun c31 => ?_)
        · exact hret hw dX1_receive_143 (congrArg (wM cZ cI a th) (by simp only [recF, recvM, eq_true c14, eq_false c20, eq_true c26, eq_false (fun h => c31 ((lt_pl hr hq hg).mpr h)), ↓reduceIte]))
        · refine lv_aload_n S.1 S.2.1 dX1_receive_34 rfl (lv_at hl 1 rfl) ?_
          refine lv_iload_n S.1 S.2.1 dX1_receive_35 rfl (lv_at hl 3 rfl) ?_
          refine lv_iconst (v := 0) S.1 S.2.1 dX1_receive_36 (by decide) ?_
          refine bc_vv (As := [.int (nI (3 * r + g)), .int 0]) (rest := []) S hK hw (kX1_rest l D cZ cI a th σ (r := r) (g := g) 0 (by omega) (by omega)) (cwV 2 S.2.2.2.2 gX1_receive_X1_rest rfl rfl rfl (by decide +kernel) ⟨Nat.le_of_ble_eq_true rfl, Nat.le_of_ble_eq_true rfl⟩) (q0 := 0) rfl rfl rfl hl.1 rfl (Nat.le_of_ble_eq_true rfl) (Nat.zero_le _) (Nat.zero_le _) dX1_receive_37 (fun H locs hw => ?_)
          refine lv_aload_n S.1 S.2.1 dX1_receive_40 rfl (lv_at hl 1 rfl) ?_
          refine lv_iload_n S.1 S.2.1 dX1_receive_41 rfl (lv_at hl 2 rfl) ?_
          refine lv_iload_n S.1 S.2.1 dX1_receive_42 rfl (lv_at hl 3 rfl) ?_
          refine bc_vv (As := [.int (nI (3 * q + g)), .int (nI (3 * r + g))]) (rest := []) S hK hw (kX1_copy l D cZ cI a th (restF σ r g 0) (t := r) (g := g) (f := q) (by omega) (by omega) (by omega)) (cwV 2 S.2.2.2.2 gX1_receive_X1_copy rfl rfl rfl (by decide +kernel) ⟨Nat.le_of_ble_eq_true rfl, Nat.le_of_ble_eq_true rfl⟩) (q0 := 0) rfl rfl rfl hl.1 rfl (Nat.le_of_ble_eq_true rfl) (Nat.zero_le _) (Nat.zero_le _) dX1_receive_43 (fun H locs hw => ?_)
          refine lv_goto (tgt := 143) S.1 S.2.1 dX1_receive_46 (by decide) ?_
          exact hret hw dX1_receive_143 (congrArg (wM cZ cI a th) (by simp only [recF, recvM, eq_true c14, eq_false c20, eq_true c26, eq_true ((lt_pl hr hq hg).mp c31), ↓reduceIte]))

theorem inX1_advertise : ∀ w ∈ u_ws RX1 TX1 19, w ∈ wsX1_advertise := fun _ h => List.mem_cons_of_mem _ (List.mem_append_right _ h)
theorem flX1_advertise_56 : Cond.fieldLink RX1 56 "StandbyPairModel" "sent" "[I" ∈ wsX1_advertise := by decide +kernel
theorem flX1_advertise_35 : Cond.fieldLink RX1 35 "StandbyPairModel" "states" "[I" ∈ wsX1_advertise := by decide +kernel
theorem flX1_advertise_23 : Cond.fieldLink RX1 23 "StandbyPairModel" "isCut" "[Z" ∈ wsX1_advertise := by decide +kernel
set_option maxHeartbeats 4000000 in
set_option maxRecDepth 100000 in
theorem kX1_advertise (l : Launch) (D : va_G) (cZ cI : ClassId) (a : Nat → Nat) (th : Int32) (σ : sC) {q g : Nat} (num : Int32) (hq : q < 4) (hg : g < 3) (hI : I1 σ) : MV l yX1_advertise wsX1_advertise ({ frames := 5, cells := 0, slots := 0, locals := 112 } : Room) D (tyZ cZ cI) [.ref (a 0), .int (nI (3 * q + g)), .int num] (wM cZ cI a th σ) (wM cZ cI a th (advF σ q g num)) := by
  refine MV.of (cc := cX1_advertise) (maxL := 4) (by decide) rfl ⟨rfl, rfl⟩ (Nat.le_of_ble_eq_true rfl) ?_
  intro p e s m args below meth c A Q S hK hret ls hl hw
  replace hl : lv_has ls 4 [(0, .ref (a 0)), (1, .int (nI (3 * q + g))), (2, .int num)] := hl
  replace S : CallFix p m c cX1_advertise 4 s args wsX1_advertise RX1 := S
  have hin := inX1_advertise
  refine lv_aload_n S.1 S.2.1 dX1_advertise_0 rfl (lv_at hl 0 rfl) ?_
  refine bx_get S hK hin hw.1 0 rfl rfl 16 (by decide) flX1_advertise_56 rfl dX1_advertise_1 ?_
  refine lv_iload_n S.1 S.2.1 dX1_advertise_4 rfl (lv_at hl 1 rfl) ?_
  refine lv_iconst (v := 3) S.1 S.2.1 dX1_advertise_5 (by decide) ?_
  refine lv_irem S.1 S.2.1 dX1_advertise_6 (by decide) ?_
  refine bx_top (y := nI g) (md3 hq hg) ?_
  refine lv_dup2_11 S.1 S.2.1 dX1_advertise_7 rfl rfl ?_
  refine bx_iald (v := σ 8 g) S hK hw.1 16 1 rfl rfl (by omega) (by decide) rfl dX1_advertise_8 ?_
  refine lv_iconst (v := 1) S.1 S.2.1 dX1_advertise_9 (by decide) ?_
  refine lv_iadd S.1 S.2.1 dX1_advertise_10 ?_
  refine bx_iast S hK hw 16 1 rfl rfl (by omega) (by decide) (wM_s16 cZ cI a th σ g ((σ 8 g) + 1)) dX1_advertise_11 (fun H locs hw => ?_)
  refine lv_iload_n S.1 S.2.1 dX1_advertise_12 rfl (lv_at hl 1 rfl) ?_
  refine lv_iconst (v := 3) S.1 S.2.1 dX1_advertise_13 (by decide) ?_
  refine lv_irem S.1 S.2.1 dX1_advertise_14 (by decide) ?_
  refine bx_top (y := nI (3 * 0 + g)) ((md3 hq hg).trans (congrArg nI (by omega))) ?_
  refine lv_istore_n (lv' := [(3, .int (nI (3 * 0 + g))), (0, .ref (a 0)), (1, .int (nI (3 * q + g))), (2, .int num)]) S.1 S.2.1 dX1_advertise_15 rfl hl (by decide) rfl (fun ls hl => ?_)
  have L16 : ∀ (n i16 : Nat), i16 + n = 4 → ∀ (H : Heap) (locs : List Loc), Wd D A s.heap (wM cZ cI a th (itF (advS q g num) (up σ 8 g ((σ 8 g) + 1)) i16)) H locs → ∀ ls : Array Slot, lv_has ls 4 [(0, .ref (a 0)), (1, .int (nI (3 * q + g))), (2, .int num), (3, .int (nI (3 * i16 + g)))] → W p l e ({ frames := 5, cells := 0, slots := 0, locals := 112 } : Room) s m args below meth c H locs 0 0 Q (F0 m 16 ls []) := by
    intro n
    induction n with
    | zero =>
      intro i16 hi H locs hw ls hl
      obtain rfl : i16 = 4 := by omega
      refine lv_iload_n S.1 S.2.1 dX1_advertise_16 rfl (lv_at hl 3 rfl) ?_
      refine lv_bipush (v := nI 12) S.1 S.2.1 dX1_advertise_17 (by decide) ?_
      refine br_ge (tgt := 66) S dX1_advertise_19 (by decide) (fun c19 => ?_) (fun c19 => ?_)
      · exact hret hw dX1_advertise_66 (congrArg (wM cZ cI a th) (rfl))
      · exact absurd c19 (ge12 (by omega))
    | succ n ih_16 =>
      intro i16 hi H locs hw ls hl
      have hi16 : i16 < 4 := by omega
      refine lv_iload_n S.1 S.2.1 dX1_advertise_16 rfl (lv_at hl 3 rfl) ?_
      refine lv_bipush (v := nI 12) S.1 S.2.1 dX1_advertise_17 (by decide) ?_
      refine br_ge (tgt := 66) S dX1_advertise_19 (by decide) (fun c19 => ?_) (fun c19 => ?_)
      · exact absurd c19 (not_not_intro (lt12 (by omega) (by omega)))
      · refine lv_iload_n S.1 S.2.1 dX1_advertise_22 rfl (lv_at hl 3 rfl) ?_
        refine lv_iload_n S.1 S.2.1 dX1_advertise_23 rfl (lv_at hl 1 rfl) ?_
        refine br_eq (tgt := 60) S dX1_advertise_24 (by decide) (fun c24 => ?_) (fun c24 => ?_)
        · refine lv_iinc (v := nI (3 * (i16 + 1) + g)) (lv' := [(3, .int (nI (3 * (i16 + 1) + g))), (0, .ref (a 0)), (1, .int (nI (3 * q + g))), (2, .int num)]) S.1 S.2.1 dX1_advertise_60 hl (k := 3) rfl (st3 (by omega) hg) (by decide) rfl (fun ls hl => ?_)
          refine lv_goto (tgt := 16) S.1 S.2.1 dX1_advertise_63 (by decide) ?_
          exact ih_16 (i16 + 1) (by omega) _ _ (Wd.cast (congrArg (wM cZ cI a th) (by simp only [itF, advS, eq_true c19, eq_true ((eq_pl (by omega) hq hg).mp c24), ↓reduceIte])) hw) _ (lv_sub hl [1, 2, 3, 0] rfl)
        · refine lv_aload_n S.1 S.2.1 dX1_advertise_27 rfl (lv_at hl 0 rfl) ?_
          refine bx_get S hK hin hw.1 0 rfl rfl 9 (by decide) flX1_advertise_35 rfl dX1_advertise_28 ?_
          refine lv_iload_n S.1 S.2.1 dX1_advertise_31 rfl (lv_at hl 3 rfl) ?_
          refine bx_iald (v := (itF (advS q g num) (up σ 8 g ((σ 8 g) + 1)) i16) 10 (4 * g + i16)) S hK hw.1 9 1 rfl rfl (by omega) (by decide) (congrArg ((itF (advS q g num) (up σ 8 g ((σ 8 g) + 1)) i16) 10) (pm_at (r := i16) (g := g) (by omega) (by omega))) dX1_advertise_32 ?_
          refine bz_eq (tgt := 60) S dX1_advertise_33 (by decide) (fun c33 => ?_) (fun c33 => ?_)
          · refine lv_iinc (v := nI (3 * (i16 + 1) + g)) (lv' := [(3, .int (nI (3 * (i16 + 1) + g))), (0, .ref (a 0)), (1, .int (nI (3 * q + g))), (2, .int num)]) S.1 S.2.1 dX1_advertise_60 hl (k := 3) rfl (st3 (by omega) hg) (by decide) rfl (fun ls hl => ?_)
            refine lv_goto (tgt := 16) S.1 S.2.1 dX1_advertise_63 (by decide) ?_
            exact ih_16 (i16 + 1) (by omega) _ _ (Wd.cast (congrArg (wM cZ cI a th) (by rw [show itF (advS q g num) (up σ 8 g ((σ 8 g) + 1)) (i16 + 1) = advS q g num i16 (itF (advS q g num) (up σ 8 g ((σ 8 g) + 1)) i16) from rfl, advS_0 c33])) hw) _ (lv_sub hl [1, 2, 3, 0] rfl)
          · refine lv_aload_n S.1 S.2.1 dX1_advertise_36 rfl (lv_at hl 0 rfl) ?_
            refine bx_get S hK hin hw.1 0 rfl rfl 5 (by decide) flX1_advertise_23 rfl dX1_advertise_37 ?_
            refine lv_iconst (v := 4) S.1 S.2.1 dX1_advertise_40 (by decide) ?_
            refine lv_iload_n S.1 S.2.1 dX1_advertise_41 rfl (lv_at hl 1 rfl) ?_
            refine lv_iconst (v := 3) S.1 S.2.1 dX1_advertise_42 (by decide) ?_
            refine lv_idiv S.1 S.2.1 dX1_advertise_43 (by decide) ?_
            refine bx_top (y := nI q) (dv3 hq hg) ?_
            refine lv_imul S.1 S.2.1 dX1_advertise_44 ?_
            refine lv_iload_n S.1 S.2.1 dX1_advertise_45 rfl (lv_at hl 3 rfl) ?_
            refine lv_iconst (v := 3) S.1 S.2.1 dX1_advertise_46 (by decide) ?_
            refine lv_idiv S.1 S.2.1 dX1_advertise_47 (by decide) ?_
            refine bx_top (y := nI i16) (dv3 (by omega) hg) ?_
            refine lv_iadd S.1 S.2.1 dX1_advertise_48 ?_
            refine bx_top (y := nI (4 * q + i16)) (ml4 hq (by omega)) ?_
            refine bx_zald (v := flip ((itF (advS q g num) (up σ 8 g ((σ 8 g) + 1)) i16) 1 (4 * q + i16))) S hK hw.1 5 0 rfl rfl (by omega) (by decide) rfl dX1_advertise_49 ?_
            refine bz_ne (tgt := 60) S dX1_advertise_50 (by decide) (fun c50 => ?_) (fun c50 => ?_)
            · refine lv_iinc (v := nI (3 * (i16 + 1) + g)) (lv' := [(3, .int (nI (3 * (i16 + 1) + g))), (0, .ref (a 0)), (1, .int (nI (3 * q + g))), (2, .int num)]) S.1 S.2.1 dX1_advertise_60 hl (k := 3) rfl (st3 (by omega) hg) (by decide) rfl (fun ls hl => ?_)
              refine lv_goto (tgt := 16) S.1 S.2.1 dX1_advertise_63 (by decide) ?_
              exact ih_16 (i16 + 1) (by omega) _ _ (Wd.cast (congrArg (wM cZ cI a th) (by simp only [itF, advS, eq_true c19, eq_false (fun h => c24 ((eq_pl (by omega) hq hg).mpr h)), eq_false c33, eq_true (flip_1 c50), ↓reduceIte])) hw) _ (lv_sub hl [1, 2, 3, 0] rfl)
            · have hro : (itF (advS q g num) (up σ 8 g ((σ 8 g) + 1)) i16) 10 (4 * g + i16) = 2 ∨ (itF (advS q g num) (up σ 8 g ((σ 8 g) + 1)) i16) 10 (4 * g + i16) = 1 := ((I1_advI q g num hI i16 (4 * g + i16)).resolve_left c33).symm
              refine lv_aload_n S.1 S.2.1 dX1_advertise_53 rfl (lv_at hl 0 rfl) ?_
              refine lv_iload_n S.1 S.2.1 dX1_advertise_54 rfl (lv_at hl 1 rfl) ?_
              refine lv_iload_n S.1 S.2.1 dX1_advertise_55 rfl (lv_at hl 3 rfl) ?_
              refine lv_iload_n S.1 S.2.1 dX1_advertise_56 rfl (lv_at hl 2 rfl) ?_
              refine bc_vv (As := [.int (nI (3 * q + g)), .int (nI (3 * i16 + g)), .int num]) (rest := []) S hK hw (kX1_receive l D cZ cI a th (itF (advS q g num) (up σ 8 g ((σ 8 g) + 1)) i16) (r := i16) (g := g) (q := q) num (by omega) (by omega) (by omega) hro) (cwV 3 S.2.2.2.2 gX1_advertise_X1_receive rfl rfl rfl (by decide +kernel) ⟨Nat.le_of_ble_eq_true rfl, Nat.le_of_ble_eq_true rfl⟩) (q0 := 0) rfl rfl rfl hl.1 rfl (Nat.le_of_ble_eq_true rfl) (Nat.zero_le _) (Nat.zero_le _) dX1_advertise_57 (fun H locs hw => ?_)
              refine lv_iinc (v := nI (3 * (i16 + 1) + g)) (lv' := [(3, .int (nI (3 * (i16 + 1) + g))), (0, .ref (a 0)), (1, .int (nI (3 * q + g))), (2, .int num)]) S.1 S.2.1 dX1_advertise_60 hl (k := 3) rfl (st3 (by omega) hg) (by decide) rfl (fun ls hl => ?_)
              refine lv_goto (tgt := 16) S.1 S.2.1 dX1_advertise_63 (by decide) ?_
              exact ih_16 (i16 + 1) (by omega) _ _ (Wd.cast (congrArg (wM cZ cI a th) (advS_m (fun h => c24 ((eq_pl (by omega) hq hg).mpr h)) ((flip_0 _).mp c50) hro)) hw) _ (lv_sub hl [1, 2, 3, 0] rfl)
  exact L16 (4 - 0) 0 (by omega) _ _ hw _ (lv_sub hl [1, 2, 3, 0] rfl)

theorem inX1_settle : ∀ w ∈ u_ws RX1 TX1 19, w ∈ wsX1_settle := fun _ h => List.mem_cons_of_mem _ (List.mem_append_right _ h)
theorem flX1_settle_7 : Cond.fieldLink RX1 7 "StandbyPairModel" "isDead" "[Z" ∈ wsX1_settle := by decide +kernel
theorem flX1_settle_35 : Cond.fieldLink RX1 35 "StandbyPairModel" "states" "[I" ∈ wsX1_settle := by decide +kernel
theorem flX1_settle_13 : Cond.fieldLink RX1 13 "StandbyPairModel" "bases" "[I" ∈ wsX1_settle := by decide +kernel
theorem flX1_settle_47 : Cond.fieldLink RX1 47 "StandbyPairModel" "isAsked" "[Z" ∈ wsX1_settle := by decide +kernel
set_option maxHeartbeats 4000000 in
set_option maxRecDepth 100000 in
theorem kX1_settle (l : Launch) (D : va_G) (cZ cI : ClassId) (a : Nat → Nat) (th : Int32) (σ : sC) {r g : Nat} (hr : r < 4) (hg : g < 3) : MV l yX1_settle wsX1_settle ({ frames := 4, cells := 0, slots := 0, locals := 88 } : Room) D (tyZ cZ cI) [.ref (a 0), .int (nI (3 * r + g))] (wM cZ cI a th σ) (wM cZ cI a th (settF σ r g)) := by
  refine MV.of (cc := cX1_settle) (maxL := 3) (by decide) rfl ⟨rfl, rfl⟩ (Nat.le_of_ble_eq_true rfl) ?_
  intro p e s m args below meth c A Q S hK hret ls hl hw
  replace hl : lv_has ls 3 [(0, .ref (a 0)), (1, .int (nI (3 * r + g)))] := hl
  replace S : CallFix p m c cX1_settle 3 s args wsX1_settle RX1 := S
  have hin := inX1_settle
  refine lv_aload_n S.1 S.2.1 dX1_settle_0 rfl (lv_at hl 0 rfl) ?_
  refine bx_get S hK hin hw.1 0 rfl rfl 1 (by decide) flX1_settle_7 rfl dX1_settle_1 ?_
  refine lv_iload_n S.1 S.2.1 dX1_settle_4 rfl (lv_at hl 1 rfl) ?_
  refine lv_iconst (v := 3) S.1 S.2.1 dX1_settle_5 (by decide) ?_
  refine lv_idiv S.1 S.2.1 dX1_settle_6 (by decide) ?_
  refine bx_top (y := nI r) (dv3 hr hg) ?_
  refine bx_zald (v := flip (σ 0 r)) S hK hw.1 1 0 rfl rfl (by omega) (by decide) rfl dX1_settle_7 ?_
  refine bz_ne (tgt := 24) S dX1_settle_8 (by decide) (fun c8 => ?_) (fun c8 => ?_)
  · refine lv_iconst (v := 0) S.1 S.2.1 dX1_settle_24 (by decide) ?_
    refine lv_istore_n (lv' := [(2, .int 0), (0, .ref (a 0)), (1, .int (nI (3 * r + g)))]) S.1 S.2.1 dX1_settle_25 rfl hl (by decide) rfl (fun ls hl => ?_)
    refine lv_iload_n S.1 S.2.1 dX1_settle_26 rfl (lv_at hl 0 rfl) ?_
    refine bz_eq (tgt := 52) S dX1_settle_27 (by decide) (fun c27 => ?_) (fun c27 => ?_)
    · refine lv_aload_n S.1 S.2.1 dX1_settle_52 rfl (lv_at hl 1 rfl) ?_
      refine bx_get S hK hin hw.1 0 rfl rfl 9 (by decide) flX1_settle_35 rfl dX1_settle_53 ?_
      refine lv_iload_n S.1 S.2.1 dX1_settle_56 rfl (lv_at hl 2 rfl) ?_
      refine lv_iload_n S.1 S.2.1 dX1_settle_57 rfl (lv_at hl 0 rfl) ?_
      refine bz_eq (tgt := 70) S dX1_settle_58 (by decide) (fun c58 => ?_) (fun c58 => ?_)
      · refine lv_iconst (v := 0) S.1 S.2.1 dX1_settle_70 (by decide) ?_
        refine bx_iast S hK hw 9 1 rfl rfl (by omega) (by decide) (wM_s9 cZ cI a th σ (r := r) (g := g) (by omega) (by omega) 0) dX1_settle_71 (fun H locs hw => ?_)
        exact hret hw dX1_settle_72 (congrArg (wM cZ cI a th) (by simp only [settF, eq_true (flip_1 c8), ↓reduceIte]))
      · exact absurd c58 (by decide)
    · exact absurd c27 (by decide)
  · refine lv_aload_n S.1 S.2.1 dX1_settle_11 rfl (lv_at hl 0 rfl) ?_
    refine bx_get S hK hin hw.1 0 rfl rfl 2 (by decide) flX1_settle_13 rfl dX1_settle_12 ?_
    refine lv_iload_n S.1 S.2.1 dX1_settle_15 rfl (lv_at hl 1 rfl) ?_
    refine bx_iald (v := σ 9 (4 * g + r)) S hK hw.1 2 1 rfl rfl (by omega) (by decide) (congrArg (σ 9) (pm_at (r := r) (g := g) (by omega) (by omega))) dX1_settle_16 ?_
    refine bz_le (tgt := 24) S dX1_settle_17 (by decide) (fun c17 => ?_) (fun c17 => ?_)
    · refine lv_iconst (v := 0) S.1 S.2.1 dX1_settle_24 (by decide) ?_
      refine lv_istore_n (lv' := [(2, .int 0), (0, .ref (a 0)), (1, .int (nI (3 * r + g)))]) S.1 S.2.1 dX1_settle_25 rfl hl (by decide) rfl (fun ls hl => ?_)
      refine lv_iload_n S.1 S.2.1 dX1_settle_26 rfl (lv_at hl 0 rfl) ?_
      refine bz_eq (tgt := 52) S dX1_settle_27 (by decide) (fun c27 => ?_) (fun c27 => ?_)
      · refine lv_aload_n S.1 S.2.1 dX1_settle_52 rfl (lv_at hl 1 rfl) ?_
        refine bx_get S hK hin hw.1 0 rfl rfl 9 (by decide) flX1_settle_35 rfl dX1_settle_53 ?_
        refine lv_iload_n S.1 S.2.1 dX1_settle_56 rfl (lv_at hl 2 rfl) ?_
        refine lv_iload_n S.1 S.2.1 dX1_settle_57 rfl (lv_at hl 0 rfl) ?_
        refine bz_eq (tgt := 70) S dX1_settle_58 (by decide) (fun c58 => ?_) (fun c58 => ?_)
        · refine lv_iconst (v := 0) S.1 S.2.1 dX1_settle_70 (by decide) ?_
          refine bx_iast S hK hw 9 1 rfl rfl (by omega) (by decide) (wM_s9 cZ cI a th σ (r := r) (g := g) (by omega) (by omega) 0) dX1_settle_71 (fun H locs hw => ?_)
          exact hret hw dX1_settle_72 (congrArg (wM cZ cI a th) (by simp only [settF, eq_false ((flip_0 _).mp c8), eq_false c17, ↓reduceIte]))
        · exact absurd c58 (by decide)
      · exact absurd c27 (by decide)
    · refine lv_iconst (v := 1) S.1 S.2.1 dX1_settle_20 (by decide) ?_
      refine lv_goto (tgt := 25) S.1 S.2.1 dX1_settle_21 (by decide) ?_
      refine lv_istore_n (lv' := [(2, .int 1), (0, .ref (a 0)), (1, .int (nI (3 * r + g)))]) S.1 S.2.1 dX1_settle_25 rfl hl (by decide) rfl (fun ls hl => ?_)
      refine lv_iload_n S.1 S.2.1 dX1_settle_26 rfl (lv_at hl 0 rfl) ?_
      refine bz_eq (tgt := 52) S dX1_settle_27 (by decide) (fun c27 => ?_) (fun c27 => ?_)
      · exact absurd c27 (by decide)
      · refine lv_aload_n S.1 S.2.1 dX1_settle_30 rfl (lv_at hl 1 rfl) ?_
        refine bx_get S hK hin hw.1 0 rfl rfl 9 (by decide) flX1_settle_35 rfl dX1_settle_31 ?_
        refine lv_iload_n S.1 S.2.1 dX1_settle_34 rfl (lv_at hl 2 rfl) ?_
        refine bx_iald (v := σ 10 (4 * g + r)) S hK hw.1 9 1 rfl rfl (by omega) (by decide) (congrArg (σ 10) (pm_at (r := r) (g := g) (by omega) (by omega))) dX1_settle_35 ?_
        refine bz_ne (tgt := 52) S dX1_settle_36 (by decide) (fun c36 => ?_) (fun c36 => ?_)
        · refine lv_aload_n S.1 S.2.1 dX1_settle_52 rfl (lv_at hl 1 rfl) ?_
          refine bx_get S hK hin hw.1 0 rfl rfl 9 (by decide) flX1_settle_35 rfl dX1_settle_53 ?_
          refine lv_iload_n S.1 S.2.1 dX1_settle_56 rfl (lv_at hl 2 rfl) ?_
          refine lv_iload_n S.1 S.2.1 dX1_settle_57 rfl (lv_at hl 0 rfl) ?_
          refine bz_eq (tgt := 70) S dX1_settle_58 (by decide) (fun c58 => ?_) (fun c58 => ?_)
          · exact absurd c58 (by decide)
          · refine lv_aload_n S.1 S.2.1 dX1_settle_61 rfl (lv_at hl 1 rfl) ?_
            refine bx_get S hK hin hw.1 0 rfl rfl 9 (by decide) flX1_settle_35 rfl dX1_settle_62 ?_
            refine lv_iload_n S.1 S.2.1 dX1_settle_65 rfl (lv_at hl 2 rfl) ?_
            refine bx_iald (v := σ 10 (4 * g + r)) S hK hw.1 9 1 rfl rfl (by omega) (by decide) (congrArg (σ 10) (pm_at (r := r) (g := g) (by omega) (by omega))) dX1_settle_66 ?_
            refine lv_goto (tgt := 71) S.1 S.2.1 dX1_settle_67 (by decide) ?_
            refine bx_iast S hK hw 9 1 rfl rfl (by omega) (by decide) (wM_s9 cZ cI a th σ (r := r) (g := g) (by omega) (by omega) (σ 10 (4 * g + r))) dX1_settle_71 (fun H locs hw => ?_)
            exact hret hw dX1_settle_72 (congrArg (wM cZ cI a th) (by rw [up_self _ 10 _ _ rfl]; simp only [settF, beginF, eq_false ((flip_0 _).mp c8), eq_true c17, eq_false c36, ↓reduceIte]))
        · refine lv_aload_n S.1 S.2.1 dX1_settle_39 rfl (lv_at hl 1 rfl) ?_
          refine lv_iload_n S.1 S.2.1 dX1_settle_40 rfl (lv_at hl 2 rfl) ?_
          refine lv_iconst (v := 0) S.1 S.2.1 dX1_settle_41 (by decide) ?_
          refine bc_vv (As := [.int (nI (3 * r + g)), .int 0]) (rest := []) S hK hw (kX1_rest l D cZ cI a th σ (r := r) (g := g) 0 (by omega) (by omega)) (cwV 2 S.2.2.2.2 gX1_settle_X1_rest rfl rfl rfl (by decide +kernel) ⟨Nat.le_of_ble_eq_true rfl, Nat.le_of_ble_eq_true rfl⟩) (q0 := 0) rfl rfl rfl hl.1 rfl (Nat.le_of_ble_eq_true rfl) (Nat.zero_le _) (Nat.zero_le _) dX1_settle_42 (fun H locs hw => ?_)
          refine lv_aload_n S.1 S.2.1 dX1_settle_45 rfl (lv_at hl 1 rfl) ?_
          refine bx_get S hK hin hw.1 0 rfl rfl 13 (by decide) flX1_settle_47 rfl dX1_settle_46 ?_
          refine lv_iload_n S.1 S.2.1 dX1_settle_49 rfl (lv_at hl 2 rfl) ?_
          refine lv_iconst (v := 0) S.1 S.2.1 dX1_settle_50 (by decide) ?_
          refine bx_zast S hK hw 13 0 rfl rfl (by omega) (by decide) (by decide) (wM_s13 cZ cI a th (restF σ r g 0) (r := r) (g := g) (by omega) (by omega) 0) dX1_settle_51 (fun H locs hw => ?_)
          refine lv_aload_n S.1 S.2.1 dX1_settle_52 rfl (lv_at hl 1 rfl) ?_
          refine bx_get S hK hin hw.1 0 rfl rfl 9 (by decide) flX1_settle_35 rfl dX1_settle_53 ?_
          refine lv_iload_n S.1 S.2.1 dX1_settle_56 rfl (lv_at hl 2 rfl) ?_
          refine lv_iload_n S.1 S.2.1 dX1_settle_57 rfl (lv_at hl 0 rfl) ?_
          refine bz_eq (tgt := 70) S dX1_settle_58 (by decide) (fun c58 => ?_) (fun c58 => ?_)
          · exact absurd c58 (by decide)
          · refine lv_aload_n S.1 S.2.1 dX1_settle_61 rfl (lv_at hl 1 rfl) ?_
            refine bx_get S hK hin hw.1 0 rfl rfl 9 (by decide) flX1_settle_35 rfl dX1_settle_62 ?_
            refine lv_iload_n S.1 S.2.1 dX1_settle_65 rfl (lv_at hl 2 rfl) ?_
            refine bx_iald (v := (up (restF σ r g 0) 15 (4 * g + r) 0) 10 (4 * g + r)) S hK hw.1 9 1 rfl rfl (by omega) (by decide) (congrArg ((up (restF σ r g 0) 15 (4 * g + r) 0) 10) (pm_at (r := r) (g := g) (by omega) (by omega))) dX1_settle_66 ?_
            refine lv_goto (tgt := 71) S.1 S.2.1 dX1_settle_67 (by decide) ?_
            refine bx_iast S hK hw 9 1 rfl rfl (by omega) (by decide) (wM_s9 cZ cI a th (up (restF σ r g 0) 15 (4 * g + r) 0) (r := r) (g := g) (by omega) (by omega) ((up (restF σ r g 0) 15 (4 * g + r) 0) 10 (4 * g + r))) dX1_settle_71 (fun H locs hw => ?_)
            exact hret hw dX1_settle_72 (congrArg (wM cZ cI a th) (by rw [up_self _ 10 _ _ rfl]; simp only [settF, beginF, eq_false ((flip_0 _).mp c8), eq_true c17, eq_true c36, ↓reduceIte]))

theorem inX1_turn : ∀ w ∈ u_ws RX1 TX1 19, w ∈ wsX1_turn := fun _ h => List.mem_cons_of_mem _ (List.mem_append_right _ h)
theorem flX1_turn_35 : Cond.fieldLink RX1 35 "StandbyPairModel" "states" "[I" ∈ wsX1_turn := by decide +kernel
theorem flX1_turn_38 : Cond.fieldLink RX1 38 "StandbyPairModel" "timers" "[I" ∈ wsX1_turn := by decide +kernel
theorem flX1_turn_50 : Cond.fieldLink RX1 50 "StandbyPairModel" "changes" "[I" ∈ wsX1_turn := by decide +kernel
theorem flX1_turn_26 : Cond.fieldLink RX1 26 "StandbyPairModel" "periods" "[I" ∈ wsX1_turn := by decide +kernel
set_option maxHeartbeats 4000000 in
set_option maxRecDepth 100000 in
theorem kX1_turnM (l : Launch) (D : va_G) (cZ cI : ClassId) (a : Nat → Nat) (th : Int32) (σ : sC) {r g : Nat} (hr : r < 4) (hg : g < 3) (hI : I1 σ) : MV l yX1_turn wsX1_turn ({ frames := 6, cells := 0, slots := 0, locals := 135 } : Room) D (tyZ cZ cI) [.ref (a 0), .int (nI (3 * r + g)), .int 2] (wM cZ cI a th σ) (wM cZ cI a th (turnM g r σ)) := by
  refine MV.of (cc := cX1_turn) (maxL := 3) (by decide) rfl ⟨rfl, rfl⟩ (Nat.le_of_ble_eq_true rfl) ?_
  intro p e s m args below meth c A Q S hK hret ls hl hw
  replace hl : lv_has ls 3 [(0, .ref (a 0)), (1, .int (nI (3 * r + g))), (2, .int 2)] := hl
  replace S : CallFix p m c cX1_turn 3 s args wsX1_turn RX1 := S
  have hin := inX1_turn
  refine lv_aload_n S.1 S.2.1 dX1_turn_0 rfl (lv_at hl 0 rfl) ?_
  refine bx_get S hK hin hw.1 0 rfl rfl 9 (by decide) flX1_turn_35 rfl dX1_turn_1 ?_
  refine lv_iload_n S.1 S.2.1 dX1_turn_4 rfl (lv_at hl 1 rfl) ?_
  refine bx_iald (v := σ 10 (4 * g + r)) S hK hw.1 9 1 rfl rfl (by omega) (by decide) (congrArg (σ 10) (pm_at (r := r) (g := g) (by omega) (by omega))) dX1_turn_5 ?_
  refine lv_iload_n S.1 S.2.1 dX1_turn_6 rfl (lv_at hl 2 rfl) ?_
  refine br_ne (tgt := 79) S dX1_turn_7 (by decide) (fun c7 => ?_) (fun c7 => ?_)
  · exact hret hw dX1_turn_79 (congrArg (wM cZ cI a th) (by simp only [turnM, tick1, sendF, riseF, eq_false c7, ↓reduceIte]))
  · refine lv_aload_n S.1 S.2.1 dX1_turn_10 rfl (lv_at hl 0 rfl) ?_
    refine bx_get S hK hin hw.1 0 rfl rfl 10 (by decide) flX1_turn_38 rfl dX1_turn_11 ?_
    refine lv_iload_n S.1 S.2.1 dX1_turn_14 rfl (lv_at hl 1 rfl) ?_
    refine lv_dup2_11 S.1 S.2.1 dX1_turn_15 rfl rfl ?_
    refine bx_iald (v := σ 11 (4 * g + r)) S hK hw.1 10 1 rfl rfl (by omega) (by decide) (congrArg (σ 11) (pm_at (r := r) (g := g) (by omega) (by omega))) dX1_turn_16 ?_
    refine lv_iconst (v := 1) S.1 S.2.1 dX1_turn_17 (by decide) ?_
    refine lv_isub S.1 S.2.1 dX1_turn_18 ?_
    refine bx_iast S hK hw 10 1 rfl rfl (by omega) (by decide) (wM_s10 cZ cI a th σ (r := r) (g := g) (by omega) (by omega) ((σ 11 (4 * g + r)) - 1)) dX1_turn_19 (fun H locs hw => ?_)
    refine lv_aload_n S.1 S.2.1 dX1_turn_20 rfl (lv_at hl 0 rfl) ?_
    refine bx_get S hK hin hw.1 0 rfl rfl 10 (by decide) flX1_turn_38 rfl dX1_turn_21 ?_
    refine lv_iload_n S.1 S.2.1 dX1_turn_24 rfl (lv_at hl 1 rfl) ?_
    refine bx_iald (v := (up σ 11 (4 * g + r) ((σ 11 (4 * g + r)) - 1)) 11 (4 * g + r)) S hK hw.1 10 1 rfl rfl (by omega) (by decide) (congrArg ((up σ 11 (4 * g + r) ((σ 11 (4 * g + r)) - 1)) 11) (pm_at (r := r) (g := g) (by omega) (by omega))) dX1_turn_25 ?_
    refine bz_ne (tgt := 79) S dX1_turn_26 (by decide) (fun c26 => ?_) (fun c26 => ?_)
    · exact hret hw dX1_turn_79 (congrArg (wM cZ cI a th) (by simp only [turnM, tick1, sendF, riseF, eq_true c7, eq_false c26, ↓reduceIte]))
    · refine lv_aload_n S.1 S.2.1 dX1_turn_29 rfl (lv_at hl 0 rfl) ?_
      refine bx_get S hK hin hw.1 0 rfl rfl 14 (by decide) flX1_turn_50 rfl dX1_turn_30 ?_
      refine lv_iload_n S.1 S.2.1 dX1_turn_33 rfl (lv_at hl 1 rfl) ?_
      refine lv_dup2_11 S.1 S.2.1 dX1_turn_34 rfl rfl ?_
      refine bx_iald (v := (up σ 11 (4 * g + r) ((σ 11 (4 * g + r)) - 1)) 14 (4 * g + r)) S hK hw.1 14 1 rfl rfl (by omega) (by decide) (congrArg ((up σ 11 (4 * g + r) ((σ 11 (4 * g + r)) - 1)) 14) (pm_at (r := r) (g := g) (by omega) (by omega))) dX1_turn_35 ?_
      refine lv_iload_n S.1 S.2.1 dX1_turn_36 rfl (lv_at hl 2 rfl) ?_
      refine lv_iconst (v := 1) S.1 S.2.1 dX1_turn_37 (by decide) ?_
      refine br_ne (tgt := 45) S dX1_turn_38 (by decide) (fun c38 => ?_) (fun c38 => ?_)
      · refine lv_iconst (v := 0) S.1 S.2.1 dX1_turn_45 (by decide) ?_
        refine lv_iadd S.1 S.2.1 dX1_turn_46 ?_
        refine bx_iast S hK hw 14 1 rfl rfl (by omega) (by decide) (wM_s14 cZ cI a th (up σ 11 (4 * g + r) ((σ 11 (4 * g + r)) - 1)) (r := r) (g := g) (by omega) (by omega) (((up σ 11 (4 * g + r) ((σ 11 (4 * g + r)) - 1)) 14 (4 * g + r)) + 0)) dX1_turn_47 (fun H locs hw => ?_)
        refine lv_aload_n S.1 S.2.1 dX1_turn_48 rfl (lv_at hl 0 rfl) ?_
        refine bx_get S hK hin hw.1 0 rfl rfl 9 (by decide) flX1_turn_35 rfl dX1_turn_49 ?_
        refine lv_iload_n S.1 S.2.1 dX1_turn_52 rfl (lv_at hl 1 rfl) ?_
        refine lv_iconst (v := 2) S.1 S.2.1 dX1_turn_53 (by decide) ?_
        refine bx_iast S hK hw 9 1 rfl rfl (by omega) (by decide) (wM_s9 cZ cI a th (up (up σ 11 (4 * g + r) ((σ 11 (4 * g + r)) - 1)) 14 (4 * g + r) (((up σ 11 (4 * g + r) ((σ 11 (4 * g + r)) - 1)) 14 (4 * g + r)) + 0)) (r := r) (g := g) (by omega) (by omega) 2) dX1_turn_54 (fun H locs hw => ?_)
        replace hw := Wd.cast (congrArg (wM cZ cI a th) (show up (up (up σ 11 (4 * g + r) ((σ 11 (4 * g + r)) - 1)) 14 (4 * g + r) (((up σ 11 (4 * g + r) ((σ 11 (4 * g + r)) - 1)) 14 (4 * g + r)) + 0)) 10 (4 * g + r) 2 = tick1 σ r g from turn_m2 (tick1 σ r g) c7)) hw
        have hA := I1_tick1 r g hI
        refine lv_aload_n S.1 S.2.1 dX1_turn_55 rfl (lv_at hl 0 rfl) ?_
        refine lv_iload_n S.1 S.2.1 dX1_turn_56 rfl (lv_at hl 1 rfl) ?_
        refine lv_aload_n S.1 S.2.1 dX1_turn_57 rfl (lv_at hl 0 rfl) ?_
        refine lv_iload_n S.1 S.2.1 dX1_turn_58 rfl (lv_at hl 1 rfl) ?_
        refine bc_vi (As := [.int (nI (3 * r + g))]) (rest := [.int (nI (3 * r + g)), .ref (a 0)]) S hK hw (kX1_priorityAt l D cZ cI a th (tick1 σ r g) (r := r) (g := g) (by omega) (by omega)) (cwV 1 S.2.2.2.2 gX1_turn_X1_priorityAt rfl rfl rfl (by decide +kernel) ⟨Nat.le_of_ble_eq_true rfl, Nat.le_of_ble_eq_true rfl⟩) (q0 := 0) rfl rfl rfl hl.1 rfl (Nat.le_of_ble_eq_true rfl) (Nat.zero_le _) (Nat.zero_le _) dX1_turn_59 (fun H locs hw => ?_)
        refine bc_vv (As := [.int (nI (3 * r + g)), .int (lowP (tick1 σ r g) r g)]) (rest := []) S hK hw (kX1_advertise l D cZ cI a th (tick1 σ r g) (q := r) (g := g) (lowP (tick1 σ r g) r g) (by omega) (by omega) hA) (cwV 2 S.2.2.2.2 gX1_turn_X1_advertise rfl rfl rfl (by decide +kernel) ⟨Nat.le_of_ble_eq_true rfl, Nat.le_of_ble_eq_true rfl⟩) (q0 := 0) rfl rfl rfl hl.1 rfl (Nat.le_of_ble_eq_true rfl) (Nat.zero_le _) (Nat.zero_le _) dX1_turn_62 (fun H locs hw => ?_)
        refine lv_aload_n S.1 S.2.1 dX1_turn_65 rfl (lv_at hl 0 rfl) ?_
        refine bx_get S hK hin hw.1 0 rfl rfl 10 (by decide) flX1_turn_38 rfl dX1_turn_66 ?_
        refine lv_iload_n S.1 S.2.1 dX1_turn_69 rfl (lv_at hl 1 rfl) ?_
        refine lv_aload_n S.1 S.2.1 dX1_turn_70 rfl (lv_at hl 0 rfl) ?_
        refine bx_get S hK hin hw.1 0 rfl rfl 6 (by decide) flX1_turn_26 rfl dX1_turn_71 ?_
        refine lv_iload_n S.1 S.2.1 dX1_turn_74 rfl (lv_at hl 1 rfl) ?_
        refine lv_iconst (v := 3) S.1 S.2.1 dX1_turn_75 (by decide) ?_
        refine lv_irem S.1 S.2.1 dX1_turn_76 (by decide) ?_
        refine bx_top (y := nI g) (md3 hr hg) ?_
        refine bx_iald (v := (advF (tick1 σ r g) r g (lowP (tick1 σ r g) r g)) 4 g) S hK hw.1 6 1 rfl rfl (by omega) (by decide) rfl dX1_turn_77 ?_
        refine bx_iast S hK hw 10 1 rfl rfl (by omega) (by decide) (wM_s10 cZ cI a th (advF (tick1 σ r g) r g (lowP (tick1 σ r g) r g)) (r := r) (g := g) (by omega) (by omega) ((advF (tick1 σ r g) r g (lowP (tick1 σ r g) r g)) 4 g)) dX1_turn_78 (fun H locs hw => ?_)
        exact hret hw dX1_turn_79 (congrArg (wM cZ cI a th) (by simp only [turnM, tick1, sendF, riseF, eq_true c7, eq_true c26, ↓reduceIte]))
      · exact absurd c38 (by decide)

set_option maxHeartbeats 4000000 in
set_option maxRecDepth 100000 in
theorem kX1_turnB (l : Launch) (D : va_G) (cZ cI : ClassId) (a : Nat → Nat) (th : Int32) (σ : sC) {r g : Nat} (hr : r < 4) (hg : g < 3) (hI : I1 σ) : MV l yX1_turn wsX1_turn ({ frames := 6, cells := 0, slots := 0, locals := 135 } : Room) D (tyZ cZ cI) [.ref (a 0), .int (nI (3 * r + g)), .int 1] (wM cZ cI a th σ) (wM cZ cI a th (turnB g r σ)) := by
  refine MV.of (cc := cX1_turn) (maxL := 3) (by decide) rfl ⟨rfl, rfl⟩ (Nat.le_of_ble_eq_true rfl) ?_
  intro p e s m args below meth c A Q S hK hret ls hl hw
  replace hl : lv_has ls 3 [(0, .ref (a 0)), (1, .int (nI (3 * r + g))), (2, .int 1)] := hl
  replace S : CallFix p m c cX1_turn 3 s args wsX1_turn RX1 := S
  have hin := inX1_turn
  refine lv_aload_n S.1 S.2.1 dX1_turn_0 rfl (lv_at hl 0 rfl) ?_
  refine bx_get S hK hin hw.1 0 rfl rfl 9 (by decide) flX1_turn_35 rfl dX1_turn_1 ?_
  refine lv_iload_n S.1 S.2.1 dX1_turn_4 rfl (lv_at hl 1 rfl) ?_
  refine bx_iald (v := σ 10 (4 * g + r)) S hK hw.1 9 1 rfl rfl (by omega) (by decide) (congrArg (σ 10) (pm_at (r := r) (g := g) (by omega) (by omega))) dX1_turn_5 ?_
  refine lv_iload_n S.1 S.2.1 dX1_turn_6 rfl (lv_at hl 2 rfl) ?_
  refine br_ne (tgt := 79) S dX1_turn_7 (by decide) (fun c7 => ?_) (fun c7 => ?_)
  · exact hret hw dX1_turn_79 (congrArg (wM cZ cI a th) (by simp only [turnB, tick1, sendF, riseF, eq_false c7, ↓reduceIte]))
  · refine lv_aload_n S.1 S.2.1 dX1_turn_10 rfl (lv_at hl 0 rfl) ?_
    refine bx_get S hK hin hw.1 0 rfl rfl 10 (by decide) flX1_turn_38 rfl dX1_turn_11 ?_
    refine lv_iload_n S.1 S.2.1 dX1_turn_14 rfl (lv_at hl 1 rfl) ?_
    refine lv_dup2_11 S.1 S.2.1 dX1_turn_15 rfl rfl ?_
    refine bx_iald (v := σ 11 (4 * g + r)) S hK hw.1 10 1 rfl rfl (by omega) (by decide) (congrArg (σ 11) (pm_at (r := r) (g := g) (by omega) (by omega))) dX1_turn_16 ?_
    refine lv_iconst (v := 1) S.1 S.2.1 dX1_turn_17 (by decide) ?_
    refine lv_isub S.1 S.2.1 dX1_turn_18 ?_
    refine bx_iast S hK hw 10 1 rfl rfl (by omega) (by decide) (wM_s10 cZ cI a th σ (r := r) (g := g) (by omega) (by omega) ((σ 11 (4 * g + r)) - 1)) dX1_turn_19 (fun H locs hw => ?_)
    refine lv_aload_n S.1 S.2.1 dX1_turn_20 rfl (lv_at hl 0 rfl) ?_
    refine bx_get S hK hin hw.1 0 rfl rfl 10 (by decide) flX1_turn_38 rfl dX1_turn_21 ?_
    refine lv_iload_n S.1 S.2.1 dX1_turn_24 rfl (lv_at hl 1 rfl) ?_
    refine bx_iald (v := (up σ 11 (4 * g + r) ((σ 11 (4 * g + r)) - 1)) 11 (4 * g + r)) S hK hw.1 10 1 rfl rfl (by omega) (by decide) (congrArg ((up σ 11 (4 * g + r) ((σ 11 (4 * g + r)) - 1)) 11) (pm_at (r := r) (g := g) (by omega) (by omega))) dX1_turn_25 ?_
    refine bz_ne (tgt := 79) S dX1_turn_26 (by decide) (fun c26 => ?_) (fun c26 => ?_)
    · exact hret hw dX1_turn_79 (congrArg (wM cZ cI a th) (by simp only [turnB, tick1, sendF, riseF, eq_true c7, eq_false c26, ↓reduceIte]))
    · refine lv_aload_n S.1 S.2.1 dX1_turn_29 rfl (lv_at hl 0 rfl) ?_
      refine bx_get S hK hin hw.1 0 rfl rfl 14 (by decide) flX1_turn_50 rfl dX1_turn_30 ?_
      refine lv_iload_n S.1 S.2.1 dX1_turn_33 rfl (lv_at hl 1 rfl) ?_
      refine lv_dup2_11 S.1 S.2.1 dX1_turn_34 rfl rfl ?_
      refine bx_iald (v := (up σ 11 (4 * g + r) ((σ 11 (4 * g + r)) - 1)) 14 (4 * g + r)) S hK hw.1 14 1 rfl rfl (by omega) (by decide) (congrArg ((up σ 11 (4 * g + r) ((σ 11 (4 * g + r)) - 1)) 14) (pm_at (r := r) (g := g) (by omega) (by omega))) dX1_turn_35 ?_
      refine lv_iload_n S.1 S.2.1 dX1_turn_36 rfl (lv_at hl 2 rfl) ?_
      refine lv_iconst (v := 1) S.1 S.2.1 dX1_turn_37 (by decide) ?_
      refine br_ne (tgt := 45) S dX1_turn_38 (by decide) (fun c38 => ?_) (fun c38 => ?_)
      · exact absurd c38 (by decide)
      · refine lv_iconst (v := 1) S.1 S.2.1 dX1_turn_41 (by decide) ?_
        refine lv_goto (tgt := 46) S.1 S.2.1 dX1_turn_42 (by decide) ?_
        refine lv_iadd S.1 S.2.1 dX1_turn_46 ?_
        refine bx_iast S hK hw 14 1 rfl rfl (by omega) (by decide) (wM_s14 cZ cI a th (up σ 11 (4 * g + r) ((σ 11 (4 * g + r)) - 1)) (r := r) (g := g) (by omega) (by omega) (((up σ 11 (4 * g + r) ((σ 11 (4 * g + r)) - 1)) 14 (4 * g + r)) + 1)) dX1_turn_47 (fun H locs hw => ?_)
        refine lv_aload_n S.1 S.2.1 dX1_turn_48 rfl (lv_at hl 0 rfl) ?_
        refine bx_get S hK hin hw.1 0 rfl rfl 9 (by decide) flX1_turn_35 rfl dX1_turn_49 ?_
        refine lv_iload_n S.1 S.2.1 dX1_turn_52 rfl (lv_at hl 1 rfl) ?_
        refine lv_iconst (v := 2) S.1 S.2.1 dX1_turn_53 (by decide) ?_
        refine bx_iast S hK hw 9 1 rfl rfl (by omega) (by decide) (wM_s9 cZ cI a th (up (up σ 11 (4 * g + r) ((σ 11 (4 * g + r)) - 1)) 14 (4 * g + r) (((up σ 11 (4 * g + r) ((σ 11 (4 * g + r)) - 1)) 14 (4 * g + r)) + 1)) (r := r) (g := g) (by omega) (by omega) 2) dX1_turn_54 (fun H locs hw => ?_)
        replace hw := Wd.cast (congrArg (wM cZ cI a th) (show up (up (up σ 11 (4 * g + r) ((σ 11 (4 * g + r)) - 1)) 14 (4 * g + r) (((up σ 11 (4 * g + r) ((σ 11 (4 * g + r)) - 1)) 14 (4 * g + r)) + 1)) 10 (4 * g + r) 2 = riseF (tick1 σ r g) r g from turn_m1 (tick1 σ r g) r g)) hw
        have hA := I1_rise r g (I1_tick1 r g hI)
        refine lv_aload_n S.1 S.2.1 dX1_turn_55 rfl (lv_at hl 0 rfl) ?_
        refine lv_iload_n S.1 S.2.1 dX1_turn_56 rfl (lv_at hl 1 rfl) ?_
        refine lv_aload_n S.1 S.2.1 dX1_turn_57 rfl (lv_at hl 0 rfl) ?_
        refine lv_iload_n S.1 S.2.1 dX1_turn_58 rfl (lv_at hl 1 rfl) ?_
        refine bc_vi (As := [.int (nI (3 * r + g))]) (rest := [.int (nI (3 * r + g)), .ref (a 0)]) S hK hw (kX1_priorityAt l D cZ cI a th (riseF (tick1 σ r g) r g) (r := r) (g := g) (by omega) (by omega)) (cwV 1 S.2.2.2.2 gX1_turn_X1_priorityAt rfl rfl rfl (by decide +kernel) ⟨Nat.le_of_ble_eq_true rfl, Nat.le_of_ble_eq_true rfl⟩) (q0 := 0) rfl rfl rfl hl.1 rfl (Nat.le_of_ble_eq_true rfl) (Nat.zero_le _) (Nat.zero_le _) dX1_turn_59 (fun H locs hw => ?_)
        refine bc_vv (As := [.int (nI (3 * r + g)), .int (lowP (riseF (tick1 σ r g) r g) r g)]) (rest := []) S hK hw (kX1_advertise l D cZ cI a th (riseF (tick1 σ r g) r g) (q := r) (g := g) (lowP (riseF (tick1 σ r g) r g) r g) (by omega) (by omega) hA) (cwV 2 S.2.2.2.2 gX1_turn_X1_advertise rfl rfl rfl (by decide +kernel) ⟨Nat.le_of_ble_eq_true rfl, Nat.le_of_ble_eq_true rfl⟩) (q0 := 0) rfl rfl rfl hl.1 rfl (Nat.le_of_ble_eq_true rfl) (Nat.zero_le _) (Nat.zero_le _) dX1_turn_62 (fun H locs hw => ?_)
        refine lv_aload_n S.1 S.2.1 dX1_turn_65 rfl (lv_at hl 0 rfl) ?_
        refine bx_get S hK hin hw.1 0 rfl rfl 10 (by decide) flX1_turn_38 rfl dX1_turn_66 ?_
        refine lv_iload_n S.1 S.2.1 dX1_turn_69 rfl (lv_at hl 1 rfl) ?_
        refine lv_aload_n S.1 S.2.1 dX1_turn_70 rfl (lv_at hl 0 rfl) ?_
        refine bx_get S hK hin hw.1 0 rfl rfl 6 (by decide) flX1_turn_26 rfl dX1_turn_71 ?_
        refine lv_iload_n S.1 S.2.1 dX1_turn_74 rfl (lv_at hl 1 rfl) ?_
        refine lv_iconst (v := 3) S.1 S.2.1 dX1_turn_75 (by decide) ?_
        refine lv_irem S.1 S.2.1 dX1_turn_76 (by decide) ?_
        refine bx_top (y := nI g) (md3 hr hg) ?_
        refine bx_iald (v := (advF (riseF (tick1 σ r g) r g) r g (lowP (riseF (tick1 σ r g) r g) r g)) 4 g) S hK hw.1 6 1 rfl rfl (by omega) (by decide) rfl dX1_turn_77 ?_
        refine bx_iast S hK hw 10 1 rfl rfl (by omega) (by decide) (wM_s10 cZ cI a th (advF (riseF (tick1 σ r g) r g) r g (lowP (riseF (tick1 σ r g) r g) r g)) (r := r) (g := g) (by omega) (by omega) ((advF (riseF (tick1 σ r g) r g) r g (lowP (riseF (tick1 σ r g) r g) r g)) 4 g)) dX1_turn_78 (fun H locs hw => ?_)
        exact hret hw dX1_turn_79 (congrArg (wM cZ cI a th) (by simp only [turnB, tick1, sendF, riseF, eq_true c7, eq_true c26, ↓reduceIte]))

theorem inX1_hasMaster : ∀ w ∈ u_ws RX1 TX1 19, w ∈ wsX1_hasMaster := fun _ h => List.mem_cons_of_mem _ (List.mem_append_right _ h)
theorem flX1_hasMaster_35 : Cond.fieldLink RX1 35 "StandbyPairModel" "states" "[I" ∈ wsX1_hasMaster := by decide +kernel
set_option maxHeartbeats 4000000 in
set_option maxRecDepth 100000 in
theorem kX1_hasMaster (l : Launch) (D : va_G) (cZ cI : ClassId) (a : Nat → Nat) (th : Int32) (σ : sC) {g : Nat} (hg : g < 3) : MI l yX1_hasMaster wsX1_hasMaster ({ frames := 0, cells := 0, slots := 0, locals := 0 } : Room) D (tyZ cZ cI) [.ref (a 0), .int (nI g)] (wM cZ cI a th σ) (hasM σ g) (wM cZ cI a th σ) := by
  refine MI.of (cc := cX1_hasMaster) (maxL := 4) (ty := .boolean) (by decide) rfl (nar_z (hasM_z σ g)) ⟨rfl, rfl⟩ (Nat.le_of_ble_eq_true rfl) ?_
  intro p e s m args below meth c A Q S hK hret ls hl hw
  replace hl : lv_has ls 4 [(0, .ref (a 0)), (1, .int (nI g))] := hl
  replace S : CallFix p m c cX1_hasMaster 4 s args wsX1_hasMaster RX1 := S
  have hin := inX1_hasMaster
  refine lv_iconst (v := 0) S.1 S.2.1 dX1_hasMaster_0 (by decide) ?_
  refine lv_istore_n (lv' := [(2, .int 0), (0, .ref (a 0)), (1, .int (nI g))]) S.1 S.2.1 dX1_hasMaster_1 rfl hl (by decide) rfl (fun ls hl => ?_)
  refine lv_iload_n S.1 S.2.1 dX1_hasMaster_2 rfl (lv_at hl 2 rfl) ?_
  refine bx_top (y := nI (3 * 0 + g)) (congrArg nI (by omega)) ?_
  refine lv_istore_n (lv' := [(3, .int (nI (3 * 0 + g))), (2, .int 0), (0, .ref (a 0)), (1, .int (nI g))]) S.1 S.2.1 dX1_hasMaster_3 rfl hl (by decide) rfl (fun ls hl => ?_)
  have L4 : ∀ (n i4 : Nat), i4 + n = 4 → ∀ (H : Heap) (locs : List Loc), Wd D A s.heap (wM cZ cI a th σ) H locs → ∀ ls : Array Slot, lv_has ls 4 [(0, .ref (a 0)), (1, .int (nI g)), (2, .int (itF (hasS σ g) 0 i4)), (3, .int (nI (3 * i4 + g)))] → W p l e ({ frames := 0, cells := 0, slots := 0, locals := 0 } : Room) s m args below meth c H locs 0 0 Q (F0 m 4 ls []) := by
    intro n
    induction n with
    | zero =>
      intro i4 hi H locs hw ls hl
      obtain rfl : i4 = 4 := by omega
      refine lv_iload_n S.1 S.2.1 dX1_hasMaster_4 rfl (lv_at hl 3 rfl) ?_
      refine lv_bipush (v := nI 12) S.1 S.2.1 dX1_hasMaster_5 (by decide) ?_
      refine br_ge (tgt := 36) S dX1_hasMaster_7 (by decide) (fun c7 => ?_) (fun c7 => ?_)
      · refine lv_iload_n S.1 S.2.1 dX1_hasMaster_36 rfl (lv_at hl 2 rfl) ?_
        exact hret hw dX1_hasMaster_37 (rfl) (congrArg (wM cZ cI a th) (rfl))
      · exact absurd c7 (ge12 (by omega))
    | succ n ih_4 =>
      intro i4 hi H locs hw ls hl
      have hi4 : i4 < 4 := by omega
      refine lv_iload_n S.1 S.2.1 dX1_hasMaster_4 rfl (lv_at hl 3 rfl) ?_
      refine lv_bipush (v := nI 12) S.1 S.2.1 dX1_hasMaster_5 (by decide) ?_
      refine br_ge (tgt := 36) S dX1_hasMaster_7 (by decide) (fun c7 => ?_) (fun c7 => ?_)
      · exact absurd c7 (not_not_intro (lt12 (by omega) (by omega)))
      · refine lv_iload_n S.1 S.2.1 dX1_hasMaster_10 rfl (lv_at hl 2 rfl) ?_
        refine bz_ne (tgt := 24) S dX1_hasMaster_11 (by decide) (fun c11 => ?_) (fun c11 => ?_)
        · refine lv_iconst (v := 1) S.1 S.2.1 dX1_hasMaster_24 (by decide) ?_
          refine lv_goto (tgt := 29) S.1 S.2.1 dX1_hasMaster_25 (by decide) ?_
          refine lv_istore_n (lv' := [(2, .int 1), (0, .ref (a 0)), (1, .int (nI g)), (3, .int (nI (3 * i4 + g)))]) S.1 S.2.1 dX1_hasMaster_29 rfl hl (by decide) rfl (fun ls hl => ?_)
          refine lv_iinc (v := nI (3 * (i4 + 1) + g)) (lv' := [(3, .int (nI (3 * (i4 + 1) + g))), (2, .int 1), (0, .ref (a 0)), (1, .int (nI g))]) S.1 S.2.1 dX1_hasMaster_30 hl (k := 3) rfl (st3 (by omega) hg) (by decide) rfl (fun ls hl => ?_)
          refine lv_goto (tgt := 4) S.1 S.2.1 dX1_hasMaster_33 (by decide) ?_
          have ea : itF (hasS σ g) 0 (i4 + 1) = 1 := by simp only [itF, hasS, eq_true c7, eq_false c11, ↓reduceIte]
          exact ih_4 (i4 + 1) (by omega) _ _ hw _ (by rw [ea]; exact lv_sub hl [2, 3, 1, 0] rfl)
        · refine lv_aload_n S.1 S.2.1 dX1_hasMaster_14 rfl (lv_at hl 0 rfl) ?_
          refine bx_get S hK hin hw.1 0 rfl rfl 9 (by decide) flX1_hasMaster_35 rfl dX1_hasMaster_15 ?_
          refine lv_iload_n S.1 S.2.1 dX1_hasMaster_18 rfl (lv_at hl 3 rfl) ?_
          refine bx_iald (v := σ 10 (4 * g + i4)) S hK hw.1 9 1 rfl rfl (by omega) (by decide) (congrArg (σ 10) (pm_at (r := i4) (g := g) (by omega) (by omega))) dX1_hasMaster_19 ?_
          refine lv_iconst (v := 2) S.1 S.2.1 dX1_hasMaster_20 (by decide) ?_
          refine br_ne (tgt := 28) S dX1_hasMaster_21 (by decide) (fun c21 => ?_) (fun c21 => ?_)
          · refine lv_iconst (v := 0) S.1 S.2.1 dX1_hasMaster_28 (by decide) ?_
            refine lv_istore_n (lv' := [(2, .int 0), (0, .ref (a 0)), (1, .int (nI g)), (3, .int (nI (3 * i4 + g)))]) S.1 S.2.1 dX1_hasMaster_29 rfl hl (by decide) rfl (fun ls hl => ?_)
            refine lv_iinc (v := nI (3 * (i4 + 1) + g)) (lv' := [(3, .int (nI (3 * (i4 + 1) + g))), (2, .int 0), (0, .ref (a 0)), (1, .int (nI g))]) S.1 S.2.1 dX1_hasMaster_30 hl (k := 3) rfl (st3 (by omega) hg) (by decide) rfl (fun ls hl => ?_)
            refine lv_goto (tgt := 4) S.1 S.2.1 dX1_hasMaster_33 (by decide) ?_
            have ea : itF (hasS σ g) 0 (i4 + 1) = 0 := by simp only [itF, hasS, eq_true c7, eq_true c11, eq_false c21, ↓reduceIte]
            exact ih_4 (i4 + 1) (by omega) _ _ hw _ (by rw [ea]; exact lv_sub hl [2, 3, 1, 0] rfl)
          · refine lv_iconst (v := 1) S.1 S.2.1 dX1_hasMaster_24 (by decide) ?_
            refine lv_goto (tgt := 29) S.1 S.2.1 dX1_hasMaster_25 (by decide) ?_
            refine lv_istore_n (lv' := [(2, .int 1), (0, .ref (a 0)), (1, .int (nI g)), (3, .int (nI (3 * i4 + g)))]) S.1 S.2.1 dX1_hasMaster_29 rfl hl (by decide) rfl (fun ls hl => ?_)
            refine lv_iinc (v := nI (3 * (i4 + 1) + g)) (lv' := [(3, .int (nI (3 * (i4 + 1) + g))), (2, .int 1), (0, .ref (a 0)), (1, .int (nI g))]) S.1 S.2.1 dX1_hasMaster_30 hl (k := 3) rfl (st3 (by omega) hg) (by decide) rfl (fun ls hl => ?_)
            refine lv_goto (tgt := 4) S.1 S.2.1 dX1_hasMaster_33 (by decide) ?_
            have ea : itF (hasS σ g) 0 (i4 + 1) = 1 := by simp only [itF, hasS, eq_true c7, eq_true c11, eq_true c21, ↓reduceIte]
            exact ih_4 (i4 + 1) (by omega) _ _ hw _ (by rw [ea]; exact lv_sub hl [2, 3, 1, 0] rfl)
  exact L4 (4 - 0) 0 (by omega) _ _ hw _ (lv_sub hl [2, 3, 1, 0] rfl)
