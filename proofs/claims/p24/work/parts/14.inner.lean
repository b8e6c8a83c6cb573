theorem inX0_membersWith : ∀ w ∈ u_ws RX0 TX0 18, w ∈ wsX0_membersWith := fun _ h => List.mem_cons_of_mem _ (List.mem_append_right _ h)
theorem flX0_membersWith_41 : Cond.fieldLink RX0 41 "StandbyPair" "roles" "[I" ∈ wsX0_membersWith := by decide +kernel
set_option maxHeartbeats 4000000 in
set_option maxRecDepth 100000 in
theorem kX0_membersWith (l : Launch) (D : va_G) (cZ cI : ClassId) (a : Nat → Nat) (σ : sC) (role : Int32) {g : Nat} (hg : g < 3) : MI l yX0_membersWith wsX0_membersWith ({ frames := 1, cells := 0, slots := 0, locals := 21 } : Room) D (tyZ cZ cI) [.ref (a 0), .int role, .int (nI g)] (wX cZ cI a σ) (memW σ role g) (wX cZ cI a σ) := by
  refine MI.of (cc := cX0_membersWith) (maxL := 5) (ty := .int) (by decide) rfl (rfl) ⟨rfl, rfl⟩ (Nat.le_of_ble_eq_true rfl) ?_
  intro p e s m args below meth c A Q S hK hret ls hl hw
  replace hl : lv_has ls 5 [(0, .ref (a 0)), (1, .int role), (2, .int (nI g))] := hl
  replace S : CallFix p m c cX0_membersWith 5 s args wsX0_membersWith RX0 := S
  have hin := inX0_membersWith
  refine lv_iconst (v := 0) S.1 S.2.1 dX0_membersWith_0 (by decide) ?_
  refine lv_istore_n (lv' := [(3, .int 0), (0, .ref (a 0)), (1, .int role), (2, .int (nI g))]) S.1 S.2.1 dX0_membersWith_1 rfl hl (by decide) rfl (fun ls hl => ?_)
  refine lv_iconst (v := nI 0) S.1 S.2.1 dX0_membersWith_2 (by decide) ?_
  refine lv_istore (lv' := [(4, .int (nI 0)), (3, .int 0), (0, .ref (a 0)), (1, .int role), (2, .int (nI g))]) S.1 S.2.1 dX0_membersWith_3 hl (by decide) rfl (fun ls hl => ?_)
  have L5 : ∀ (n i5 : Nat), i5 + n = 4 → ∀ (H : Heap) (locs : List Loc), Wd D A s.heap (wX cZ cI a σ) H locs → ∀ ls : Array Slot, lv_has ls 5 [(0, .ref (a 0)), (1, .int role), (2, .int (nI g)), (3, .int (itF (memS σ role g) 0 i5)), (4, .int (nI i5))] → W p l e ({ frames := 1, cells := 0, slots := 0, locals := 21 } : Room) s m args below meth c H locs 0 0 Q (F0 m 5 ls []) := by
    intro n
    induction n with
    | zero =>
      intro i5 hi H locs hw ls hl
      obtain rfl : i5 = 4 := by omega
      refine lv_iload S.1 S.2.1 dX0_membersWith_5 (lv_at hl 4 rfl) ?_
      refine lv_iconst (v := nI 4) S.1 S.2.1 dX0_membersWith_7 (by decide) ?_
      refine br_ge (tgt := 39) S dX0_membersWith_8 (by decide) (fun c8 => ?_) (fun c8 => ?_)
      · refine lv_iload_n S.1 S.2.1 dX0_membersWith_39 rfl (lv_at hl 3 rfl) ?_
        exact hret hw dX0_membersWith_40 (rfl) (congrArg (wX cZ cI a) (rfl))
      · exact absurd c8 (nlt_nI (by decide))
    | succ n ih_5 =>
      intro i5 hi H locs hw ls hl
      have hi5 : i5 < 4 := by omega
      refine lv_iload S.1 S.2.1 dX0_membersWith_5 (lv_at hl 4 rfl) ?_
      refine lv_iconst (v := nI 4) S.1 S.2.1 dX0_membersWith_7 (by decide) ?_
      refine br_ge (tgt := 39) S dX0_membersWith_8 (by decide) (fun c8 => ?_) (fun c8 => ?_)
      · exact absurd c8 (not_not_intro (lt_nI hi5 (by decide)))
      · refine lv_aload_n S.1 S.2.1 dX0_membersWith_11 rfl (lv_at hl 0 rfl) ?_
        refine bx_get S hK hin hw.1 0 rfl rfl 10 (by decide) flX0_membersWith_41 rfl dX0_membersWith_12 ?_
        refine lv_iload S.1 S.2.1 dX0_membersWith_15 (lv_at hl 4 rfl) ?_
        refine lv_iload_n S.1 S.2.1 dX0_membersWith_17 rfl (lv_at hl 2 rfl) ?_
        refine bc_si (As := [.int (nI i5), .int (nI g)]) (rest := [.ref (a 11)]) S hK hw (kX0_placeOf l D _ (r := i5) (g := g) (by omega) (by omega)) (va_cwS 2 S.2.2.2.2 gX0_membersWith_X0_placeOf rfl rfl rfl (by decide +kernel) ⟨Nat.le_of_ble_eq_true rfl, Nat.le_of_ble_eq_true rfl⟩) rfl hl.1 rfl (Nat.le_of_ble_eq_true rfl) (Nat.zero_le _) (Nat.zero_le _) dX0_membersWith_18 (fun H locs hw => ?_)
        refine bx_iald (v := σ 10 (4 * g + i5)) S hK hw.1 11 1 rfl rfl (by omega) (by decide) rfl dX0_membersWith_21 ?_
        refine lv_iload_n S.1 S.2.1 dX0_membersWith_22 rfl (lv_at hl 1 rfl) ?_
        refine br_ne (tgt := 33) S dX0_membersWith_23 (by decide) (fun c23 => ?_) (fun c23 => ?_)
        · refine lv_iinc (v := nI (i5 + 1)) (lv' := [(4, .int (nI (i5 + 1))), (0, .ref (a 0)), (1, .int role), (2, .int (nI g)), (3, .int (itF (memS σ role g) 0 i5))]) S.1 S.2.1 dX0_membersWith_33 hl (k := 4) rfl (nI_1 i5) (by decide) rfl (fun ls hl => ?_)
          refine lv_goto (tgt := 5) S.1 S.2.1 dX0_membersWith_36 (by decide) ?_
          have ea : itF (memS σ role g) 0 (i5 + 1) = itF (memS σ role g) 0 i5 := by simp only [itF, memS, eq_true c8, eq_false c23, ↓reduceIte]
          exact ih_5 (i5 + 1) (by omega) _ _ hw _ (by rw [ea]; exact lv_sub hl [1, 2, 3, 4, 0] rfl)
        · refine lv_iload_n S.1 S.2.1 dX0_membersWith_26 rfl (lv_at hl 3 rfl) ?_
          refine lv_iconst (v := (1 : Int32)) S.1 S.2.1 dX0_membersWith_27 (by decide) ?_
          refine lv_iload S.1 S.2.1 dX0_membersWith_28 (lv_at hl 4 rfl) ?_
          refine lv_ishl S.1 S.2.1 dX0_membersWith_30 ?_
          refine lv_iadd S.1 S.2.1 dX0_membersWith_31 ?_
          refine lv_istore_n (lv' := [(3, .int ((itF (memS σ role g) 0 i5) + ((1 : Int32) <<< ((nI i5) &&& 31)))), (0, .ref (a 0)), (1, .int role), (2, .int (nI g)), (4, .int (nI i5))]) S.1 S.2.1 dX0_membersWith_32 rfl hl (by decide) rfl (fun ls hl => ?_)
          refine lv_iinc (v := nI (i5 + 1)) (lv' := [(4, .int (nI (i5 + 1))), (3, .int ((itF (memS σ role g) 0 i5) + ((1 : Int32) <<< ((nI i5) &&& 31)))), (0, .ref (a 0)), (1, .int role), (2, .int (nI g))]) S.1 S.2.1 dX0_membersWith_33 hl (k := 4) rfl (nI_1 i5) (by decide) rfl (fun ls hl => ?_)
          refine lv_goto (tgt := 5) S.1 S.2.1 dX0_membersWith_36 (by decide) ?_
          have ea : itF (memS σ role g) 0 (i5 + 1) = (itF (memS σ role g) 0 i5) + ((1 : Int32) <<< ((nI i5) &&& 31)) := by simp only [itF, memS, eq_true c8, eq_true c23, ↓reduceIte]
          exact ih_5 (i5 + 1) (by omega) _ _ hw _ (by rw [ea]; exact lv_sub hl [2, 3, 4, 1, 0] rfl)
  exact L5 (4 - 0) 0 (by omega) _ _ hw _ (lv_sub hl [2, 3, 4, 1, 0] rfl)
