set_option maxHeartbeats 4000000 in
set_option maxRecDepth 100000 in
theorem kX0_checkRouter (l : Launch) (D : va_G) (tys : List (ClassId × FieldType)) {r : Nat} (h : r < 4) : MV l yX0_checkRouter wsX0_checkRouter ({ frames := 0, cells := 0, slots := 0, locals := 0 } : Room) D tys [.int (nI r)] [] [] := by
  refine MV.of (cc := cX0_checkRouter) (maxL := 1) (by decide) rfl ⟨rfl, rfl⟩ (Nat.le_of_ble_eq_true rfl) ?_
  intro p e s m args below meth c A Q S hK hret ls hl hw
  replace hl : lv_has ls 1 [(0, .int (nI r))] := hl
  replace S : CallFix p m c cX0_checkRouter 1 s args wsX0_checkRouter RX0 := S
  refine lv_iload_n S.1 S.2.1 dX0_checkRouter_0 rfl (lv_at hl 0 rfl) ?_
  refine bz_lt (tgt := 9) S dX0_checkRouter_1 (by decide) (fun c1 => ?_) (fun c1 => ?_)
  · exact absurd c1 (nI_pos (by omega))
  · refine lv_iload_n S.1 S.2.1 dX0_checkRouter_4 rfl (lv_at hl 0 rfl) ?_
    refine lv_iconst (v := nI 4) S.1 S.2.1 dX0_checkRouter_5 (by decide) ?_
    refine br_lt (tgt := 19) S dX0_checkRouter_6 (by decide) (fun c6 => ?_) (fun c6 => ?_)
    · exact hret hw dX0_checkRouter_19 rfl
    · exact absurd c6 (not_not_intro (lt_nI h (by decide)))

set_option maxHeartbeats 4000000 in
set_option maxRecDepth 100000 in
theorem kX0_checkGroup (l : Launch) (D : va_G) (tys : List (ClassId × FieldType)) {g : Nat} (h : g < 3) : MV l yX0_checkGroup wsX0_checkGroup ({ frames := 0, cells := 0, slots := 0, locals := 0 } : Room) D tys [.int (nI g)] [] [] := by
  refine MV.of (cc := cX0_checkGroup) (maxL := 1) (by decide) rfl ⟨rfl, rfl⟩ (Nat.le_of_ble_eq_true rfl) ?_
  intro p e s m args below meth c A Q S hK hret ls hl hw
  replace hl : lv_has ls 1 [(0, .int (nI g))] := hl
  replace S : CallFix p m c cX0_checkGroup 1 s args wsX0_checkGroup RX0 := S
  refine lv_iload_n S.1 S.2.1 dX0_checkGroup_0 rfl (lv_at hl 0 rfl) ?_
  refine bz_lt (tgt := 9) S dX0_checkGroup_1 (by decide) (fun c1 => ?_) (fun c1 => ?_)
  · exact absurd c1 (nI_pos (by omega))
  · refine lv_iload_n S.1 S.2.1 dX0_checkGroup_4 rfl (lv_at hl 0 rfl) ?_
    refine lv_iconst (v := nI 3) S.1 S.2.1 dX0_checkGroup_5 (by decide) ?_
    refine br_lt (tgt := 19) S dX0_checkGroup_6 (by decide) (fun c6 => ?_) (fun c6 => ?_)
    · exact hret hw dX0_checkGroup_19 rfl
    · exact absurd c6 (not_not_intro (lt_nI h (by decide)))

set_option maxHeartbeats 4000000 in
set_option maxRecDepth 100000 in
theorem kX0_checkLink (l : Launch) (D : va_G) (tys : List (ClassId × FieldType)) {k : Nat} (h : k < 2) : MV l yX0_checkLink wsX0_checkLink ({ frames := 0, cells := 0, slots := 0, locals := 0 } : Room) D tys [.int (nI k)] [] [] := by
  refine MV.of (cc := cX0_checkLink) (maxL := 1) (by decide) rfl ⟨rfl, rfl⟩ (Nat.le_of_ble_eq_true rfl) ?_
  intro p e s m args below meth c A Q S hK hret ls hl hw
  replace hl : lv_has ls 1 [(0, .int (nI k))] := hl
  replace S : CallFix p m c cX0_checkLink 1 s args wsX0_checkLink RX0 := S
  refine lv_iload_n S.1 S.2.1 dX0_checkLink_0 rfl (lv_at hl 0 rfl) ?_
  refine bz_lt (tgt := 9) S dX0_checkLink_1 (by decide) (fun c1 => ?_) (fun c1 => ?_)
  · exact absurd c1 (nI_pos (by omega))
  · refine lv_iload_n S.1 S.2.1 dX0_checkLink_4 rfl (lv_at hl 0 rfl) ?_
    refine lv_iconst (v := nI 2) S.1 S.2.1 dX0_checkLink_5 (by decide) ?_
    refine br_lt (tgt := 19) S dX0_checkLink_6 (by decide) (fun c6 => ?_) (fun c6 => ?_)
    · exact hret hw dX0_checkLink_19 rfl
    · exact absurd c6 (not_not_intro (lt_nI h (by decide)))

set_option maxHeartbeats 4000000 in
set_option maxRecDepth 100000 in
theorem kX0_checkRange (l : Launch) (D : va_G) (tys : List (ClassId × FieldType)) (v lo hi : Int32) (h1 : ¬ v < lo) (h2 : ¬ hi < v) : MV l yX0_checkRange wsX0_checkRange ({ frames := 0, cells := 0, slots := 0, locals := 0 } : Room) D tys [.int v, .int lo, .int hi] [] [] := by
  refine MV.of (cc := cX0_checkRange) (maxL := 3) (by decide) rfl ⟨rfl, rfl⟩ (Nat.le_of_ble_eq_true rfl) ?_
  intro p e s m args below meth c A Q S hK hret ls hl hw
  replace hl : lv_has ls 3 [(0, .int v), (1, .int lo), (2, .int hi)] := hl
  replace S : CallFix p m c cX0_checkRange 3 s args wsX0_checkRange RX0 := S
  refine lv_iload_n S.1 S.2.1 dX0_checkRange_0 rfl (lv_at hl 0 rfl) ?_
  refine lv_iload_n S.1 S.2.1 dX0_checkRange_1 rfl (lv_at hl 1 rfl) ?_
  refine br_lt (tgt := 10) S dX0_checkRange_2 (by decide) (fun c2 => ?_) (fun c2 => ?_)
  · exact absurd c2 h1
  · refine lv_iload_n S.1 S.2.1 dX0_checkRange_5 rfl (lv_at hl 0 rfl) ?_
    refine lv_iload_n S.1 S.2.1 dX0_checkRange_6 rfl (lv_at hl 2 rfl) ?_
    refine br_le (tgt := 20) S dX0_checkRange_7 (by decide) (fun c7 => ?_) (fun c7 => ?_)
    · exact hret hw dX0_checkRange_20 rfl
    · exact absurd c7 h2

theorem inX0_hasJoinedMasters : ∀ w ∈ u_ws RX0 TX0 18, w ∈ wsX0_hasJoinedMasters := fun _ h => List.mem_cons_of_mem _ (List.mem_append_right _ h)
theorem flX0_hasJoinedMasters_41 : Cond.fieldLink RX0 41 "StandbyPair" "roles" "[I" ∈ wsX0_hasJoinedMasters := by decide +kernel
theorem flX0_hasJoinedMasters_13 : Cond.fieldLink RX0 13 "StandbyPair" "joinedPairs" "[Z" ∈ wsX0_hasJoinedMasters := by decide +kernel
set_option maxHeartbeats 4000000 in
set_option maxRecDepth 100000 in
theorem kX0_hasJoinedMasters (l : Launch) (D : va_G) (cZ cI : ClassId) (a : Nat → Nat) (σ : sC) {g : Nat} (hg : g < 3) : MI l yX0_hasJoinedMasters wsX0_hasJoinedMasters ({ frames := 1, cells := 0, slots := 0, locals := 21 } : Room) D (tyZ cZ cI) [.ref (a 0), .int (nI g)] (wX cZ cI a σ) (hasJ σ g) (wX cZ cI a σ) := by
  refine MI.of (cc := cX0_hasJoinedMasters) (maxL := 4) (ty := .boolean) (by decide) rfl (nar_z (hasJ_z σ g)) ⟨rfl, rfl⟩ (Nat.le_of_ble_eq_true rfl) ?_
  intro p e s m args below meth c A Q S hK hret ls hl hw
  replace hl : lv_has ls 4 [(0, .ref (a 0)), (1, .int (nI g))] := hl
  replace S : CallFix p m c cX0_hasJoinedMasters 4 s args wsX0_hasJoinedMasters RX0 := S
  have hin := inX0_hasJoinedMasters
  refine lv_iconst (v := nI 0) S.1 S.2.1 dX0_hasJoinedMasters_0 (by decide) ?_
  refine lv_istore_n (lv' := [(2, .int (nI 0)), (0, .ref (a 0)), (1, .int (nI g))]) S.1 S.2.1 dX0_hasJoinedMasters_1 rfl hl (by decide) rfl (fun ls hl => ?_)
  have L2 : ∀ (n i2 : Nat), i2 + n = 4 → (∀ i j : Nat, i < i2 → i < j → j < 4 → ¬ goodJ σ g i j) → ∀ (H : Heap) (locs : List Loc), Wd D A s.heap (wX cZ cI a σ) H locs → ∀ ls : Array Slot, lv_has ls 4 [(0, .ref (a 0)), (1, .int (nI g)), (2, .int (nI i2))] → W p l e ({ frames := 1, cells := 0, slots := 0, locals := 21 } : Room) s m args below meth c H locs 0 0 Q (F0 m 2 ls []) := by
    intro n
    induction n with
    | zero =>
      intro i2 hi hinv2 H locs hw ls hl
      obtain rfl : i2 = 4 := by omega
      refine lv_iload_n S.1 S.2.1 dX0_hasJoinedMasters_2 rfl (lv_at hl 2 rfl) ?_
      refine lv_iconst (v := nI 4) S.1 S.2.1 dX0_hasJoinedMasters_3 (by decide) ?_
      refine br_ge (tgt := 71) S dX0_hasJoinedMasters_4 (by decide) (fun c4 => ?_) (fun c4 => ?_)
      · refine lv_iconst (v := 0) S.1 S.2.1 dX0_hasJoinedMasters_71 (by decide) ?_
        exact hret hw dX0_hasJoinedMasters_72 ((hasJ_0 (fun h => by obtain ⟨i, j, h1, h2, h3⟩ := h; exact hinv2 i j (by omega) h1 h2 h3)).symm) (congrArg (wX cZ cI a) (rfl))
      · exact absurd c4 (nlt_nI (by decide))
    | succ n ih_2 =>
      intro i2 hi hinv2 H locs hw ls hl
      have hi2 : i2 < 4 := by omega
      refine lv_iload_n S.1 S.2.1 dX0_hasJoinedMasters_2 rfl (lv_at hl 2 rfl) ?_
      refine lv_iconst (v := nI 4) S.1 S.2.1 dX0_hasJoinedMasters_3 (by decide) ?_
      refine br_ge (tgt := 71) S dX0_hasJoinedMasters_4 (by decide) (fun c4 => ?_) (fun c4 => ?_)
      · exact absurd c4 (not_not_intro (lt_nI hi2 (by decide)))
      · refine lv_iload_n S.1 S.2.1 dX0_hasJoinedMasters_7 rfl (lv_at hl 2 rfl) ?_
        refine lv_iconst (v := 1) S.1 S.2.1 dX0_hasJoinedMasters_8 (by decide) ?_
        refine lv_iadd S.1 S.2.1 dX0_hasJoinedMasters_9 ?_
        refine bx_top (y := nI (i2 + 1)) (nI_1 i2) ?_
        refine lv_istore_n (lv' := [(3, .int (nI (i2 + 1))), (0, .ref (a 0)), (1, .int (nI g)), (2, .int (nI i2))]) S.1 S.2.1 dX0_hasJoinedMasters_10 rfl hl (by decide) rfl (fun ls hl => ?_)
        have L11 : ∀ (n i11 : Nat), i11 + n = 4 → (i2 < i11 ∧ ∀ j : Nat, i2 < j → j < i11 → ¬ goodJ σ g i2 j) → ∀ (H : Heap) (locs : List Loc), Wd D A s.heap (wX cZ cI a σ) H locs → ∀ ls : Array Slot, lv_has ls 4 [(0, .ref (a 0)), (1, .int (nI g)), (2, .int (nI i2)), (3, .int (nI i11))] → W p l e ({ frames := 1, cells := 0, slots := 0, locals := 21 } : Room) s m args below meth c H locs 0 0 Q (F0 m 11 ls []) := by
          intro n
          induction n with
          | zero =>
            intro i11 hi hinv11 H locs hw ls hl
            obtain rfl : i11 = 4 := by omega
            refine lv_iload_n S.1 S.2.1 dX0_hasJoinedMasters_11 rfl (lv_at hl 3 rfl) ?_
            refine lv_iconst (v := nI 4) S.1 S.2.1 dX0_hasJoinedMasters_12 (by decide) ?_
            refine br_ge (tgt := 65) S dX0_hasJoinedMasters_13 (by decide) (fun c13 => ?_) (fun c13 => ?_)
            · refine lv_iinc (v := nI (i2 + 1)) (lv' := [(2, .int (nI (i2 + 1))), (0, .ref (a 0)), (1, .int (nI g)), (3, .int (nI 4))]) S.1 S.2.1 dX0_hasJoinedMasters_65 hl (k := 2) rfl (nI_1 i2) (by decide) rfl (fun ls hl => ?_)
              refine lv_goto (tgt := 2) S.1 S.2.1 dX0_hasJoinedMasters_68 (by decide) ?_
              exact ih_2 (i2 + 1) (by omega) (fun i j h1 h2 h3 h => (Nat.lt_or_ge i i2).elim (fun q => hinv2 i j q h2 h3 h) (fun q => by have e : i = i2 := (by omega); subst e; exact hinv11.2 j h2 h3 h)) _ _ hw _ (lv_sub hl [1, 2, 0] rfl)
            · exact absurd c13 (nlt_nI (by decide))
          | succ n ih_11 =>
            intro i11 hi hinv11 H locs hw ls hl
            have hi11 : i11 < 4 := by omega
            refine lv_iload_n S.1 S.2.1 dX0_hasJoinedMasters_11 rfl (lv_at hl 3 rfl) ?_
            refine lv_iconst (v := nI 4) S.1 S.2.1 dX0_hasJoinedMasters_12 (by decide) ?_
            refine br_ge (tgt := 65) S dX0_hasJoinedMasters_13 (by decide) (fun c13 => ?_) (fun c13 => ?_)
            · exact absurd c13 (not_not_intro (lt_nI hi11 (by decide)))
            · refine lv_aload_n S.1 S.2.1 dX0_hasJoinedMasters_16 rfl (lv_at hl 0 rfl) ?_
              refine bx_get S hK hin hw.1 0 rfl rfl 10 (by decide) flX0_hasJoinedMasters_41 rfl dX0_hasJoinedMasters_17 ?_
              refine lv_iload_n S.1 S.2.1 dX0_hasJoinedMasters_20 rfl (lv_at hl 2 rfl) ?_
              refine lv_iload_n S.1 S.2.1 dX0_hasJoinedMasters_21 rfl (lv_at hl 1 rfl) ?_
              refine bc_si (As := [.int (nI i2), .int (nI g)]) (rest := [.ref (a 11)]) S hK hw (kX0_placeOf l D _ (r := i2) (g := g) (by omega) (by omega)) (va_cwS 2 S.2.2.2.2 gX0_hasJoinedMasters_X0_placeOf rfl rfl rfl (by decide +kernel) ⟨Nat.le_of_ble_eq_true rfl, Nat.le_of_ble_eq_true rfl⟩) rfl hl.1 rfl (Nat.le_of_ble_eq_true rfl) (Nat.zero_le _) (Nat.zero_le _) dX0_hasJoinedMasters_22 (fun H locs hw => ?_)
              refine bx_iald (v := σ 10 (4 * g + i2)) S hK hw.1 11 1 rfl rfl (by omega) (by decide) rfl dX0_hasJoinedMasters_25 ?_
              refine lv_iconst (v := 2) S.1 S.2.1 dX0_hasJoinedMasters_26 (by decide) ?_
              refine br_ne (tgt := 59) S dX0_hasJoinedMasters_27 (by decide) (fun c27 => ?_) (fun c27 => ?_)
              · refine lv_iinc (v := nI (i11 + 1)) (lv' := [(3, .int (nI (i11 + 1))), (0, .ref (a 0)), (1, .int (nI g)), (2, .int (nI i2))]) S.1 S.2.1 dX0_hasJoinedMasters_59 hl (k := 3) rfl (nI_1 i11) (by decide) rfl (fun ls hl => ?_)
                refine lv_goto (tgt := 11) S.1 S.2.1 dX0_hasJoinedMasters_62 (by decide) ?_
                exact ih_11 (i11 + 1) (by omega) (⟨by omega, fun j h1 h2 h => (Nat.lt_or_ge j i11).elim (fun q => hinv11.2 j h1 q h) (fun q => by have e : j = i11 := (by omega); subst e; exact absurd h.1 c27)⟩) _ _ hw _ (lv_sub hl [1, 2, 3, 0] rfl)
              · refine lv_aload_n S.1 S.2.1 dX0_hasJoinedMasters_30 rfl (lv_at hl 0 rfl) ?_
                refine bx_get S hK hin hw.1 0 rfl rfl 10 (by decide) flX0_hasJoinedMasters_41 rfl dX0_hasJoinedMasters_31 ?_
                refine lv_iload_n S.1 S.2.1 dX0_hasJoinedMasters_34 rfl (lv_at hl 3 rfl) ?_
                refine lv_iload_n S.1 S.2.1 dX0_hasJoinedMasters_35 rfl (lv_at hl 1 rfl) ?_
                refine bc_si (As := [.int (nI i11), .int (nI g)]) (rest := [.ref (a 11)]) S hK hw (kX0_placeOf l D _ (r := i11) (g := g) (by omega) (by omega)) (va_cwS 2 S.2.2.2.2 gX0_hasJoinedMasters_X0_placeOf rfl rfl rfl (by decide +kernel) ⟨Nat.le_of_ble_eq_true rfl, Nat.le_of_ble_eq_true rfl⟩) rfl hl.1 rfl (Nat.le_of_ble_eq_true rfl) (Nat.zero_le _) (Nat.zero_le _) dX0_hasJoinedMasters_36 (fun H locs hw => ?_)
                refine bx_iald (v := σ 10 (4 * g + i11)) S hK hw.1 11 1 rfl rfl (by omega) (by decide) rfl dX0_hasJoinedMasters_39 ?_
                refine lv_iconst (v := 2) S.1 S.2.1 dX0_hasJoinedMasters_40 (by decide) ?_
                refine br_ne (tgt := 59) S dX0_hasJoinedMasters_41 (by decide) (fun c41 => ?_) (fun c41 => ?_)
                · refine lv_iinc (v := nI (i11 + 1)) (lv' := [(3, .int (nI (i11 + 1))), (0, .ref (a 0)), (1, .int (nI g)), (2, .int (nI i2))]) S.1 S.2.1 dX0_hasJoinedMasters_59 hl (k := 3) rfl (nI_1 i11) (by decide) rfl (fun ls hl => ?_)
                  refine lv_goto (tgt := 11) S.1 S.2.1 dX0_hasJoinedMasters_62 (by decide) ?_
                  exact ih_11 (i11 + 1) (by omega) (⟨by omega, fun j h1 h2 h => (Nat.lt_or_ge j i11).elim (fun q => hinv11.2 j h1 q h) (fun q => by have e : j = i11 := (by omega); subst e; exact absurd h.2.1 c41)⟩) _ _ hw _ (lv_sub hl [1, 2, 3, 0] rfl)
                · refine lv_aload_n S.1 S.2.1 dX0_hasJoinedMasters_44 rfl (lv_at hl 0 rfl) ?_
                  refine bx_get S hK hin hw.1 0 rfl rfl 1 (by decide) flX0_hasJoinedMasters_13 rfl dX0_hasJoinedMasters_45 ?_
                  refine lv_iload_n S.1 S.2.1 dX0_hasJoinedMasters_48 rfl (lv_at hl 2 rfl) ?_
                  refine lv_iconst (v := 4) S.1 S.2.1 dX0_hasJoinedMasters_49 (by decide) ?_
                  refine lv_imul S.1 S.2.1 dX0_hasJoinedMasters_50 ?_
                  refine lv_iload_n S.1 S.2.1 dX0_hasJoinedMasters_51 rfl (lv_at hl 3 rfl) ?_
                  refine lv_iadd S.1 S.2.1 dX0_hasJoinedMasters_52 ?_
                  refine bx_top (y := nI (4 * i2 + i11)) (pl_j (by omega) (by omega)) ?_
                  refine bx_zald (v := σ 1 (4 * i2 + i11)) S hK hw.1 2 0 rfl rfl (by omega) (by decide) rfl dX0_hasJoinedMasters_53 ?_
                  refine bz_eq (tgt := 59) S dX0_hasJoinedMasters_54 (by decide) (fun c54 => ?_) (fun c54 => ?_)
                  · refine lv_iinc (v := nI (i11 + 1)) (lv' := [(3, .int (nI (i11 + 1))), (0, .ref (a 0)), (1, .int (nI g)), (2, .int (nI i2))]) S.1 S.2.1 dX0_hasJoinedMasters_59 hl (k := 3) rfl (nI_1 i11) (by decide) rfl (fun ls hl => ?_)
                    refine lv_goto (tgt := 11) S.1 S.2.1 dX0_hasJoinedMasters_62 (by decide) ?_
                    exact ih_11 (i11 + 1) (by omega) (⟨by omega, fun j h1 h2 h => (Nat.lt_or_ge j i11).elim (fun q => hinv11.2 j h1 q h) (fun q => by have e : j = i11 := (by omega); subst e; exact absurd c54 h.2.2)⟩) _ _ hw _ (lv_sub hl [1, 2, 3, 0] rfl)
                  · refine lv_iconst (v := 1) S.1 S.2.1 dX0_hasJoinedMasters_57 (by decide) ?_
                    exact hret hw dX0_hasJoinedMasters_58 ((hasJ_1 ⟨i2, i11, hinv11.1, hi11, c27, c41, c54⟩).symm) (congrArg (wX cZ cI a) (rfl))
        exact L11 (4 - (i2 + 1)) (i2 + 1) (by omega) (⟨by omega, fun j h1 h2 => absurd h1 (by omega)⟩) _ _ hw _ (lv_sub hl [1, 2, 3, 0] rfl)
  exact L2 (4 - 0) 0 (by omega) (fun i j h => absurd h (Nat.not_lt_zero i)) _ _ hw _ (lv_sub hl [1, 2, 0] rfl)

theorem inX0_setPriority : ∀ w ∈ u_ws RX0 TX0 18, w ∈ wsX0_setPriority := fun _ h => List.mem_cons_of_mem _ (List.mem_append_left _ (List.mem_append_right _ h))
theorem flX0_setPriority_38 : Cond.fieldLink RX0 38 "StandbyPair" "basePriorities" "[I" ∈ wsX0_setPriority := by decide +kernel
theorem flX0_setPriority_9 : Cond.fieldLink RX0 9 "StandbyPair" "alive" "[Z" ∈ wsX0_setPriority := by decide +kernel
theorem flX0_setPriority_41 : Cond.fieldLink RX0 41 "StandbyPair" "roles" "[I" ∈ wsX0_setPriority := by decide +kernel
set_option maxHeartbeats 4000000 in
set_option maxRecDepth 100000 in
theorem kX0_setPriority (l : Launch) (D : va_G) (cZ cI : ClassId) (a : Nat → Nat) (σ : sC) {r g : Nat} (v : Int32) (hr : r < 4) (hg : g < 3) (h1 : ¬ v < 0) (h2 : ¬ 254 < v) : MI l yX0_setPriority wsX0_setPriority ({ frames := 5, cells := 0, slots := 0, locals := 119 } : Room) D (tyZ cZ cI) [.ref (a 0), .int (nI r), .int (nI g), .int v] (wX cZ cI a σ) (σ 9 (4 * g + r)) (wX cZ cI a (setPF σ r g v)) := by
  refine MI.of (cc := cX0_setPriority) (maxL := 6) (ty := .int) (by decide) rfl (rfl) ⟨rfl, rfl⟩ (Nat.le_of_ble_eq_true rfl) ?_
  intro p e s m args below meth c A Q S hK hret ls hl hw
  replace hl : lv_has ls 6 [(0, .ref (a 0)), (1, .int (nI r)), (2, .int (nI g)), (3, .int v)] := hl
  replace S : CallFix p m c cX0_setPriority 6 s args wsX0_setPriority RX0 := S
  have hin := inX0_setPriority
  refine lv_iload_n S.1 S.2.1 dX0_setPriority_0 rfl (lv_at hl 1 rfl) ?_
  refine bc_sv (As := [.int (nI r)]) (rest := []) S hK hw (kX0_checkRouter l D _ (r := r) (by omega)) (va_cwS 1 S.2.2.2.2 gX0_setPriority_X0_checkRouter rfl rfl rfl (by decide +kernel) ⟨Nat.le_of_ble_eq_true rfl, Nat.le_of_ble_eq_true rfl⟩) rfl hl.1 rfl (Nat.le_of_ble_eq_true rfl) (Nat.zero_le _) (Nat.zero_le _) dX0_setPriority_1 (fun H locs hw => ?_)
  refine lv_iload_n S.1 S.2.1 dX0_setPriority_4 rfl (lv_at hl 2 rfl) ?_
  refine bc_sv (As := [.int (nI g)]) (rest := []) S hK hw (kX0_checkGroup l D _ (g := g) (by omega)) (va_cwS 1 S.2.2.2.2 gX0_setPriority_X0_checkGroup rfl rfl rfl (by decide +kernel) ⟨Nat.le_of_ble_eq_true rfl, Nat.le_of_ble_eq_true rfl⟩) rfl hl.1 rfl (Nat.le_of_ble_eq_true rfl) (Nat.zero_le _) (Nat.zero_le _) dX0_setPriority_5 (fun H locs hw => ?_)
  refine lv_iload_n S.1 S.2.1 dX0_setPriority_8 rfl (lv_at hl 3 rfl) ?_
  refine lv_iconst (v := 0) S.1 S.2.1 dX0_setPriority_9 (by decide) ?_
  refine lv_sipush (v := 254) S.1 S.2.1 dX0_setPriority_10 (by decide) ?_
  refine bc_sv (As := [.int v, .int 0, .int 254]) (rest := []) S hK hw (kX0_checkRange l D _ v 0 254 h1 h2) (va_cwS 3 S.2.2.2.2 gX0_setPriority_X0_checkRange rfl rfl rfl (by decide +kernel) ⟨Nat.le_of_ble_eq_true rfl, Nat.le_of_ble_eq_true rfl⟩) rfl hl.1 rfl (Nat.le_of_ble_eq_true rfl) (Nat.zero_le _) (Nat.zero_le _) dX0_setPriority_13 (fun H locs hw => ?_)
  refine lv_iload_n S.1 S.2.1 dX0_setPriority_16 rfl (lv_at hl 1 rfl) ?_
  refine lv_iload_n S.1 S.2.1 dX0_setPriority_17 rfl (lv_at hl 2 rfl) ?_
  refine bc_si (As := [.int (nI r), .int (nI g)]) (rest := []) S hK hw (kX0_placeOf l D _ (r := r) (g := g) (by omega) (by omega)) (va_cwS 2 S.2.2.2.2 gX0_setPriority_X0_placeOf rfl rfl rfl (by decide +kernel) ⟨Nat.le_of_ble_eq_true rfl, Nat.le_of_ble_eq_true rfl⟩) rfl hl.1 rfl (Nat.le_of_ble_eq_true rfl) (Nat.zero_le _) (Nat.zero_le _) dX0_setPriority_18 (fun H locs hw => ?_)
  refine lv_istore (lv' := [(4, .int (nI (4 * g + r))), (0, .ref (a 0)), (1, .int (nI r)), (2, .int (nI g)), (3, .int v)]) S.1 S.2.1 dX0_setPriority_21 hl (by decide) rfl (fun ls hl => ?_)
  refine lv_aload_n S.1 S.2.1 dX0_setPriority_23 rfl (lv_at hl 1 rfl) ?_
  refine bx_get S hK hin hw.1 0 rfl rfl 9 (by decide) flX0_setPriority_38 rfl dX0_setPriority_24 ?_
  refine lv_iload S.1 S.2.1 dX0_setPriority_27 (lv_at hl 0 rfl) ?_
  refine bx_iald (v := σ 9 (4 * g + r)) S hK hw.1 10 1 rfl rfl (by omega) (by decide) rfl dX0_setPriority_29 ?_
  refine lv_istore (lv' := [(5, .int (σ 9 (4 * g + r))), (4, .int (nI (4 * g + r))), (0, .ref (a 0)), (1, .int (nI r)), (2, .int (nI g)), (3, .int v)]) S.1 S.2.1 dX0_setPriority_30 hl (by decide) rfl (fun ls hl => ?_)
  have J54 : ∀ (σj : sC) (H : Heap) (locs : List Loc), Wd D A s.heap (wX cZ cI a σj) H locs → (setPF σ r g v = setP2 σj r g v) → ∀ ls : Array Slot, lv_has ls 6 [(0, .ref (a 0)), (1, .int (nI r)), (2, .int (nI g)), (3, .int v), (4, .int (nI (4 * g + r))), (5, .int (σ 9 (4 * g + r)))] → W p l e ({ frames := 5, cells := 0, slots := 0, locals := 119 } : Room) s m args below meth c H locs 0 0 Q (F0 m 54 ls []) := by
    intro σj H locs hw hj ls hl
    refine lv_aload_n S.1 S.2.1 dX0_setPriority_54 rfl (lv_at hl 0 rfl) ?_
    refine bx_get S hK hin hw.1 0 rfl rfl 9 (by decide) flX0_setPriority_38 rfl dX0_setPriority_55 ?_
    refine lv_iload S.1 S.2.1 dX0_setPriority_58 (lv_at hl 4 rfl) ?_
    refine lv_iload_n S.1 S.2.1 dX0_setPriority_60 rfl (lv_at hl 3 rfl) ?_
    refine bx_iast S hK hw 10 1 rfl rfl (by omega) (by decide) (wX_s9 cZ cI a σj (4 * g + r) v) dX0_setPriority_61 (fun H locs hw => ?_)
    refine lv_iload_n S.1 S.2.1 dX0_setPriority_62 rfl (lv_at hl 3 rfl) ?_
    refine bz_ne (tgt := 77) S dX0_setPriority_63 (by decide) (fun c63 => ?_) (fun c63 => ?_)
    · refine lv_aload_n S.1 S.2.1 dX0_setPriority_77 rfl (lv_at hl 0 rfl) ?_
      refine bx_get S hK hin hw.1 0 rfl rfl 0 (by decide) flX0_setPriority_9 rfl dX0_setPriority_78 ?_
      refine lv_iload_n S.1 S.2.1 dX0_setPriority_81 rfl (lv_at hl 1 rfl) ?_
      refine bx_zald (v := (up σj 9 (4 * g + r) v) 0 r) S hK hw.1 1 0 rfl rfl (by omega) (by decide) rfl dX0_setPriority_82 ?_
      refine bz_eq (tgt := 102) S dX0_setPriority_83 (by decide) (fun c83 => ?_) (fun c83 => ?_)
      · refine lv_iload S.1 S.2.1 dX0_setPriority_102 (lv_at hl 5 rfl) ?_
        exact hret hw dX0_setPriority_104 (rfl) (congrArg (wX cZ cI a) (by rw [hj]; simp only [setP2, eq_false c63, eq_true c83, ↓reduceIte]))
      · refine lv_aload_n S.1 S.2.1 dX0_setPriority_86 rfl (lv_at hl 0 rfl) ?_
        refine bx_get S hK hin hw.1 0 rfl rfl 10 (by decide) flX0_setPriority_41 rfl dX0_setPriority_87 ?_
        refine lv_iload S.1 S.2.1 dX0_setPriority_90 (lv_at hl 4 rfl) ?_
        refine bx_iald (v := (up σj 9 (4 * g + r) v) 10 (4 * g + r)) S hK hw.1 11 1 rfl rfl (by omega) (by decide) rfl dX0_setPriority_92 ?_
        refine bz_ne (tgt := 102) S dX0_setPriority_93 (by decide) (fun c93 => ?_) (fun c93 => ?_)
        · refine lv_iload S.1 S.2.1 dX0_setPriority_102 (lv_at hl 5 rfl) ?_
          exact hret hw dX0_setPriority_104 (rfl) (congrArg (wX cZ cI a) (by rw [hj]; simp only [setP2, eq_false c63, eq_false c83, eq_false c93, ↓reduceIte]))
        · refine lv_aload_n S.1 S.2.1 dX0_setPriority_96 rfl (lv_at hl 0 rfl) ?_
          refine lv_iload_n S.1 S.2.1 dX0_setPriority_97 rfl (lv_at hl 1 rfl) ?_
          refine lv_iload_n S.1 S.2.1 dX0_setPriority_98 rfl (lv_at hl 2 rfl) ?_
          refine bc_vv (As := [.int (nI r), .int (nI g)]) (rest := []) S hK hw (kX0_beginPart l D cZ cI a (up σj 9 (4 * g + r) v) (r := r) (g := g) (by omega) (by omega)) (cwV 2 S.2.2.2.2 gX0_setPriority_X0_beginPart rfl rfl rfl (by decide +kernel) ⟨Nat.le_of_ble_eq_true rfl, Nat.le_of_ble_eq_true rfl⟩) (q0 := 0) rfl rfl rfl hl.1 rfl (Nat.le_of_ble_eq_true rfl) (Nat.zero_le _) (Nat.zero_le _) dX0_setPriority_99 (fun H locs hw => ?_)
          refine lv_iload S.1 S.2.1 dX0_setPriority_102 (lv_at hl 5 rfl) ?_
          exact hret hw dX0_setPriority_104 (rfl) (congrArg (wX cZ cI a) (by rw [hj]; simp only [setP2, eq_false c63, eq_false c83, eq_true c93, ↓reduceIte]))
    · refine lv_aload_n S.1 S.2.1 dX0_setPriority_66 rfl (lv_at hl 0 rfl) ?_
      refine bx_get S hK hin hw.1 0 rfl rfl 10 (by decide) flX0_setPriority_41 rfl dX0_setPriority_67 ?_
      refine lv_iload S.1 S.2.1 dX0_setPriority_70 (lv_at hl 4 rfl) ?_
      refine lv_iconst (v := 0) S.1 S.2.1 dX0_setPriority_72 (by decide) ?_
      refine bx_iast S hK hw 11 1 rfl rfl (by omega) (by decide) (wX_s10 cZ cI a (up σj 9 (4 * g + r) v) (4 * g + r) 0) dX0_setPriority_73 (fun H locs hw => ?_)
      refine lv_goto (tgt := 102) S.1 S.2.1 dX0_setPriority_74 (by decide) ?_
      refine lv_iload S.1 S.2.1 dX0_setPriority_102 (lv_at hl 5 rfl) ?_
      exact hret hw dX0_setPriority_104 (rfl) (congrArg (wX cZ cI a) (by rw [hj]; simp only [setP2, eq_true c63, ↓reduceIte]))
  refine lv_iload_n S.1 S.2.1 dX0_setPriority_32 rfl (lv_at hl 5 rfl) ?_
  refine bz_ne (tgt := 54) S dX0_setPriority_33 (by decide) (fun c33 => ?_) (fun c33 => ?_)
  · exact J54 _ _ _ hw (by simp only [setPF, setP1, eq_false c33, ↓reduceIte]) _ (lv_sub hl [2, 3, 4, 5, 1, 0] rfl)
  · refine lv_aload_n S.1 S.2.1 dX0_setPriority_36 rfl (lv_at hl 2 rfl) ?_
    refine bx_get S hK hin hw.1 0 rfl rfl 10 (by decide) flX0_setPriority_41 rfl dX0_setPriority_37 ?_
    refine lv_iload S.1 S.2.1 dX0_setPriority_40 (lv_at hl 1 rfl) ?_
    refine bx_iald (v := σ 10 (4 * g + r)) S hK hw.1 11 1 rfl rfl (by omega) (by decide) rfl dX0_setPriority_42 ?_
    refine lv_iconst (v := 2) S.1 S.2.1 dX0_setPriority_43 (by decide) ?_
    refine br_ne (tgt := 54) S dX0_setPriority_44 (by decide) (fun c44 => ?_) (fun c44 => ?_)
    · exact J54 _ _ _ hw (by simp only [setPF, setP1, eq_true c33, eq_false c44, ↓reduceIte]) _ (lv_sub hl [2, 3, 4, 5, 1, 0] rfl)
    · refine lv_aload_n S.1 S.2.1 dX0_setPriority_47 rfl (lv_at hl 2 rfl) ?_
      refine lv_iload_n S.1 S.2.1 dX0_setPriority_48 rfl (lv_at hl 3 rfl) ?_
      refine lv_iload_n S.1 S.2.1 dX0_setPriority_49 rfl (lv_at hl 4 rfl) ?_
      refine lv_iconst (v := 0) S.1 S.2.1 dX0_setPriority_50 (by decide) ?_
      refine bc_vv (As := [.int (nI r), .int (nI g), .int 0]) (rest := []) S hK hw (kX0_advertise l D cZ cI a σ (q := r) (g := g) 0 (by omega) (by omega)) (cwV 3 S.2.2.2.2 gX0_setPriority_X0_advertise rfl rfl rfl (by decide +kernel) ⟨Nat.le_of_ble_eq_true rfl, Nat.le_of_ble_eq_true rfl⟩) (q0 := 0) rfl rfl rfl hl.1 rfl (Nat.le_of_ble_eq_true rfl) (Nat.zero_le _) (Nat.zero_le _) dX0_setPriority_51 (fun H locs hw => ?_)
      exact J54 _ _ _ hw (by simp only [setPF, setP1, eq_true c33, eq_true c44, ↓reduceIte]) _ (lv_sub hl [2, 3, 4, 5, 1, 0] rfl)

theorem inX0_track : ∀ w ∈ u_ws RX0 TX0 18, w ∈ wsX0_track := fun _ h => List.mem_cons_of_mem _ (List.mem_append_left _ (List.mem_append_right _ h))
theorem flX0_track_19 : Cond.fieldLink RX0 19 "StandbyPair" "decrements" "[I" ∈ wsX0_track := by decide +kernel
set_option maxHeartbeats 4000000 in
set_option maxRecDepth 100000 in
theorem kX0_track (l : Launch) (D : va_G) (cZ cI : ClassId) (a : Nat → Nat) (σ : sC) {r k : Nat} (v : Int32) (hr : r < 4) (hk : k < 2) (h1 : ¬ v < 0) (h2 : ¬ 100 < v) : MI l yX0_track wsX0_track ({ frames := 1, cells := 0, slots := 0, locals := 22 } : Room) D (tyZ cZ cI) [.ref (a 0), .int (nI r), .int (nI k), .int v] (wX cZ cI a σ) (σ 3 (2 * r + k)) (wX cZ cI a (up σ 3 (2 * r + k) v)) := by
  refine MI.of (cc := cX0_track) (maxL := 6) (ty := .int) (by decide) rfl (rfl) ⟨rfl, rfl⟩ (Nat.le_of_ble_eq_true rfl) ?_
  intro p e s m args below meth c A Q S hK hret ls hl hw
  replace hl : lv_has ls 6 [(0, .ref (a 0)), (1, .int (nI r)), (2, .int (nI k)), (3, .int v)] := hl
  replace S : CallFix p m c cX0_track 6 s args wsX0_track RX0 := S
  have hin := inX0_track
  refine lv_iload_n S.1 S.2.1 dX0_track_0 rfl (lv_at hl 1 rfl) ?_
  refine bc_sv (As := [.int (nI r)]) (rest := []) S hK hw (kX0_checkRouter l D _ (r := r) (by omega)) (va_cwS 1 S.2.2.2.2 gX0_track_X0_checkRouter rfl rfl rfl (by decide +kernel) ⟨Nat.le_of_ble_eq_true rfl, Nat.le_of_ble_eq_true rfl⟩) rfl hl.1 rfl (Nat.le_of_ble_eq_true rfl) (Nat.zero_le _) (Nat.zero_le _) dX0_track_1 (fun H locs hw => ?_)
  refine lv_iload_n S.1 S.2.1 dX0_track_4 rfl (lv_at hl 2 rfl) ?_
  refine bc_sv (As := [.int (nI k)]) (rest := []) S hK hw (kX0_checkLink l D _ (k := k) (by omega)) (va_cwS 1 S.2.2.2.2 gX0_track_X0_checkLink rfl rfl rfl (by decide +kernel) ⟨Nat.le_of_ble_eq_true rfl, Nat.le_of_ble_eq_true rfl⟩) rfl hl.1 rfl (Nat.le_of_ble_eq_true rfl) (Nat.zero_le _) (Nat.zero_le _) dX0_track_5 (fun H locs hw => ?_)
  refine lv_iload_n S.1 S.2.1 dX0_track_8 rfl (lv_at hl 3 rfl) ?_
  refine lv_iconst (v := 0) S.1 S.2.1 dX0_track_9 (by decide) ?_
  refine lv_bipush (v := 100) S.1 S.2.1 dX0_track_10 (by decide) ?_
  refine bc_sv (As := [.int v, .int 0, .int 100]) (rest := []) S hK hw (kX0_checkRange l D _ v 0 100 h1 h2) (va_cwS 3 S.2.2.2.2 gX0_track_X0_checkRange rfl rfl rfl (by decide +kernel) ⟨Nat.le_of_ble_eq_true rfl, Nat.le_of_ble_eq_true rfl⟩) rfl hl.1 rfl (Nat.le_of_ble_eq_true rfl) (Nat.zero_le _) (Nat.zero_le _) dX0_track_12 (fun H locs hw => ?_)
  refine lv_iload_n S.1 S.2.1 dX0_track_15 rfl (lv_at hl 1 rfl) ?_
  refine lv_iload_n S.1 S.2.1 dX0_track_16 rfl (lv_at hl 2 rfl) ?_
  refine bc_si (As := [.int (nI r), .int (nI k)]) (rest := []) S hK hw (kX0_linkOf l D _ (r := r) (k := k) (by omega) (by omega)) (va_cwS 2 S.2.2.2.2 gX0_track_X0_linkOf rfl rfl rfl (by decide +kernel) ⟨Nat.le_of_ble_eq_true rfl, Nat.le_of_ble_eq_true rfl⟩) rfl hl.1 rfl (Nat.le_of_ble_eq_true rfl) (Nat.zero_le _) (Nat.zero_le _) dX0_track_17 (fun H locs hw => ?_)
  refine lv_istore (lv' := [(4, .int (nI (2 * r + k))), (0, .ref (a 0)), (1, .int (nI r)), (2, .int (nI k)), (3, .int v)]) S.1 S.2.1 dX0_track_20 hl (by decide) rfl (fun ls hl => ?_)
  refine lv_aload_n S.1 S.2.1 dX0_track_22 rfl (lv_at hl 1 rfl) ?_
  refine bx_get S hK hin hw.1 0 rfl rfl 3 (by decide) flX0_track_19 rfl dX0_track_23 ?_
  refine lv_iload S.1 S.2.1 dX0_track_26 (lv_at hl 0 rfl) ?_
  refine bx_iald (v := σ 3 (2 * r + k)) S hK hw.1 4 1 rfl rfl (by omega) (by decide) rfl dX0_track_28 ?_
  refine lv_istore (lv' := [(5, .int (σ 3 (2 * r + k))), (4, .int (nI (2 * r + k))), (0, .ref (a 0)), (1, .int (nI r)), (2, .int (nI k)), (3, .int v)]) S.1 S.2.1 dX0_track_29 hl (by decide) rfl (fun ls hl => ?_)
  refine lv_aload_n S.1 S.2.1 dX0_track_31 rfl (lv_at hl 2 rfl) ?_
  refine bx_get S hK hin hw.1 0 rfl rfl 3 (by decide) flX0_track_19 rfl dX0_track_32 ?_
  refine lv_iload S.1 S.2.1 dX0_track_35 (lv_at hl 1 rfl) ?_
  refine lv_iload_n S.1 S.2.1 dX0_track_37 rfl (lv_at hl 5 rfl) ?_
  refine bx_iast S hK hw 4 1 rfl rfl (by omega) (by decide) (wX_s3 cZ cI a σ (2 * r + k) v) dX0_track_38 (fun H locs hw => ?_)
  refine lv_iload S.1 S.2.1 dX0_track_39 (lv_at hl 0 rfl) ?_
  exact hret hw dX0_track_41 (rfl) (congrArg (wX cZ cI a) (rfl))

theorem inX0_setLink : ∀ w ∈ u_ws RX0 TX0 18, w ∈ wsX0_setLink := fun _ h => List.mem_cons_of_mem _ (List.mem_append_left _ (List.mem_append_right _ h))
theorem flX0_setLink_16 : Cond.fieldLink RX0 16 "StandbyPair" "linkUp" "[Z" ∈ wsX0_setLink := by decide +kernel
set_option maxHeartbeats 4000000 in
set_option maxRecDepth 100000 in
theorem kX0_setLink (l : Launch) (D : va_G) (cZ cI : ClassId) (a : Nat → Nat) (σ : sC) {r k : Nat} (b : Int32) (hr : r < 4) (hk : k < 2) (hb : vp_nar .boolean b = b) (hz : narrow .boolean (.int (σ 2 (2 * r + k))) = .int (σ 2 (2 * r + k))) : MI l yX0_setLink wsX0_setLink ({ frames := 1, cells := 0, slots := 0, locals := 21 } : Room) D (tyZ cZ cI) [.ref (a 0), .int (nI r), .int (nI k), .int b] (wX cZ cI a σ) (σ 2 (2 * r + k)) (wX cZ cI a (up σ 2 (2 * r + k) b)) := by
  refine MI.of (cc := cX0_setLink) (maxL := 6) (ty := .boolean) (by decide) rfl (hz) ⟨rfl, rfl⟩ (Nat.le_of_ble_eq_true rfl) ?_
  intro p e s m args below meth c A Q S hK hret ls hl hw
  replace hl : lv_has ls 6 [(0, .ref (a 0)), (1, .int (nI r)), (2, .int (nI k)), (3, .int b)] := hl
  replace S : CallFix p m c cX0_setLink 6 s args wsX0_setLink RX0 := S
  have hin := inX0_setLink
  refine lv_iload_n S.1 S.2.1 dX0_setLink_0 rfl (lv_at hl 1 rfl) ?_
  refine bc_sv (As := [.int (nI r)]) (rest := []) S hK hw (kX0_checkRouter l D _ (r := r) (by omega)) (va_cwS 1 S.2.2.2.2 gX0_setLink_X0_checkRouter rfl rfl rfl (by decide +kernel) ⟨Nat.le_of_ble_eq_true rfl, Nat.le_of_ble_eq_true rfl⟩) rfl hl.1 rfl (Nat.le_of_ble_eq_true rfl) (Nat.zero_le _) (Nat.zero_le _) dX0_setLink_1 (fun H locs hw => ?_)
  refine lv_iload_n S.1 S.2.1 dX0_setLink_4 rfl (lv_at hl 2 rfl) ?_
  refine bc_sv (As := [.int (nI k)]) (rest := []) S hK hw (kX0_checkLink l D _ (k := k) (by omega)) (va_cwS 1 S.2.2.2.2 gX0_setLink_X0_checkLink rfl rfl rfl (by decide +kernel) ⟨Nat.le_of_ble_eq_true rfl, Nat.le_of_ble_eq_true rfl⟩) rfl hl.1 rfl (Nat.le_of_ble_eq_true rfl) (Nat.zero_le _) (Nat.zero_le _) dX0_setLink_5 (fun H locs hw => ?_)
  refine lv_iload_n S.1 S.2.1 dX0_setLink_8 rfl (lv_at hl 1 rfl) ?_
  refine lv_iload_n S.1 S.2.1 dX0_setLink_9 rfl (lv_at hl 2 rfl) ?_
  refine bc_si (As := [.int (nI r), .int (nI k)]) (rest := []) S hK hw (kX0_linkOf l D _ (r := r) (k := k) (by omega) (by omega)) (va_cwS 2 S.2.2.2.2 gX0_setLink_X0_linkOf rfl rfl rfl (by decide +kernel) ⟨Nat.le_of_ble_eq_true rfl, Nat.le_of_ble_eq_true rfl⟩) rfl hl.1 rfl (Nat.le_of_ble_eq_true rfl) (Nat.zero_le _) (Nat.zero_le _) dX0_setLink_10 (fun H locs hw => ?_)
  refine lv_istore (lv' := [(4, .int (nI (2 * r + k))), (0, .ref (a 0)), (1, .int (nI r)), (2, .int (nI k)), (3, .int b)]) S.1 S.2.1 dX0_setLink_13 hl (by decide) rfl (fun ls hl => ?_)
  refine lv_aload_n S.1 S.2.1 dX0_setLink_15 rfl (lv_at hl 1 rfl) ?_
  refine bx_get S hK hin hw.1 0 rfl rfl 2 (by decide) flX0_setLink_16 rfl dX0_setLink_16 ?_
  refine lv_iload S.1 S.2.1 dX0_setLink_19 (lv_at hl 0 rfl) ?_
  refine bx_zald (v := σ 2 (2 * r + k)) S hK hw.1 3 0 rfl rfl (by omega) (by decide) rfl dX0_setLink_21 ?_
  refine lv_istore (lv' := [(5, .int (σ 2 (2 * r + k))), (4, .int (nI (2 * r + k))), (0, .ref (a 0)), (1, .int (nI r)), (2, .int (nI k)), (3, .int b)]) S.1 S.2.1 dX0_setLink_22 hl (by decide) rfl (fun ls hl => ?_)
  refine lv_aload_n S.1 S.2.1 dX0_setLink_24 rfl (lv_at hl 2 rfl) ?_
  refine bx_get S hK hin hw.1 0 rfl rfl 2 (by decide) flX0_setLink_16 rfl dX0_setLink_25 ?_
  refine lv_iload S.1 S.2.1 dX0_setLink_28 (lv_at hl 1 rfl) ?_
  refine lv_iload_n S.1 S.2.1 dX0_setLink_30 rfl (lv_at hl 5 rfl) ?_
  refine bx_zast S hK hw 3 0 rfl rfl (by omega) (by decide) hb (wX_s2 cZ cI a σ (2 * r + k) b) dX0_setLink_31 (fun H locs hw => ?_)
  refine lv_iload S.1 S.2.1 dX0_setLink_32 (lv_at hl 0 rfl) ?_
  exact hret hw dX0_setLink_34 (rfl) (congrArg (wX cZ cI a) (rfl))

theorem inX0_setPeriod : ∀ w ∈ u_ws RX0 TX0 18, w ∈ wsX0_setPeriod := fun _ h => List.mem_cons_of_mem _ (List.mem_append_left _ (List.mem_append_right _ h))
theorem flX0_setPeriod_23 : Cond.fieldLink RX0 23 "StandbyPair" "periods" "[I" ∈ wsX0_setPeriod := by decide +kernel
set_option maxHeartbeats 4000000 in
set_option maxRecDepth 100000 in
theorem kX0_setPeriod (l : Launch) (D : va_G) (cZ cI : ClassId) (a : Nat → Nat) (σ : sC) {g : Nat} (v : Int32) (hg : g < 3) (h1 : ¬ v < 1) (h2 : ¬ 10 < v) : MI l yX0_setPeriod wsX0_setPeriod ({ frames := 1, cells := 0, slots := 0, locals := 22 } : Room) D (tyZ cZ cI) [.ref (a 0), .int (nI g), .int v] (wX cZ cI a σ) (σ 4 g) (wX cZ cI a (up σ 4 g v)) := by
  refine MI.of (cc := cX0_setPeriod) (maxL := 4) (ty := .int) (by decide) rfl (rfl) ⟨rfl, rfl⟩ (Nat.le_of_ble_eq_true rfl) ?_
  intro p e s m args below meth c A Q S hK hret ls hl hw
  replace hl : lv_has ls 4 [(0, .ref (a 0)), (1, .int (nI g)), (2, .int v)] := hl
  replace S : CallFix p m c cX0_setPeriod 4 s args wsX0_setPeriod RX0 := S
  have hin := inX0_setPeriod
  refine lv_iload_n S.1 S.2.1 dX0_setPeriod_0 rfl (lv_at hl 1 rfl) ?_
  refine bc_sv (As := [.int (nI g)]) (rest := []) S hK hw (kX0_checkGroup l D _ (g := g) (by omega)) (va_cwS 1 S.2.2.2.2 gX0_setPeriod_X0_checkGroup rfl rfl rfl (by decide +kernel) ⟨Nat.le_of_ble_eq_true rfl, Nat.le_of_ble_eq_true rfl⟩) rfl hl.1 rfl (Nat.le_of_ble_eq_true rfl) (Nat.zero_le _) (Nat.zero_le _) dX0_setPeriod_1 (fun H locs hw => ?_)
  refine lv_iload_n S.1 S.2.1 dX0_setPeriod_4 rfl (lv_at hl 2 rfl) ?_
  refine lv_iconst (v := 1) S.1 S.2.1 dX0_setPeriod_5 (by decide) ?_
  refine lv_bipush (v := 10) S.1 S.2.1 dX0_setPeriod_6 (by decide) ?_
  refine bc_sv (As := [.int v, .int 1, .int 10]) (rest := []) S hK hw (kX0_checkRange l D _ v 1 10 h1 h2) (va_cwS 3 S.2.2.2.2 gX0_setPeriod_X0_checkRange rfl rfl rfl (by decide +kernel) ⟨Nat.le_of_ble_eq_true rfl, Nat.le_of_ble_eq_true rfl⟩) rfl hl.1 rfl (Nat.le_of_ble_eq_true rfl) (Nat.zero_le _) (Nat.zero_le _) dX0_setPeriod_8 (fun H locs hw => ?_)
  refine lv_aload_n S.1 S.2.1 dX0_setPeriod_11 rfl (lv_at hl 0 rfl) ?_
  refine bx_get S hK hin hw.1 0 rfl rfl 4 (by decide) flX0_setPeriod_23 rfl dX0_setPeriod_12 ?_
  refine lv_iload_n S.1 S.2.1 dX0_setPeriod_15 rfl (lv_at hl 1 rfl) ?_
  refine bx_iald (v := σ 4 g) S hK hw.1 5 1 rfl rfl (by omega) (by decide) rfl dX0_setPeriod_16 ?_
  refine lv_istore_n (lv' := [(3, .int (σ 4 g)), (0, .ref (a 0)), (1, .int (nI g)), (2, .int v)]) S.1 S.2.1 dX0_setPeriod_17 rfl hl (by decide) rfl (fun ls hl => ?_)
  refine lv_aload_n S.1 S.2.1 dX0_setPeriod_18 rfl (lv_at hl 1 rfl) ?_
  refine bx_get S hK hin hw.1 0 rfl rfl 4 (by decide) flX0_setPeriod_23 rfl dX0_setPeriod_19 ?_
  refine lv_iload_n S.1 S.2.1 dX0_setPeriod_22 rfl (lv_at hl 2 rfl) ?_
  refine lv_iload_n S.1 S.2.1 dX0_setPeriod_23 rfl (lv_at hl 3 rfl) ?_
  refine bx_iast S hK hw 5 1 rfl rfl (by omega) (by decide) (wX_s4 cZ cI a σ g v) dX0_setPeriod_24 (fun H locs hw => ?_)
  refine lv_iload_n S.1 S.2.1 dX0_setPeriod_25 rfl (lv_at hl 0 rfl) ?_
  exact hret hw dX0_setPeriod_26 (rfl) (congrArg (wX cZ cI a) (rfl))

theorem inX0_setPreemption : ∀ w ∈ u_ws RX0 TX0 18, w ∈ wsX0_setPreemption := fun _ h => List.mem_cons_of_mem _ (List.mem_append_left _ (List.mem_append_right _ h))
theorem flX0_setPreemption_26 : Cond.fieldLink RX0 26 "StandbyPair" "preempting" "[Z" ∈ wsX0_setPreemption := by decide +kernel
theorem flX0_setPreemption_29 : Cond.fieldLink RX0 29 "StandbyPair" "delays" "[I" ∈ wsX0_setPreemption := by decide +kernel
set_option maxHeartbeats 4000000 in
set_option maxRecDepth 100000 in
theorem kX0_setPreemption (l : Launch) (D : va_G) (cZ cI : ClassId) (a : Nat → Nat) (σ : sC) {g : Nat} (b v : Int32) (hg : g < 3) (hb : vp_nar .boolean b = b) (h1 : ¬ v < 0) (h2 : ¬ 10 < v) : MV l yX0_setPreemption wsX0_setPreemption ({ frames := 1, cells := 0, slots := 0, locals := 22 } : Room) D (tyZ cZ cI) [.ref (a 0), .int (nI g), .int b, .int v] (wX cZ cI a σ) (wX cZ cI a (up (up σ 5 g b) 6 g v)) := by
  refine MV.of (cc := cX0_setPreemption) (maxL := 4) (by decide) rfl ⟨rfl, rfl⟩ (Nat.le_of_ble_eq_true rfl) ?_
  intro p e s m args below meth c A Q S hK hret ls hl hw
  replace hl : lv_has ls 4 [(0, .ref (a 0)), (1, .int (nI g)), (2, .int b), (3, .int v)] := hl
  replace S : CallFix p m c cX0_setPreemption 4 s args wsX0_setPreemption RX0 := S
  have hin := inX0_setPreemption
  refine lv_iload_n S.1 S.2.1 dX0_setPreemption_0 rfl (lv_at hl 1 rfl) ?_
  refine bc_sv (As := [.int (nI g)]) (rest := []) S hK hw (kX0_checkGroup l D _ (g := g) (by omega)) (va_cwS 1 S.2.2.2.2 gX0_setPreemption_X0_checkGroup rfl rfl rfl (by decide +kernel) ⟨Nat.le_of_ble_eq_true rfl, Nat.le_of_ble_eq_true rfl⟩) rfl hl.1 rfl (Nat.le_of_ble_eq_true rfl) (Nat.zero_le _) (Nat.zero_le _) dX0_setPreemption_1 (fun H locs hw => ?_)
  refine lv_iload_n S.1 S.2.1 dX0_setPreemption_4 rfl (lv_at hl 3 rfl) ?_
  refine lv_iconst (v := 0) S.1 S.2.1 dX0_setPreemption_5 (by decide) ?_
  refine lv_bipush (v := 10) S.1 S.2.1 dX0_setPreemption_6 (by decide) ?_
  refine bc_sv (As := [.int v, .int 0, .int 10]) (rest := []) S hK hw (kX0_checkRange l D _ v 0 10 h1 h2) (va_cwS 3 S.2.2.2.2 gX0_setPreemption_X0_checkRange rfl rfl rfl (by decide +kernel) ⟨Nat.le_of_ble_eq_true rfl, Nat.le_of_ble_eq_true rfl⟩) rfl hl.1 rfl (Nat.le_of_ble_eq_true rfl) (Nat.zero_le _) (Nat.zero_le _) dX0_setPreemption_8 (fun H locs hw => ?_)
  refine lv_aload_n S.1 S.2.1 dX0_setPreemption_11 rfl (lv_at hl 0 rfl) ?_
  refine bx_get S hK hin hw.1 0 rfl rfl 5 (by decide) flX0_setPreemption_26 rfl dX0_setPreemption_12 ?_
  refine lv_iload_n S.1 S.2.1 dX0_setPreemption_15 rfl (lv_at hl 1 rfl) ?_
  refine lv_iload_n S.1 S.2.1 dX0_setPreemption_16 rfl (lv_at hl 2 rfl) ?_
  refine bx_zast S hK hw 6 0 rfl rfl (by omega) (by decide) hb (wX_s5 cZ cI a σ g b) dX0_setPreemption_17 (fun H locs hw => ?_)
  refine lv_aload_n S.1 S.2.1 dX0_setPreemption_18 rfl (lv_at hl 0 rfl) ?_
  refine bx_get S hK hin hw.1 0 rfl rfl 6 (by decide) flX0_setPreemption_29 rfl dX0_setPreemption_19 ?_
  refine lv_iload_n S.1 S.2.1 dX0_setPreemption_22 rfl (lv_at hl 1 rfl) ?_
  refine lv_iload_n S.1 S.2.1 dX0_setPreemption_23 rfl (lv_at hl 3 rfl) ?_
  refine bx_iast S hK hw 7 1 rfl rfl (by omega) (by decide) (wX_s6 cZ cI a (up σ 5 g b) g v) dX0_setPreemption_24 (fun H locs hw => ?_)
  exact hret hw dX0_setPreemption_25 (congrArg (wX cZ cI a) (rfl))

theorem inX0_join : ∀ w ∈ u_ws RX0 TX0 18, w ∈ wsX0_join := fun _ h => List.mem_cons_of_mem _ (List.mem_append_left _ (List.mem_append_right _ h))
theorem flX0_join_13 : Cond.fieldLink RX0 13 "StandbyPair" "joinedPairs" "[Z" ∈ wsX0_join := by decide +kernel
set_option maxHeartbeats 4000000 in
set_option maxRecDepth 100000 in
theorem kX0_join (l : Launch) (D : va_G) (cZ cI : ClassId) (a : Nat → Nat) (σ : sC) {i j : Nat} (b : Int32) (hi : i < 4) (hj : j < 4) (hne : ¬ nI i = nI j) (hb : vp_nar .boolean b = b) (hz : narrow .boolean (.int (σ 1 (4 * i + j))) = .int (σ 1 (4 * i + j))) : MI l yX0_join wsX0_join ({ frames := 1, cells := 0, slots := 0, locals := 20 } : Room) D (tyZ cZ cI) [.ref (a 0), .int (nI i), .int (nI j), .int b] (wX cZ cI a σ) (σ 1 (4 * i + j)) (wX cZ cI a (up (up σ 1 (4 * i + j) b) 1 (4 * j + i) b)) := by
  refine MI.of (cc := cX0_join) (maxL := 5) (ty := .boolean) (by decide) rfl (hz) ⟨rfl, rfl⟩ (Nat.le_of_ble_eq_true rfl) ?_
  intro p e s m args below meth c A Q S hK hret ls hl hw
  replace hl : lv_has ls 5 [(0, .ref (a 0)), (1, .int (nI i)), (2, .int (nI j)), (3, .int b)] := hl
  replace S : CallFix p m c cX0_join 5 s args wsX0_join RX0 := S
  have hin := inX0_join
  refine lv_iload_n S.1 S.2.1 dX0_join_0 rfl (lv_at hl 1 rfl) ?_
  refine bc_sv (As := [.int (nI i)]) (rest := []) S hK hw (kX0_checkRouter l D _ (r := i) (by omega)) (va_cwS 1 S.2.2.2.2 gX0_join_X0_checkRouter rfl rfl rfl (by decide +kernel) ⟨Nat.le_of_ble_eq_true rfl, Nat.le_of_ble_eq_true rfl⟩) rfl hl.1 rfl (Nat.le_of_ble_eq_true rfl) (Nat.zero_le _) (Nat.zero_le _) dX0_join_1 (fun H locs hw => ?_)
  refine lv_iload_n S.1 S.2.1 dX0_join_4 rfl (lv_at hl 2 rfl) ?_
  refine bc_sv (As := [.int (nI j)]) (rest := []) S hK hw (kX0_checkRouter l D _ (r := j) (by omega)) (va_cwS 1 S.2.2.2.2 gX0_join_X0_checkRouter rfl rfl rfl (by decide +kernel) ⟨Nat.le_of_ble_eq_true rfl, Nat.le_of_ble_eq_true rfl⟩) rfl hl.1 rfl (Nat.le_of_ble_eq_true rfl) (Nat.zero_le _) (Nat.zero_le _) dX0_join_5 (fun H locs hw => ?_)
  refine lv_iload_n S.1 S.2.1 dX0_join_8 rfl (lv_at hl 1 rfl) ?_
  refine lv_iload_n S.1 S.2.1 dX0_join_9 rfl (lv_at hl 2 rfl) ?_
  refine br_ne (tgt := 23) S dX0_join_10 (by decide) (fun c10 => ?_) (fun c10 => ?_)
  · refine lv_aload_n S.1 S.2.1 dX0_join_23 rfl (lv_at hl 0 rfl) ?_
    refine bx_get S hK hin hw.1 0 rfl rfl 1 (by decide) flX0_join_13 rfl dX0_join_24 ?_
    refine lv_iload_n S.1 S.2.1 dX0_join_27 rfl (lv_at hl 1 rfl) ?_
    refine lv_iconst (v := 4) S.1 S.2.1 dX0_join_28 (by decide) ?_
    refine lv_imul S.1 S.2.1 dX0_join_29 ?_
    refine lv_iload_n S.1 S.2.1 dX0_join_30 rfl (lv_at hl 2 rfl) ?_
    refine lv_iadd S.1 S.2.1 dX0_join_31 ?_
    refine bx_top (y := nI (4 * i + j)) (pl_j (by omega) (by omega)) ?_
    refine bx_zald (v := σ 1 (4 * i + j)) S hK hw.1 2 0 rfl rfl (by omega) (by decide) rfl dX0_join_32 ?_
    refine lv_istore (lv' := [(4, .int (σ 1 (4 * i + j))), (0, .ref (a 0)), (1, .int (nI i)), (2, .int (nI j)), (3, .int b)]) S.1 S.2.1 dX0_join_33 hl (by decide) rfl (fun ls hl => ?_)
    refine lv_aload_n S.1 S.2.1 dX0_join_35 rfl (lv_at hl 1 rfl) ?_
    refine bx_get S hK hin hw.1 0 rfl rfl 1 (by decide) flX0_join_13 rfl dX0_join_36 ?_
    refine lv_iload_n S.1 S.2.1 dX0_join_39 rfl (lv_at hl 2 rfl) ?_
    refine lv_iconst (v := 4) S.1 S.2.1 dX0_join_40 (by decide) ?_
    refine lv_imul S.1 S.2.1 dX0_join_41 ?_
    refine lv_iload_n S.1 S.2.1 dX0_join_42 rfl (lv_at hl 3 rfl) ?_
    refine lv_iadd S.1 S.2.1 dX0_join_43 ?_
    refine bx_top (y := nI (4 * i + j)) (pl_j (by omega) (by omega)) ?_
    refine lv_iload_n S.1 S.2.1 dX0_join_44 rfl (lv_at hl 4 rfl) ?_
    refine bx_zast S hK hw 2 0 rfl rfl (by omega) (by decide) hb (wX_s1 cZ cI a σ (4 * i + j) b) dX0_join_45 (fun H locs hw => ?_)
    refine lv_aload_n S.1 S.2.1 dX0_join_46 rfl (lv_at hl 1 rfl) ?_
    refine bx_get S hK hin hw.1 0 rfl rfl 1 (by decide) flX0_join_13 rfl dX0_join_47 ?_
    refine lv_iload_n S.1 S.2.1 dX0_join_50 rfl (lv_at hl 3 rfl) ?_
    refine lv_iconst (v := 4) S.1 S.2.1 dX0_join_51 (by decide) ?_
    refine lv_imul S.1 S.2.1 dX0_join_52 ?_
    refine lv_iload_n S.1 S.2.1 dX0_join_53 rfl (lv_at hl 2 rfl) ?_
    refine lv_iadd S.1 S.2.1 dX0_join_54 ?_
    refine bx_top (y := nI (4 * j + i)) (pl_j (by omega) (by omega)) ?_
    refine lv_iload_n S.1 S.2.1 dX0_join_55 rfl (lv_at hl 4 rfl) ?_
    refine bx_zast S hK hw 2 0 rfl rfl (by omega) (by decide) hb (wX_s1 cZ cI a (up σ 1 (4 * i + j) b) (4 * j + i) b) dX0_join_56 (fun H locs hw => ?_)
    refine lv_iload S.1 S.2.1 dX0_join_57 (lv_at hl 0 rfl) ?_
    exact hret hw dX0_join_59 (rfl) (congrArg (wX cZ cI a) (rfl))
  · exact absurd c10 hne

theorem inX0_die : ∀ w ∈ u_ws RX0 TX0 18, w ∈ wsX0_die := fun _ h => List.mem_cons_of_mem _ (List.mem_append_left _ (List.mem_append_left _ (List.mem_append_right _ h)))
theorem flX0_die_9 : Cond.fieldLink RX0 9 "StandbyPair" "alive" "[Z" ∈ wsX0_die := by decide +kernel
theorem flX0_die_41 : Cond.fieldLink RX0 41 "StandbyPair" "roles" "[I" ∈ wsX0_die := by decide +kernel
set_option maxHeartbeats 4000000 in
set_option maxRecDepth 100000 in
theorem kX0_die (l : Launch) (D : va_G) (cZ cI : ClassId) (a : Nat → Nat) (σ : sC) {r : Nat} (hr : r < 4) (ha : ¬ σ 0 r = 0) : MI l yX0_die wsX0_die ({ frames := 1, cells := 0, slots := 0, locals := 21 } : Room) D (tyZ cZ cI) [.ref (a 0), .int (nI r)] (wX cZ cI a σ) (dieN σ r 3) (wX cZ cI a (dieG σ r 3)) := by
  refine MI.of (cc := cX0_die) (maxL := 5) (ty := .int) (by decide) rfl (rfl) ⟨rfl, rfl⟩ (Nat.le_of_ble_eq_true rfl) ?_
  intro p e s m args below meth c A Q S hK hret ls hl hw
  replace hl : lv_has ls 5 [(0, .ref (a 0)), (1, .int (nI r))] := hl
  replace S : CallFix p m c cX0_die 5 s args wsX0_die RX0 := S
  have hin := inX0_die
  refine lv_iload_n S.1 S.2.1 dX0_die_0 rfl (lv_at hl 1 rfl) ?_
  refine bc_sv (As := [.int (nI r)]) (rest := []) S hK hw (kX0_checkRouter l D _ (r := r) (by omega)) (va_cwS 1 S.2.2.2.2 gX0_die_X0_checkRouter rfl rfl rfl (by decide +kernel) ⟨Nat.le_of_ble_eq_true rfl, Nat.le_of_ble_eq_true rfl⟩) rfl hl.1 rfl (Nat.le_of_ble_eq_true rfl) (Nat.zero_le _) (Nat.zero_le _) dX0_die_1 (fun H locs hw => ?_)
  refine lv_aload_n S.1 S.2.1 dX0_die_4 rfl (lv_at hl 0 rfl) ?_
  refine bx_get S hK hin hw.1 0 rfl rfl 0 (by decide) flX0_die_9 rfl dX0_die_5 ?_
  refine lv_iload_n S.1 S.2.1 dX0_die_8 rfl (lv_at hl 1 rfl) ?_
  refine bx_zald (v := σ 0 r) S hK hw.1 1 0 rfl rfl (by omega) (by decide) rfl dX0_die_9 ?_
  refine bz_ne (tgt := 23) S dX0_die_10 (by decide) (fun c10 => ?_) (fun c10 => ?_)
  · refine lv_aload_n S.1 S.2.1 dX0_die_23 rfl (lv_at hl 0 rfl) ?_
    refine bx_get S hK hin hw.1 0 rfl rfl 0 (by decide) flX0_die_9 rfl dX0_die_24 ?_
    refine lv_iload_n S.1 S.2.1 dX0_die_27 rfl (lv_at hl 1 rfl) ?_
    refine lv_iconst (v := 0) S.1 S.2.1 dX0_die_28 (by decide) ?_
    refine bx_zast S hK hw 1 0 rfl rfl (by omega) (by decide) (by decide) (wX_s0 cZ cI a σ r 0) dX0_die_29 (fun H locs hw => ?_)
    refine lv_iconst (v := 0) S.1 S.2.1 dX0_die_30 (by decide) ?_
    refine lv_istore_n (lv' := [(2, .int 0), (0, .ref (a 0)), (1, .int (nI r))]) S.1 S.2.1 dX0_die_31 rfl hl (by decide) rfl (fun ls hl => ?_)
    refine lv_iconst (v := nI 0) S.1 S.2.1 dX0_die_32 (by decide) ?_
    refine lv_istore_n (lv' := [(3, .int (nI 0)), (2, .int 0), (0, .ref (a 0)), (1, .int (nI r))]) S.1 S.2.1 dX0_die_33 rfl hl (by decide) rfl (fun ls hl => ?_)
    have L34 : ∀ (n i34 : Nat), i34 + n = 3 → ∀ (H : Heap) (locs : List Loc), Wd D A s.heap (wX cZ cI a (dieG σ r i34)) H locs → ∀ ls : Array Slot, lv_has ls 5 [(0, .ref (a 0)), (1, .int (nI r)), (2, .int (dieN σ r i34)), (3, .int (nI i34))] → W p l e ({ frames := 1, cells := 0, slots := 0, locals := 21 } : Room) s m args below meth c H locs 0 0 Q (F0 m 34 ls []) := by
      intro n
      induction n with
      | zero =>
        intro i34 hi H locs hw ls hl
        obtain rfl : i34 = 3 := by omega
        refine lv_iload_n S.1 S.2.1 dX0_die_34 rfl (lv_at hl 3 rfl) ?_
        refine lv_iconst (v := nI 3) S.1 S.2.1 dX0_die_35 (by decide) ?_
        refine br_ge (tgt := 74) S dX0_die_36 (by decide) (fun c36 => ?_) (fun c36 => ?_)
        · refine lv_iload_n S.1 S.2.1 dX0_die_74 rfl (lv_at hl 2 rfl) ?_
          exact hret hw dX0_die_75 (rfl) (congrArg (wX cZ cI a) (rfl))
        · exact absurd c36 (nlt_nI (by decide))
      | succ n ih_34 =>
        intro i34 hi H locs hw ls hl
        have hi34 : i34 < 3 := by omega
        refine lv_iload_n S.1 S.2.1 dX0_die_34 rfl (lv_at hl 3 rfl) ?_
        refine lv_iconst (v := nI 3) S.1 S.2.1 dX0_die_35 (by decide) ?_
        refine br_ge (tgt := 74) S dX0_die_36 (by decide) (fun c36 => ?_) (fun c36 => ?_)
        · exact absurd c36 (not_not_intro (lt_nI hi34 (by decide)))
        · refine lv_iload_n S.1 S.2.1 dX0_die_39 rfl (lv_at hl 1 rfl) ?_
          refine lv_iload_n S.1 S.2.1 dX0_die_40 rfl (lv_at hl 3 rfl) ?_
          refine bc_si (As := [.int (nI r), .int (nI i34)]) (rest := []) S hK hw (kX0_placeOf l D _ (r := r) (g := i34) (by omega) (by omega)) (va_cwS 2 S.2.2.2.2 gX0_die_X0_placeOf rfl rfl rfl (by decide +kernel) ⟨Nat.le_of_ble_eq_true rfl, Nat.le_of_ble_eq_true rfl⟩) rfl hl.1 rfl (Nat.le_of_ble_eq_true rfl) (Nat.zero_le _) (Nat.zero_le _) dX0_die_41 (fun H locs hw => ?_)
          refine lv_istore (lv' := [(4, .int (nI (4 * i34 + r))), (0, .ref (a 0)), (1, .int (nI r)), (2, .int (dieN σ r i34)), (3, .int (nI i34))]) S.1 S.2.1 dX0_die_44 hl (by decide) rfl (fun ls hl => ?_)
          refine lv_aload_n S.1 S.2.1 dX0_die_46 rfl (lv_at hl 1 rfl) ?_
          refine bx_get S hK hin hw.1 0 rfl rfl 10 (by decide) flX0_die_41 rfl dX0_die_47 ?_
          refine lv_iload S.1 S.2.1 dX0_die_50 (lv_at hl 0 rfl) ?_
          refine bx_iald (v := (dieG σ r i34) 10 (4 * i34 + r)) S hK hw.1 11 1 rfl rfl (by omega) (by decide) rfl dX0_die_52 ?_
          refine lv_iconst (v := 2) S.1 S.2.1 dX0_die_53 (by decide) ?_
          refine br_ne (tgt := 60) S dX0_die_54 (by decide) (fun c54 => ?_) (fun c54 => ?_)
          · refine lv_aload_n S.1 S.2.1 dX0_die_60 rfl (lv_at hl 1 rfl) ?_
            refine bx_get S hK hin hw.1 0 rfl rfl 10 (by decide) flX0_die_41 rfl dX0_die_61 ?_
            refine lv_iload S.1 S.2.1 dX0_die_64 (lv_at hl 0 rfl) ?_
            refine lv_iconst (v := 0) S.1 S.2.1 dX0_die_66 (by decide) ?_
            refine bx_iast S hK hw 11 1 rfl rfl (by omega) (by decide) (wX_s10 cZ cI a (dieG σ r i34) (4 * i34 + r) 0) dX0_die_67 (fun H locs hw => ?_)
            refine lv_iinc (v := nI (i34 + 1)) (lv' := [(3, .int (nI (i34 + 1))), (4, .int (nI (4 * i34 + r))), (0, .ref (a 0)), (1, .int (nI r)), (2, .int (dieN σ r i34))]) S.1 S.2.1 dX0_die_68 hl (k := 4) rfl (nI_1 i34) (by decide) rfl (fun ls hl => ?_)
            refine lv_goto (tgt := 34) S.1 S.2.1 dX0_die_71 (by decide) ?_
            have ea : dieN σ r (i34 + 1) = dieN σ r i34 := by simp only [dieN, itF, dieC, eq_false c10, eq_true c36, eq_false c54, ↓reduceIte]
            exact ih_34 (i34 + 1) (by omega) _ _ (Wd.cast (congrArg (wX cZ cI a) (by simp only [dieG, itF, dieS])) hw) _ (by rw [ea]; exact lv_sub hl [2, 3, 4, 0] rfl)
          · refine lv_iinc (v := (dieN σ r i34) + 1) (lv' := [(2, .int ((dieN σ r i34) + 1)), (4, .int (nI (4 * i34 + r))), (0, .ref (a 0)), (1, .int (nI r)), (3, .int (nI i34))]) S.1 S.2.1 dX0_die_57 hl (k := 3) rfl (rfl) (by decide) rfl (fun ls hl => ?_)
            refine lv_aload_n S.1 S.2.1 dX0_die_60 rfl (lv_at hl 2 rfl) ?_
            refine bx_get S hK hin hw.1 0 rfl rfl 10 (by decide) flX0_die_41 rfl dX0_die_61 ?_
            refine lv_iload S.1 S.2.1 dX0_die_64 (lv_at hl 1 rfl) ?_
            refine lv_iconst (v := 0) S.1 S.2.1 dX0_die_66 (by decide) ?_
            refine bx_iast S hK hw 11 1 rfl rfl (by omega) (by decide) (wX_s10 cZ cI a (dieG σ r i34) (4 * i34 + r) 0) dX0_die_67 (fun H locs hw => ?_)
            refine lv_iinc (v := nI (i34 + 1)) (lv' := [(3, .int (nI (i34 + 1))), (2, .int ((dieN σ r i34) + 1)), (4, .int (nI (4 * i34 + r))), (0, .ref (a 0)), (1, .int (nI r))]) S.1 S.2.1 dX0_die_68 hl (k := 4) rfl (nI_1 i34) (by decide) rfl (fun ls hl => ?_)
            refine lv_goto (tgt := 34) S.1 S.2.1 dX0_die_71 (by decide) ?_
            have ea : dieN σ r (i34 + 1) = (dieN σ r i34) + 1 := by simp only [dieN, itF, dieC, eq_false c10, eq_true c36, eq_true c54, ↓reduceIte]
            exact ih_34 (i34 + 1) (by omega) _ _ (Wd.cast (congrArg (wX cZ cI a) (by simp only [dieG, itF, dieS])) hw) _ (by rw [ea]; exact lv_sub hl [3, 4, 1, 0] rfl)
    exact L34 (3 - 0) 0 (by omega) _ _ hw _ (lv_sub hl [2, 3, 1, 0] rfl)
  · exact absurd c10 ha

theorem inX0_live : ∀ w ∈ u_ws RX0 TX0 18, w ∈ wsX0_live := fun _ h => List.mem_cons_of_mem _ (List.mem_append_left _ (List.mem_append_left _ (List.mem_append_right _ h)))
theorem flX0_live_9 : Cond.fieldLink RX0 9 "StandbyPair" "alive" "[Z" ∈ wsX0_live := by decide +kernel
theorem flX0_live_38 : Cond.fieldLink RX0 38 "StandbyPair" "basePriorities" "[I" ∈ wsX0_live := by decide +kernel
set_option maxHeartbeats 4000000 in
set_option maxRecDepth 100000 in
theorem kX0_live (l : Launch) (D : va_G) (cZ cI : ClassId) (a : Nat → Nat) (σ : sC) {r : Nat} (hr : r < 4) (ha : σ 0 r = 0) : MI l yX0_live wsX0_live ({ frames := 4, cells := 0, slots := 0, locals := 91 } : Room) D (tyZ cZ cI) [.ref (a 0), .int (nI r)] (wX cZ cI a σ) (liveN σ r 3) (wX cZ cI a (liveG σ r 3)) := by
  refine MI.of (cc := cX0_live) (maxL := 4) (ty := .int) (by decide) rfl (rfl) ⟨rfl, rfl⟩ (Nat.le_of_ble_eq_true rfl) ?_
  intro p e s m args below meth c A Q S hK hret ls hl hw
  replace hl : lv_has ls 4 [(0, .ref (a 0)), (1, .int (nI r))] := hl
  replace S : CallFix p m c cX0_live 4 s args wsX0_live RX0 := S
  have hin := inX0_live
  refine lv_iload_n S.1 S.2.1 dX0_live_0 rfl (lv_at hl 1 rfl) ?_
  refine bc_sv (As := [.int (nI r)]) (rest := []) S hK hw (kX0_checkRouter l D _ (r := r) (by omega)) (va_cwS 1 S.2.2.2.2 gX0_live_X0_checkRouter rfl rfl rfl (by decide +kernel) ⟨Nat.le_of_ble_eq_true rfl, Nat.le_of_ble_eq_true rfl⟩) rfl hl.1 rfl (Nat.le_of_ble_eq_true rfl) (Nat.zero_le _) (Nat.zero_le _) dX0_live_1 (fun H locs hw => ?_)
  refine lv_aload_n S.1 S.2.1 dX0_live_4 rfl (lv_at hl 0 rfl) ?_
  refine bx_get S hK hin hw.1 0 rfl rfl 0 (by decide) flX0_live_9 rfl dX0_live_5 ?_
  refine lv_iload_n S.1 S.2.1 dX0_live_8 rfl (lv_at hl 1 rfl) ?_
  refine bx_zald (v := σ 0 r) S hK hw.1 1 0 rfl rfl (by omega) (by decide) rfl dX0_live_9 ?_
  refine bz_eq (tgt := 23) S dX0_live_10 (by decide) (fun c10 => ?_) (fun c10 => ?_)
  · refine lv_aload_n S.1 S.2.1 dX0_live_23 rfl (lv_at hl 0 rfl) ?_
    refine bx_get S hK hin hw.1 0 rfl rfl 0 (by decide) flX0_live_9 rfl dX0_live_24 ?_
    refine lv_iload_n S.1 S.2.1 dX0_live_27 rfl (lv_at hl 1 rfl) ?_
    refine lv_iconst (v := 1) S.1 S.2.1 dX0_live_28 (by decide) ?_
    refine bx_zast S hK hw 1 0 rfl rfl (by omega) (by decide) (by decide) (wX_s0 cZ cI a σ r 1) dX0_live_29 (fun H locs hw => ?_)
    refine lv_iconst (v := 0) S.1 S.2.1 dX0_live_30 (by decide) ?_
    refine lv_istore_n (lv' := [(2, .int 0), (0, .ref (a 0)), (1, .int (nI r))]) S.1 S.2.1 dX0_live_31 rfl hl (by decide) rfl (fun ls hl => ?_)
    refine lv_iconst (v := nI 0) S.1 S.2.1 dX0_live_32 (by decide) ?_
    refine lv_istore_n (lv' := [(3, .int (nI 0)), (2, .int 0), (0, .ref (a 0)), (1, .int (nI r))]) S.1 S.2.1 dX0_live_33 rfl hl (by decide) rfl (fun ls hl => ?_)
    have L34 : ∀ (n i34 : Nat), i34 + n = 3 → ∀ (H : Heap) (locs : List Loc), Wd D A s.heap (wX cZ cI a (liveG σ r i34)) H locs → ∀ ls : Array Slot, lv_has ls 4 [(0, .ref (a 0)), (1, .int (nI r)), (2, .int (liveN σ r i34)), (3, .int (nI i34))] → W p l e ({ frames := 4, cells := 0, slots := 0, locals := 91 } : Room) s m args below meth c H locs 0 0 Q (F0 m 34 ls []) := by
      intro n
      induction n with
      | zero =>
        intro i34 hi H locs hw ls hl
        obtain rfl : i34 = 3 := by omega
        refine lv_iload_n S.1 S.2.1 dX0_live_34 rfl (lv_at hl 3 rfl) ?_
        refine lv_iconst (v := nI 3) S.1 S.2.1 dX0_live_35 (by decide) ?_
        refine br_ge (tgt := 67) S dX0_live_36 (by decide) (fun c36 => ?_) (fun c36 => ?_)
        · refine lv_iload_n S.1 S.2.1 dX0_live_67 rfl (lv_at hl 2 rfl) ?_
          exact hret hw dX0_live_68 (rfl) (congrArg (wX cZ cI a) (rfl))
        · exact absurd c36 (nlt_nI (by decide))
      | succ n ih_34 =>
        intro i34 hi H locs hw ls hl
        have hi34 : i34 < 3 := by omega
        refine lv_iload_n S.1 S.2.1 dX0_live_34 rfl (lv_at hl 3 rfl) ?_
        refine lv_iconst (v := nI 3) S.1 S.2.1 dX0_live_35 (by decide) ?_
        refine br_ge (tgt := 67) S dX0_live_36 (by decide) (fun c36 => ?_) (fun c36 => ?_)
        · exact absurd c36 (not_not_intro (lt_nI hi34 (by decide)))
        · refine lv_aload_n S.1 S.2.1 dX0_live_39 rfl (lv_at hl 0 rfl) ?_
          refine bx_get S hK hin hw.1 0 rfl rfl 9 (by decide) flX0_live_38 rfl dX0_live_40 ?_
          refine lv_iload_n S.1 S.2.1 dX0_live_43 rfl (lv_at hl 1 rfl) ?_
          refine lv_iload_n S.1 S.2.1 dX0_live_44 rfl (lv_at hl 3 rfl) ?_
          refine bc_si (As := [.int (nI r), .int (nI i34)]) (rest := [.ref (a 10)]) S hK hw (kX0_placeOf l D _ (r := r) (g := i34) (by omega) (by omega)) (va_cwS 2 S.2.2.2.2 gX0_live_X0_placeOf rfl rfl rfl (by decide +kernel) ⟨Nat.le_of_ble_eq_true rfl, Nat.le_of_ble_eq_true rfl⟩) rfl hl.1 rfl (Nat.le_of_ble_eq_true rfl) (Nat.zero_le _) (Nat.zero_le _) dX0_live_45 (fun H locs hw => ?_)
          refine bx_iald (v := (liveG σ r i34) 9 (4 * i34 + r)) S hK hw.1 10 1 rfl rfl (by omega) (by decide) rfl dX0_live_48 ?_
          refine bz_le (tgt := 61) S dX0_live_49 (by decide) (fun c49 => ?_) (fun c49 => ?_)
          · refine lv_iinc (v := nI (i34 + 1)) (lv' := [(3, .int (nI (i34 + 1))), (0, .ref (a 0)), (1, .int (nI r)), (2, .int (liveN σ r i34))]) S.1 S.2.1 dX0_live_61 hl (k := 3) rfl (nI_1 i34) (by decide) rfl (fun ls hl => ?_)
            refine lv_goto (tgt := 34) S.1 S.2.1 dX0_live_64 (by decide) ?_
            have ea : liveN σ r (i34 + 1) = liveN σ r i34 := by simp only [liveN, itF, liveC, eq_true c10, eq_true c36, eq_false c49, ↓reduceIte]
            exact ih_34 (i34 + 1) (by omega) _ _ (Wd.cast (congrArg (wX cZ cI a) (by rw [show liveG σ r (i34 + 1) = liveS r i34 (liveG σ r i34) from rfl]; simp only [liveS, eq_true c10, eq_true c36, eq_false c49, ↓reduceIte])) hw) _ (by rw [ea]; exact lv_sub hl [1, 2, 3, 0] rfl)
          · refine lv_aload_n S.1 S.2.1 dX0_live_52 rfl (lv_at hl 0 rfl) ?_
            refine lv_iload_n S.1 S.2.1 dX0_live_53 rfl (lv_at hl 1 rfl) ?_
            refine lv_iload_n S.1 S.2.1 dX0_live_54 rfl (lv_at hl 3 rfl) ?_
            refine bc_vv (As := [.int (nI r), .int (nI i34)]) (rest := []) S hK hw (kX0_beginPart l D cZ cI a (liveG σ r i34) (r := r) (g := i34) (by omega) (by omega)) (cwV 2 S.2.2.2.2 gX0_live_X0_beginPart rfl rfl rfl (by decide +kernel) ⟨Nat.le_of_ble_eq_true rfl, Nat.le_of_ble_eq_true rfl⟩) (q0 := 0) rfl rfl rfl hl.1 rfl (Nat.le_of_ble_eq_true rfl) (Nat.zero_le _) (Nat.zero_le _) dX0_live_55 (fun H locs hw => ?_)
            refine lv_iinc (v := (liveN σ r i34) + 1) (lv' := [(2, .int ((liveN σ r i34) + 1)), (0, .ref (a 0)), (1, .int (nI r)), (3, .int (nI i34))]) S.1 S.2.1 dX0_live_58 hl (k := 2) rfl (rfl) (by decide) rfl (fun ls hl => ?_)
            refine lv_iinc (v := nI (i34 + 1)) (lv' := [(3, .int (nI (i34 + 1))), (2, .int ((liveN σ r i34) + 1)), (0, .ref (a 0)), (1, .int (nI r))]) S.1 S.2.1 dX0_live_61 hl (k := 3) rfl (nI_1 i34) (by decide) rfl (fun ls hl => ?_)
            refine lv_goto (tgt := 34) S.1 S.2.1 dX0_live_64 (by decide) ?_
            have ea : liveN σ r (i34 + 1) = (liveN σ r i34) + 1 := by simp only [liveN, itF, liveC, eq_true c10, eq_true c36, eq_true c49, ↓reduceIte]
            exact ih_34 (i34 + 1) (by omega) _ _ (Wd.cast (congrArg (wX cZ cI a) (by rw [show liveG σ r (i34 + 1) = liveS r i34 (liveG σ r i34) from rfl]; simp only [liveS, eq_true c10, eq_true c36, eq_true c49, ↓reduceIte])) hw) _ (by rw [ea]; exact lv_sub hl [2, 3, 1, 0] rfl)
    exact L34 (3 - 0) 0 (by omega) _ _ hw _ (lv_sub hl [2, 3, 1, 0] rfl)
  · exact absurd c10 (not_not_intro ha)

theorem inX0_handOver : ∀ w ∈ u_ws RX0 TX0 18, w ∈ wsX0_handOver := fun _ h => List.mem_cons_of_mem _ (List.mem_append_left _ (List.mem_append_left _ (List.mem_append_right _ h)))
theorem flX0_handOver_41 : Cond.fieldLink RX0 41 "StandbyPair" "roles" "[I" ∈ wsX0_handOver := by decide +kernel
set_option maxHeartbeats 4000000 in
set_option maxRecDepth 100000 in
theorem kX0_handOver (l : Launch) (D : va_G) (cZ cI : ClassId) (a : Nat → Nat) (σ : sC) {r g : Nat} (hr : r < 4) (hg : g < 3) (hm : σ 10 (4 * g + r) = 2) : MV l yX0_handOver wsX0_handOver ({ frames := 5, cells := 0, slots := 0, locals := 119 } : Room) D (tyZ cZ cI) [.ref (a 0), .int (nI r), .int (nI g)] (wX cZ cI a σ) (wX cZ cI a (advF (restF σ r g 0) r g 0)) := by
  refine MV.of (cc := cX0_handOver) (maxL := 3) (by decide) rfl ⟨rfl, rfl⟩ (Nat.le_of_ble_eq_true rfl) ?_
  intro p e s m args below meth c A Q S hK hret ls hl hw
  replace hl : lv_has ls 3 [(0, .ref (a 0)), (1, .int (nI r)), (2, .int (nI g))] := hl
  replace S : CallFix p m c cX0_handOver 3 s args wsX0_handOver RX0 := S
  have hin := inX0_handOver
  refine lv_iload_n S.1 S.2.1 dX0_handOver_0 rfl (lv_at hl 1 rfl) ?_
  refine bc_sv (As := [.int (nI r)]) (rest := []) S hK hw (kX0_checkRouter l D _ (r := r) (by omega)) (va_cwS 1 S.2.2.2.2 gX0_handOver_X0_checkRouter rfl rfl rfl (by decide +kernel) ⟨Nat.le_of_ble_eq_true rfl, Nat.le_of_ble_eq_true rfl⟩) rfl hl.1 rfl (Nat.le_of_ble_eq_true rfl) (Nat.zero_le _) (Nat.zero_le _) dX0_handOver_1 (fun H locs hw => ?_)
  refine lv_iload_n S.1 S.2.1 dX0_handOver_4 rfl (lv_at hl 2 rfl) ?_
  refine bc_sv (As := [.int (nI g)]) (rest := []) S hK hw (kX0_checkGroup l D _ (g := g) (by omega)) (va_cwS 1 S.2.2.2.2 gX0_handOver_X0_checkGroup rfl rfl rfl (by decide +kernel) ⟨Nat.le_of_ble_eq_true rfl, Nat.le_of_ble_eq_true rfl⟩) rfl hl.1 rfl (Nat.le_of_ble_eq_true rfl) (Nat.zero_le _) (Nat.zero_le _) dX0_handOver_5 (fun H locs hw => ?_)
  refine lv_aload_n S.1 S.2.1 dX0_handOver_8 rfl (lv_at hl 0 rfl) ?_
  refine bx_get S hK hin hw.1 0 rfl rfl 10 (by decide) flX0_handOver_41 rfl dX0_handOver_9 ?_
  refine lv_iload_n S.1 S.2.1 dX0_handOver_12 rfl (lv_at hl 1 rfl) ?_
  refine lv_iload_n S.1 S.2.1 dX0_handOver_13 rfl (lv_at hl 2 rfl) ?_
  refine bc_si (As := [.int (nI r), .int (nI g)]) (rest := [.ref (a 11)]) S hK hw (kX0_placeOf l D _ (r := r) (g := g) (by omega) (by omega)) (va_cwS 2 S.2.2.2.2 gX0_handOver_X0_placeOf rfl rfl rfl (by decide +kernel) ⟨Nat.le_of_ble_eq_true rfl, Nat.le_of_ble_eq_true rfl⟩) rfl hl.1 rfl (Nat.le_of_ble_eq_true rfl) (Nat.zero_le _) (Nat.zero_le _) dX0_handOver_14 (fun H locs hw => ?_)
  refine bx_iald (v := σ 10 (4 * g + r)) S hK hw.1 11 1 rfl rfl (by omega) (by decide) rfl dX0_handOver_17 ?_
  refine lv_iconst (v := 2) S.1 S.2.1 dX0_handOver_18 (by decide) ?_
  refine br_eq (tgt := 32) S dX0_handOver_19 (by decide) (fun c19 => ?_) (fun c19 => ?_)
  · refine lv_aload_n S.1 S.2.1 dX0_handOver_32 rfl (lv_at hl 0 rfl) ?_
    refine lv_iload_n S.1 S.2.1 dX0_handOver_33 rfl (lv_at hl 1 rfl) ?_
    refine lv_iload_n S.1 S.2.1 dX0_handOver_34 rfl (lv_at hl 2 rfl) ?_
    refine bc_vv (As := [.int (nI r), .int (nI g)]) (rest := []) S hK hw (kX0_becomeBackup l D cZ cI a σ (r := r) (g := g) (by omega) (by omega)) (cwV 2 S.2.2.2.2 gX0_handOver_X0_becomeBackup rfl rfl rfl (by decide +kernel) ⟨Nat.le_of_ble_eq_true rfl, Nat.le_of_ble_eq_true rfl⟩) (q0 := 0) rfl rfl rfl hl.1 rfl (Nat.le_of_ble_eq_true rfl) (Nat.zero_le _) (Nat.zero_le _) dX0_handOver_35 (fun H locs hw => ?_)
    refine lv_aload_n S.1 S.2.1 dX0_handOver_38 rfl (lv_at hl 0 rfl) ?_
    refine lv_iload_n S.1 S.2.1 dX0_handOver_39 rfl (lv_at hl 1 rfl) ?_
    refine lv_iload_n S.1 S.2.1 dX0_handOver_40 rfl (lv_at hl 2 rfl) ?_
    refine lv_iconst (v := 0) S.1 S.2.1 dX0_handOver_41 (by decide) ?_
    refine bc_vv (As := [.int (nI r), .int (nI g), .int 0]) (rest := []) S hK hw (kX0_advertise l D cZ cI a (restF σ r g 0) (q := r) (g := g) 0 (by omega) (by omega)) (cwV 3 S.2.2.2.2 gX0_handOver_X0_advertise rfl rfl rfl (by decide +kernel) ⟨Nat.le_of_ble_eq_true rfl, Nat.le_of_ble_eq_true rfl⟩) (q0 := 0) rfl rfl rfl hl.1 rfl (Nat.le_of_ble_eq_true rfl) (Nat.zero_le _) (Nat.zero_le _) dX0_handOver_42 (fun H locs hw => ?_)
    exact hret hw dX0_handOver_45 (congrArg (wX cZ cI a) (rfl))
  · exact absurd c19 (not_not_intro hm)

theorem inX0_serve : ∀ w ∈ u_ws RX0 TX0 18, w ∈ wsX0_serve := fun _ h => List.mem_cons_of_mem _ (List.mem_append_left _ (List.mem_append_right _ h))
theorem flX0_serve_41 : Cond.fieldLink RX0 41 "StandbyPair" "roles" "[I" ∈ wsX0_serve := by decide +kernel
theorem flX0_serve_50 : Cond.fieldLink RX0 50 "StandbyPair" "served" "[I" ∈ wsX0_serve := by decide +kernel
set_option maxHeartbeats 4000000 in
set_option maxRecDepth 100000 in
theorem kX0_serve (l : Launch) (D : va_G) (cZ cI : ClassId) (a : Nat → Nat) (σ : sC) {g : Nat} (v : Int32) (hg : g < 3) (h1 : ¬ v < 1) (h2 : ¬ 100 < v) : MI l yX0_serve wsX0_serve ({ frames := 1, cells := 0, slots := 0, locals := 22 } : Room) D (tyZ cZ cI) [.ref (a 0), .int (nI g), .int v] (wX cZ cI a σ) (serveN σ g v 4) (wX cZ cI a (serveG σ g v 4)) := by
  refine MI.of (cc := cX0_serve) (maxL := 6) (ty := .int) (by decide) rfl (rfl) ⟨rfl, rfl⟩ (Nat.le_of_ble_eq_true rfl) ?_
  intro p e s m args below meth c A Q S hK hret ls hl hw
  replace hl : lv_has ls 6 [(0, .ref (a 0)), (1, .int (nI g)), (2, .int v)] := hl
  replace S : CallFix p m c cX0_serve 6 s args wsX0_serve RX0 := S
  have hin := inX0_serve
  refine lv_iload_n S.1 S.2.1 dX0_serve_0 rfl (lv_at hl 1 rfl) ?_
  refine bc_sv (As := [.int (nI g)]) (rest := []) S hK hw (kX0_checkGroup l D _ (g := g) (by omega)) (va_cwS 1 S.2.2.2.2 gX0_serve_X0_checkGroup rfl rfl rfl (by decide +kernel) ⟨Nat.le_of_ble_eq_true rfl, Nat.le_of_ble_eq_true rfl⟩) rfl hl.1 rfl (Nat.le_of_ble_eq_true rfl) (Nat.zero_le _) (Nat.zero_le _) dX0_serve_1 (fun H locs hw => ?_)
  refine lv_iload_n S.1 S.2.1 dX0_serve_4 rfl (lv_at hl 2 rfl) ?_
  refine lv_iconst (v := 1) S.1 S.2.1 dX0_serve_5 (by decide) ?_
  refine lv_bipush (v := 100) S.1 S.2.1 dX0_serve_6 (by decide) ?_
  refine bc_sv (As := [.int v, .int 1, .int 100]) (rest := []) S hK hw (kX0_checkRange l D _ v 1 100 h1 h2) (va_cwS 3 S.2.2.2.2 gX0_serve_X0_checkRange rfl rfl rfl (by decide +kernel) ⟨Nat.le_of_ble_eq_true rfl, Nat.le_of_ble_eq_true rfl⟩) rfl hl.1 rfl (Nat.le_of_ble_eq_true rfl) (Nat.zero_le _) (Nat.zero_le _) dX0_serve_8 (fun H locs hw => ?_)
  refine lv_iconst (v := 0) S.1 S.2.1 dX0_serve_11 (by decide) ?_
  refine lv_istore_n (lv' := [(3, .int 0), (0, .ref (a 0)), (1, .int (nI g)), (2, .int v)]) S.1 S.2.1 dX0_serve_12 rfl hl (by decide) rfl (fun ls hl => ?_)
  refine lv_iconst (v := nI 0) S.1 S.2.1 dX0_serve_13 (by decide) ?_
  refine lv_istore (lv' := [(4, .int (nI 0)), (3, .int 0), (0, .ref (a 0)), (1, .int (nI g)), (2, .int v)]) S.1 S.2.1 dX0_serve_14 hl (by decide) rfl (fun ls hl => ?_)
  have L16 : ∀ (n i16 : Nat), i16 + n = 4 → ∀ (H : Heap) (locs : List Loc), Wd D A s.heap (wX cZ cI a (serveG σ g v i16)) H locs → ∀ ls : Array Slot, lv_has ls 6 [(0, .ref (a 0)), (1, .int (nI g)), (2, .int v), (3, .int (serveN σ g v i16)), (4, .int (nI i16))] → W p l e ({ frames := 1, cells := 0, slots := 0, locals := 22 } : Room) s m args below meth c H locs 0 0 Q (F0 m 16 ls []) := by
    intro n
    induction n with
    | zero =>
      intro i16 hi H locs hw ls hl
      obtain rfl : i16 = 4 := by omega
      refine lv_iload S.1 S.2.1 dX0_serve_16 (lv_at hl 4 rfl) ?_
      refine lv_iconst (v := nI 4) S.1 S.2.1 dX0_serve_18 (by decide) ?_
      refine br_ge (tgt := 61) S dX0_serve_19 (by decide) (fun c19 => ?_) (fun c19 => ?_)
      · refine lv_iload_n S.1 S.2.1 dX0_serve_61 rfl (lv_at hl 3 rfl) ?_
        exact hret hw dX0_serve_62 (rfl) (congrArg (wX cZ cI a) (rfl))
      · exact absurd c19 (nlt_nI (by decide))
    | succ n ih_16 =>
      intro i16 hi H locs hw ls hl
      have hi16 : i16 < 4 := by omega
      refine lv_iload S.1 S.2.1 dX0_serve_16 (lv_at hl 4 rfl) ?_
      refine lv_iconst (v := nI 4) S.1 S.2.1 dX0_serve_18 (by decide) ?_
      refine br_ge (tgt := 61) S dX0_serve_19 (by decide) (fun c19 => ?_) (fun c19 => ?_)
      · exact absurd c19 (not_not_intro (lt_nI hi16 (by decide)))
      · refine lv_iload S.1 S.2.1 dX0_serve_22 (lv_at hl 4 rfl) ?_
        refine lv_iload_n S.1 S.2.1 dX0_serve_24 rfl (lv_at hl 1 rfl) ?_
        refine bc_si (As := [.int (nI i16), .int (nI g)]) (rest := []) S hK hw (kX0_placeOf l D _ (r := i16) (g := g) (by omega) (by omega)) (va_cwS 2 S.2.2.2.2 gX0_serve_X0_placeOf rfl rfl rfl (by decide +kernel) ⟨Nat.le_of_ble_eq_true rfl, Nat.le_of_ble_eq_true rfl⟩) rfl hl.1 rfl (Nat.le_of_ble_eq_true rfl) (Nat.zero_le _) (Nat.zero_le _) dX0_serve_25 (fun H locs hw => ?_)
        refine lv_istore (lv' := [(5, .int (nI (4 * g + i16))), (0, .ref (a 0)), (1, .int (nI g)), (2, .int v), (3, .int (serveN σ g v i16)), (4, .int (nI i16))]) S.1 S.2.1 dX0_serve_28 hl (by decide) rfl (fun ls hl => ?_)
        refine lv_aload_n S.1 S.2.1 dX0_serve_30 rfl (lv_at hl 1 rfl) ?_
        refine bx_get S hK hin hw.1 0 rfl rfl 10 (by decide) flX0_serve_41 rfl dX0_serve_31 ?_
        refine lv_iload S.1 S.2.1 dX0_serve_34 (lv_at hl 0 rfl) ?_
        refine bx_iald (v := (serveG σ g v i16) 10 (4 * g + i16)) S hK hw.1 11 1 rfl rfl (by omega) (by decide) rfl dX0_serve_36 ?_
        refine lv_iconst (v := 2) S.1 S.2.1 dX0_serve_37 (by decide) ?_
        refine br_ne (tgt := 55) S dX0_serve_38 (by decide) (fun c38 => ?_) (fun c38 => ?_)
        · refine lv_iinc (v := nI (i16 + 1)) (lv' := [(4, .int (nI (i16 + 1))), (5, .int (nI (4 * g + i16))), (0, .ref (a 0)), (1, .int (nI g)), (2, .int v), (3, .int (serveN σ g v i16))]) S.1 S.2.1 dX0_serve_55 hl (k := 5) rfl (nI_1 i16) (by decide) rfl (fun ls hl => ?_)
          refine lv_goto (tgt := 16) S.1 S.2.1 dX0_serve_58 (by decide) ?_
          have ea : serveN σ g v (i16 + 1) = serveN σ g v i16 := by simp only [serveN, itF, serveC, eq_true c19, eq_false c38, ↓reduceIte]
          exact ih_16 (i16 + 1) (by omega) _ _ (Wd.cast (congrArg (wX cZ cI a) (by rw [show serveG σ g v (i16 + 1) = serveS g v i16 (serveG σ g v i16) from rfl]; simp only [serveS, eq_true c19, eq_false c38, ↓reduceIte])) hw) _ (by rw [ea]; exact lv_sub hl [2, 3, 4, 5, 0] rfl)
        · refine lv_aload_n S.1 S.2.1 dX0_serve_41 rfl (lv_at hl 1 rfl) ?_
          refine bx_get S hK hin hw.1 0 rfl rfl 13 (by decide) flX0_serve_50 rfl dX0_serve_42 ?_
          refine lv_iload S.1 S.2.1 dX0_serve_45 (lv_at hl 0 rfl) ?_
          refine lv_dup2_11 S.1 S.2.1 dX0_serve_47 rfl rfl ?_
          refine bx_iald (v := (serveG σ g v i16) 13 (4 * g + i16)) S hK hw.1 14 1 rfl rfl (by omega) (by decide) rfl dX0_serve_48 ?_
          refine lv_iload_n S.1 S.2.1 dX0_serve_49 rfl (lv_at hl 3 rfl) ?_
          refine lv_iadd S.1 S.2.1 dX0_serve_50 ?_
          refine bx_iast S hK hw 14 1 rfl rfl (by omega) (by decide) (wX_s13 cZ cI a (serveG σ g v i16) (4 * g + i16) (((serveG σ g v i16) 13 (4 * g + i16)) + v)) dX0_serve_51 (fun H locs hw => ?_)
          refine lv_iinc (v := (serveN σ g v i16) + 1) (lv' := [(3, .int ((serveN σ g v i16) + 1)), (5, .int (nI (4 * g + i16))), (0, .ref (a 0)), (1, .int (nI g)), (2, .int v), (4, .int (nI i16))]) S.1 S.2.1 dX0_serve_52 hl (k := 4) rfl (rfl) (by decide) rfl (fun ls hl => ?_)
          refine lv_iinc (v := nI (i16 + 1)) (lv' := [(4, .int (nI (i16 + 1))), (3, .int ((serveN σ g v i16) + 1)), (5, .int (nI (4 * g + i16))), (0, .ref (a 0)), (1, .int (nI g)), (2, .int v)]) S.1 S.2.1 dX0_serve_55 hl (k := 5) rfl (nI_1 i16) (by decide) rfl (fun ls hl => ?_)
          refine lv_goto (tgt := 16) S.1 S.2.1 dX0_serve_58 (by decide) ?_
          have ea : serveN σ g v (i16 + 1) = (serveN σ g v i16) + 1 := by simp only [serveN, itF, serveC, eq_true c19, eq_true c38, ↓reduceIte]
          exact ih_16 (i16 + 1) (by omega) _ _ (Wd.cast (congrArg (wX cZ cI a) (by rw [show serveG σ g v (i16 + 1) = serveS g v i16 (serveG σ g v i16) from rfl]; simp only [serveS, eq_true c19, eq_true c38, ↓reduceIte])) hw) _ (by rw [ea]; exact lv_sub hl [3, 4, 5, 1, 0] rfl)
  exact L16 (4 - 0) 0 (by omega) _ _ hw _ (lv_sub hl [2, 3, 4, 1, 0] rfl)

theorem inX0_tick : ∀ w ∈ u_ws RX0 TX0 18, w ∈ wsX0_tick := fun _ h => List.mem_cons_of_mem _ (List.mem_append_left _ (List.mem_append_right _ h))
theorem flX0_tick_115 : Cond.fieldLink RX0 115 "StandbyPair" "time" "I" ∈ wsX0_tick := by decide +kernel
set_option maxHeartbeats 4000000 in
set_option maxRecDepth 100000 in
theorem kX0_tick (l : Launch) (D : va_G) (cZ cI : ClassId) (a : Nat → Nat) (σ : sC) {nt : Nat} (hn : nt < 100) (h1 : ¬ nI nt < 1) (h2 : ¬ 50 < nI nt) : MI l yX0_tick wsX0_tick ({ frames := 6, cells := 0, slots := 0, locals := 142 } : Room) D (tyZ cZ cI) [.ref (a 0), .int (nI nt)] (wX cZ cI a σ) ((tickF σ nt) 17 0) (wX cZ cI a (tickF σ nt)) := by
  refine MI.of (cc := cX0_tick) (maxL := 4) (ty := .int) (by decide) rfl (rfl) ⟨rfl, rfl⟩ (Nat.le_of_ble_eq_true rfl) ?_
  intro p e s m args below meth c A Q S hK hret ls hl hw
  replace hl : lv_has ls 4 [(0, .ref (a 0)), (1, .int (nI nt))] := hl
  replace S : CallFix p m c cX0_tick 4 s args wsX0_tick RX0 := S
  have hin := inX0_tick
  refine lv_iload_n S.1 S.2.1 dX0_tick_0 rfl (lv_at hl 1 rfl) ?_
  refine lv_iconst (v := 1) S.1 S.2.1 dX0_tick_1 (by decide) ?_
  refine lv_bipush (v := 50) S.1 S.2.1 dX0_tick_2 (by decide) ?_
  refine bc_sv (As := [.int (nI nt), .int 1, .int 50]) (rest := []) S hK hw (kX0_checkRange l D _ (nI nt) 1 50 h1 h2) (va_cwS 3 S.2.2.2.2 gX0_tick_X0_checkRange rfl rfl rfl (by decide +kernel) ⟨Nat.le_of_ble_eq_true rfl, Nat.le_of_ble_eq_true rfl⟩) rfl hl.1 rfl (Nat.le_of_ble_eq_true rfl) (Nat.zero_le _) (Nat.zero_le _) dX0_tick_4 (fun H locs hw => ?_)
  refine lv_iconst (v := nI 0) S.1 S.2.1 dX0_tick_7 (by decide) ?_
  refine lv_istore_n (lv' := [(2, .int (nI 0)), (0, .ref (a 0)), (1, .int (nI nt))]) S.1 S.2.1 dX0_tick_8 rfl hl (by decide) rfl (fun ls hl => ?_)
  have L9 : ∀ (n i9 : Nat), i9 + n = nt → ∀ (H : Heap) (locs : List Loc), Wd D A s.heap (wX cZ cI a (itF tickT σ i9)) H locs → ∀ ls : Array Slot, lv_has ls 4 [(0, .ref (a 0)), (1, .int (nI nt)), (2, .int (nI i9))] → W p l e ({ frames := 6, cells := 0, slots := 0, locals := 142 } : Room) s m args below meth c H locs 0 0 Q (F0 m 9 ls []) := by
    intro n
    induction n with
    | zero =>
      intro i9 hi H locs hw ls hl
      have e9 : nt = i9 := by omega
      subst e9
      refine lv_iload_n S.1 S.2.1 dX0_tick_9 rfl (lv_at hl 2 rfl) ?_
      refine lv_iload_n S.1 S.2.1 dX0_tick_10 rfl (lv_at hl 1 rfl) ?_
      refine br_ge (tgt := 48) S dX0_tick_11 (by decide) (fun c11 => ?_) (fun c11 => ?_)
      · refine lv_aload_n S.1 S.2.1 dX0_tick_48 rfl (lv_at hl 0 rfl) ?_
        refine lv_dup S.1 S.2.1 dX0_tick_49 rfl ?_
        refine bx_get S hK hin hw.1 0 rfl rfl 17 (by decide) flX0_tick_115 rfl dX0_tick_50 ?_
        refine lv_iload_n S.1 S.2.1 dX0_tick_53 rfl (lv_at hl 1 rfl) ?_
        refine lv_iadd S.1 S.2.1 dX0_tick_54 ?_
        refine bx_put S hK hin tyX0 tyX0_ok nmX0 hw 0 rfl rfl 17 (by decide) flX0_tick_115 rfl (by decide +kernel) (Nat.le_of_ble_eq_true rfl) (wX_s17 cZ cI a (itF tickT σ nt) (((itF tickT σ nt) 17 0) + (nI nt))) dX0_tick_55 (fun H locs hw => ?_)
        refine lv_aload_n S.1 S.2.1 dX0_tick_58 rfl (lv_at hl 0 rfl) ?_
        refine bx_get S hK hin hw.1 0 rfl rfl 17 (by decide) flX0_tick_115 rfl dX0_tick_59 ?_
        exact hret hw dX0_tick_62 (rfl) (congrArg (wX cZ cI a) (rfl))
      · exact absurd c11 (nlt_nI hn)
    | succ n ih_9 =>
      intro i9 hi H locs hw ls hl
      have hi9 : i9 < nt := by omega
      refine lv_iload_n S.1 S.2.1 dX0_tick_9 rfl (lv_at hl 2 rfl) ?_
      refine lv_iload_n S.1 S.2.1 dX0_tick_10 rfl (lv_at hl 1 rfl) ?_
      refine br_ge (tgt := 48) S dX0_tick_11 (by decide) (fun c11 => ?_) (fun c11 => ?_)
      · exact absurd c11 (not_not_intro (lt_nI hi9 hn))
      · refine lv_iconst (v := nI 0) S.1 S.2.1 dX0_tick_14 (by decide) ?_
        refine lv_istore_n (lv' := [(3, .int (nI 0)), (0, .ref (a 0)), (1, .int (nI nt)), (2, .int (nI i9))]) S.1 S.2.1 dX0_tick_15 rfl hl (by decide) rfl (fun ls hl => ?_)
        have L16 : ∀ (n i16 : Nat), i16 + n = 3 → ∀ (H : Heap) (locs : List Loc), Wd D A s.heap (wX cZ cI a (itF groupT (itF tickT σ i9) i16)) H locs → ∀ ls : Array Slot, lv_has ls 4 [(0, .ref (a 0)), (1, .int (nI nt)), (2, .int (nI i9)), (3, .int (nI i16))] → W p l e ({ frames := 6, cells := 0, slots := 0, locals := 142 } : Room) s m args below meth c H locs 0 0 Q (F0 m 16 ls []) := by
          intro n
          induction n with
          | zero =>
            intro i16 hi H locs hw ls hl
            obtain rfl : i16 = 3 := by omega
            refine lv_iload_n S.1 S.2.1 dX0_tick_16 rfl (lv_at hl 3 rfl) ?_
            refine lv_iconst (v := nI 3) S.1 S.2.1 dX0_tick_17 (by decide) ?_
            refine br_ge (tgt := 42) S dX0_tick_18 (by decide) (fun c18 => ?_) (fun c18 => ?_)
            · refine lv_iinc (v := nI (i9 + 1)) (lv' := [(2, .int (nI (i9 + 1))), (0, .ref (a 0)), (1, .int (nI nt)), (3, .int (nI 3))]) S.1 S.2.1 dX0_tick_42 hl (k := 2) rfl (nI_1 i9) (by decide) rfl (fun ls hl => ?_)
              refine lv_goto (tgt := 9) S.1 S.2.1 dX0_tick_45 (by decide) ?_
              exact ih_9 (i9 + 1) (by omega) _ _ (Wd.cast (congrArg (wX cZ cI a) (by simp only [itF, tickT])) hw) _ (lv_sub hl [1, 2, 0] rfl)
            · exact absurd c18 (nlt_nI (by decide))
          | succ n ih_16 =>
            intro i16 hi H locs hw ls hl
            have hi16 : i16 < 3 := by omega
            refine lv_iload_n S.1 S.2.1 dX0_tick_16 rfl (lv_at hl 3 rfl) ?_
            refine lv_iconst (v := nI 3) S.1 S.2.1 dX0_tick_17 (by decide) ?_
            refine br_ge (tgt := 42) S dX0_tick_18 (by decide) (fun c18 => ?_) (fun c18 => ?_)
            · exact absurd c18 (not_not_intro (lt_nI hi16 (by decide)))
            · refine lv_aload_n S.1 S.2.1 dX0_tick_21 rfl (lv_at hl 0 rfl) ?_
              refine lv_iload_n S.1 S.2.1 dX0_tick_22 rfl (lv_at hl 3 rfl) ?_
              refine bc_vv (As := [.int (nI i16)]) (rest := []) S hK hw (kX0_runMasters l D cZ cI a (itF groupT (itF tickT σ i9) i16) (g := i16) (by omega)) (cwV 1 S.2.2.2.2 gX0_tick_X0_runMasters rfl rfl rfl (by decide +kernel) ⟨Nat.le_of_ble_eq_true rfl, Nat.le_of_ble_eq_true rfl⟩) (q0 := 0) rfl rfl rfl hl.1 rfl (Nat.le_of_ble_eq_true rfl) (Nat.zero_le _) (Nat.zero_le _) dX0_tick_23 (fun H locs hw => ?_)
              refine lv_aload_n S.1 S.2.1 dX0_tick_26 rfl (lv_at hl 0 rfl) ?_
              refine lv_iload_n S.1 S.2.1 dX0_tick_27 rfl (lv_at hl 3 rfl) ?_
              refine bc_vv (As := [.int (nI i16)]) (rest := []) S hK hw (kX0_runBackups l D cZ cI a (runM (itF groupT (itF tickT σ i9) i16) i16) (g := i16) (by omega)) (cwV 1 S.2.2.2.2 gX0_tick_X0_runBackups rfl rfl rfl (by decide +kernel) ⟨Nat.le_of_ble_eq_true rfl, Nat.le_of_ble_eq_true rfl⟩) (q0 := 0) rfl rfl rfl hl.1 rfl (Nat.le_of_ble_eq_true rfl) (Nat.zero_le _) (Nat.zero_le _) dX0_tick_28 (fun H locs hw => ?_)
              refine lv_aload_n S.1 S.2.1 dX0_tick_31 rfl (lv_at hl 0 rfl) ?_
              refine lv_iload_n S.1 S.2.1 dX0_tick_32 rfl (lv_at hl 3 rfl) ?_
              refine bc_vv (As := [.int (nI i16)]) (rest := []) S hK hw (kX0_noteGap l D cZ cI a (runB (runM (itF groupT (itF tickT σ i9) i16) i16) i16) (g := i16) (by omega)) (cwV 1 S.2.2.2.2 gX0_tick_X0_noteGap rfl rfl rfl (by decide +kernel) ⟨Nat.le_of_ble_eq_true rfl, Nat.le_of_ble_eq_true rfl⟩) (q0 := 0) rfl rfl rfl hl.1 rfl (Nat.le_of_ble_eq_true rfl) (Nat.zero_le _) (Nat.zero_le _) dX0_tick_33 (fun H locs hw => ?_)
              refine lv_iinc (v := nI (i16 + 1)) (lv' := [(3, .int (nI (i16 + 1))), (0, .ref (a 0)), (1, .int (nI nt)), (2, .int (nI i9))]) S.1 S.2.1 dX0_tick_36 hl (k := 3) rfl (nI_1 i16) (by decide) rfl (fun ls hl => ?_)
              refine lv_goto (tgt := 16) S.1 S.2.1 dX0_tick_39 (by decide) ?_
              exact ih_16 (i16 + 1) (by omega) _ _ (Wd.cast (congrArg (wX cZ cI a) (by simp only [itF, groupT])) hw) _ (lv_sub hl [1, 2, 3, 0] rfl)
        exact L16 (3 - 0) 0 (by omega) _ _ (Wd.cast (congrArg (wX cZ cI a) (by simp only [itF])) hw) _ (lv_sub hl [1, 2, 3, 0] rfl)
  exact L9 (nt - 0) 0 (by omega) _ _ hw _ (lv_sub hl [1, 2, 0] rfl)

theorem inX0_state : ∀ w ∈ u_ws RX0 TX0 18, w ∈ wsX0_state := fun _ h => List.mem_cons_of_mem _ (List.mem_append_left _ (List.mem_append_right _ h))
theorem flX0_state_41 : Cond.fieldLink RX0 41 "StandbyPair" "roles" "[I" ∈ wsX0_state := by decide +kernel
set_option maxHeartbeats 4000000 in
set_option maxRecDepth 100000 in
theorem kX0_state (l : Launch) (D : va_G) (cZ cI : ClassId) (a : Nat → Nat) (σ : sC) {r g : Nat} (hr : r < 4) (hg : g < 3) : MI l yX0_state wsX0_state ({ frames := 1, cells := 0, slots := 0, locals := 21 } : Room) D (tyZ cZ cI) [.ref (a 0), .int (nI r), .int (nI g)] (wX cZ cI a σ) (σ 10 (4 * g + r)) (wX cZ cI a σ) := by
  refine MI.of (cc := cX0_state) (maxL := 3) (ty := .int) (by decide) rfl (rfl) ⟨rfl, rfl⟩ (Nat.le_of_ble_eq_true rfl) ?_
  intro p e s m args below meth c A Q S hK hret ls hl hw
  replace hl : lv_has ls 3 [(0, .ref (a 0)), (1, .int (nI r)), (2, .int (nI g))] := hl
  replace S : CallFix p m c cX0_state 3 s args wsX0_state RX0 := S
  have hin := inX0_state
  refine lv_iload_n S.1 S.2.1 dX0_state_0 rfl (lv_at hl 1 rfl) ?_
  refine bc_sv (As := [.int (nI r)]) (rest := []) S hK hw (kX0_checkRouter l D _ (r := r) (by omega)) (va_cwS 1 S.2.2.2.2 gX0_state_X0_checkRouter rfl rfl rfl (by decide +kernel) ⟨Nat.le_of_ble_eq_true rfl, Nat.le_of_ble_eq_true rfl⟩) rfl hl.1 rfl (Nat.le_of_ble_eq_true rfl) (Nat.zero_le _) (Nat.zero_le _) dX0_state_1 (fun H locs hw => ?_)
  refine lv_iload_n S.1 S.2.1 dX0_state_4 rfl (lv_at hl 2 rfl) ?_
  refine bc_sv (As := [.int (nI g)]) (rest := []) S hK hw (kX0_checkGroup l D _ (g := g) (by omega)) (va_cwS 1 S.2.2.2.2 gX0_state_X0_checkGroup rfl rfl rfl (by decide +kernel) ⟨Nat.le_of_ble_eq_true rfl, Nat.le_of_ble_eq_true rfl⟩) rfl hl.1 rfl (Nat.le_of_ble_eq_true rfl) (Nat.zero_le _) (Nat.zero_le _) dX0_state_5 (fun H locs hw => ?_)
  refine lv_aload_n S.1 S.2.1 dX0_state_8 rfl (lv_at hl 0 rfl) ?_
  refine bx_get S hK hin hw.1 0 rfl rfl 10 (by decide) flX0_state_41 rfl dX0_state_9 ?_
  refine lv_iload_n S.1 S.2.1 dX0_state_12 rfl (lv_at hl 1 rfl) ?_
  refine lv_iload_n S.1 S.2.1 dX0_state_13 rfl (lv_at hl 2 rfl) ?_
  refine bc_si (As := [.int (nI r), .int (nI g)]) (rest := [.ref (a 11)]) S hK hw (kX0_placeOf l D _ (r := r) (g := g) (by omega) (by omega)) (va_cwS 2 S.2.2.2.2 gX0_state_X0_placeOf rfl rfl rfl (by decide +kernel) ⟨Nat.le_of_ble_eq_true rfl, Nat.le_of_ble_eq_true rfl⟩) rfl hl.1 rfl (Nat.le_of_ble_eq_true rfl) (Nat.zero_le _) (Nat.zero_le _) dX0_state_14 (fun H locs hw => ?_)
  refine bx_iald (v := σ 10 (4 * g + r)) S hK hw.1 11 1 rfl rfl (by omega) (by decide) rfl dX0_state_17 ?_
  exact hret hw dX0_state_18 (rfl) (congrArg (wX cZ cI a) (rfl))

theorem inX0_changes : ∀ w ∈ u_ws RX0 TX0 18, w ∈ wsX0_changes := fun _ h => List.mem_cons_of_mem _ (List.mem_append_left _ (List.mem_append_right _ h))
theorem flX0_changes_53 : Cond.fieldLink RX0 53 "StandbyPair" "promotions" "[I" ∈ wsX0_changes := by decide +kernel
set_option maxHeartbeats 4000000 in
set_option maxRecDepth 100000 in
theorem kX0_changes (l : Launch) (D : va_G) (cZ cI : ClassId) (a : Nat → Nat) (σ : sC) {r g : Nat} (hr : r < 4) (hg : g < 3) : MI l yX0_changes wsX0_changes ({ frames := 1, cells := 0, slots := 0, locals := 21 } : Room) D (tyZ cZ cI) [.ref (a 0), .int (nI r), .int (nI g)] (wX cZ cI a σ) (σ 14 (4 * g + r)) (wX cZ cI a σ) := by
  refine MI.of (cc := cX0_changes) (maxL := 3) (ty := .int) (by decide) rfl (rfl) ⟨rfl, rfl⟩ (Nat.le_of_ble_eq_true rfl) ?_
  intro p e s m args below meth c A Q S hK hret ls hl hw
  replace hl : lv_has ls 3 [(0, .ref (a 0)), (1, .int (nI r)), (2, .int (nI g))] := hl
  replace S : CallFix p m c cX0_changes 3 s args wsX0_changes RX0 := S
  have hin := inX0_changes
  refine lv_iload_n S.1 S.2.1 dX0_changes_0 rfl (lv_at hl 1 rfl) ?_
  refine bc_sv (As := [.int (nI r)]) (rest := []) S hK hw (kX0_checkRouter l D _ (r := r) (by omega)) (va_cwS 1 S.2.2.2.2 gX0_changes_X0_checkRouter rfl rfl rfl (by decide +kernel) ⟨Nat.le_of_ble_eq_true rfl, Nat.le_of_ble_eq_true rfl⟩) rfl hl.1 rfl (Nat.le_of_ble_eq_true rfl) (Nat.zero_le _) (Nat.zero_le _) dX0_changes_1 (fun H locs hw => ?_)
  refine lv_iload_n S.1 S.2.1 dX0_changes_4 rfl (lv_at hl 2 rfl) ?_
  refine bc_sv (As := [.int (nI g)]) (rest := []) S hK hw (kX0_checkGroup l D _ (g := g) (by omega)) (va_cwS 1 S.2.2.2.2 gX0_changes_X0_checkGroup rfl rfl rfl (by decide +kernel) ⟨Nat.le_of_ble_eq_true rfl, Nat.le_of_ble_eq_true rfl⟩) rfl hl.1 rfl (Nat.le_of_ble_eq_true rfl) (Nat.zero_le _) (Nat.zero_le _) dX0_changes_5 (fun H locs hw => ?_)
  refine lv_aload_n S.1 S.2.1 dX0_changes_8 rfl (lv_at hl 0 rfl) ?_
  refine bx_get S hK hin hw.1 0 rfl rfl 14 (by decide) flX0_changes_53 rfl dX0_changes_9 ?_
  refine lv_iload_n S.1 S.2.1 dX0_changes_12 rfl (lv_at hl 1 rfl) ?_
  refine lv_iload_n S.1 S.2.1 dX0_changes_13 rfl (lv_at hl 2 rfl) ?_
  refine bc_si (As := [.int (nI r), .int (nI g)]) (rest := [.ref (a 15)]) S hK hw (kX0_placeOf l D _ (r := r) (g := g) (by omega) (by omega)) (va_cwS 2 S.2.2.2.2 gX0_changes_X0_placeOf rfl rfl rfl (by decide +kernel) ⟨Nat.le_of_ble_eq_true rfl, Nat.le_of_ble_eq_true rfl⟩) rfl hl.1 rfl (Nat.le_of_ble_eq_true rfl) (Nat.zero_le _) (Nat.zero_le _) dX0_changes_14 (fun H locs hw => ?_)
  refine bx_iald (v := σ 14 (4 * g + r)) S hK hw.1 15 1 rfl rfl (by omega) (by decide) rfl dX0_changes_17 ?_
  exact hret hw dX0_changes_18 (rfl) (congrArg (wX cZ cI a) (rfl))

theorem inX0_known : ∀ w ∈ u_ws RX0 TX0 18, w ∈ wsX0_known := fun _ h => List.mem_cons_of_mem _ (List.mem_append_left _ (List.mem_append_right _ h))
theorem flX0_known_50 : Cond.fieldLink RX0 50 "StandbyPair" "served" "[I" ∈ wsX0_known := by decide +kernel
set_option maxHeartbeats 4000000 in
set_option maxRecDepth 100000 in
theorem kX0_known (l : Launch) (D : va_G) (cZ cI : ClassId) (a : Nat → Nat) (σ : sC) {r g : Nat} (hr : r < 4) (hg : g < 3) : MI l yX0_known wsX0_known ({ frames := 1, cells := 0, slots := 0, locals := 21 } : Room) D (tyZ cZ cI) [.ref (a 0), .int (nI r), .int (nI g)] (wX cZ cI a σ) (σ 13 (4 * g + r)) (wX cZ cI a σ) := by
  refine MI.of (cc := cX0_known) (maxL := 3) (ty := .int) (by decide) rfl (rfl) ⟨rfl, rfl⟩ (Nat.le_of_ble_eq_true rfl) ?_
  intro p e s m args below meth c A Q S hK hret ls hl hw
  replace hl : lv_has ls 3 [(0, .ref (a 0)), (1, .int (nI r)), (2, .int (nI g))] := hl
  replace S : CallFix p m c cX0_known 3 s args wsX0_known RX0 := S
  have hin := inX0_known
  refine lv_iload_n S.1 S.2.1 dX0_known_0 rfl (lv_at hl 1 rfl) ?_
  refine bc_sv (As := [.int (nI r)]) (rest := []) S hK hw (kX0_checkRouter l D _ (r := r) (by omega)) (va_cwS 1 S.2.2.2.2 gX0_known_X0_checkRouter rfl rfl rfl (by decide +kernel) ⟨Nat.le_of_ble_eq_true rfl, Nat.le_of_ble_eq_true rfl⟩) rfl hl.1 rfl (Nat.le_of_ble_eq_true rfl) (Nat.zero_le _) (Nat.zero_le _) dX0_known_1 (fun H locs hw => ?_)
  refine lv_iload_n S.1 S.2.1 dX0_known_4 rfl (lv_at hl 2 rfl) ?_
  refine bc_sv (As := [.int (nI g)]) (rest := []) S hK hw (kX0_checkGroup l D _ (g := g) (by omega)) (va_cwS 1 S.2.2.2.2 gX0_known_X0_checkGroup rfl rfl rfl (by decide +kernel) ⟨Nat.le_of_ble_eq_true rfl, Nat.le_of_ble_eq_true rfl⟩) rfl hl.1 rfl (Nat.le_of_ble_eq_true rfl) (Nat.zero_le _) (Nat.zero_le _) dX0_known_5 (fun H locs hw => ?_)
  refine lv_aload_n S.1 S.2.1 dX0_known_8 rfl (lv_at hl 0 rfl) ?_
  refine bx_get S hK hin hw.1 0 rfl rfl 13 (by decide) flX0_known_50 rfl dX0_known_9 ?_
  refine lv_iload_n S.1 S.2.1 dX0_known_12 rfl (lv_at hl 1 rfl) ?_
  refine lv_iload_n S.1 S.2.1 dX0_known_13 rfl (lv_at hl 2 rfl) ?_
  refine bc_si (As := [.int (nI r), .int (nI g)]) (rest := [.ref (a 14)]) S hK hw (kX0_placeOf l D _ (r := r) (g := g) (by omega) (by omega)) (va_cwS 2 S.2.2.2.2 gX0_known_X0_placeOf rfl rfl rfl (by decide +kernel) ⟨Nat.le_of_ble_eq_true rfl, Nat.le_of_ble_eq_true rfl⟩) rfl hl.1 rfl (Nat.le_of_ble_eq_true rfl) (Nat.zero_le _) (Nat.zero_le _) dX0_known_14 (fun H locs hw => ?_)
  refine bx_iald (v := σ 13 (4 * g + r)) S hK hw.1 14 1 rfl rfl (by omega) (by decide) rfl dX0_known_17 ?_
  exact hret hw dX0_known_18 (rfl) (congrArg (wX cZ cI a) (rfl))

theorem inX0_priority : ∀ w ∈ u_ws RX0 TX0 18, w ∈ wsX0_priority := fun _ h => List.mem_cons_of_mem _ (List.mem_append_left _ (List.mem_append_right _ h))
theorem flX0_priority_41 : Cond.fieldLink RX0 41 "StandbyPair" "roles" "[I" ∈ wsX0_priority := by decide +kernel
set_option maxHeartbeats 4000000 in
set_option maxRecDepth 100000 in
theorem kX0_priority (l : Launch) (D : va_G) (cZ cI : ClassId) (a : Nat → Nat) (σ : sC) {r g : Nat} (hr : r < 4) (hg : g < 3) : MI l yX0_priority wsX0_priority ({ frames := 2, cells := 0, slots := 0, locals := 46 } : Room) D (tyZ cZ cI) [.ref (a 0), .int (nI r), .int (nI g)] (wX cZ cI a σ) (prioF σ r g) (wX cZ cI a σ) := by
  refine MI.of (cc := cX0_priority) (maxL := 3) (ty := .int) (by decide) rfl (rfl) ⟨rfl, rfl⟩ (Nat.le_of_ble_eq_true rfl) ?_
  intro p e s m args below meth c A Q S hK hret ls hl hw
  replace hl : lv_has ls 3 [(0, .ref (a 0)), (1, .int (nI r)), (2, .int (nI g))] := hl
  replace S : CallFix p m c cX0_priority 3 s args wsX0_priority RX0 := S
  have hin := inX0_priority
  refine lv_iload_n S.1 S.2.1 dX0_priority_0 rfl (lv_at hl 1 rfl) ?_
  refine bc_sv (As := [.int (nI r)]) (rest := []) S hK hw (kX0_checkRouter l D _ (r := r) (by omega)) (va_cwS 1 S.2.2.2.2 gX0_priority_X0_checkRouter rfl rfl rfl (by decide +kernel) ⟨Nat.le_of_ble_eq_true rfl, Nat.le_of_ble_eq_true rfl⟩) rfl hl.1 rfl (Nat.le_of_ble_eq_true rfl) (Nat.zero_le _) (Nat.zero_le _) dX0_priority_1 (fun H locs hw => ?_)
  refine lv_iload_n S.1 S.2.1 dX0_priority_4 rfl (lv_at hl 2 rfl) ?_
  refine bc_sv (As := [.int (nI g)]) (rest := []) S hK hw (kX0_checkGroup l D _ (g := g) (by omega)) (va_cwS 1 S.2.2.2.2 gX0_priority_X0_checkGroup rfl rfl rfl (by decide +kernel) ⟨Nat.le_of_ble_eq_true rfl, Nat.le_of_ble_eq_true rfl⟩) rfl hl.1 rfl (Nat.le_of_ble_eq_true rfl) (Nat.zero_le _) (Nat.zero_le _) dX0_priority_5 (fun H locs hw => ?_)
  refine lv_aload_n S.1 S.2.1 dX0_priority_8 rfl (lv_at hl 0 rfl) ?_
  refine bx_get S hK hin hw.1 0 rfl rfl 10 (by decide) flX0_priority_41 rfl dX0_priority_9 ?_
  refine lv_iload_n S.1 S.2.1 dX0_priority_12 rfl (lv_at hl 1 rfl) ?_
  refine lv_iload_n S.1 S.2.1 dX0_priority_13 rfl (lv_at hl 2 rfl) ?_
  refine bc_si (As := [.int (nI r), .int (nI g)]) (rest := [.ref (a 11)]) S hK hw (kX0_placeOf l D _ (r := r) (g := g) (by omega) (by omega)) (va_cwS 2 S.2.2.2.2 gX0_priority_X0_placeOf rfl rfl rfl (by decide +kernel) ⟨Nat.le_of_ble_eq_true rfl, Nat.le_of_ble_eq_true rfl⟩) rfl hl.1 rfl (Nat.le_of_ble_eq_true rfl) (Nat.zero_le _) (Nat.zero_le _) dX0_priority_14 (fun H locs hw => ?_)
  refine bx_iald (v := σ 10 (4 * g + r)) S hK hw.1 11 1 rfl rfl (by omega) (by decide) rfl dX0_priority_17 ?_
  refine bz_ne (tgt := 25) S dX0_priority_18 (by decide) (fun c18 => ?_) (fun c18 => ?_)
  · refine lv_aload_n S.1 S.2.1 dX0_priority_25 rfl (lv_at hl 0 rfl) ?_
    refine lv_iload_n S.1 S.2.1 dX0_priority_26 rfl (lv_at hl 1 rfl) ?_
    refine lv_iload_n S.1 S.2.1 dX0_priority_27 rfl (lv_at hl 2 rfl) ?_
    refine bc_vi (As := [.int (nI r), .int (nI g)]) (rest := []) S hK hw (kX0_loweredPriority l D cZ cI a σ (r := r) (g := g) (by omega) (by omega)) (cwV 2 S.2.2.2.2 gX0_priority_X0_loweredPriority rfl rfl rfl (by decide +kernel) ⟨Nat.le_of_ble_eq_true rfl, Nat.le_of_ble_eq_true rfl⟩) (q0 := 0) rfl rfl rfl hl.1 rfl (Nat.le_of_ble_eq_true rfl) (Nat.zero_le _) (Nat.zero_le _) dX0_priority_28 (fun H locs hw => ?_)
    exact hret hw dX0_priority_31 (by simp only [prioF, eq_false c18, ↓reduceIte]) (congrArg (wX cZ cI a) (rfl))
  · refine lv_iconst (v := 0) S.1 S.2.1 dX0_priority_21 (by decide) ?_
    refine lv_goto (tgt := 31) S.1 S.2.1 dX0_priority_22 (by decide) ?_
    exact hret hw dX0_priority_31 (by simp only [prioF, eq_true c18, ↓reduceIte]) (congrArg (wX cZ cI a) (rfl))

theorem inX0_timer : ∀ w ∈ u_ws RX0 TX0 18, w ∈ wsX0_timer := fun _ h => List.mem_cons_of_mem _ (List.mem_append_left _ (List.mem_append_left _ (List.mem_append_right _ h)))
theorem flX0_timer_41 : Cond.fieldLink RX0 41 "StandbyPair" "roles" "[I" ∈ wsX0_timer := by decide +kernel
theorem flX0_timer_44 : Cond.fieldLink RX0 44 "StandbyPair" "timers" "[I" ∈ wsX0_timer := by decide +kernel
set_option maxHeartbeats 4000000 in
set_option maxRecDepth 100000 in
theorem kX0_timer (l : Launch) (D : va_G) (cZ cI : ClassId) (a : Nat → Nat) (σ : sC) {r g : Nat} (hr : r < 4) (hg : g < 3) (ho : ¬ σ 10 (4 * g + r) = 0) : MI l yX0_timer wsX0_timer ({ frames := 1, cells := 0, slots := 0, locals := 21 } : Room) D (tyZ cZ cI) [.ref (a 0), .int (nI r), .int (nI g)] (wX cZ cI a σ) (σ 11 (4 * g + r)) (wX cZ cI a σ) := by
  refine MI.of (cc := cX0_timer) (maxL := 3) (ty := .int) (by decide) rfl (rfl) ⟨rfl, rfl⟩ (Nat.le_of_ble_eq_true rfl) ?_
  intro p e s m args below meth c A Q S hK hret ls hl hw
  replace hl : lv_has ls 3 [(0, .ref (a 0)), (1, .int (nI r)), (2, .int (nI g))] := hl
  replace S : CallFix p m c cX0_timer 3 s args wsX0_timer RX0 := S
  have hin := inX0_timer
  refine lv_iload_n S.1 S.2.1 dX0_timer_0 rfl (lv_at hl 1 rfl) ?_
  refine bc_sv (As := [.int (nI r)]) (rest := []) S hK hw (kX0_checkRouter l D _ (r := r) (by omega)) (va_cwS 1 S.2.2.2.2 gX0_timer_X0_checkRouter rfl rfl rfl (by decide +kernel) ⟨Nat.le_of_ble_eq_true rfl, Nat.le_of_ble_eq_true rfl⟩) rfl hl.1 rfl (Nat.le_of_ble_eq_true rfl) (Nat.zero_le _) (Nat.zero_le _) dX0_timer_1 (fun H locs hw => ?_)
  refine lv_iload_n S.1 S.2.1 dX0_timer_4 rfl (lv_at hl 2 rfl) ?_
  refine bc_sv (As := [.int (nI g)]) (rest := []) S hK hw (kX0_checkGroup l D _ (g := g) (by omega)) (va_cwS 1 S.2.2.2.2 gX0_timer_X0_checkGroup rfl rfl rfl (by decide +kernel) ⟨Nat.le_of_ble_eq_true rfl, Nat.le_of_ble_eq_true rfl⟩) rfl hl.1 rfl (Nat.le_of_ble_eq_true rfl) (Nat.zero_le _) (Nat.zero_le _) dX0_timer_5 (fun H locs hw => ?_)
  refine lv_aload_n S.1 S.2.1 dX0_timer_8 rfl (lv_at hl 0 rfl) ?_
  refine bx_get S hK hin hw.1 0 rfl rfl 10 (by decide) flX0_timer_41 rfl dX0_timer_9 ?_
  refine lv_iload_n S.1 S.2.1 dX0_timer_12 rfl (lv_at hl 1 rfl) ?_
  refine lv_iload_n S.1 S.2.1 dX0_timer_13 rfl (lv_at hl 2 rfl) ?_
  refine bc_si (As := [.int (nI r), .int (nI g)]) (rest := [.ref (a 11)]) S hK hw (kX0_placeOf l D _ (r := r) (g := g) (by omega) (by omega)) (va_cwS 2 S.2.2.2.2 gX0_timer_X0_placeOf rfl rfl rfl (by decide +kernel) ⟨Nat.le_of_ble_eq_true rfl, Nat.le_of_ble_eq_true rfl⟩) rfl hl.1 rfl (Nat.le_of_ble_eq_true rfl) (Nat.zero_le _) (Nat.zero_le _) dX0_timer_14 (fun H locs hw => ?_)
  refine bx_iald (v := σ 10 (4 * g + r)) S hK hw.1 11 1 rfl rfl (by omega) (by decide) rfl dX0_timer_17 ?_
  refine bz_ne (tgt := 31) S dX0_timer_18 (by decide) (fun c18 => ?_) (fun c18 => ?_)
  · refine lv_aload_n S.1 S.2.1 dX0_timer_31 rfl (lv_at hl 0 rfl) ?_
    refine bx_get S hK hin hw.1 0 rfl rfl 11 (by decide) flX0_timer_44 rfl dX0_timer_32 ?_
    refine lv_iload_n S.1 S.2.1 dX0_timer_35 rfl (lv_at hl 1 rfl) ?_
    refine lv_iload_n S.1 S.2.1 dX0_timer_36 rfl (lv_at hl 2 rfl) ?_
    refine bc_si (As := [.int (nI r), .int (nI g)]) (rest := [.ref (a 12)]) S hK hw (kX0_placeOf l D _ (r := r) (g := g) (by omega) (by omega)) (va_cwS 2 S.2.2.2.2 gX0_timer_X0_placeOf rfl rfl rfl (by decide +kernel) ⟨Nat.le_of_ble_eq_true rfl, Nat.le_of_ble_eq_true rfl⟩) rfl hl.1 rfl (Nat.le_of_ble_eq_true rfl) (Nat.zero_le _) (Nat.zero_le _) dX0_timer_37 (fun H locs hw => ?_)
    refine bx_iald (v := σ 11 (4 * g + r)) S hK hw.1 12 1 rfl rfl (by omega) (by decide) rfl dX0_timer_40 ?_
    exact hret hw dX0_timer_41 (rfl) (congrArg (wX cZ cI a) (rfl))
  · exact absurd c18 ho

theorem inX0_masters : ∀ w ∈ u_ws RX0 TX0 18, w ∈ wsX0_masters := fun _ h => List.mem_cons_of_mem _ (List.mem_append_left _ (List.mem_append_right _ h))
set_option maxHeartbeats 4000000 in
set_option maxRecDepth 100000 in
theorem kX0_masters (l : Launch) (D : va_G) (cZ cI : ClassId) (a : Nat → Nat) (σ : sC) {g : Nat} (hg : g < 3) : MI l yX0_masters wsX0_masters ({ frames := 2, cells := 0, slots := 0, locals := 45 } : Room) D (tyZ cZ cI) [.ref (a 0), .int (nI g)] (wX cZ cI a σ) (memW σ 2 g) (wX cZ cI a σ) := by
  refine MI.of (cc := cX0_masters) (maxL := 2) (ty := .int) (by decide) rfl (rfl) ⟨rfl, rfl⟩ (Nat.le_of_ble_eq_true rfl) ?_
  intro p e s m args below meth c A Q S hK hret ls hl hw
  replace hl : lv_has ls 2 [(0, .ref (a 0)), (1, .int (nI g))] := hl
  replace S : CallFix p m c cX0_masters 2 s args wsX0_masters RX0 := S
  have hin := inX0_masters
  refine lv_iload_n S.1 S.2.1 dX0_masters_0 rfl (lv_at hl 1 rfl) ?_
  refine bc_sv (As := [.int (nI g)]) (rest := []) S hK hw (kX0_checkGroup l D _ (g := g) (by omega)) (va_cwS 1 S.2.2.2.2 gX0_masters_X0_checkGroup rfl rfl rfl (by decide +kernel) ⟨Nat.le_of_ble_eq_true rfl, Nat.le_of_ble_eq_true rfl⟩) rfl hl.1 rfl (Nat.le_of_ble_eq_true rfl) (Nat.zero_le _) (Nat.zero_le _) dX0_masters_1 (fun H locs hw => ?_)
  refine lv_aload_n S.1 S.2.1 dX0_masters_4 rfl (lv_at hl 0 rfl) ?_
  refine lv_iconst (v := 2) S.1 S.2.1 dX0_masters_5 (by decide) ?_
  refine lv_iload_n S.1 S.2.1 dX0_masters_6 rfl (lv_at hl 1 rfl) ?_
  refine bc_vi (As := [.int 2, .int (nI g)]) (rest := []) S hK hw (kX0_membersWith l D cZ cI a σ 2 (g := g) (by omega)) (cwV 2 S.2.2.2.2 gX0_masters_X0_membersWith rfl rfl rfl (by decide +kernel) ⟨Nat.le_of_ble_eq_true rfl, Nat.le_of_ble_eq_true rfl⟩) (q0 := 0) rfl rfl rfl hl.1 rfl (Nat.le_of_ble_eq_true rfl) (Nat.zero_le _) (Nat.zero_le _) dX0_masters_7 (fun H locs hw => ?_)
  exact hret hw dX0_masters_10 (rfl) (congrArg (wX cZ cI a) (rfl))

theorem inX0_gaps : ∀ w ∈ u_ws RX0 TX0 18, w ∈ wsX0_gaps := fun _ h => List.mem_cons_of_mem _ (List.mem_append_left _ (List.mem_append_right _ h))
theorem flX0_gaps_32 : Cond.fieldLink RX0 32 "StandbyPair" "gapTicks" "[I" ∈ wsX0_gaps := by decide +kernel
set_option maxHeartbeats 4000000 in
set_option maxRecDepth 100000 in
theorem kX0_gaps (l : Launch) (D : va_G) (cZ cI : ClassId) (a : Nat → Nat) (σ : sC) {g : Nat} (hg : g < 3) : MI l yX0_gaps wsX0_gaps ({ frames := 1, cells := 0, slots := 0, locals := 20 } : Room) D (tyZ cZ cI) [.ref (a 0), .int (nI g)] (wX cZ cI a σ) (σ 7 g) (wX cZ cI a σ) := by
  refine MI.of (cc := cX0_gaps) (maxL := 2) (ty := .int) (by decide) rfl (rfl) ⟨rfl, rfl⟩ (Nat.le_of_ble_eq_true rfl) ?_
  intro p e s m args below meth c A Q S hK hret ls hl hw
  replace hl : lv_has ls 2 [(0, .ref (a 0)), (1, .int (nI g))] := hl
  replace S : CallFix p m c cX0_gaps 2 s args wsX0_gaps RX0 := S
  have hin := inX0_gaps
  refine lv_iload_n S.1 S.2.1 dX0_gaps_0 rfl (lv_at hl 1 rfl) ?_
  refine bc_sv (As := [.int (nI g)]) (rest := []) S hK hw (kX0_checkGroup l D _ (g := g) (by omega)) (va_cwS 1 S.2.2.2.2 gX0_gaps_X0_checkGroup rfl rfl rfl (by decide +kernel) ⟨Nat.le_of_ble_eq_true rfl, Nat.le_of_ble_eq_true rfl⟩) rfl hl.1 rfl (Nat.le_of_ble_eq_true rfl) (Nat.zero_le _) (Nat.zero_le _) dX0_gaps_1 (fun H locs hw => ?_)
  refine lv_aload_n S.1 S.2.1 dX0_gaps_4 rfl (lv_at hl 0 rfl) ?_
  refine bx_get S hK hin hw.1 0 rfl rfl 7 (by decide) flX0_gaps_32 rfl dX0_gaps_5 ?_
  refine lv_iload_n S.1 S.2.1 dX0_gaps_8 rfl (lv_at hl 1 rfl) ?_
  refine bx_iald (v := σ 7 g) S hK hw.1 8 1 rfl rfl (by omega) (by decide) rfl dX0_gaps_9 ?_
  exact hret hw dX0_gaps_10 (rfl) (congrArg (wX cZ cI a) (rfl))

theorem inX0_sent : ∀ w ∈ u_ws RX0 TX0 18, w ∈ wsX0_sent := fun _ h => List.mem_cons_of_mem _ (List.mem_append_left _ (List.mem_append_right _ h))
theorem flX0_sent_35 : Cond.fieldLink RX0 35 "StandbyPair" "advertisements" "[I" ∈ wsX0_sent := by decide +kernel
set_option maxHeartbeats 4000000 in
set_option maxRecDepth 100000 in
theorem kX0_sent (l : Launch) (D : va_G) (cZ cI : ClassId) (a : Nat → Nat) (σ : sC) {g : Nat} (hg : g < 3) : MI l yX0_sent wsX0_sent ({ frames := 1, cells := 0, slots := 0, locals := 20 } : Room) D (tyZ cZ cI) [.ref (a 0), .int (nI g)] (wX cZ cI a σ) (σ 8 g) (wX cZ cI a σ) := by
  refine MI.of (cc := cX0_sent) (maxL := 2) (ty := .int) (by decide) rfl (rfl) ⟨rfl, rfl⟩ (Nat.le_of_ble_eq_true rfl) ?_
  intro p e s m args below meth c A Q S hK hret ls hl hw
  replace hl : lv_has ls 2 [(0, .ref (a 0)), (1, .int (nI g))] := hl
  replace S : CallFix p m c cX0_sent 2 s args wsX0_sent RX0 := S
  have hin := inX0_sent
  refine lv_iload_n S.1 S.2.1 dX0_sent_0 rfl (lv_at hl 1 rfl) ?_
  refine bc_sv (As := [.int (nI g)]) (rest := []) S hK hw (kX0_checkGroup l D _ (g := g) (by omega)) (va_cwS 1 S.2.2.2.2 gX0_sent_X0_checkGroup rfl rfl rfl (by decide +kernel) ⟨Nat.le_of_ble_eq_true rfl, Nat.le_of_ble_eq_true rfl⟩) rfl hl.1 rfl (Nat.le_of_ble_eq_true rfl) (Nat.zero_le _) (Nat.zero_le _) dX0_sent_1 (fun H locs hw => ?_)
  refine lv_aload_n S.1 S.2.1 dX0_sent_4 rfl (lv_at hl 0 rfl) ?_
  refine bx_get S hK hin hw.1 0 rfl rfl 8 (by decide) flX0_sent_35 rfl dX0_sent_5 ?_
  refine lv_iload_n S.1 S.2.1 dX0_sent_8 rfl (lv_at hl 1 rfl) ?_
  refine bx_iald (v := σ 8 g) S hK hw.1 9 1 rfl rfl (by omega) (by decide) rfl dX0_sent_9 ?_
  exact hret hw dX0_sent_10 (rfl) (congrArg (wX cZ cI a) (rfl))

theorem inX0_repairs : ∀ w ∈ u_ws RX0 TX0 18, w ∈ wsX0_repairs := fun _ h => List.mem_cons_of_mem _ (List.mem_append_right _ h)
theorem flX0_repairs_127 : Cond.fieldLink RX0 127 "StandbyPair" "bulkRepairs" "I" ∈ wsX0_repairs := by decide +kernel
set_option maxHeartbeats 4000000 in
set_option maxRecDepth 100000 in
theorem kX0_repairs (l : Launch) (D : va_G) (cZ cI : ClassId) (a : Nat → Nat) (σ : sC)  : MI l yX0_repairs wsX0_repairs ({ frames := 0, cells := 0, slots := 0, locals := 0 } : Room) D (tyZ cZ cI) [.ref (a 0)] (wX cZ cI a σ) (σ 16 0) (wX cZ cI a σ) := by
  refine MI.of (cc := cX0_repairs) (maxL := 1) (ty := .int) (by decide) rfl (rfl) ⟨rfl, rfl⟩ (Nat.le_of_ble_eq_true rfl) ?_
  intro p e s m args below meth c A Q S hK hret ls hl hw
  replace hl : lv_has ls 1 [(0, .ref (a 0))] := hl
  replace S : CallFix p m c cX0_repairs 1 s args wsX0_repairs RX0 := S
  have hin := inX0_repairs
  refine lv_aload_n S.1 S.2.1 dX0_repairs_0 rfl (lv_at hl 0 rfl) ?_
  refine bx_get S hK hin hw.1 0 rfl rfl 16 (by decide) flX0_repairs_127 rfl dX0_repairs_1 ?_
  exact hret hw dX0_repairs_4 (rfl) (congrArg (wX cZ cI a) (rfl))

theorem inX0_isSettled : ∀ w ∈ u_ws RX0 TX0 18, w ∈ wsX0_isSettled := fun _ h => List.mem_cons_of_mem _ (List.mem_append_left _ (List.mem_append_right _ h))
set_option maxHeartbeats 4000000 in
set_option maxRecDepth 100000 in
theorem kX0_isSettled (l : Launch) (D : va_G) (cZ cI : ClassId) (a : Nat → Nat) (σ : sC) {g : Nat} (hg : g < 3) : MI l yX0_isSettled wsX0_isSettled ({ frames := 2, cells := 0, slots := 0, locals := 45 } : Room) D (tyZ cZ cI) [.ref (a 0), .int (nI g)] (wX cZ cI a σ) (setlF σ g) (wX cZ cI a σ) := by
  refine MI.of (cc := cX0_isSettled) (maxL := 2) (ty := .boolean) (by decide) rfl (nar_z (setlF_z σ g)) ⟨rfl, rfl⟩ (Nat.le_of_ble_eq_true rfl) ?_
  intro p e s m args below meth c A Q S hK hret ls hl hw
  replace hl : lv_has ls 2 [(0, .ref (a 0)), (1, .int (nI g))] := hl
  replace S : CallFix p m c cX0_isSettled 2 s args wsX0_isSettled RX0 := S
  have hin := inX0_isSettled
  refine lv_iload_n S.1 S.2.1 dX0_isSettled_0 rfl (lv_at hl 1 rfl) ?_
  refine bc_sv (As := [.int (nI g)]) (rest := []) S hK hw (kX0_checkGroup l D _ (g := g) (by omega)) (va_cwS 1 S.2.2.2.2 gX0_isSettled_X0_checkGroup rfl rfl rfl (by decide +kernel) ⟨Nat.le_of_ble_eq_true rfl, Nat.le_of_ble_eq_true rfl⟩) rfl hl.1 rfl (Nat.le_of_ble_eq_true rfl) (Nat.zero_le _) (Nat.zero_le _) dX0_isSettled_1 (fun H locs hw => ?_)
  refine lv_aload_n S.1 S.2.1 dX0_isSettled_4 rfl (lv_at hl 0 rfl) ?_
  refine lv_iconst (v := 2) S.1 S.2.1 dX0_isSettled_5 (by decide) ?_
  refine lv_iload_n S.1 S.2.1 dX0_isSettled_6 rfl (lv_at hl 1 rfl) ?_
  refine bc_vi (As := [.int 2, .int (nI g)]) (rest := []) S hK hw (kX0_membersWith l D cZ cI a σ 2 (g := g) (by omega)) (cwV 2 S.2.2.2.2 gX0_isSettled_X0_membersWith rfl rfl rfl (by decide +kernel) ⟨Nat.le_of_ble_eq_true rfl, Nat.le_of_ble_eq_true rfl⟩) (q0 := 0) rfl rfl rfl hl.1 rfl (Nat.le_of_ble_eq_true rfl) (Nat.zero_le _) (Nat.zero_le _) dX0_isSettled_7 (fun H locs hw => ?_)
  refine bz_ne (tgt := 28) S dX0_isSettled_10 (by decide) (fun c10 => ?_) (fun c10 => ?_)
  · refine lv_aload_n S.1 S.2.1 dX0_isSettled_28 rfl (lv_at hl 0 rfl) ?_
    refine lv_iload_n S.1 S.2.1 dX0_isSettled_29 rfl (lv_at hl 1 rfl) ?_
    refine bc_vi (As := [.int (nI g)]) (rest := []) S hK hw (kX0_hasJoinedMasters l D cZ cI a σ (g := g) (by omega)) (cwV 1 S.2.2.2.2 gX0_isSettled_X0_hasJoinedMasters rfl rfl rfl (by decide +kernel) ⟨Nat.le_of_ble_eq_true rfl, Nat.le_of_ble_eq_true rfl⟩) (q0 := 0) rfl rfl rfl hl.1 rfl (Nat.le_of_ble_eq_true rfl) (Nat.zero_le _) (Nat.zero_le _) dX0_isSettled_30 (fun H locs hw => ?_)
    refine bz_ne (tgt := 40) S dX0_isSettled_33 (by decide) (fun c33 => ?_) (fun c33 => ?_)
    · refine lv_iconst (v := 0) S.1 S.2.1 dX0_isSettled_40 (by decide) ?_
      exact hret hw dX0_isSettled_41 (by simp only [setlF, eq_false c10, eq_false c33, ↓reduceIte]) (congrArg (wX cZ cI a) (rfl))
    · refine lv_iconst (v := 1) S.1 S.2.1 dX0_isSettled_36 (by decide) ?_
      refine lv_goto (tgt := 41) S.1 S.2.1 dX0_isSettled_37 (by decide) ?_
      exact hret hw dX0_isSettled_41 (by simp only [setlF, eq_false c10, eq_true c33, ↓reduceIte]) (congrArg (wX cZ cI a) (rfl))
  · refine lv_aload_n S.1 S.2.1 dX0_isSettled_13 rfl (lv_at hl 0 rfl) ?_
    refine lv_iconst (v := 1) S.1 S.2.1 dX0_isSettled_14 (by decide) ?_
    refine lv_iload_n S.1 S.2.1 dX0_isSettled_15 rfl (lv_at hl 1 rfl) ?_
    refine bc_vi (As := [.int 1, .int (nI g)]) (rest := []) S hK hw (kX0_membersWith l D cZ cI a σ 1 (g := g) (by omega)) (cwV 2 S.2.2.2.2 gX0_isSettled_X0_membersWith rfl rfl rfl (by decide +kernel) ⟨Nat.le_of_ble_eq_true rfl, Nat.le_of_ble_eq_true rfl⟩) (q0 := 0) rfl rfl rfl hl.1 rfl (Nat.le_of_ble_eq_true rfl) (Nat.zero_le _) (Nat.zero_le _) dX0_isSettled_16 (fun H locs hw => ?_)
    refine bz_ne (tgt := 26) S dX0_isSettled_19 (by decide) (fun c19 => ?_) (fun c19 => ?_)
    · refine lv_iconst (v := 0) S.1 S.2.1 dX0_isSettled_26 (by decide) ?_
      exact hret hw dX0_isSettled_27 (by simp only [setlF, eq_true c10, eq_false c19, ↓reduceIte]) (congrArg (wX cZ cI a) (rfl))
    · refine lv_iconst (v := 1) S.1 S.2.1 dX0_isSettled_22 (by decide) ?_
      refine lv_goto (tgt := 27) S.1 S.2.1 dX0_isSettled_23 (by decide) ?_
      exact hret hw dX0_isSettled_27 (by simp only [setlF, eq_true c10, eq_true c19, ↓reduceIte]) (congrArg (wX cZ cI a) (rfl))
