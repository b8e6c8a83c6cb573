set_option maxHeartbeats 4000000 in
set_option maxRecDepth 100000 in
theorem kX0_checkRouter (l : Launch) (D : va_G) (tys : List (ClassId × FieldType)) {r : Nat} (h : r < 4) : MV l yX0_checkRouter wsX0_checkRouter ({ frames := 0, cells := 0, slots := 0, locals := 0 } : Room) D tys [.int (nI r)] [] [] := by
  refine MV.of (cc := cX0_checkRouter) (maxL := 1) (by decide) rfl ⟨rfl, rfl⟩ (Nat.le_of_ble_eq_true rfl) ?_
  intro p e s m args below meth c A Q S hK hret ls hl hw
  replace hl : lv_has ls 1 [(0, .int (nI r))] := hl
  replace S : CallFix p m c cX0_checkRouter 1 s args wsX0_checkRouter RX0 := S
  refine lv_iload_n S.1 S.2.1 dX0_checkRouter_0 rfl (lv_at hl 0 rfl) ?_
  refine bz_lt (tgt := 9) S dX0_checkRouter_1 (by decide) (fun c1 => ?_) (fun c1 => ?_)
  · exact absurd c1 (nI_pos (by omega))
  · refine lv_iload_n S.1 S.2.1 dX0_checkRouter_4 rfl (lv_at hl 0 rfl) ?_
    refine lv_iconst (v := nI 4) S.1 S.2.1 dX0_checkRouter_5 (by decide) ?_
    refine br_lt (tgt := 19) S dX0_checkRouter_6 (by decide) (fun c6 => ?_) (fun c6 => ?_)
    · exact hret hw dX0_checkRouter_19 rfl
    · exact absurd c6 (not_not_intro (lt_nI h (by decide)))
set_option maxHeartbeats 4000000 in
set_option maxRecDepth 100000 in
theorem kX0_checkGroup (l : Launch) (D : va_G) (tys : List (ClassId × FieldType)) {g : Nat} (h : g < 3) : MV l yX0_checkGroup wsX0_checkGroup ({ frames := 0, cells := 0, slots := 0, locals := 0 } : Room) D tys [.int (nI g)] [] [] := by
  refine MV.of (cc := cX0_checkGroup) (maxL := 1) (by decide) rfl ⟨rfl, rfl⟩ (Nat.le_of_ble_eq_true rfl) ?_
  intro p e s m args below meth c A Q S hK hret ls hl hw
  replace hl : lv_has ls 1 [(0, .int (nI g))] := hl
  replace S : CallFix p m c cX0_checkGroup 1 s args wsX0_checkGroup RX0 := S
  refine lv_iload_n S.1 S.2.1 dX0_checkGroup_0 rfl (lv_at hl 0 rfl) ?_
  refine bz_lt (tgt := 9) S dX0_checkGroup_1 (by decide) (fun c1 => ?_) (fun c1 => ?_)
  · exact absurd c1 (nI_pos (by omega))
  · refine lv_iload_n S.1 S.2.1 dX0_checkGroup_4 rfl (lv_at hl 0 rfl) ?_
    refine lv_iconst (v := nI 3) S.1 S.2.1 dX0_checkGroup_5 (by decide) ?_
    refine br_lt (tgt := 19) S dX0_checkGroup_6 (by decide) (fun c6 => ?_) (fun c6 => ?_)
    · exact hret hw dX0_checkGroup_19 rfl
    · exact absurd c6 (not_not_intro (lt_nI h (by decide)))
set_option maxHeartbeats 4000000 in
set_option maxRecDepth 100000 in
theorem kX0_checkRange (l : Launch) (D : va_G) (tys : List (ClassId × FieldType)) (v lo hi : Int32) (h1 : ¬ v < lo) (h2 : ¬ hi < v) : MV l yX0_checkRange wsX0_checkRange ({ frames := 0, cells := 0, slots := 0, locals := 0 } : Room) D tys [.int v, .int lo, .int hi] [] [] := by
  refine MV.of (cc := cX0_checkRange) (maxL := 3) (by decide) rfl ⟨rfl, rfl⟩ (Nat.le_of_ble_eq_true rfl) ?_
  intro p e s m args below meth c A Q S hK hret ls hl hw
  replace hl : lv_has ls 3 [(0, .int v), (1, .int lo), (2, .int hi)] := hl
  replace S : CallFix p m c cX0_checkRange 3 s args wsX0_checkRange RX0 := S
  refine lv_iload_n S.1 S.2.1 dX0_checkRange_0 rfl (lv_at hl 0 rfl) ?_
  refine lv_iload_n S.1 S.2.1 dX0_checkRange_1 rfl (lv_at hl 1 rfl) ?_
  refine br_lt (tgt := 10) S dX0_checkRange_2 (by decide) (fun c2 => ?_) (fun c2 => ?_)
  · exact absurd c2 h1
  · refine lv_iload_n S.1 S.2.1 dX0_checkRange_5 rfl (lv_at hl 0 rfl) ?_
    refine lv_iload_n S.1 S.2.1 dX0_checkRange_6 rfl (lv_at hl 2 rfl) ?_
    refine br_le (tgt := 20) S dX0_checkRange_7 (by decide) (fun c7 => ?_) (fun c7 => ?_)
    · exact hret hw dX0_checkRange_20 rfl
    · exact absurd c7 h2
theorem inX0_hasJoinedMasters : ∀ w ∈ u_ws RX0 TX0 18, w ∈ wsX0_hasJoinedMasters := fun _ h => List.mem_cons_of_mem _ (List.mem_append_right _ h)
theorem flX0_hasJoinedMasters_41 : Cond.fieldLink RX0 41 "StandbyPair" "roles" "[I" ∈ wsX0_hasJoinedMasters := by decide +kernel
theorem flX0_hasJoinedMasters_13 : Cond.fieldLink RX0 13 "StandbyPair" "joinedPairs" "[Z" ∈ wsX0_hasJoinedMasters := by decide +kernel
set_option maxHeartbeats 4000000 in
set_option maxRecDepth 100000 in
theorem kX0_hasJoinedMasters (l : Launch) (D : va_G) (cZ cI : ClassId) (a : Nat → Nat) (σ : sC) {g : Nat} (hg : g < 3) : MI l yX0_hasJoinedMasters wsX0_hasJoinedMasters ({ frames := 1, cells := 0, slots := 0, locals := 21 } : Room) D (tyZ cZ cI) [.ref (a 0), .int (nI g)] (wX cZ cI a σ) (hasJ σ g) (wX cZ cI a σ) := by
  refine MI.of (cc := cX0_hasJoinedMasters) (maxL := 4) (ty := .boolean) (by decide) rfl (nar_z (hasJ_z σ g)) ⟨rfl, rfl⟩ (Nat.le_of_ble_eq_true rfl) ?_
  intro p e s m args below meth c A Q S hK hret ls hl hw
  replace hl : lv_has ls 4 [(0, .ref (a 0)), (1, .int (nI g))] := hl
  replace S : CallFix p m c cX0_hasJoinedMasters 4 s args wsX0_hasJoinedMasters RX0 := S
  have hin := inX0_hasJoinedMasters
  refine lv_iconst (v := nI 0) S.1 S.2.1 dX0_hasJoinedMasters_0 (by decide) ?_
  refine lv_istore_n (lv' := [(2, .int (nI 0)), (0, .ref (a 0)), (1, .int (nI g))]) S.1 S.2.1 dX0_hasJoinedMasters_1 rfl hl (by decide) rfl (fun ls hl => ?_)
  have L2 : ∀ (n i2 : Nat), i2 + n = 4 → (∀ i j : Nat, i < i2 → i < j → j < 4 → ¬ goodJ σ g i j) → ∀ (H : Heap) (locs : List Loc), Wd D A s.heap (wX cZ cI a σ) H locs → ∀ ls : Array Slot, lv_has ls 4 [(0, .ref (a 0)), (1, .int (nI g)), (2, .int (nI i2))] → W p l e ({ frames := 1, cells := 0, slots := 0, locals := 21 } : Room) s m args below meth c H locs 0 0 Q (F0 m 2 ls []) := by
    intro n
    induction n with
    | zero =>
      intro i2 hi hinv2 H locs hw ls hl
      obtain rfl : i2 = 4 := by omega
      refine lv_iload_n S.1 S.2.1 dX0_hasJoinedMasters_2 rfl (lv_at hl 2 rfl) ?_
      refine lv_iconst (v := nI 4) S.1 S.2.1 dX0_hasJoinedMasters_3 (by decide) ?_
      refine br_ge (tgt := 71) S dX0_hasJoinedMasters_4 (by decide) (fun c4 => ?_) (fun c4 => ?_)
      · refine lv_iconst (v := 0) S.1 S.2.1 dX0_hasJoinedMasters_71 (by decide) ?_
        exact hret hw dX0_hasJoinedMasters_72 ((hasJ_0 (fun h => by obtain ⟨i, j, h1, h2, h3⟩ := h; exact hinv2 i j (by omega) h1 h2 h3)).symm) (congrArg (wX cZ cI a) (rfl))
      · exact absurd c4 (nlt_nI (by decide))
    | succ n ih_2 =>
      intro i2 hi hinv2 H locs hw ls hl
      have hi2 : i2 < 4 := by omega
      refine lv_iload_n S.1 S.2.1 dX0_hasJoinedMasters_2 rfl (lv_at hl 2 rfl) ?_
      refine lv_iconst (v := nI 4) S.1 S.2.1 dX0_hasJoinedMasters_3 (by decide) ?_
      refine br_ge (tgt := 71) S dX0_hasJoinedMasters_4 (by decide) (fun c4 => ?_) (fun c4 => ?_)
      · exact absurd c4 (not_not_intro (lt_nI hi2 (by decide)))
      · refine lv_iload_n S.1 S.2.1 dX0_hasJoinedMasters_7 rfl (lv_at hl 2 rfl) ?_
        refine lv_iconst (v := 1) S.1 S.2.1 dX0_hasJoinedMasters_8 (by decide) ?_
        refine lv_iadd S.1 S.2.1 dX0_hasJoinedMasters_9 ?_
        refine bx_top (y := nI (i2 + 1)) (nI_1 i2) ?_
        refine lv_istore_n (lv' := [(3, .int (nI (i2 + 1))), (0, .ref (a 0)), (1, .int (nI g)), (2, .int (nI i2))]) S.1 S.2.1 dX0_hasJoinedMasters_10 rfl hl (by decide) rfl (fun ls hl => ?_)
        have L11 : ∀ (n i11 : Nat), i11 + n = 4 → (i2 < i11 ∧ ∀ j : Nat, i2 < j → j < i11 → ¬ goodJ σ g i2 j) → ∀ (H : Heap) (locs : List Loc), Wd D A s.heap (wX cZ cI a σ) H locs → ∀ ls : Array Slot, lv_has ls 4 [(0, .ref (a 0)), (1, .int (nI g)), (2, .int (nI i2)), (3, .int (nI i11))] → W p l e ({ frames := 1, cells := 0, slots := 0, locals := 21 } : Room) s m args below meth c H locs 0 0 Q (F0 m 11 ls []) := by
          intro n
          induction n with
          | zero =>
            intro i11 hi hinv11 H locs hw ls hl
            obtain rfl : i11 = 4 := by omega
            refine lv_iload_n S.1 S.2.1 dX0_hasJoinedMasters_11 rfl (lv_at hl 3 rfl) ?_
            refine lv_iconst (v := nI 4) S.1 S.2.1 dX0_hasJoinedMasters_12 (by decide) ?_
            refine br_ge (tgt := 65) S dX0_hasJoinedMasters_13 (by decide) (fun c13 => ?_) (fun c13 => ?_)
            · refine lv_iinc (v := nI (i2 + 1)) (lv' := [(2, .int (nI (i2 + 1))), (0, .ref (a 0)), (1, .int (nI g)), (3, .int (nI 4))]) S.1 S.2.1 dX0_hasJoinedMasters_65 hl (k := 2) rfl (nI_1 i2) (by decide) rfl (fun ls hl => ?_)
              refine lv_goto (tgt := 2) S.1 S.2.1 dX0_hasJoinedMasters_68 (by decide) ?_
              exact ih_2 (i2 + 1) (by omega) (fun i j h1 h2 h3 h => (Nat.lt_or_ge i i2).elim (fun q => hinv2 i j q h2 h3 h) (fun q => by have e : i = i2 := (by omega); subst e; exact hinv11.2 j h2 h3 h)) _ _ hw _ (lv_sub hl [1, 2, 0] rfl)
            · exact absurd c13 (nlt_nI (by decide))
          | succ n ih_11 =>
            intro i11 hi hinv11 H locs hw ls hl
            have hi11 : i11 < 4 := by omega
            refine lv_iload_n S.1 S.2.1 dX0_hasJoinedMasters_11 rfl (lv_at hl 3 rfl) ?_
            refine lv_iconst (v := nI 4) S.1 S.2.1 dX0_hasJoinedMasters_12 (by decide) ?_
            refine br_ge (tgt := 65) S dX0_hasJoinedMasters_13 (by decide) (fun c13 => ?_) (fun c13 => ?_)
            · exact absurd c13 (not_not_intro (lt_nI hi11 (by decide)))
            · refine lv_aload_n S.1 S.2.1 dX0_hasJoinedMasters_16 rfl (lv_at hl 0 rfl) ?_
              refine bx_get S hK hin hw.1 0 rfl rfl 10 (by decide) flX0_hasJoinedMasters_41 rfl dX0_hasJoinedMasters_17 ?_
              refine lv_iload_n S.1 S.2.1 dX0_hasJoinedMasters_20 rfl (lv_at hl 2 rfl) ?_
              refine lv_iload_n S.1 S.2.1 dX0_hasJoinedMasters_21 rfl (lv_at hl 1 rfl) ?_
              refine bc_si (As := [.int (nI i2), .int (nI g)]) (rest := [.ref (a 11)]) S hK hw (kX0_placeOf l D _ (r := i2) (g := g) (by omega) (by omega)) (va_cwS 2 S.2.2.2.2 gX0_hasJoinedMasters_X0_placeOf rfl rfl rfl (by decide +kernel) ⟨Nat.le_of_ble_eq_true rfl, Nat.le_of_ble_eq_true rfl⟩) rfl hl.1 rfl (Nat.le_of_ble_eq_true rfl) (Nat.zero_le _) (Nat.zero_le _) dX0_hasJoinedMasters_22 (fun H locs hw => ?_)
              refine bx_iald (v := σ 10 (4 * g + i2)) S hK hw.1 11 1 rfl rfl (by omega) (by decide) rfl dX0_hasJoinedMasters_25 ?_
              refine lv_iconst (v := 2) S.1 S.2.1 dX0_hasJoinedMasters_26 (by decide) ?_
              refine br_ne (tgt := 59) S dX0_hasJoinedMasters_27 (by decide) (fun c27 => ?_) (fun c27 => ?_)
              · refine lv_iinc (v := nI (i11 + 1)) (lv' := [(3, .int (nI (i11 + 1))), (0, .ref (a 0)), (1, .int (nI g)), (2, .int (nI i2))]) S.1 S.2.1 dX0_hasJoinedMasters_59 hl (k := 3) rfl (nI_1 i11) (by decide) rfl (fun ls hl => ?_)
                refine lv_goto (tgt := 11) S.1 S.2.1 dX0_hasJoinedMasters_62 (by decide) ?_
                exact ih_11 (i11 + 1) (by omega) (⟨by omega, fun j h1 h2 h => (Nat.lt_or_ge j i11).elim (fun q => hinv11.2 j h1 q h) (fun q => by have e : j = i11 := (by omega); subst e; exact absurd h.1 c27)⟩) _ _ hw _ (lv_sub hl [1, 2, 3, 0] rfl)
              · refine lv_aload_n S.1 S.2.1 dX0_hasJoinedMasters_30 rfl (lv_at hl 0 rfl) ?_
                refine bx_get S hK hin hw.1 0 rfl rfl 10 (by decide) flX0_hasJoinedMasters_41 rfl dX0_hasJoinedMasters_31 ?_
                refine lv_iload_n S.1 S.2.1 dX0_hasJoinedMasters_34 rfl (lv_at hl 3 rfl) ?_
                refine lv_iload_n S.1 S.2.1 dX0_hasJoinedMasters_35 rfl (lv_at hl 1 rfl) ?_
                refine bc_si (As := [.int (nI i11), .int (nI g)]) (rest := [.ref (a 11)]) S hK hw (kX0_placeOf l D _ (r := i11) (g := g) (by omega) (by omega)) (va_cwS 2 S.2.2.2.2 gX0_hasJoinedMasters_X0_placeOf rfl rfl rfl (by decide +kernel) ⟨Nat.le_of_ble_eq_true rfl, Nat.le_of_ble_eq_true rfl⟩) rfl hl.1 rfl (Nat.le_of_ble_eq_true rfl) (Nat.zero_le _) (Nat.zero_le _) dX0_hasJoinedMasters_36 (fun H locs hw => ?_)
                refine bx_iald (v := σ 10 (4 * g + i11)) S hK hw.1 11 1 rfl rfl (by omega) (by decide) rfl dX0_hasJoinedMasters_39 ?_
                refine lv_iconst (v := 2) S.1 S.2.1 dX0_hasJoinedMasters_40 (by decide) ?_
                refine br_ne (tgt := 59) S dX0_hasJoinedMasters_41 (by decide) (fun c41 => ?_) (fun c41 => ?_)
                · refine lv_iinc (v := nI (i11 + 1)) (lv' := [(3, .int (nI (i11 + 1))), (0, .ref (a 0)), (1, .int (nI g)), (2, .int (nI i2))]) S.1 S.2.1 dX0_hasJoinedMasters_59 hl (k := 3) rfl (nI_1 i11) (by decide) rfl (fun ls hl => ?_)
                  refine lv_goto (tgt := 11) S.1 S.2.1 dX0_hasJoinedMasters_62 (by decide) ?_
                  exact ih_11 (i11 + 1) (by omega) (⟨by omega, fun j h1 h2 h => (Nat.lt_or_ge j i11).elim (fun q => hinv11.2 j h1 q h) (fun q => by have e : j = i11 := (by omega); subst e; exact absurd h.2.1 c41)⟩) _ _ hw _ (lv_sub hl [1, 2, 3, 0] rfl)
                · refine lv_aload_n S.1 S.2.1 dX0_hasJoinedMasters_44 rfl (lv_at hl 0 rfl) ?_
                  refine bx_get S hK hin hw.1 0 rfl rfl 1 (by decide) flX0_hasJoinedMasters_13 rfl dX0_hasJoinedMasters_45 ?_
                  refine lv_iload_n S.1 S.2.1 dX0_hasJoinedMasters_48 rfl (lv_at hl 2 rfl) ?_
                  refine lv_iconst (v := 4) S.1 S.2.1 dX0_hasJoinedMasters_49 (by decide) ?_
                  refine lv_imul S.1 S.2.1 dX0_hasJoinedMasters_50 ?_
                  refine lv_iload_n S.1 S.2.1 dX0_hasJoinedMasters_51 rfl (lv_at hl 3 rfl) ?_
                  refine lv_iadd S.1 S.2.1 dX0_hasJoinedMasters_52 ?_
                  refine bx_top (y := nI (4 * i2 + i11)) (pl_j (by omega) (by omega)) ?_
                  refine bx_zald (v := σ 1 (4 * i2 + i11)) S hK hw.1 2 0 rfl rfl (by omega) (by decide) rfl dX0_hasJoinedMasters_53 ?_
                  refine bz_eq (tgt := 59) S dX0_hasJoinedMasters_54 (by decide) (fun c54 => ?_) (fun c54 => ?_)
                  · refine lv_iinc (v := nI (i11 + 1)) (lv' := [(3, .int (nI (i11 + 1))), (0, .ref (a 0)), (1, .int (nI g)), (2, .int (nI i2))]) S.1 S.2.1 dX0_hasJoinedMasters_59 hl (k := 3) rfl (nI_1 i11) (by decide) rfl (fun ls hl => ?_)
                    refine lv_goto (tgt := 11) S.1 S.2.1 dX0_hasJoinedMasters_62 (by decide) ?_
                    exact ih_11 (i11 + 1) (by omega) (⟨by omega, fun j h1 h2 h => (Nat.lt_or_ge j i11).elim (fun q => hinv11.2 j h1 q h) (fun q => by have e : j = i11 := (by omega); subst e; exact absurd c54 h.2.2)⟩) _ _ hw _ (lv_sub hl [1, 2, 3, 0] rfl)
                  · refine lv_iconst (v := 1) S.1 S.2.1 dX0_hasJoinedMasters_57 (by decide) ?_
                    exact hret hw dX0_hasJoinedMasters_58 ((hasJ_1 ⟨i2, i11, hinv11.1, hi11, c27, c41, c54⟩).symm) (congrArg (wX cZ cI a) (rfl))
        exact L11 (4 - (i2 + 1)) (i2 + 1) (by omega) (⟨by omega, fun j h1 h2 => absurd h1 (by omega)⟩) _ _ hw _ (lv_sub hl [1, 2, 3, 0] rfl)
  exact L2 (4 - 0) 0 (by omega) (fun i j h => absurd h (Nat.not_lt_zero i)) _ _ hw _ (lv_sub hl [1, 2, 0] rfl)
theorem inX0_die : ∀ w ∈ u_ws RX0 TX0 18, w ∈ wsX0_die := fun _ h => List.mem_cons_of_mem _ (List.mem_append_left _ (List.mem_append_left _ (List.mem_append_right _ h)))
theorem inX0_tick : ∀ w ∈ u_ws RX0 TX0 18, w ∈ wsX0_tick := fun _ h => List.mem_cons_of_mem _ (List.mem_append_left _ (List.mem_append_right _ h))
theorem flX0_tick_115 : Cond.fieldLink RX0 115 "StandbyPair" "time" "I" ∈ wsX0_tick := by decide +kernel
set_option maxHeartbeats 4000000 in
set_option maxRecDepth 100000 in
theorem kX0_tick (l : Launch) (D : va_G) (cZ cI : ClassId) (a : Nat → Nat) (σ : sC) {nt : Nat} (hn : nt < 100) (h1 : ¬ nI nt < 1) (h2 : ¬ 50 < nI nt) : MI l yX0_tick wsX0_tick ({ frames := 6, cells := 0, slots := 0, locals := 142 } : Room) D (tyZ cZ cI) [.ref (a 0), .int (nI nt)] (wX cZ cI a σ) ((tickF σ nt) 17 0) (wX cZ cI a (tickF σ nt)) := by
  refine MI.of (cc := cX0_tick) (maxL := 4) (ty := .int) (by decide) rfl (rfl) ⟨rfl, rfl⟩ (Nat.le_of_ble_eq_true rfl) ?_
  intro p e s m args below meth c A Q S hK hret ls hl hw
  replace hl : lv_has ls 4 [(0, .ref (a 0)), (1, .int (nI nt))] := hl
  replace S : CallFix p m c cX0_tick 4 s args wsX0_tick RX0 := S
  have hin := inX0_tick
  refine lv_iload_n S.1 S.2.1 dX0_tick_0 rfl (lv_at hl 1 rfl) ?_
  refine lv_iconst (v := 1) S.1 S.2.1 dX0_tick_1 (by decide) ?_
  refine lv_bipush (v := 50) S.1 S.2.1 dX0_tick_2 (by decide) ?_
  refine bc_sv (As := [.int (nI nt), .int 1, .int 50]) (rest := []) S hK hw (kX0_checkRange l D _ (nI nt) 1 50 h1 h2) (va_cwS 3 S.2.2.2.2 gX0_tick_X0_checkRange rfl rfl rfl (by decide +kernel) ⟨Nat.le_of_ble_eq_true rfl, Nat.le_of_ble_eq_true rfl⟩) rfl hl.1 rfl (Nat.le_of_ble_eq_true rfl) (Nat.zero_le _) (Nat.zero_le _) dX0_tick_4 (fun H locs hw => ?_)
  refine lv_iconst (v := nI 0) S.1 S.2.1 dX0_tick_7 (by decide) ?_
  refine lv_istore_n (lv' := [(2, .int (nI 0)), (0, .ref (a 0)), (1, .int (nI nt))]) S.1 S.2.1 dX0_tick_8 rfl hl (by decide) rfl (fun ls hl => ?_)
  have L9 : ∀ (n i9 : Nat), i9 + n = nt → ∀ (H : Heap) (locs : List Loc), Wd D A s.heap (wX cZ cI a (itF tickT σ i9)) H locs → ∀ ls : Array Slot, lv_has ls 4 [(0, .ref (a 0)), (1, .int (nI nt)), (2, .int (nI i9))] → W p l e ({ frames := 6, cells := 0, slots := 0, locals := 142 } : Room) s m args below meth c H locs 0 0 Q (F0 m 9 ls []) := by
    intro n
    induction n with
    | zero =>
      intro i9 hi H locs hw ls hl
      have e9 : nt = i9 := by omega
      subst e9
      refine lv_iload_n S.1 S.2.1 dX0_tick_9 rfl (lv_at hl 2 rfl) ?_
      refine lv_iload_n S.1 S.2.1 dX0_tick_10 rfl (lv_at hl 1 rfl) ?_
      refine br_ge (tgt := 48) S dX0_tick_11 (by decide) (fun c11 => ?_) (fun c11 => ?_)
      · refine lv_aload_n S.1 S.2.1 dX0_tick_48 rfl (lv_at hl 0 rfl) ?_
        refine lv_dup S.1 S.2.1 dX0_tick_49 rfl ?_
        refine bx_get S hK hin hw.1 0 rfl rfl 17 (by decide) flX0_tick_115 rfl dX0_tick_50 ?_
        refine lv_iload_n S.1 S.2.1 dX0_tick_53 rfl (lv_at hl 1 rfl) ?_
        refine lv_iadd S.1 S.2.1 dX0_tick_54 ?_
        refine bx_put S hK hin tyX0 tyX0_ok nmX0 hw 0 rfl rfl 17 (by decide) flX0_tick_115 rfl (by decide +kernel) (Nat.le_of_ble_eq_true rfl) (wX_s17 cZ cI a (itF tickT σ nt) (((itF tickT σ nt) 17 0) + (nI nt))) dX0_tick_55 (fun H locs hw => ?_)
        refine lv_aload_n S.1 S.2.1 dX0_tick_58 rfl (lv_at hl 0 rfl) ?_
        refine bx_get S hK hin hw.1 0 rfl rfl 17 (by decide) flX0_tick_115 rfl dX0_tick_59 ?_
        exact hret hw dX0_tick_62 (rfl) (congrArg (wX cZ cI a) (rfl))
      · exact absurd c11 (nlt_nI hn)
    | succ n ih_9 =>
      intro i9 hi H locs hw ls hl
      have hi9 : i9 < nt := by omega
      refine lv_iload_n S.1 S.2.1 dX0_tick_9 rfl (lv_at hl 2 rfl) ?_
      refine lv_iload_n S.1 S.2.1 dX0_tick_10 rfl (lv_at hl 1 rfl) ?_
      refine br_ge (tgt := 48) S dX0_tick_11 (by decide) (fun c11 => ?_) (fun c11 => ?_)
      · exact absurd c11 (not_not_intro (lt_nI hi9 hn))
      · refine lv_iconst (v := nI 0) S.1 S.2.1 dX0_tick_14 (by decide) ?_
        refine lv_istore_n (lv' := [(3, .int (nI 0)), (0, .ref (a 0)), (1, .int (nI nt)), (2, .int (nI i9))]) S.1 S.2.1 dX0_tick_15 rfl hl (by decide) rfl (fun ls hl => ?_)
        have L16 : ∀ (n i16 : Nat), i16 + n = 3 → ∀ (H : Heap) (locs : List Loc), Wd D A s.heap (wX cZ cI a (itF groupT (itF tickT σ i9) i16)) H locs → ∀ ls : Array Slot, lv_has ls 4 [(0, .ref (a 0)), (1, .int (nI nt)), (2, .int (nI i9)), (3, .int (nI i16))] → W p l e ({ frames := 6, cells := 0, slots := 0, locals := 142 } : Room) s m args below meth c H locs 0 0 Q (F0 m 16 ls []) := by
          intro n
          induction n with
          | zero =>
            intro i16 hi H locs hw ls hl
            obtain rfl : i16 = 3 := by omega
            refine lv_iload_n S.1 S.2.1 dX0_tick_16 rfl (lv_at hl 3 rfl) ?_
            refine lv_iconst (v := nI 3) S.1 S.2.1 dX0_tick_17 (by decide) ?_
            refine br_ge (tgt := 42) S dX0_tick_18 (by decide) (fun c18 => ?_) (fun c18 => ?_)
            · refine lv_iinc (v := nI (i9 + 1)) (lv' := [(2, .int (nI (i9 + 1))), (0, .ref (a 0)), (1, .int (nI nt)), (3, .int (nI 3))]) S.1 S.2.1 dX0_tick_42 hl (k := 2) rfl (nI_1 i9) (by decide) rfl (fun ls hl => ?_)
              refine lv_goto (tgt := 9) S.1 S.2.1 dX0_tick_45 (by decide) ?_
              exact ih_9 (i9 + 1) (by omega) _ _ (Wd.cast (congrArg (wX cZ cI a) (by simp only [itF, tickT])) hw) _ (lv_sub hl [1, 2, 0] rfl)
            · exact absurd c18 (nlt_nI (by decide))
          | succ n ih_16 =>
            intro i16 hi H locs hw ls hl
            have hi16 : i16 < 3 := by omega
            refine lv_iload_n S.1 S.2.1 dX0_tick_16 rfl (lv_at hl 3 rfl) ?_
            refine lv_iconst (v := nI 3) S.1 S.2.1 dX0_tick_17 (by decide) ?_
            refine br_ge (tgt := 42) S dX0_tick_18 (by decide) (fun c18 => ?_) (fun c18 => ?_)
            · exact absurd c18 (not_not_intro (lt_nI hi16 (by decide)))
            · refine lv_aload_n S.1 S.2.1 dX0_tick_21 rfl (lv_at hl 0 rfl) ?_
              refine lv_iload_n S.1 S.2.1 dX0_tick_22 rfl (lv_at hl 3 rfl) ?_
              refine bc_vv (As := [.int (nI i16)]) (rest := []) S hK hw (kX0_runMasters l D cZ cI a (itF groupT (itF tickT σ i9) i16) (g := i16) (by omega)) (cwV 1 S.2.2.2.2 gX0_tick_X0_runMasters rfl rfl rfl (by decide +kernel) ⟨Nat.le_of_ble_eq_true rfl, Nat.le_of_ble_eq_true rfl⟩) (q0 := 0) rfl rfl rfl hl.1 rfl (Nat.le_of_ble_eq_true rfl) (Nat.zero_le _) (Nat.zero_le _) dX0_tick_23 (fun H locs hw => ?_)
              refine lv_aload_n S.1 S.2.1 dX0_tick_26 rfl (lv_at hl 0 rfl) ?_
              refine lv_iload_n S.1 S.2.1 dX0_tick_27 rfl (lv_at hl 3 rfl) ?_
              refine bc_vv (As := [.int (nI i16)]) (rest := []) S hK hw (kX0_runBackups l D cZ cI a (runM (itF groupT (itF tickT σ i9) i16) i16) (g := i16) (by omega)) (cwV 1 S.2.2.2.2 gX0_tick_X0_runBackups rfl rfl rfl (by decide +kernel) ⟨Nat.le_of_ble_eq_true rfl, Nat.le_of_ble_eq_true rfl⟩) (q0 := 0) rfl rfl rfl hl.1 rfl (Nat.le_of_ble_eq_true rfl) (Nat.zero_le _) (Nat.zero_le _) dX0_tick_28 (fun H locs hw => ?_)
              refine lv_aload_n S.1 S.2.1 dX0_tick_31 rfl (lv_at hl 0 rfl) ?_
              refine lv_iload_n S.1 S.2.1 dX0_tick_32 rfl (lv_at hl 3 rfl) ?_
              refine bc_vv (As := [.int (nI i16)]) (rest := []) S hK hw (kX0_noteGap l D cZ cI a (runB (runM (itF groupT (itF tickT σ i9) i16) i16) i16) (g := i16) (by omega)) (cwV 1 S.2.2.2.2 gX0_tick_X0_noteGap rfl rfl rfl (by decide +kernel) ⟨Nat.le_of_ble_eq_true rfl, Nat.le_of_ble_eq_true rfl⟩) (q0 := 0) rfl rfl rfl hl.1 rfl (Nat.le_of_ble_eq_true rfl) (Nat.zero_le _) (Nat.zero_le _) dX0_tick_33 (fun H locs hw => ?_)
              refine lv_iinc (v := nI (i16 + 1)) (lv' := [(3, .int (nI (i16 + 1))), (0, .ref (a 0)), (1, .int (nI nt)), (2, .int (nI i9))]) S.1 S.2.1 dX0_tick_36 hl (k := 3) rfl (nI_1 i16) (by decide) rfl (fun ls hl => ?_)
              refine lv_goto (tgt := 16) S.1 S.2.1 dX0_tick_39 (by decide) ?_
              exact ih_16 (i16 + 1) (by omega) _ _ (Wd.cast (congrArg (wX cZ cI a) (by simp only [itF, groupT])) hw) _ (lv_sub hl [1, 2, 3, 0] rfl)
        exact L16 (3 - 0) 0 (by omega) _ _ (Wd.cast (congrArg (wX cZ cI a) (by simp only [itF])) hw) _ (lv_sub hl [1, 2, 3, 0] rfl)
  exact L9 (nt - 0) 0 (by omega) _ _ hw _ (lv_sub hl [1, 2, 0] rfl)
theorem inX0_state : ∀ w ∈ u_ws RX0 TX0 18, w ∈ wsX0_state := fun _ h => List.mem_cons_of_mem _ (List.mem_append_left _ (List.mem_append_right _ h))
theorem flX0_state_41 : Cond.fieldLink RX0 41 "StandbyPair" "roles" "[I" ∈ wsX0_state := by decide +kernel
set_option maxHeartbeats 4000000 in
set_option maxRecDepth 100000 in
theorem kX0_state (l : Launch) (D : va_G) (cZ cI : ClassId) (a : Nat → Nat) (σ : sC) {r g : Nat} (hr : r < 4) (hg : g < 3) : MI l yX0_state wsX0_state ({ frames := 1, cells := 0, slots := 0, locals := 21 } : Room) D (tyZ cZ cI) [.ref (a 0), .int (nI r), .int (nI g)] (wX cZ cI a σ) (σ 10 (4 * g + r)) (wX cZ cI a σ) := by
  refine MI.of (cc := cX0_state) (maxL := 3) (ty := .int) (by decide) rfl (rfl) ⟨rfl, rfl⟩ (Nat.le_of_ble_eq_true rfl) ?_
  intro p e s m args below meth c A Q S hK hret ls hl hw
  replace hl : lv_has ls 3 [(0, .ref (a 0)), (1, .int (nI r)), (2, .int (nI g))] := hl
  replace S : CallFix p m c cX0_state 3 s args wsX0_state RX0 := S
  have hin := inX0_state
  refine lv_iload_n S.1 S.2.1 dX0_state_0 rfl (lv_at hl 1 rfl) ?_
  refine bc_sv (As := [.int (nI r)]) (rest := []) S hK hw (kX0_checkRouter l D _ (r := r) (by omega)) (va_cwS 1 S.2.2.2.2 gX0_state_X0_checkRouter rfl rfl rfl (by decide +kernel) ⟨Nat.le_of_ble_eq_true rfl, Nat.le_of_ble_eq_true rfl⟩) rfl hl.1 rfl (Nat.le_of_ble_eq_true rfl) (Nat.zero_le _) (Nat.zero_le _) dX0_state_1 (fun H locs hw => ?_)
  refine lv_iload_n S.1 S.2.1 dX0_state_4 rfl (lv_at hl 2 rfl) ?_
  refine bc_sv (As := [.int (nI g)]) (rest := []) S hK hw (kX0_checkGroup l D _ (g := g) (by omega)) (va_cwS 1 S.2.2.2.2 gX0_state_X0_checkGroup rfl rfl rfl (by decide +kernel) ⟨Nat.le_of_ble_eq_true rfl, Nat.le_of_ble_eq_true rfl⟩) rfl hl.1 rfl (Nat.le_of_ble_eq_true rfl) (Nat.zero_le _) (Nat.zero_le _) dX0_state_5 (fun H locs hw => ?_)
  refine lv_aload_n S.1 S.2.1 dX0_state_8 rfl (lv_at hl 0 rfl) ?_
  refine bx_get S hK hin hw.1 0 rfl rfl 10 (by decide) flX0_state_41 rfl dX0_state_9 ?_
  refine lv_iload_n S.1 S.2.1 dX0_state_12 rfl (lv_at hl 1 rfl) ?_
  refine lv_iload_n S.1 S.2.1 dX0_state_13 rfl (lv_at hl 2 rfl) ?_
  refine bc_si (As := [.int (nI r), .int (nI g)]) (rest := [.ref (a 11)]) S hK hw (kX0_placeOf l D _ (r := r) (g := g) (by omega) (by omega)) (va_cwS 2 S.2.2.2.2 gX0_state_X0_placeOf rfl rfl rfl (by decide +kernel) ⟨Nat.le_of_ble_eq_true rfl, Nat.le_of_ble_eq_true rfl⟩) rfl hl.1 rfl (Nat.le_of_ble_eq_true rfl) (Nat.zero_le _) (Nat.zero_le _) dX0_state_14 (fun H locs hw => ?_)
  refine bx_iald (v := σ 10 (4 * g + r)) S hK hw.1 11 1 rfl rfl (by omega) (by decide) rfl dX0_state_17 ?_
  exact hret hw dX0_state_18 (rfl) (congrArg (wX cZ cI a) (rfl))
theorem inX0_changes : ∀ w ∈ u_ws RX0 TX0 18, w ∈ wsX0_changes := fun _ h => List.mem_cons_of_mem _ (List.mem_append_left _ (List.mem_append_right _ h))
theorem flX0_changes_53 : Cond.fieldLink RX0 53 "StandbyPair" "promotions" "[I" ∈ wsX0_changes := by decide +kernel
set_option maxHeartbeats 4000000 in
set_option maxRecDepth 100000 in
theorem kX0_changes (l : Launch) (D : va_G) (cZ cI : ClassId) (a : Nat → Nat) (σ : sC) {r g : Nat} (hr : r < 4) (hg : g < 3) : MI l yX0_changes wsX0_changes ({ frames := 1, cells := 0, slots := 0, locals := 21 } : Room) D (tyZ cZ cI) [.ref (a 0), .int (nI r), .int (nI g)] (wX cZ cI a σ) (σ 14 (4 * g + r)) (wX cZ cI a σ) := by
  refine MI.of (cc := cX0_changes) (maxL := 3) (ty := .int) (by decide) rfl (rfl) ⟨rfl, rfl⟩ (Nat.le_of_ble_eq_true rfl) ?_
  intro p e s m args below meth c A Q S hK hret ls hl hw
  replace hl : lv_has ls 3 [(0, .ref (a 0)), (1, .int (nI r)), (2, .int (nI g))] := hl
  replace S : CallFix p m c cX0_changes 3 s args wsX0_changes RX0 := S
  have hin := inX0_changes
  refine lv_iload_n S.1 S.2.1 dX0_changes_0 rfl (lv_at hl 1 rfl) ?_
  refine bc_sv (As := [.int (nI r)]) (rest := []) S hK hw (kX0_checkRouter l D _ (r := r) (by omega)) (va_cwS 1 S.2.2.2.2 gX0_changes_X0_checkRouter rfl rfl rfl (by decide +kernel) ⟨Nat.le_of_ble_eq_true rfl, Nat.le_of_ble_eq_true rfl⟩) rfl hl.1 rfl (Nat.le_of_ble_eq_true rfl) (Nat.zero_le _) (Nat.zero_le _) dX0_changes_1 (fun H locs hw => ?_)
  refine lv_iload_n S.1 S.2.1 dX0_changes_4 rfl (lv_at hl 2 rfl) ?_
  refine bc_sv (As := [.int (nI g)]) (rest := []) S hK hw (kX0_checkGroup l D _ (g := g) (by omega)) (va_cwS 1 S.2.2.2.2 gX0_changes_X0_checkGroup rfl rfl rfl (by decide +kernel) ⟨Nat.le_of_ble_eq_true rfl, Nat.le_of_ble_eq_true rfl⟩) rfl hl.1 rfl (Nat.le_of_ble_eq_true rfl) (Nat.zero_le _) (Nat.zero_le _) dX0_changes_5 (fun H locs hw => ?_)
  refine lv_aload_n S.1 S.2.1 dX0_changes_8 rfl (lv_at hl 0 rfl) ?_
  refine bx_get S hK hin hw.1 0 rfl rfl 14 (by decide) flX0_changes_53 rfl dX0_changes_9 ?_
  refine lv_iload_n S.1 S.2.1 dX0_changes_12 rfl (lv_at hl 1 rfl) ?_
  refine lv_iload_n S.1 S.2.1 dX0_changes_13 rfl (lv_at hl 2 rfl) ?_
  refine bc_si (As := [.int (nI r), .int (nI g)]) (rest := [.ref (a 15)]) S hK hw (kX0_placeOf l D _ (r := r) (g := g) (by omega) (by omega)) (va_cwS 2 S.2.2.2.2 gX0_changes_X0_placeOf rfl rfl rfl (by decide +kernel) ⟨Nat.le_of_ble_eq_true rfl, Nat.le_of_ble_eq_true rfl⟩) rfl hl.1 rfl (Nat.le_of_ble_eq_true rfl) (Nat.zero_le _) (Nat.zero_le _) dX0_changes_14 (fun H locs hw => ?_)
  refine bx_iald (v := σ 14 (4 * g + r)) S hK hw.1 15 1 rfl rfl (by omega) (by decide) rfl dX0_changes_17 ?_
  exact hret hw dX0_changes_18 (rfl) (congrArg (wX cZ cI a) (rfl))
theorem inX0_known : ∀ w ∈ u_ws RX0 TX0 18, w ∈ wsX0_known := fun _ h => List.mem_cons_of_mem _ (List.mem_append_left _ (List.mem_append_right _ h))
theorem flX0_known_50 : Cond.fieldLink RX0 50 "StandbyPair" "served" "[I" ∈ wsX0_known := by decide +kernel
set_option maxHeartbeats 4000000 in
set_option maxRecDepth 100000 in
theorem kX0_known (l : Launch) (D : va_G) (cZ cI : ClassId) (a : Nat → Nat) (σ : sC) {r g : Nat} (hr : r < 4) (hg : g < 3) : MI l yX0_known wsX0_known ({ frames := 1, cells := 0, slots := 0, locals := 21 } : Room) D (tyZ cZ cI) [.ref (a 0), .int (nI r), .int (nI g)] (wX cZ cI a σ) (σ 13 (4 * g + r)) (wX cZ cI a σ) := by
  refine MI.of (cc := cX0_known) (maxL := 3) (ty := .int) (by decide) rfl (rfl) ⟨rfl, rfl⟩ (Nat.le_of_ble_eq_true rfl) ?_
  intro p e s m args below meth c A Q S hK hret ls hl hw
  replace hl : lv_has ls 3 [(0, .ref (a 0)), (1, .int (nI r)), (2, .int (nI g))] := hl
  replace S : CallFix p m c cX0_known 3 s args wsX0_known RX0 := S
  have hin := inX0_known
  refine lv_iload_n S.1 S.2.1 dX0_known_0 rfl (lv_at hl 1 rfl) ?_
  refine bc_sv (As := [.int (nI r)]) (rest := []) S hK hw (kX0_checkRouter l D _ (r := r) (by omega)) (va_cwS 1 S.2.2.2.2 gX0_known_X0_checkRouter rfl rfl rfl (by decide +kernel) ⟨Nat.le_of_ble_eq_true rfl, Nat.le_of_ble_eq_true rfl⟩) rfl hl.1 rfl (Nat.le_of_ble_eq_true rfl) (Nat.zero_le _) (Nat.zero_le _) dX0_known_1 (fun H locs hw => ?_)
  refine lv_iload_n S.1 S.2.1 dX0_known_4 rfl (lv_at hl 2 rfl) ?_
  refine bc_sv (As := [.int (nI g)]) (rest := []) S hK hw (kX0_checkGroup l D _ (g := g) (by omega)) (va_cwS 1 S.2.2.2.2 gX0_known_X0_checkGroup rfl rfl rfl (by decide +kernel) ⟨Nat.le_of_ble_eq_true rfl, Nat.le_of_ble_eq_true rfl⟩) rfl hl.1 rfl (Nat.le_of_ble_eq_true rfl) (Nat.zero_le _) (Nat.zero_le _) dX0_known_5 (fun H locs hw => ?_)
  refine lv_aload_n S.1 S.2.1 dX0_known_8 rfl (lv_at hl 0 rfl) ?_
  refine bx_get S hK hin hw.1 0 rfl rfl 13 (by decide) flX0_known_50 rfl dX0_known_9 ?_
  refine lv_iload_n S.1 S.2.1 dX0_known_12 rfl (lv_at hl 1 rfl) ?_
  refine lv_iload_n S.1 S.2.1 dX0_known_13 rfl (lv_at hl 2 rfl) ?_
  refine bc_si (As := [.int (nI r), .int (nI g)]) (rest := [.ref (a 14)]) S hK hw (kX0_placeOf l D _ (r := r) (g := g) (by omega) (by omega)) (va_cwS 2 S.2.2.2.2 gX0_known_X0_placeOf rfl rfl rfl (by decide +kernel) ⟨Nat.le_of_ble_eq_true rfl, Nat.le_of_ble_eq_true rfl⟩) rfl hl.1 rfl (Nat.le_of_ble_eq_true rfl) (Nat.zero_le _) (Nat.zero_le _) dX0_known_14 (fun H locs hw => ?_)
  refine bx_iald (v := σ 13 (4 * g + r)) S hK hw.1 14 1 rfl rfl (by omega) (by decide) rfl dX0_known_17 ?_
  exact hret hw dX0_known_18 (rfl) (congrArg (wX cZ cI a) (rfl))
theorem inX0_priority : ∀ w ∈ u_ws RX0 TX0 18, w ∈ wsX0_priority := fun _ h => List.mem_cons_of_mem _ (List.mem_append_left _ (List.mem_append_right _ h))
theorem flX0_priority_41 : Cond.fieldLink RX0 41 "StandbyPair" "roles" "[I" ∈ wsX0_priority := by decide +kernel
set_option maxHeartbeats 4000000 in
set_option maxRecDepth 100000 in
theorem kX0_priority (l : Launch) (D : va_G) (cZ cI : ClassId) (a : Nat → Nat) (σ : sC) {r g : Nat} (hr : r < 4) (hg : g < 3) : MI l yX0_priority wsX0_priority ({ frames := 2, cells := 0, slots := 0, locals := 46 } : Room) D (tyZ cZ cI) [.ref (a 0), .int (nI r), .int (nI g)] (wX cZ cI a σ) (prioF σ r g) (wX cZ cI a σ) := by
  refine MI.of (cc := cX0_priority) (maxL := 3) (ty := .int) (by decide) rfl (rfl) ⟨rfl, rfl⟩ (Nat.le_of_ble_eq_true rfl) ?_
  intro p e s m args below meth c A Q S hK hret ls hl hw
  replace hl : lv_has ls 3 [(0, .ref (a 0)), (1, .int (nI r)), (2, .int (nI g))] := hl
  replace S : CallFix p m c cX0_priority 3 s args wsX0_priority RX0 := S
  have hin := inX0_priority
  refine lv_iload_n S.1 S.2.1 dX0_priority_0 rfl (lv_at hl 1 rfl) ?_
  refine bc_sv (As := [.int (nI r)]) (rest := []) S hK hw (kX0_checkRouter l D _ (r := r) (by omega)) (va_cwS 1 S.2.2.2.2 gX0_priority_X0_checkRouter rfl rfl rfl (by decide +kernel) ⟨Nat.le_of_ble_eq_true rfl, Nat.le_of_ble_eq_true rfl⟩) rfl hl.1 rfl (Nat.le_of_ble_eq_true rfl) (Nat.zero_le _) (Nat.zero_le _) dX0_priority_1 (fun H locs hw => ?_)
  refine lv_iload_n S.1 S.2.1 dX0_priority_4 rfl (lv_at hl 2 rfl) ?_
  refine bc_sv (As := [.int (nI g)]) (rest := []) S hK hw (kX0_checkGroup l D _ (g := g) (by omega)) (va_cwS 1 S.2.2.2.2 gX0_priority_X0_checkGroup rfl rfl rfl (by decide +kernel) ⟨Nat.le_of_ble_eq_true rfl, Nat.le_of_ble_eq_true rfl⟩) rfl hl.1 rfl (Nat.le_of_ble_eq_true rfl) (Nat.zero_le _) (Nat.zero_le _) dX0_priority_5 (fun H locs hw => ?_)
  refine lv_aload_n S.1 S.2.1 dX0_priority_8 rfl (lv_at hl 0 rfl) ?_
  refine bx_get S hK hin hw.1 0 rfl rfl 10 (by decide) flX0_priority_41 rfl dX0_priority_9 ?_
  refine lv_iload_n S.1 S.2.1 dX0_priority_12 rfl (lv_at hl 1 rfl) ?_
  refine lv_iload_n S.1 S.2.1 dX0_priority_13 rfl (lv_at hl 2 rfl) ?_
  refine bc_si (As := [.int (nI r), .int (nI g)]) (rest := [.ref (a 11)]) S hK hw (kX0_placeOf l D _ (r := r) (g := g) (by omega) (by omega)) (va_cwS 2 S.2.2.2.2 gX0_priority_X0_placeOf rfl rfl rfl (by decide +kernel) ⟨Nat.le_of_ble_eq_true rfl, Nat.le_of_ble_eq_true rfl⟩) rfl hl.1 rfl (Nat.le_of_ble_eq_true rfl) (Nat.zero_le _) (Nat.zero_le _) dX0_priority_14 (fun H locs hw => ?_)
  refine bx_iald (v := σ 10 (4 * g + r)) S hK hw.1 11 1 rfl rfl (by omega) (by decide) rfl dX0_priority_17 ?_
  refine bz_ne (tgt := 25) S dX0_priority_18 (by decide) (fun c18 => ?_) (fun c18 => ?_)
  · refine lv_aload_n S.1 S.2.1 dX0_priority_25 rfl (lv_at hl 0 rfl) ?_
    refine lv_iload_n S.1 S.2.1 dX0_priority_26 rfl (lv_at hl 1 rfl) ?_
    refine lv_iload_n S.1 S.2.1 dX0_priority_27 rfl (lv_at hl 2 rfl) ?_
    refine bc_vi (As := [.int (nI r), .int (nI g)]) (rest := []) S hK hw (kX0_loweredPriority l D cZ cI a σ (r := r) (g := g) (by omega) (by omega)) (cwV 2 S.2.2.2.2 gX0_priority_X0_loweredPriority rfl rfl rfl (by decide +kernel) ⟨Nat.le_of_ble_eq_true rfl, Nat.le_of_ble_eq_true rfl⟩) (q0 := 0) rfl rfl rfl hl.1 rfl (Nat.le_of_ble_eq_true rfl) (Nat.zero_le _) (Nat.zero_le _) dX0_priority_28 (fun H locs hw => ?_)
    exact hret hw dX0_priority_31 (by simp only [prioF, eq_false c18, ↓reduceIte]) (congrArg (wX cZ cI a) (rfl))
  · refine lv_iconst (v := 0) S.1 S.2.1 dX0_priority_21 (by decide) ?_
    refine lv_goto (tgt := 31) S.1 S.2.1 dX0_priority_22 (by decide) ?_
    exact hret hw dX0_priority_31 (by simp only [prioF, eq_true c18, ↓reduceIte]) (congrArg (wX cZ cI a) (rfl))
theorem inX0_timer : ∀ w ∈ u_ws RX0 TX0 18, w ∈ wsX0_timer := fun _ h => List.mem_cons_of_mem _ (List.mem_append_left _ (List.mem_append_left _ (List.mem_append_right _ h)))
theorem inX0_masters : ∀ w ∈ u_ws RX0 TX0 18, w ∈ wsX0_masters := fun _ h => List.mem_cons_of_mem _ (List.mem_append_left _ (List.mem_append_right _ h))
set_option maxHeartbeats 4000000 in
set_option maxRecDepth 100000 in
theorem kX0_masters (l : Launch) (D : va_G) (cZ cI : ClassId) (a : Nat → Nat) (σ : sC) {g : Nat} (hg : g < 3) : MI l yX0_masters wsX0_masters ({ frames := 2, cells := 0, slots := 0, locals := 45 } : Room) D (tyZ cZ cI) [.ref (a 0), .int (nI g)] (wX cZ cI a σ) (memW σ 2 g) (wX cZ cI a σ) := by
  refine MI.of (cc := cX0_masters) (maxL := 2) (ty := .int) (by decide) rfl (rfl) ⟨rfl, rfl⟩ (Nat.le_of_ble_eq_true rfl) ?_
  intro p e s m args below meth c A Q S hK hret ls hl hw
  replace hl : lv_has ls 2 [(0, .ref (a 0)), (1, .int (nI g))] := hl
  replace S : CallFix p m c cX0_masters 2 s args wsX0_masters RX0 := S
  have hin := inX0_masters
  refine lv_iload_n S.1 S.2.1 dX0_masters_0 rfl (lv_at hl 1 rfl) ?_
  refine bc_sv (As := [.int (nI g)]) (rest := []) S hK hw (kX0_checkGroup l D _ (g := g) (by omega)) (va_cwS 1 S.2.2.2.2 gX0_masters_X0_checkGroup rfl rfl rfl (by decide +kernel) ⟨Nat.le_of_ble_eq_true rfl, Nat.le_of_ble_eq_true rfl⟩) rfl hl.1 rfl (Nat.le_of_ble_eq_true rfl) (Nat.zero_le _) (Nat.zero_le _) dX0_masters_1 (fun H locs hw => ?_)
  refine lv_aload_n S.1 S.2.1 dX0_masters_4 rfl (lv_at hl 0 rfl) ?_
  refine lv_iconst (v := 2) S.1 S.2.1 dX0_masters_5 (by decide) ?_
  refine lv_iload_n S.1 S.2.1 dX0_masters_6 rfl (lv_at hl 1 rfl) ?_
  refine bc_vi (As := [.int 2, .int (nI g)]) (rest := []) S hK hw (kX0_membersWith l D cZ cI a σ 2 (g := g) (by omega)) (cwV 2 S.2.2.2.2 gX0_masters_X0_membersWith rfl rfl rfl (by decide +kernel) ⟨Nat.le_of_ble_eq_true rfl, Nat.le_of_ble_eq_true rfl⟩) (q0 := 0) rfl rfl rfl hl.1 rfl (Nat.le_of_ble_eq_true rfl) (Nat.zero_le _) (Nat.zero_le _) dX0_masters_7 (fun H locs hw => ?_)
  exact hret hw dX0_masters_10 (rfl) (congrArg (wX cZ cI a) (rfl))
theorem inX0_gaps : ∀ w ∈ u_ws RX0 TX0 18, w ∈ wsX0_gaps := fun _ h => List.mem_cons_of_mem _ (List.mem_append_left _ (List.mem_append_right _ h))
theorem flX0_gaps_32 : Cond.fieldLink RX0 32 "StandbyPair" "gapTicks" "[I" ∈ wsX0_gaps := by decide +kernel
set_option maxHeartbeats 4000000 in
set_option maxRecDepth 100000 in
theorem kX0_gaps (l : Launch) (D : va_G) (cZ cI : ClassId) (a : Nat → Nat) (σ : sC) {g : Nat} (hg : g < 3) : MI l yX0_gaps wsX0_gaps ({ frames := 1, cells := 0, slots := 0, locals := 20 } : Room) D (tyZ cZ cI) [.ref (a 0), .int (nI g)] (wX cZ cI a σ) (σ 7 g) (wX cZ cI a σ) := by
  refine MI.of (cc := cX0_gaps) (maxL := 2) (ty := .int) (by decide) rfl (rfl) ⟨rfl, rfl⟩ (Nat.le_of_ble_eq_true rfl) ?_
  intro p e s m args below meth c A Q S hK hret ls hl hw
  replace hl : lv_has ls 2 [(0, .ref (a 0)), (1, .int (nI g))] := hl
  replace S : CallFix p m c cX0_gaps 2 s args wsX0_gaps RX0 := S
  have hin := inX0_gaps
  refine lv_iload_n S.1 S.2.1 dX0_gaps_0 rfl (lv_at hl 1 rfl) ?_
  refine bc_sv (As := [.int (nI g)]) (rest := []) S hK hw (kX0_checkGroup l D _ (g := g) (by omega)) (va_cwS 1 S.2.2.2.2 gX0_gaps_X0_checkGroup rfl rfl rfl (by decide +kernel) ⟨Nat.le_of_ble_eq_true rfl, Nat.le_of_ble_eq_true rfl⟩) rfl hl.1 rfl (Nat.le_of_ble_eq_true rfl) (Nat.zero_le _) (Nat.zero_le _) dX0_gaps_1 (fun H locs hw => ?_)
  refine lv_aload_n S.1 S.2.1 dX0_gaps_4 rfl (lv_at hl 0 rfl) ?_
  refine bx_get S hK hin hw.1 0 rfl rfl 7 (by decide) flX0_gaps_32 rfl dX0_gaps_5 ?_
  refine lv_iload_n S.1 S.2.1 dX0_gaps_8 rfl (lv_at hl 1 rfl) ?_
  refine bx_iald (v := σ 7 g) S hK hw.1 8 1 rfl rfl (by omega) (by decide) rfl dX0_gaps_9 ?_
  exact hret hw dX0_gaps_10 (rfl) (congrArg (wX cZ cI a) (rfl))
theorem inX0_sent : ∀ w ∈ u_ws RX0 TX0 18, w ∈ wsX0_sent := fun _ h => List.mem_cons_of_mem _ (List.mem_append_left _ (List.mem_append_right _ h))
theorem flX0_sent_35 : Cond.fieldLink RX0 35 "StandbyPair" "advertisements" "[I" ∈ wsX0_sent := by decide +kernel
set_option maxHeartbeats 4000000 in
set_option maxRecDepth 100000 in
theorem kX0_sent (l : Launch) (D : va_G) (cZ cI : ClassId) (a : Nat → Nat) (σ : sC) {g : Nat} (hg : g < 3) : MI l yX0_sent wsX0_sent ({ frames := 1, cells := 0, slots := 0, locals := 20 } : Room) D (tyZ cZ cI) [.ref (a 0), .int (nI g)] (wX cZ cI a σ) (σ 8 g) (wX cZ cI a σ) := by
  refine MI.of (cc := cX0_sent) (maxL := 2) (ty := .int) (by decide) rfl (rfl) ⟨rfl, rfl⟩ (Nat.le_of_ble_eq_true rfl) ?_
  intro p e s m args below meth c A Q S hK hret ls hl hw
  replace hl : lv_has ls 2 [(0, .ref (a 0)), (1, .int (nI g))] := hl
  replace S : CallFix p m c cX0_sent 2 s args wsX0_sent RX0 := S
  have hin := inX0_sent
  refine lv_iload_n S.1 S.2.1 dX0_sent_0 rfl (lv_at hl 1 rfl) ?_
  refine bc_sv (As := [.int (nI g)]) (rest := []) S hK hw (kX0_checkGroup l D _ (g := g) (by omega)) (va_cwS 1 S.2.2.2.2 gX0_sent_X0_checkGroup rfl rfl rfl (by decide +kernel) ⟨Nat.le_of_ble_eq_true rfl, Nat.le_of_ble_eq_true rfl⟩) rfl hl.1 rfl (Nat.le_of_ble_eq_true rfl) (Nat.zero_le _) (Nat.zero_le _) dX0_sent_1 (fun H locs hw => ?_)
  refine lv_aload_n S.1 S.2.1 dX0_sent_4 rfl (lv_at hl 0 rfl) ?_
  refine bx_get S hK hin hw.1 0 rfl rfl 8 (by decide) flX0_sent_35 rfl dX0_sent_5 ?_
  refine lv_iload_n S.1 S.2.1 dX0_sent_8 rfl (lv_at hl 1 rfl) ?_
  refine bx_iald (v := σ 8 g) S hK hw.1 9 1 rfl rfl (by omega) (by decide) rfl dX0_sent_9 ?_
  exact hret hw dX0_sent_10 (rfl) (congrArg (wX cZ cI a) (rfl))
theorem inX0_repairs : ∀ w ∈ u_ws RX0 TX0 18, w ∈ wsX0_repairs := fun _ h => List.mem_cons_of_mem _ (List.mem_append_right _ h)
theorem flX0_repairs_127 : Cond.fieldLink RX0 127 "StandbyPair" "bulkRepairs" "I" ∈ wsX0_repairs := by decide +kernel
set_option maxHeartbeats 4000000 in
set_option maxRecDepth 100000 in
theorem kX0_repairs (l : Launch) (D : va_G) (cZ cI : ClassId) (a : Nat → Nat) (σ : sC)  : MI l yX0_repairs wsX0_repairs ({ frames := 0, cells := 0, slots := 0, locals := 0 } : Room) D (tyZ cZ cI) [.ref (a 0)] (wX cZ cI a σ) (σ 16 0) (wX cZ cI a σ) := by
  refine MI.of (cc := cX0_repairs) (maxL := 1) (ty := .int) (by decide) rfl (rfl) ⟨rfl, rfl⟩ (Nat.le_of_ble_eq_true rfl) ?_
  intro p e s m args below meth c A Q S hK hret ls hl hw
  replace hl : lv_has ls 1 [(0, .ref (a 0))] := hl
  replace S : CallFix p m c cX0_repairs 1 s args wsX0_repairs RX0 := S
  have hin := inX0_repairs
  refine lv_aload_n S.1 S.2.1 dX0_repairs_0 rfl (lv_at hl 0 rfl) ?_
  refine bx_get S hK hin hw.1 0 rfl rfl 16 (by decide) flX0_repairs_127 rfl dX0_repairs_1 ?_
  exact hret hw dX0_repairs_4 (rfl) (congrArg (wX cZ cI a) (rfl))
theorem inX0_isSettled : ∀ w ∈ u_ws RX0 TX0 18, w ∈ wsX0_isSettled := fun _ h => List.mem_cons_of_mem _ (List.mem_append_left _ (List.mem_append_right _ h))
set_option maxHeartbeats 4000000 in
set_option maxRecDepth 100000 in
theorem kX0_isSettled (l : Launch) (D : va_G) (cZ cI : ClassId) (a : Nat → Nat) (σ : sC) {g : Nat} (hg : g < 3) : MI l yX0_isSettled wsX0_isSettled ({ frames := 2, cells := 0, slots := 0, locals := 45 } : Room) D (tyZ cZ cI) [.ref (a 0), .int (nI g)] (wX cZ cI a σ) (setlF σ g) (wX cZ cI a σ) := by
  refine MI.of (cc := cX0_isSettled) (maxL := 2) (ty := .boolean) (by decide) rfl (nar_z (setlF_z σ g)) ⟨rfl, rfl⟩ (Nat.le_of_ble_eq_true rfl) ?_
  intro p e s m args below meth c A Q S hK hret ls hl hw
  replace hl : lv_has ls 2 [(0, .ref (a 0)), (1, .int (nI g))] := hl
  replace S : CallFix p m c cX0_isSettled 2 s args wsX0_isSettled RX0 := S
  have hin := inX0_isSettled
  refine lv_iload_n S.1 S.2.1 dX0_isSettled_0 rfl (lv_at hl 1 rfl) ?_
  refine bc_sv (As := [.int (nI g)]) (rest := []) S hK hw (kX0_checkGroup l D _ (g := g) (by omega)) (va_cwS 1 S.2.2.2.2 gX0_isSettled_X0_checkGroup rfl rfl rfl (by decide +kernel) ⟨Nat.le_of_ble_eq_true rfl, Nat.le_of_ble_eq_true rfl⟩) rfl hl.1 rfl (Nat.le_of_ble_eq_true rfl) (Nat.zero_le _) (Nat.zero_le _) dX0_isSettled_1 (fun H locs hw => ?_)
  refine lv_aload_n S.1 S.2.1 dX0_isSettled_4 rfl (lv_at hl 0 rfl) ?_
  refine lv_iconst (v := 2) S.1 S.2.1 dX0_isSettled_5 (by decide) ?_
  refine lv_iload_n S.1 S.2.1 dX0_isSettled_6 rfl (lv_at hl 1 rfl) ?_
  refine bc_vi (As := [.int 2, .int (nI g)]) (rest := []) S hK hw (kX0_membersWith l D cZ cI a σ 2 (g := g) (by omega)) (cwV 2 S.2.2.2.2 gX0_isSettled_X0_membersWith rfl rfl rfl (by decide +kernel) ⟨Nat.le_of_ble_eq_true rfl, Nat.le_of_ble_eq_true rfl⟩) (q0 := 0) rfl rfl rfl hl.1 rfl (Nat.le_of_ble_eq_true rfl) (Nat.zero_le _) (Nat.zero_le _) dX0_isSettled_7 (fun H locs hw => ?_)
  refine bz_ne (tgt := 28) S dX0_isSettled_10 (by decide) (fun c10 => ?_) (fun c10 => ?_)
  · refine lv_aload_n S.1 S.2.1 dX0_isSettled_28 rfl (lv_at hl 0 rfl) ?_
    refine lv_iload_n S.1 S.2.1 dX0_isSettled_29 rfl (lv_at hl 1 rfl) ?_
    refine bc_vi (As := [.int (nI g)]) (rest := []) S hK hw (kX0_hasJoinedMasters l D cZ cI a σ (g := g) (by omega)) (cwV 1 S.2.2.2.2 gX0_isSettled_X0_hasJoinedMasters rfl rfl rfl (by decide +kernel) ⟨Nat.le_of_ble_eq_true rfl, Nat.le_of_ble_eq_true rfl⟩) (q0 := 0) rfl rfl rfl hl.1 rfl (Nat.le_of_ble_eq_true rfl) (Nat.zero_le _) (Nat.zero_le _) dX0_isSettled_30 (fun H locs hw => ?_)
    refine bz_ne (tgt := 40) S dX0_isSettled_33 (by decide) (fun c33 => ?_) (fun c33 => ?_)
    · refine lv_iconst (v := 0) S.1 S.2.1 dX0_isSettled_40 (by decide) ?_
      exact hret hw dX0_isSettled_41 (by simp only [setlF, eq_false c10, eq_false c33, ↓reduceIte]) (congrArg (wX cZ cI a) (rfl))
    · refine lv_iconst (v := 1) S.1 S.2.1 dX0_isSettled_36 (by decide) ?_
      refine lv_goto (tgt := 41) S.1 S.2.1 dX0_isSettled_37 (by decide) ?_
      exact hret hw dX0_isSettled_41 (by simp only [setlF, eq_false c10, eq_true c33, ↓reduceIte]) (congrArg (wX cZ cI a) (rfl))
  · refine lv_aload_n S.1 S.2.1 dX0_isSettled_13 rfl (lv_at hl 0 rfl) ?_
    refine lv_iconst (v := 1) S.1 S.2.1 dX0_isSettled_14 (by decide) ?_
    refine lv_iload_n S.1 S.2.1 dX0_isSettled_15 rfl (lv_at hl 1 rfl) ?_
    refine bc_vi (As := [.int 1, .int (nI g)]) (rest := []) S hK hw (kX0_membersWith l D cZ cI a σ 1 (g := g) (by omega)) (cwV 2 S.2.2.2.2 gX0_isSettled_X0_membersWith rfl rfl rfl (by decide +kernel) ⟨Nat.le_of_ble_eq_true rfl, Nat.le_of_ble_eq_true rfl⟩) (q0 := 0) rfl rfl rfl hl.1 rfl (Nat.le_of_ble_eq_true rfl) (Nat.zero_le _) (Nat.zero_le _) dX0_isSettled_16 (fun H locs hw => ?_)
    refine bz_ne (tgt := 26) S dX0_isSettled_19 (by decide) (fun c19 => ?_) (fun c19 => ?_)
    · refine lv_iconst (v := 0) S.1 S.2.1 dX0_isSettled_26 (by decide) ?_
      exact hret hw dX0_isSettled_27 (by simp only [setlF, eq_true c10, eq_false c19, ↓reduceIte]) (congrArg (wX cZ cI a) (rfl))
    · refine lv_iconst (v := 1) S.1 S.2.1 dX0_isSettled_22 (by decide) ?_
      refine lv_goto (tgt := 27) S.1 S.2.1 dX0_isSettled_23 (by decide) ?_
      exact hret hw dX0_isSettled_27 (by simp only [setlF, eq_true c10, eq_true c19, ↓reduceIte]) (congrArg (wX cZ cI a) (rfl))
