theorem inX0_becomeBackup : ∀ w ∈ u_ws RX0 TX0 18, w ∈ wsX0_becomeBackup := fun _ h => List.mem_cons_of_mem _ (List.mem_append_right _ h)
theorem flX0_becomeBackup_41 : Cond.fieldLink RX0 41 "StandbyPair" "roles" "[I" ∈ wsX0_becomeBackup := by decide +kernel
theorem flX0_becomeBackup_47 : Cond.fieldLink RX0 47 "StandbyPair" "heard" "[I" ∈ wsX0_becomeBackup := by decide +kernel
theorem flX0_becomeBackup_44 : Cond.fieldLink RX0 44 "StandbyPair" "timers" "[I" ∈ wsX0_becomeBackup := by decide +kernel
set_option maxHeartbeats 4000000 in
set_option maxRecDepth 100000 in
theorem kX0_becomeBackup (l : Launch) (D : va_G) (cZ cI : ClassId) (a : Nat → Nat) (σ : sC) {r g : Nat} (hr : r < 4) (hg : g < 3) : MV l yX0_becomeBackup wsX0_becomeBackup ({ frames := 2, cells := 0, slots := 0, locals := 46 } : Room) D (tyZ cZ cI) [.ref (a 0), .int (nI r), .int (nI g)] (wX cZ cI a σ) (wX cZ cI a (restF σ r g 0)) := by
  refine MV.of (cc := cX0_becomeBackup) (maxL := 4) (by decide) rfl ⟨rfl, rfl⟩ (Nat.le_of_ble_eq_true rfl) ?_
  intro p e s m args below meth c A Q S hK hret ls hl hw
  replace hl : lv_has ls 4 [(0, .ref (a 0)), (1, .int (nI r)), (2, .int (nI g))] := hl
  replace S : CallFix p m c cX0_becomeBackup 4 s args wsX0_becomeBackup RX0 := S
  have hin := inX0_becomeBackup
  refine lv_iload_n S.1 S.2.1 dX0_becomeBackup_0 rfl (lv_at hl 1 rfl) ?_
  refine lv_iload_n S.1 S.2.1 dX0_becomeBackup_1 rfl (lv_at hl 2 rfl) ?_
  refine bc_si (As := [.int (nI r), .int (nI g)]) (rest := []) S hK hw (kX0_placeOf l D _ (r := r) (g := g) (by omega) (by omega)) (va_cwS 2 S.2.2.2.2 gX0_becomeBackup_X0_placeOf rfl rfl rfl (by decide +kernel) ⟨Nat.le_of_ble_eq_true rfl, Nat.le_of_ble_eq_true rfl⟩) rfl hl.1 rfl (Nat.le_of_ble_eq_true rfl) (Nat.zero_le _) (Nat.zero_le _) dX0_becomeBackup_2 (fun H locs hw => ?_)
  refine lv_istore_n (lv' := [(3, .int (nI (4 * g + r))), (0, .ref (a 0)), (1, .int (nI r)), (2, .int (nI g))]) S.1 S.2.1 dX0_becomeBackup_5 rfl hl (by decide) rfl (fun ls hl => ?_)
  refine lv_aload_n S.1 S.2.1 dX0_becomeBackup_6 rfl (lv_at hl 1 rfl) ?_
  refine bx_get S hK hin hw.1 0 rfl rfl 10 (by decide) flX0_becomeBackup_41 rfl dX0_becomeBackup_7 ?_
  refine lv_iload_n S.1 S.2.1 dX0_becomeBackup_10 rfl (lv_at hl 0 rfl) ?_
  refine lv_iconst (v := 1) S.1 S.2.1 dX0_becomeBackup_11 (by decide) ?_
  refine bx_iast S hK hw 11 1 rfl rfl (by omega) (by decide) (wX_s10 cZ cI a σ (4 * g + r) 1) dX0_becomeBackup_12 (fun H locs hw => ?_)
  refine lv_aload_n S.1 S.2.1 dX0_becomeBackup_13 rfl (lv_at hl 1 rfl) ?_
  refine bx_get S hK hin hw.1 0 rfl rfl 12 (by decide) flX0_becomeBackup_47 rfl dX0_becomeBackup_14 ?_
  refine lv_iload_n S.1 S.2.1 dX0_becomeBackup_17 rfl (lv_at hl 0 rfl) ?_
  refine lv_iconst (v := 0) S.1 S.2.1 dX0_becomeBackup_18 (by decide) ?_
  refine bx_iast S hK hw 13 1 rfl rfl (by omega) (by decide) (wX_s12 cZ cI a (up σ 10 (4 * g + r) 1) (4 * g + r) 0) dX0_becomeBackup_19 (fun H locs hw => ?_)
  refine lv_aload_n S.1 S.2.1 dX0_becomeBackup_20 rfl (lv_at hl 1 rfl) ?_
  refine bx_get S hK hin hw.1 0 rfl rfl 11 (by decide) flX0_becomeBackup_44 rfl dX0_becomeBackup_21 ?_
  refine lv_iload_n S.1 S.2.1 dX0_becomeBackup_24 rfl (lv_at hl 0 rfl) ?_
  refine lv_aload_n S.1 S.2.1 dX0_becomeBackup_25 rfl (lv_at hl 1 rfl) ?_
  refine lv_aload_n S.1 S.2.1 dX0_becomeBackup_26 rfl (lv_at hl 1 rfl) ?_
  refine lv_iload_n S.1 S.2.1 dX0_becomeBackup_27 rfl (lv_at hl 2 rfl) ?_
  refine lv_iload_n S.1 S.2.1 dX0_becomeBackup_28 rfl (lv_at hl 3 rfl) ?_
  refine bc_vi (As := [.int (nI r), .int (nI g)]) (rest := [.ref (a 0), .int (nI (4 * g + r)), .ref (a 12)]) S hK hw (kX0_loweredPriority l D cZ cI a (up (up σ 10 (4 * g + r) 1) 12 (4 * g + r) 0) (r := r) (g := g) (by omega) (by omega)) (cwV 2 S.2.2.2.2 gX0_becomeBackup_X0_loweredPriority rfl rfl rfl (by decide +kernel) ⟨Nat.le_of_ble_eq_true rfl, Nat.le_of_ble_eq_true rfl⟩) (q0 := 0) rfl rfl rfl hl.1 rfl (Nat.le_of_ble_eq_true rfl) (Nat.zero_le _) (Nat.zero_le _) dX0_becomeBackup_29 (fun H locs hw => ?_)
  refine lv_iload_n S.1 S.2.1 dX0_becomeBackup_32 rfl (lv_at hl 3 rfl) ?_
  refine bc_vi (As := [.int (lowP (up (up σ 10 (4 * g + r) 1) 12 (4 * g + r) 0) r g), .int (nI g)]) (rest := [.int (nI (4 * g + r)), .ref (a 12)]) S hK hw (kX0_waitOf l D cZ cI a (up (up σ 10 (4 * g + r) 1) 12 (4 * g + r) 0) (lowP (up (up σ 10 (4 * g + r) 1) 12 (4 * g + r) 0) r g) (g := g) (by omega)) (cwV 2 S.2.2.2.2 gX0_becomeBackup_X0_waitOf rfl rfl rfl (by decide +kernel) ⟨Nat.le_of_ble_eq_true rfl, Nat.le_of_ble_eq_true rfl⟩) (q0 := 0) rfl rfl rfl hl.1 rfl (Nat.le_of_ble_eq_true rfl) (Nat.zero_le _) (Nat.zero_le _) dX0_becomeBackup_33 (fun H locs hw => ?_)
  refine bx_iast S hK hw 12 1 rfl rfl (by omega) (by decide) (wX_s11 cZ cI a (up (up σ 10 (4 * g + r) 1) 12 (4 * g + r) 0) (4 * g + r) (waitF (up (up σ 10 (4 * g + r) 1) 12 (4 * g + r) 0) (lowP (up (up σ 10 (4 * g + r) 1) 12 (4 * g + r) 0) r g) g)) dX0_becomeBackup_36 (fun H locs hw => ?_)
  exact hret hw dX0_becomeBackup_37 (congrArg (wX cZ cI a) (rfl))

theorem inX0_beginPart : ∀ w ∈ u_ws RX0 TX0 18, w ∈ wsX0_beginPart := fun _ h => List.mem_cons_of_mem _ (List.mem_append_right _ h)
theorem flX0_beginPart_56 : Cond.fieldLink RX0 56 "StandbyPair" "repairAsked" "[Z" ∈ wsX0_beginPart := by decide +kernel
set_option maxHeartbeats 4000000 in
set_option maxRecDepth 100000 in
theorem kX0_beginPart (l : Launch) (D : va_G) (cZ cI : ClassId) (a : Nat → Nat) (σ : sC) {r g : Nat} (hr : r < 4) (hg : g < 3) : MV l yX0_beginPart wsX0_beginPart ({ frames := 3, cells := 0, slots := 0, locals := 69 } : Room) D (tyZ cZ cI) [.ref (a 0), .int (nI r), .int (nI g)] (wX cZ cI a σ) (wX cZ cI a (beginF σ r g)) := by
  refine MV.of (cc := cX0_beginPart) (maxL := 3) (by decide) rfl ⟨rfl, rfl⟩ (Nat.le_of_ble_eq_true rfl) ?_
  intro p e s m args below meth c A Q S hK hret ls hl hw
  replace hl : lv_has ls 3 [(0, .ref (a 0)), (1, .int (nI r)), (2, .int (nI g))] := hl
  replace S : CallFix p m c cX0_beginPart 3 s args wsX0_beginPart RX0 := S
  have hin := inX0_beginPart
  refine lv_aload_n S.1 S.2.1 dX0_beginPart_0 rfl (lv_at hl 0 rfl) ?_
  refine lv_iload_n S.1 S.2.1 dX0_beginPart_1 rfl (lv_at hl 1 rfl) ?_
  refine lv_iload_n S.1 S.2.1 dX0_beginPart_2 rfl (lv_at hl 2 rfl) ?_
  refine bc_vv (As := [.int (nI r), .int (nI g)]) (rest := []) S hK hw (kX0_becomeBackup l D cZ cI a σ (r := r) (g := g) (by omega) (by omega)) (cwV 2 S.2.2.2.2 gX0_beginPart_X0_becomeBackup rfl rfl rfl (by decide +kernel) ⟨Nat.le_of_ble_eq_true rfl, Nat.le_of_ble_eq_true rfl⟩) (q0 := 0) rfl rfl rfl hl.1 rfl (Nat.le_of_ble_eq_true rfl) (Nat.zero_le _) (Nat.zero_le _) dX0_beginPart_3 (fun H locs hw => ?_)
  refine lv_aload_n S.1 S.2.1 dX0_beginPart_6 rfl (lv_at hl 0 rfl) ?_
  refine bx_get S hK hin hw.1 0 rfl rfl 15 (by decide) flX0_beginPart_56 rfl dX0_beginPart_7 ?_
  refine lv_iload_n S.1 S.2.1 dX0_beginPart_10 rfl (lv_at hl 1 rfl) ?_
  refine lv_iload_n S.1 S.2.1 dX0_beginPart_11 rfl (lv_at hl 2 rfl) ?_
  refine bc_si (As := [.int (nI r), .int (nI g)]) (rest := [.ref (a 16)]) S hK hw (kX0_placeOf l D _ (r := r) (g := g) (by omega) (by omega)) (va_cwS 2 S.2.2.2.2 gX0_beginPart_X0_placeOf rfl rfl rfl (by decide +kernel) ⟨Nat.le_of_ble_eq_true rfl, Nat.le_of_ble_eq_true rfl⟩) rfl hl.1 rfl (Nat.le_of_ble_eq_true rfl) (Nat.zero_le _) (Nat.zero_le _) dX0_beginPart_12 (fun H locs hw => ?_)
  refine lv_iconst (v := 0) S.1 S.2.1 dX0_beginPart_15 (by decide) ?_
  refine bx_zast S hK hw 16 0 rfl rfl (by omega) (by decide) (by decide) (wX_s15 cZ cI a (restF σ r g 0) (4 * g + r) 0) dX0_beginPart_16 (fun H locs hw => ?_)
  exact hret hw dX0_beginPart_17 (congrArg (wX cZ cI a) (rfl))

theorem inX0_copyServed : ∀ w ∈ u_ws RX0 TX0 18, w ∈ wsX0_copyServed := fun _ h => List.mem_cons_of_mem _ (List.mem_append_right _ h)
theorem flX0_copyServed_50 : Cond.fieldLink RX0 50 "StandbyPair" "served" "[I" ∈ wsX0_copyServed := by decide +kernel
theorem flX0_copyServed_56 : Cond.fieldLink RX0 56 "StandbyPair" "repairAsked" "[Z" ∈ wsX0_copyServed := by decide +kernel
theorem flX0_copyServed_127 : Cond.fieldLink RX0 127 "StandbyPair" "bulkRepairs" "I" ∈ wsX0_copyServed := by decide +kernel
set_option maxHeartbeats 4000000 in
set_option maxRecDepth 100000 in
theorem kX0_copyServed (l : Launch) (D : va_G) (cZ cI : ClassId) (a : Nat → Nat) (σ : sC) {t g f : Nat} (ht : t < 4) (hg : g < 3) (hf : f < 4) : MV l yX0_copyServed wsX0_copyServed ({ frames := 1, cells := 0, slots := 0, locals := 21 } : Room) D (tyZ cZ cI) [.ref (a 0), .int (nI t), .int (nI g), .int (nI f)] (wX cZ cI a σ) (wX cZ cI a (copyF σ t f g)) := by
  refine MV.of (cc := cX0_copyServed) (maxL := 6) (by decide) rfl ⟨rfl, rfl⟩ (Nat.le_of_ble_eq_true rfl) ?_
  intro p e s m args below meth c A Q S hK hret ls hl hw
  replace hl : lv_has ls 6 [(0, .ref (a 0)), (1, .int (nI t)), (2, .int (nI g)), (3, .int (nI f))] := hl
  replace S : CallFix p m c cX0_copyServed 6 s args wsX0_copyServed RX0 := S
  have hin := inX0_copyServed
  refine lv_iload_n S.1 S.2.1 dX0_copyServed_0 rfl (lv_at hl 1 rfl) ?_
  refine lv_iload_n S.1 S.2.1 dX0_copyServed_1 rfl (lv_at hl 2 rfl) ?_
  refine bc_si (As := [.int (nI t), .int (nI g)]) (rest := []) S hK hw (kX0_placeOf l D _ (r := t) (g := g) (by omega) (by omega)) (va_cwS 2 S.2.2.2.2 gX0_copyServed_X0_placeOf rfl rfl rfl (by decide +kernel) ⟨Nat.le_of_ble_eq_true rfl, Nat.le_of_ble_eq_true rfl⟩) rfl hl.1 rfl (Nat.le_of_ble_eq_true rfl) (Nat.zero_le _) (Nat.zero_le _) dX0_copyServed_2 (fun H locs hw => ?_)
  refine lv_istore (lv' := [(4, .int (nI (4 * g + t))), (0, .ref (a 0)), (1, .int (nI t)), (2, .int (nI g)), (3, .int (nI f))]) S.1 S.2.1 dX0_copyServed_5 hl (by decide) rfl (fun ls hl => ?_)
  refine lv_aload_n S.1 S.2.1 dX0_copyServed_7 rfl (lv_at hl 1 rfl) ?_
  refine bx_get S hK hin hw.1 0 rfl rfl 13 (by decide) flX0_copyServed_50 rfl dX0_copyServed_8 ?_
  refine lv_iload_n S.1 S.2.1 dX0_copyServed_11 rfl (lv_at hl 4 rfl) ?_
  refine lv_iload_n S.1 S.2.1 dX0_copyServed_12 rfl (lv_at hl 3 rfl) ?_
  refine bc_si (As := [.int (nI f), .int (nI g)]) (rest := [.ref (a 14)]) S hK hw (kX0_placeOf l D _ (r := f) (g := g) (by omega) (by omega)) (va_cwS 2 S.2.2.2.2 gX0_copyServed_X0_placeOf rfl rfl rfl (by decide +kernel) ⟨Nat.le_of_ble_eq_true rfl, Nat.le_of_ble_eq_true rfl⟩) rfl hl.1 rfl (Nat.le_of_ble_eq_true rfl) (Nat.zero_le _) (Nat.zero_le _) dX0_copyServed_13 (fun H locs hw => ?_)
  refine bx_iald (v := σ 13 (4 * g + f)) S hK hw.1 14 1 rfl rfl (by omega) (by decide) rfl dX0_copyServed_16 ?_
  refine lv_aload_n S.1 S.2.1 dX0_copyServed_17 rfl (lv_at hl 1 rfl) ?_
  refine bx_get S hK hin hw.1 0 rfl rfl 13 (by decide) flX0_copyServed_50 rfl dX0_copyServed_18 ?_
  refine lv_iload S.1 S.2.1 dX0_copyServed_21 (lv_at hl 0 rfl) ?_
  refine bx_iald (v := σ 13 (4 * g + t)) S hK hw.1 14 1 rfl rfl (by omega) (by decide) rfl dX0_copyServed_23 ?_
  refine lv_isub S.1 S.2.1 dX0_copyServed_24 ?_
  refine lv_istore (lv' := [(5, .int ((σ 13 (4 * g + f)) - (σ 13 (4 * g + t)))), (4, .int (nI (4 * g + t))), (0, .ref (a 0)), (1, .int (nI t)), (2, .int (nI g)), (3, .int (nI f))]) S.1 S.2.1 dX0_copyServed_25 hl (by decide) rfl (fun ls hl => ?_)
  have J59 : ∀ (H : Heap) (locs : List Loc), Wd D A s.heap (wX cZ cI a σ) H locs → (copyF σ t f g = copy2 (copy1 σ t f g) t g) → ∀ ls : Array Slot, lv_has ls 6 [(0, .ref (a 0)), (1, .int (nI t)), (2, .int (nI g)), (3, .int (nI f)), (4, .int (nI (4 * g + t))), (5, .int ((σ 13 (4 * g + f)) - (σ 13 (4 * g + t))))] → W p l e ({ frames := 1, cells := 0, slots := 0, locals := 21 } : Room) s m args below meth c H locs 0 0 Q (F0 m 59 ls []) := by
    intro H locs hw hj ls hl
    refine lv_aload_n S.1 S.2.1 dX0_copyServed_59 rfl (lv_at hl 0 rfl) ?_
    refine bx_get S hK hin hw.1 0 rfl rfl 13 (by decide) flX0_copyServed_50 rfl dX0_copyServed_60 ?_
    refine lv_iload S.1 S.2.1 dX0_copyServed_63 (lv_at hl 4 rfl) ?_
    refine lv_dup2_11 S.1 S.2.1 dX0_copyServed_65 rfl rfl ?_
    refine bx_iald (v := σ 13 (4 * g + t)) S hK hw.1 14 1 rfl rfl (by omega) (by decide) rfl dX0_copyServed_66 ?_
    refine lv_iload S.1 S.2.1 dX0_copyServed_67 (lv_at hl 5 rfl) ?_
    refine lv_iadd S.1 S.2.1 dX0_copyServed_69 ?_
    refine bx_iast S hK hw 14 1 rfl rfl (by omega) (by decide) (wX_s13 cZ cI a σ (4 * g + t) ((σ 13 (4 * g + t)) + ((σ 13 (4 * g + f)) - (σ 13 (4 * g + t))))) dX0_copyServed_70 (fun H locs hw => ?_)
    refine lv_aload_n S.1 S.2.1 dX0_copyServed_71 rfl (lv_at hl 0 rfl) ?_
    refine bx_get S hK hin hw.1 0 rfl rfl 15 (by decide) flX0_copyServed_56 rfl dX0_copyServed_72 ?_
    refine lv_iload S.1 S.2.1 dX0_copyServed_75 (lv_at hl 4 rfl) ?_
    refine bx_zald (v := (up σ 13 (4 * g + t) ((σ 13 (4 * g + t)) + ((σ 13 (4 * g + f)) - (σ 13 (4 * g + t))))) 15 (4 * g + t)) S hK hw.1 16 0 rfl rfl (by omega) (by decide) rfl dX0_copyServed_77 ?_
    refine bz_eq (tgt := 99) S dX0_copyServed_78 (by decide) (fun c78 => ?_) (fun c78 => ?_)
    · exact hret hw dX0_copyServed_99 (congrArg (wX cZ cI a) (by rw [hj]; simp only [copy2, copy1, eq_true c78, ↓reduceIte]))
    · refine lv_aload_n S.1 S.2.1 dX0_copyServed_81 rfl (lv_at hl 0 rfl) ?_
      refine bx_get S hK hin hw.1 0 rfl rfl 15 (by decide) flX0_copyServed_56 rfl dX0_copyServed_82 ?_
      refine lv_iload S.1 S.2.1 dX0_copyServed_85 (lv_at hl 4 rfl) ?_
      refine lv_iconst (v := 0) S.1 S.2.1 dX0_copyServed_87 (by decide) ?_
      refine bx_zast S hK hw 16 0 rfl rfl (by omega) (by decide) (by decide) (wX_s15 cZ cI a (up σ 13 (4 * g + t) ((σ 13 (4 * g + t)) + ((σ 13 (4 * g + f)) - (σ 13 (4 * g + t))))) (4 * g + t) 0) dX0_copyServed_88 (fun H locs hw => ?_)
      refine lv_aload_n S.1 S.2.1 dX0_copyServed_89 rfl (lv_at hl 0 rfl) ?_
      refine lv_dup S.1 S.2.1 dX0_copyServed_90 rfl ?_
      refine bx_get S hK hin hw.1 0 rfl rfl 16 (by decide) flX0_copyServed_127 rfl dX0_copyServed_91 ?_
      refine lv_iconst (v := 1) S.1 S.2.1 dX0_copyServed_94 (by decide) ?_
      refine lv_iadd S.1 S.2.1 dX0_copyServed_95 ?_
      refine bx_put S hK hin tyX0 tyX0_ok nmX0 hw 0 rfl rfl 16 (by decide) flX0_copyServed_127 rfl (by decide +kernel) (Nat.le_of_ble_eq_true rfl) (wX_s16 cZ cI a (up (up σ 13 (4 * g + t) ((σ 13 (4 * g + t)) + ((σ 13 (4 * g + f)) - (σ 13 (4 * g + t))))) 15 (4 * g + t) 0) (((up (up σ 13 (4 * g + t) ((σ 13 (4 * g + t)) + ((σ 13 (4 * g + f)) - (σ 13 (4 * g + t))))) 15 (4 * g + t) 0) 16 0) + 1)) dX0_copyServed_96 (fun H locs hw => ?_)
      exact hret hw dX0_copyServed_99 (congrArg (wX cZ cI a) (by rw [hj]; simp only [copy2, copy1, eq_false c78, ↓reduceIte]))
  refine lv_iload S.1 S.2.1 dX0_copyServed_27 (lv_at hl 0 rfl) ?_
  refine bz_gt (tgt := 33) S dX0_copyServed_29 (by decide) (fun c29 => ?_) (fun c29 => ?_)
  · refine lv_iload S.1 S.2.1 dX0_copyServed_33 (lv_at hl 0 rfl) ?_
    refine lv_bipush (v := 10) S.1 S.2.1 dX0_copyServed_35 (by decide) ?_
    refine br_le (tgt := 59) S dX0_copyServed_37 (by decide) (fun c37 => ?_) (fun c37 => ?_)
    · exact J59 _ _ hw (by simp only [copyF, eq_true c29, eq_false c37, ↓reduceIte]) _ (lv_sub hl [2, 3, 4, 5, 1, 0] rfl)
    · refine lv_aload_n S.1 S.2.1 dX0_copyServed_40 rfl (lv_at hl 2 rfl) ?_
      refine bx_get S hK hin hw.1 0 rfl rfl 15 (by decide) flX0_copyServed_56 rfl dX0_copyServed_41 ?_
      refine lv_iload S.1 S.2.1 dX0_copyServed_44 (lv_at hl 1 rfl) ?_
      refine bx_zald (v := σ 15 (4 * g + t)) S hK hw.1 16 0 rfl rfl (by omega) (by decide) rfl dX0_copyServed_46 ?_
      refine bz_ne (tgt := 59) S dX0_copyServed_47 (by decide) (fun c47 => ?_) (fun c47 => ?_)
      · exact J59 _ _ hw (by simp only [copyF, eq_true c29, eq_true c37, eq_false c47, ↓reduceIte]) _ (lv_sub hl [2, 3, 4, 5, 1, 0] rfl)
      · refine lv_aload_n S.1 S.2.1 dX0_copyServed_50 rfl (lv_at hl 2 rfl) ?_
        refine bx_get S hK hin hw.1 0 rfl rfl 15 (by decide) flX0_copyServed_56 rfl dX0_copyServed_51 ?_
        refine lv_iload S.1 S.2.1 dX0_copyServed_54 (lv_at hl 1 rfl) ?_
        refine lv_iconst (v := 1) S.1 S.2.1 dX0_copyServed_56 (by decide) ?_
        refine bx_zast S hK hw 16 0 rfl rfl (by omega) (by decide) (by decide) (wX_s15 cZ cI a σ (4 * g + t) 1) dX0_copyServed_57 (fun H locs hw => ?_)
        exact hret hw dX0_copyServed_58 (congrArg (wX cZ cI a) (by simp only [copyF, eq_true c29, eq_true c37, eq_true c47, ↓reduceIte]))
  · exact hret hw dX0_copyServed_32 (congrArg (wX cZ cI a) (by simp only [copyF, eq_false c29, ↓reduceIte]))

theorem inX0_receiveAsMaster : ∀ w ∈ u_ws RX0 TX0 18, w ∈ wsX0_receiveAsMaster := fun _ h => List.mem_cons_of_mem _ (List.mem_append_right _ h)
set_option maxHeartbeats 4000000 in
set_option maxRecDepth 100000 in
theorem kX0_receiveAsMaster (l : Launch) (D : va_G) (cZ cI : ClassId) (a : Nat → Nat) (σ : sC) {r g q : Nat} (num : Int32) (hr : r < 4) (hg : g < 3) (hq : q < 4) : MV l yX0_receiveAsMaster wsX0_receiveAsMaster ({ frames := 3, cells := 0, slots := 0, locals := 69 } : Room) D (tyZ cZ cI) [.ref (a 0), .int (nI r), .int (nI g), .int (nI q), .int num] (wX cZ cI a σ) (wX cZ cI a (recvM σ r g q num)) := by
  refine MV.of (cc := cX0_receiveAsMaster) (maxL := 6) (by decide) rfl ⟨rfl, rfl⟩ (Nat.le_of_ble_eq_true rfl) ?_
  intro p e s m args below meth c A Q S hK hret ls hl hw
  replace hl : lv_has ls 6 [(0, .ref (a 0)), (1, .int (nI r)), (2, .int (nI g)), (3, .int (nI q)), (4, .int num)] := hl
  replace S : CallFix p m c cX0_receiveAsMaster 6 s args wsX0_receiveAsMaster RX0 := S
  have hin := inX0_receiveAsMaster
  refine lv_aload_n S.1 S.2.1 dX0_receiveAsMaster_0 rfl (lv_at hl 0 rfl) ?_
  refine lv_iload_n S.1 S.2.1 dX0_receiveAsMaster_1 rfl (lv_at hl 1 rfl) ?_
  refine lv_iload_n S.1 S.2.1 dX0_receiveAsMaster_2 rfl (lv_at hl 2 rfl) ?_
  refine bc_vi (As := [.int (nI r), .int (nI g)]) (rest := []) S hK hw (kX0_loweredPriority l D cZ cI a σ (r := r) (g := g) (by omega) (by omega)) (cwV 2 S.2.2.2.2 gX0_receiveAsMaster_X0_loweredPriority rfl rfl rfl (by decide +kernel) ⟨Nat.le_of_ble_eq_true rfl, Nat.le_of_ble_eq_true rfl⟩) (q0 := 0) rfl rfl rfl hl.1 rfl (Nat.le_of_ble_eq_true rfl) (Nat.zero_le _) (Nat.zero_le _) dX0_receiveAsMaster_3 (fun H locs hw => ?_)
  refine lv_istore (lv' := [(5, .int (lowP σ r g)), (0, .ref (a 0)), (1, .int (nI r)), (2, .int (nI g)), (3, .int (nI q)), (4, .int num)]) S.1 S.2.1 dX0_receiveAsMaster_6 hl (by decide) rfl (fun ls hl => ?_)
  refine lv_iload S.1 S.2.1 dX0_receiveAsMaster_8 (lv_at hl 5 rfl) ?_
  refine lv_iload S.1 S.2.1 dX0_receiveAsMaster_10 (lv_at hl 0 rfl) ?_
  refine br_gt (tgt := 27) S dX0_receiveAsMaster_12 (by decide) (fun c12 => ?_) (fun c12 => ?_)
  · refine lv_aload_n S.1 S.2.1 dX0_receiveAsMaster_27 rfl (lv_at hl 1 rfl) ?_
    refine lv_iload_n S.1 S.2.1 dX0_receiveAsMaster_28 rfl (lv_at hl 2 rfl) ?_
    refine lv_iload_n S.1 S.2.1 dX0_receiveAsMaster_29 rfl (lv_at hl 3 rfl) ?_
    refine bc_vv (As := [.int (nI r), .int (nI g)]) (rest := []) S hK hw (kX0_becomeBackup l D cZ cI a σ (r := r) (g := g) (by omega) (by omega)) (cwV 2 S.2.2.2.2 gX0_receiveAsMaster_X0_becomeBackup rfl rfl rfl (by decide +kernel) ⟨Nat.le_of_ble_eq_true rfl, Nat.le_of_ble_eq_true rfl⟩) (q0 := 0) rfl rfl rfl hl.1 rfl (Nat.le_of_ble_eq_true rfl) (Nat.zero_le _) (Nat.zero_le _) dX0_receiveAsMaster_30 (fun H locs hw => ?_)
    refine lv_aload_n S.1 S.2.1 dX0_receiveAsMaster_33 rfl (lv_at hl 1 rfl) ?_
    refine lv_iload_n S.1 S.2.1 dX0_receiveAsMaster_34 rfl (lv_at hl 2 rfl) ?_
    refine lv_iload_n S.1 S.2.1 dX0_receiveAsMaster_35 rfl (lv_at hl 3 rfl) ?_
    refine lv_iload_n S.1 S.2.1 dX0_receiveAsMaster_36 rfl (lv_at hl 4 rfl) ?_
    refine bc_vv (As := [.int (nI r), .int (nI g), .int (nI q)]) (rest := []) S hK hw (kX0_copyServed l D cZ cI a (restF σ r g 0) (t := r) (g := g) (f := q) (by omega) (by omega) (by omega)) (cwV 3 S.2.2.2.2 gX0_receiveAsMaster_X0_copyServed rfl rfl rfl (by decide +kernel) ⟨Nat.le_of_ble_eq_true rfl, Nat.le_of_ble_eq_true rfl⟩) (q0 := 0) rfl rfl rfl hl.1 rfl (Nat.le_of_ble_eq_true rfl) (Nat.zero_le _) (Nat.zero_le _) dX0_receiveAsMaster_37 (fun H locs hw => ?_)
    exact hret hw dX0_receiveAsMaster_40 (congrArg (wX cZ cI a) (by simp only [recvM, eq_true c12, ↓reduceIte]))
  · refine lv_iload S.1 S.2.1 dX0_receiveAsMaster_15 (lv_at hl 5 rfl) ?_
    refine lv_iload S.1 S.2.1 dX0_receiveAsMaster_17 (lv_at hl 0 rfl) ?_
    refine br_ne (tgt := 40) S dX0_receiveAsMaster_19 (by decide) (fun c19 => ?_) (fun c19 => ?_)
    · exact hret hw dX0_receiveAsMaster_40 (congrArg (wX cZ cI a) (by simp only [recvM, eq_false c12, eq_false c19, ↓reduceIte]))
    · refine lv_iload_n S.1 S.2.1 dX0_receiveAsMaster_22 rfl (lv_at hl 4 rfl) ?_
      refine lv_iload_n S.1 S.2.1 dX0_receiveAsMaster_23 rfl (lv_at hl 2 rfl) ?_
      refine br_le (tgt := 40) S dX0_receiveAsMaster_24 (by decide) (fun c24 => ?_) (fun c24 => ?_)
      · exact hret hw dX0_receiveAsMaster_40 (congrArg (wX cZ cI a) (by simp only [recvM, eq_false c12, eq_true c19, eq_false c24, ↓reduceIte]))
      · refine lv_aload_n S.1 S.2.1 dX0_receiveAsMaster_27 rfl (lv_at hl 1 rfl) ?_
        refine lv_iload_n S.1 S.2.1 dX0_receiveAsMaster_28 rfl (lv_at hl 2 rfl) ?_
        refine lv_iload_n S.1 S.2.1 dX0_receiveAsMaster_29 rfl (lv_at hl 3 rfl) ?_
        refine bc_vv (As := [.int (nI r), .int (nI g)]) (rest := []) S hK hw (kX0_becomeBackup l D cZ cI a σ (r := r) (g := g) (by omega) (by omega)) (cwV 2 S.2.2.2.2 gX0_receiveAsMaster_X0_becomeBackup rfl rfl rfl (by decide +kernel) ⟨Nat.le_of_ble_eq_true rfl, Nat.le_of_ble_eq_true rfl⟩) (q0 := 0) rfl rfl rfl hl.1 rfl (Nat.le_of_ble_eq_true rfl) (Nat.zero_le _) (Nat.zero_le _) dX0_receiveAsMaster_30 (fun H locs hw => ?_)
        refine lv_aload_n S.1 S.2.1 dX0_receiveAsMaster_33 rfl (lv_at hl 1 rfl) ?_
        refine lv_iload_n S.1 S.2.1 dX0_receiveAsMaster_34 rfl (lv_at hl 2 rfl) ?_
        refine lv_iload_n S.1 S.2.1 dX0_receiveAsMaster_35 rfl (lv_at hl 3 rfl) ?_
        refine lv_iload_n S.1 S.2.1 dX0_receiveAsMaster_36 rfl (lv_at hl 4 rfl) ?_
        refine bc_vv (As := [.int (nI r), .int (nI g), .int (nI q)]) (rest := []) S hK hw (kX0_copyServed l D cZ cI a (restF σ r g 0) (t := r) (g := g) (f := q) (by omega) (by omega) (by omega)) (cwV 3 S.2.2.2.2 gX0_receiveAsMaster_X0_copyServed rfl rfl rfl (by decide +kernel) ⟨Nat.le_of_ble_eq_true rfl, Nat.le_of_ble_eq_true rfl⟩) (q0 := 0) rfl rfl rfl hl.1 rfl (Nat.le_of_ble_eq_true rfl) (Nat.zero_le _) (Nat.zero_le _) dX0_receiveAsMaster_37 (fun H locs hw => ?_)
        exact hret hw dX0_receiveAsMaster_40 (congrArg (wX cZ cI a) (by simp only [recvM, eq_false c12, eq_true c19, eq_true c24, ↓reduceIte]))

theorem inX0_receiveAsBackup : ∀ w ∈ u_ws RX0 TX0 18, w ∈ wsX0_receiveAsBackup := fun _ h => List.mem_cons_of_mem _ (List.mem_append_right _ h)
theorem flX0_receiveAsBackup_26 : Cond.fieldLink RX0 26 "StandbyPair" "preempting" "[Z" ∈ wsX0_receiveAsBackup := by decide +kernel
theorem flX0_receiveAsBackup_47 : Cond.fieldLink RX0 47 "StandbyPair" "heard" "[I" ∈ wsX0_receiveAsBackup := by decide +kernel
theorem flX0_receiveAsBackup_44 : Cond.fieldLink RX0 44 "StandbyPair" "timers" "[I" ∈ wsX0_receiveAsBackup := by decide +kernel
theorem flX0_receiveAsBackup_29 : Cond.fieldLink RX0 29 "StandbyPair" "delays" "[I" ∈ wsX0_receiveAsBackup := by decide +kernel
set_option maxHeartbeats 4000000 in
set_option maxRecDepth 100000 in
theorem kX0_receiveAsBackup (l : Launch) (D : va_G) (cZ cI : ClassId) (a : Nat → Nat) (σ : sC) {r g q : Nat} (num : Int32) (hr : r < 4) (hg : g < 3) (hq : q < 4) : MV l yX0_receiveAsBackup wsX0_receiveAsBackup ({ frames := 2, cells := 0, slots := 0, locals := 46 } : Room) D (tyZ cZ cI) [.ref (a 0), .int (nI r), .int (nI g), .int (nI q), .int num] (wX cZ cI a σ) (wX cZ cI a (recvB σ r g q num)) := by
  refine MV.of (cc := cX0_receiveAsBackup) (maxL := 7) (by decide) rfl ⟨rfl, rfl⟩ (Nat.le_of_ble_eq_true rfl) ?_
  intro p e s m args below meth c A Q S hK hret ls hl hw
  replace hl : lv_has ls 7 [(0, .ref (a 0)), (1, .int (nI r)), (2, .int (nI g)), (3, .int (nI q)), (4, .int num)] := hl
  replace S : CallFix p m c cX0_receiveAsBackup 7 s args wsX0_receiveAsBackup RX0 := S
  have hin := inX0_receiveAsBackup
  refine lv_iload_n S.1 S.2.1 dX0_receiveAsBackup_0 rfl (lv_at hl 1 rfl) ?_
  refine lv_iload_n S.1 S.2.1 dX0_receiveAsBackup_1 rfl (lv_at hl 2 rfl) ?_
  refine bc_si (As := [.int (nI r), .int (nI g)]) (rest := []) S hK hw (kX0_placeOf l D _ (r := r) (g := g) (by omega) (by omega)) (va_cwS 2 S.2.2.2.2 gX0_receiveAsBackup_X0_placeOf rfl rfl rfl (by decide +kernel) ⟨Nat.le_of_ble_eq_true rfl, Nat.le_of_ble_eq_true rfl⟩) rfl hl.1 rfl (Nat.le_of_ble_eq_true rfl) (Nat.zero_le _) (Nat.zero_le _) dX0_receiveAsBackup_2 (fun H locs hw => ?_)
  refine lv_istore (lv' := [(5, .int (nI (4 * g + r))), (0, .ref (a 0)), (1, .int (nI r)), (2, .int (nI g)), (3, .int (nI q)), (4, .int num)]) S.1 S.2.1 dX0_receiveAsBackup_5 hl (by decide) rfl (fun ls hl => ?_)
  refine lv_aload_n S.1 S.2.1 dX0_receiveAsBackup_7 rfl (lv_at hl 1 rfl) ?_
  refine lv_iload_n S.1 S.2.1 dX0_receiveAsBackup_8 rfl (lv_at hl 2 rfl) ?_
  refine lv_iload_n S.1 S.2.1 dX0_receiveAsBackup_9 rfl (lv_at hl 3 rfl) ?_
  refine bc_vi (As := [.int (nI r), .int (nI g)]) (rest := []) S hK hw (kX0_loweredPriority l D cZ cI a σ (r := r) (g := g) (by omega) (by omega)) (cwV 2 S.2.2.2.2 gX0_receiveAsBackup_X0_loweredPriority rfl rfl rfl (by decide +kernel) ⟨Nat.le_of_ble_eq_true rfl, Nat.le_of_ble_eq_true rfl⟩) (q0 := 0) rfl rfl rfl hl.1 rfl (Nat.le_of_ble_eq_true rfl) (Nat.zero_le _) (Nat.zero_le _) dX0_receiveAsBackup_10 (fun H locs hw => ?_)
  refine lv_istore (lv' := [(6, .int (lowP σ r g)), (5, .int (nI (4 * g + r))), (0, .ref (a 0)), (1, .int (nI r)), (2, .int (nI g)), (3, .int (nI q)), (4, .int num)]) S.1 S.2.1 dX0_receiveAsBackup_13 hl (by decide) rfl (fun ls hl => ?_)
  have J122 : ∀ (σj : sC) (H : Heap) (locs : List Loc), Wd D A s.heap (wX cZ cI a σj) H locs → (recvB σ r g q num = copyF σj r q g) → ∀ ls : Array Slot, lv_has ls 7 [(0, .ref (a 0)), (1, .int (nI r)), (2, .int (nI g)), (3, .int (nI q))] → W p l e ({ frames := 2, cells := 0, slots := 0, locals := 46 } : Room) s m args below meth c H locs 0 0 Q (F0 m 122 ls []) := by
    intro σj H locs hw hj ls hl
    refine lv_aload_n S.1 S.2.1 dX0_receiveAsBackup_122 rfl (lv_at hl 0 rfl) ?_
    refine lv_iload_n S.1 S.2.1 dX0_receiveAsBackup_123 rfl (lv_at hl 1 rfl) ?_
    refine lv_iload_n S.1 S.2.1 dX0_receiveAsBackup_124 rfl (lv_at hl 2 rfl) ?_
    refine lv_iload_n S.1 S.2.1 dX0_receiveAsBackup_125 rfl (lv_at hl 3 rfl) ?_
    refine bc_vv (As := [.int (nI r), .int (nI g), .int (nI q)]) (rest := []) S hK hw (kX0_copyServed l D cZ cI a σj (t := r) (g := g) (f := q) (by omega) (by omega) (by omega)) (cwV 3 S.2.2.2.2 gX0_receiveAsBackup_X0_copyServed rfl rfl rfl (by decide +kernel) ⟨Nat.le_of_ble_eq_true rfl, Nat.le_of_ble_eq_true rfl⟩) (q0 := 0) rfl rfl rfl hl.1 rfl (Nat.le_of_ble_eq_true rfl) (Nat.zero_le _) (Nat.zero_le _) dX0_receiveAsBackup_126 (fun H locs hw => ?_)
    exact hret hw dX0_receiveAsBackup_129 (congrArg (wX cZ cI a) (hj.symm))
  refine lv_iload S.1 S.2.1 dX0_receiveAsBackup_15 (lv_at hl 6 rfl) ?_
  refine bz_ne (tgt := 39) S dX0_receiveAsBackup_17 (by decide) (fun c17 => ?_) (fun c17 => ?_)
  · refine lv_aload_n S.1 S.2.1 dX0_receiveAsBackup_39 rfl (lv_at hl 2 rfl) ?_
    refine bx_get S hK hin hw.1 0 rfl rfl 5 (by decide) flX0_receiveAsBackup_26 rfl dX0_receiveAsBackup_40 ?_
    refine lv_iload_n S.1 S.2.1 dX0_receiveAsBackup_43 rfl (lv_at hl 4 rfl) ?_
    refine bx_zald (v := σ 5 g) S hK hw.1 6 0 rfl rfl (by omega) (by decide) rfl dX0_receiveAsBackup_44 ?_
    refine bz_eq (tgt := 100) S dX0_receiveAsBackup_45 (by decide) (fun c45 => ?_) (fun c45 => ?_)
    · refine lv_aload_n S.1 S.2.1 dX0_receiveAsBackup_100 rfl (lv_at hl 2 rfl) ?_
      refine bx_get S hK hin hw.1 0 rfl rfl 12 (by decide) flX0_receiveAsBackup_47 rfl dX0_receiveAsBackup_101 ?_
      refine lv_iload S.1 S.2.1 dX0_receiveAsBackup_104 (lv_at hl 1 rfl) ?_
      refine lv_iconst (v := 0) S.1 S.2.1 dX0_receiveAsBackup_106 (by decide) ?_
      refine bx_iast S hK hw 13 1 rfl rfl (by omega) (by decide) (wX_s12 cZ cI a σ (4 * g + r) 0) dX0_receiveAsBackup_107 (fun H locs hw => ?_)
      refine lv_aload_n S.1 S.2.1 dX0_receiveAsBackup_108 rfl (lv_at hl 2 rfl) ?_
      refine bx_get S hK hin hw.1 0 rfl rfl 11 (by decide) flX0_receiveAsBackup_44 rfl dX0_receiveAsBackup_109 ?_
      refine lv_iload S.1 S.2.1 dX0_receiveAsBackup_112 (lv_at hl 1 rfl) ?_
      refine lv_aload_n S.1 S.2.1 dX0_receiveAsBackup_114 rfl (lv_at hl 2 rfl) ?_
      refine lv_iload S.1 S.2.1 dX0_receiveAsBackup_115 (lv_at hl 0 rfl) ?_
      refine lv_iload_n S.1 S.2.1 dX0_receiveAsBackup_117 rfl (lv_at hl 4 rfl) ?_
      refine bc_vi (As := [.int (lowP σ r g), .int (nI g)]) (rest := [.int (nI (4 * g + r)), .ref (a 12)]) S hK hw (kX0_waitOf l D cZ cI a (up σ 12 (4 * g + r) 0) (lowP σ r g) (g := g) (by omega)) (cwV 2 S.2.2.2.2 gX0_receiveAsBackup_X0_waitOf rfl rfl rfl (by decide +kernel) ⟨Nat.le_of_ble_eq_true rfl, Nat.le_of_ble_eq_true rfl⟩) (q0 := 0) rfl rfl rfl hl.1 rfl (Nat.le_of_ble_eq_true rfl) (Nat.zero_le _) (Nat.zero_le _) dX0_receiveAsBackup_118 (fun H locs hw => ?_)
      refine bx_iast S hK hw 12 1 rfl rfl (by omega) (by decide) (wX_s11 cZ cI a (up σ 12 (4 * g + r) 0) (4 * g + r) (waitF (up σ 12 (4 * g + r) 0) (lowP σ r g) g)) dX0_receiveAsBackup_121 (fun H locs hw => ?_)
      exact J122 _ _ _ hw (by simp only [recvB, waitB, eq_false c17, eq_true c45, ↓reduceIte]) _ (lv_sub hl [2, 3, 4, 5] rfl)
    · refine lv_iload S.1 S.2.1 dX0_receiveAsBackup_48 (lv_at hl 0 rfl) ?_
      refine lv_iload S.1 S.2.1 dX0_receiveAsBackup_50 (lv_at hl 6 rfl) ?_
      refine br_le (tgt := 100) S dX0_receiveAsBackup_52 (by decide) (fun c52 => ?_) (fun c52 => ?_)
      · refine lv_aload_n S.1 S.2.1 dX0_receiveAsBackup_100 rfl (lv_at hl 2 rfl) ?_
        refine bx_get S hK hin hw.1 0 rfl rfl 12 (by decide) flX0_receiveAsBackup_47 rfl dX0_receiveAsBackup_101 ?_
        refine lv_iload S.1 S.2.1 dX0_receiveAsBackup_104 (lv_at hl 1 rfl) ?_
        refine lv_iconst (v := 0) S.1 S.2.1 dX0_receiveAsBackup_106 (by decide) ?_
        refine bx_iast S hK hw 13 1 rfl rfl (by omega) (by decide) (wX_s12 cZ cI a σ (4 * g + r) 0) dX0_receiveAsBackup_107 (fun H locs hw => ?_)
        refine lv_aload_n S.1 S.2.1 dX0_receiveAsBackup_108 rfl (lv_at hl 2 rfl) ?_
        refine bx_get S hK hin hw.1 0 rfl rfl 11 (by decide) flX0_receiveAsBackup_44 rfl dX0_receiveAsBackup_109 ?_
        refine lv_iload S.1 S.2.1 dX0_receiveAsBackup_112 (lv_at hl 1 rfl) ?_
        refine lv_aload_n S.1 S.2.1 dX0_receiveAsBackup_114 rfl (lv_at hl 2 rfl) ?_
        refine lv_iload S.1 S.2.1 dX0_receiveAsBackup_115 (lv_at hl 0 rfl) ?_
        refine lv_iload_n S.1 S.2.1 dX0_receiveAsBackup_117 rfl (lv_at hl 4 rfl) ?_
        refine bc_vi (As := [.int (lowP σ r g), .int (nI g)]) (rest := [.int (nI (4 * g + r)), .ref (a 12)]) S hK hw (kX0_waitOf l D cZ cI a (up σ 12 (4 * g + r) 0) (lowP σ r g) (g := g) (by omega)) (cwV 2 S.2.2.2.2 gX0_receiveAsBackup_X0_waitOf rfl rfl rfl (by decide +kernel) ⟨Nat.le_of_ble_eq_true rfl, Nat.le_of_ble_eq_true rfl⟩) (q0 := 0) rfl rfl rfl hl.1 rfl (Nat.le_of_ble_eq_true rfl) (Nat.zero_le _) (Nat.zero_le _) dX0_receiveAsBackup_118 (fun H locs hw => ?_)
        refine bx_iast S hK hw 12 1 rfl rfl (by omega) (by decide) (wX_s11 cZ cI a (up σ 12 (4 * g + r) 0) (4 * g + r) (waitF (up σ 12 (4 * g + r) 0) (lowP σ r g) g)) dX0_receiveAsBackup_121 (fun H locs hw => ?_)
        exact J122 _ _ _ hw (by simp only [recvB, waitB, eq_false c17, eq_false c45, eq_false c52, ↓reduceIte]) _ (lv_sub hl [2, 3, 4, 5] rfl)
      · refine lv_aload_n S.1 S.2.1 dX0_receiveAsBackup_55 rfl (lv_at hl 2 rfl) ?_
        refine bx_get S hK hin hw.1 0 rfl rfl 12 (by decide) flX0_receiveAsBackup_47 rfl dX0_receiveAsBackup_56 ?_
        refine lv_iload S.1 S.2.1 dX0_receiveAsBackup_59 (lv_at hl 1 rfl) ?_
        refine bx_iald (v := σ 12 (4 * g + r)) S hK hw.1 13 1 rfl rfl (by omega) (by decide) rfl dX0_receiveAsBackup_61 ?_
        refine lv_aload_n S.1 S.2.1 dX0_receiveAsBackup_62 rfl (lv_at hl 2 rfl) ?_
        refine bx_get S hK hin hw.1 0 rfl rfl 6 (by decide) flX0_receiveAsBackup_29 rfl dX0_receiveAsBackup_63 ?_
        refine lv_iload_n S.1 S.2.1 dX0_receiveAsBackup_66 rfl (lv_at hl 4 rfl) ?_
        refine bx_iald (v := σ 6 g) S hK hw.1 7 1 rfl rfl (by omega) (by decide) rfl dX0_receiveAsBackup_67 ?_
        refine br_lt (tgt := 72) S dX0_receiveAsBackup_68 (by decide) (fun c68 => ?_) (fun c68 => ?_)
        · refine lv_aload_n S.1 S.2.1 dX0_receiveAsBackup_72 rfl (lv_at hl 2 rfl) ?_
          refine bx_get S hK hin hw.1 0 rfl rfl 12 (by decide) flX0_receiveAsBackup_47 rfl dX0_receiveAsBackup_73 ?_
          refine lv_iload S.1 S.2.1 dX0_receiveAsBackup_76 (lv_at hl 1 rfl) ?_
          refine lv_dup2_11 S.1 S.2.1 dX0_receiveAsBackup_78 rfl rfl ?_
          refine bx_iald (v := σ 12 (4 * g + r)) S hK hw.1 13 1 rfl rfl (by omega) (by decide) rfl dX0_receiveAsBackup_79 ?_
          refine lv_iconst (v := 1) S.1 S.2.1 dX0_receiveAsBackup_80 (by decide) ?_
          refine lv_iadd S.1 S.2.1 dX0_receiveAsBackup_81 ?_
          refine bx_iast S hK hw 13 1 rfl rfl (by omega) (by decide) (wX_s12 cZ cI a σ (4 * g + r) ((σ 12 (4 * g + r)) + 1)) dX0_receiveAsBackup_82 (fun H locs hw => ?_)
          refine lv_aload_n S.1 S.2.1 dX0_receiveAsBackup_83 rfl (lv_at hl 2 rfl) ?_
          refine bx_get S hK hin hw.1 0 rfl rfl 11 (by decide) flX0_receiveAsBackup_44 rfl dX0_receiveAsBackup_84 ?_
          refine lv_iload S.1 S.2.1 dX0_receiveAsBackup_87 (lv_at hl 1 rfl) ?_
          refine lv_aload_n S.1 S.2.1 dX0_receiveAsBackup_89 rfl (lv_at hl 2 rfl) ?_
          refine lv_iload S.1 S.2.1 dX0_receiveAsBackup_90 (lv_at hl 0 rfl) ?_
          refine lv_iload_n S.1 S.2.1 dX0_receiveAsBackup_92 rfl (lv_at hl 4 rfl) ?_
          refine bc_vi (As := [.int (lowP σ r g), .int (nI g)]) (rest := [.int (nI (4 * g + r)), .ref (a 12)]) S hK hw (kX0_waitOf l D cZ cI a (up σ 12 (4 * g + r) ((σ 12 (4 * g + r)) + 1)) (lowP σ r g) (g := g) (by omega)) (cwV 2 S.2.2.2.2 gX0_receiveAsBackup_X0_waitOf rfl rfl rfl (by decide +kernel) ⟨Nat.le_of_ble_eq_true rfl, Nat.le_of_ble_eq_true rfl⟩) (q0 := 0) rfl rfl rfl hl.1 rfl (Nat.le_of_ble_eq_true rfl) (Nat.zero_le _) (Nat.zero_le _) dX0_receiveAsBackup_93 (fun H locs hw => ?_)
          refine bx_iast S hK hw 12 1 rfl rfl (by omega) (by decide) (wX_s11 cZ cI a (up σ 12 (4 * g + r) ((σ 12 (4 * g + r)) + 1)) (4 * g + r) (waitF (up σ 12 (4 * g + r) ((σ 12 (4 * g + r)) + 1)) (lowP σ r g) g)) dX0_receiveAsBackup_96 (fun H locs hw => ?_)
          refine lv_goto (tgt := 122) S.1 S.2.1 dX0_receiveAsBackup_97 (by decide) ?_
          exact J122 _ _ _ hw (by simp only [recvB, waitB, eq_false c17, eq_false c45, eq_true c52, eq_true c68, ↓reduceIte]) _ (lv_sub hl [2, 3, 4, 5] rfl)
        · exact hret hw dX0_receiveAsBackup_71 (congrArg (wX cZ cI a) (by simp only [recvB, eq_false c17, eq_false c45, eq_true c52, eq_false c68, ↓reduceIte]))
  · refine lv_aload_n S.1 S.2.1 dX0_receiveAsBackup_20 rfl (lv_at hl 2 rfl) ?_
    refine bx_get S hK hin hw.1 0 rfl rfl 11 (by decide) flX0_receiveAsBackup_44 rfl dX0_receiveAsBackup_21 ?_
    refine lv_iload S.1 S.2.1 dX0_receiveAsBackup_24 (lv_at hl 1 rfl) ?_
    refine lv_aload_n S.1 S.2.1 dX0_receiveAsBackup_26 rfl (lv_at hl 2 rfl) ?_
    refine lv_iload S.1 S.2.1 dX0_receiveAsBackup_27 (lv_at hl 0 rfl) ?_
    refine lv_iload_n S.1 S.2.1 dX0_receiveAsBackup_29 rfl (lv_at hl 4 rfl) ?_
    refine bc_vi (As := [.int (lowP σ r g), .int (nI g)]) (rest := [.int (nI (4 * g + r)), .ref (a 12)]) S hK hw (kX0_skewOf l D cZ cI a σ (lowP σ r g) (g := g) (by omega)) (cwV 2 S.2.2.2.2 gX0_receiveAsBackup_X0_skewOf rfl rfl rfl (by decide +kernel) ⟨Nat.le_of_ble_eq_true rfl, Nat.le_of_ble_eq_true rfl⟩) (q0 := 0) rfl rfl rfl hl.1 rfl (Nat.le_of_ble_eq_true rfl) (Nat.zero_le _) (Nat.zero_le _) dX0_receiveAsBackup_30 (fun H locs hw => ?_)
    refine lv_iconst (v := 1) S.1 S.2.1 dX0_receiveAsBackup_33 (by decide) ?_
    refine lv_iadd S.1 S.2.1 dX0_receiveAsBackup_34 ?_
    refine bx_iast S hK hw 12 1 rfl rfl (by omega) (by decide) (wX_s11 cZ cI a σ (4 * g + r) ((skewF σ (lowP σ r g) g) + 1)) dX0_receiveAsBackup_35 (fun H locs hw => ?_)
    refine lv_goto (tgt := 122) S.1 S.2.1 dX0_receiveAsBackup_36 (by decide) ?_
    exact J122 _ _ _ hw (by simp only [recvB, waitB, eq_true c17, ↓reduceIte]) _ (lv_sub hl [2, 3, 4, 5] rfl)

theorem inX0_advertise : ∀ w ∈ u_ws RX0 TX0 18, w ∈ wsX0_advertise := fun _ h => List.mem_cons_of_mem _ (List.mem_append_right _ h)
theorem flX0_advertise_35 : Cond.fieldLink RX0 35 "StandbyPair" "advertisements" "[I" ∈ wsX0_advertise := by decide +kernel
theorem flX0_advertise_13 : Cond.fieldLink RX0 13 "StandbyPair" "joinedPairs" "[Z" ∈ wsX0_advertise := by decide +kernel
theorem flX0_advertise_41 : Cond.fieldLink RX0 41 "StandbyPair" "roles" "[I" ∈ wsX0_advertise := by decide +kernel
set_option maxHeartbeats 4000000 in
set_option maxRecDepth 100000 in
theorem kX0_advertise (l : Launch) (D : va_G) (cZ cI : ClassId) (a : Nat → Nat) (σ : sC) {q g : Nat} (num : Int32) (hq : q < 4) (hg : g < 3) : MV l yX0_advertise wsX0_advertise ({ frames := 4, cells := 0, slots := 0, locals := 94 } : Room) D (tyZ cZ cI) [.ref (a 0), .int (nI q), .int (nI g), .int num] (wX cZ cI a σ) (wX cZ cI a (advF σ q g num)) := by
  refine MV.of (cc := cX0_advertise) (maxL := 6) (by decide) rfl ⟨rfl, rfl⟩ (Nat.le_of_ble_eq_true rfl) ?_
  intro p e s m args below meth c A Q S hK hret ls hl hw
  replace hl : lv_has ls 6 [(0, .ref (a 0)), (1, .int (nI q)), (2, .int (nI g)), (3, .int num)] := hl
  replace S : CallFix p m c cX0_advertise 6 s args wsX0_advertise RX0 := S
  have hin := inX0_advertise
  refine lv_aload_n S.1 S.2.1 dX0_advertise_0 rfl (lv_at hl 0 rfl) ?_
  refine bx_get S hK hin hw.1 0 rfl rfl 8 (by decide) flX0_advertise_35 rfl dX0_advertise_1 ?_
  refine lv_iload_n S.1 S.2.1 dX0_advertise_4 rfl (lv_at hl 2 rfl) ?_
  refine lv_dup2_11 S.1 S.2.1 dX0_advertise_5 rfl rfl ?_
  refine bx_iald (v := σ 8 g) S hK hw.1 9 1 rfl rfl (by omega) (by decide) rfl dX0_advertise_6 ?_
  refine lv_iconst (v := 1) S.1 S.2.1 dX0_advertise_7 (by decide) ?_
  refine lv_iadd S.1 S.2.1 dX0_advertise_8 ?_
  refine bx_iast S hK hw 9 1 rfl rfl (by omega) (by decide) (wX_s8 cZ cI a σ g ((σ 8 g) + 1)) dX0_advertise_9 (fun H locs hw => ?_)
  refine lv_iconst (v := nI 0) S.1 S.2.1 dX0_advertise_10 (by decide) ?_
  refine lv_istore (lv' := [(4, .int (nI 0)), (0, .ref (a 0)), (1, .int (nI q)), (2, .int (nI g)), (3, .int num)]) S.1 S.2.1 dX0_advertise_11 hl (by decide) rfl (fun ls hl => ?_)
  have L13 : ∀ (n i13 : Nat), i13 + n = 4 → ∀ (H : Heap) (locs : List Loc), Wd D A s.heap (wX cZ cI a (itF (advS q g num) (up σ 8 g ((σ 8 g) + 1)) i13)) H locs → ∀ ls : Array Slot, lv_has ls 6 [(0, .ref (a 0)), (1, .int (nI q)), (2, .int (nI g)), (3, .int num), (4, .int (nI i13))] → W p l e ({ frames := 4, cells := 0, slots := 0, locals := 94 } : Room) s m args below meth c H locs 0 0 Q (F0 m 13 ls []) := by
    intro n
    induction n with
    | zero =>
      intro i13 hi H locs hw ls hl
      obtain rfl : i13 = 4 := by omega
      refine lv_iload S.1 S.2.1 dX0_advertise_13 (lv_at hl 4 rfl) ?_
      refine lv_iconst (v := nI 4) S.1 S.2.1 dX0_advertise_15 (by decide) ?_
      refine br_ge (tgt := 91) S dX0_advertise_16 (by decide) (fun c16 => ?_) (fun c16 => ?_)
      · exact hret hw dX0_advertise_91 (congrArg (wX cZ cI a) (rfl))
      · exact absurd c16 (nlt_nI (by decide))
    | succ n ih_13 =>
      intro i13 hi H locs hw ls hl
      have hi13 : i13 < 4 := by omega
      refine lv_iload S.1 S.2.1 dX0_advertise_13 (lv_at hl 4 rfl) ?_
      refine lv_iconst (v := nI 4) S.1 S.2.1 dX0_advertise_15 (by decide) ?_
      refine br_ge (tgt := 91) S dX0_advertise_16 (by decide) (fun c16 => ?_) (fun c16 => ?_)
      · exact absurd c16 (not_not_intro (lt_nI hi13 (by decide)))
      · refine lv_iload S.1 S.2.1 dX0_advertise_19 (lv_at hl 4 rfl) ?_
        refine lv_iload_n S.1 S.2.1 dX0_advertise_21 rfl (lv_at hl 1 rfl) ?_
        refine br_eq (tgt := 85) S dX0_advertise_22 (by decide) (fun c22 => ?_) (fun c22 => ?_)
        · refine lv_iinc (v := nI (i13 + 1)) (lv' := [(4, .int (nI (i13 + 1))), (0, .ref (a 0)), (1, .int (nI q)), (2, .int (nI g)), (3, .int num)]) S.1 S.2.1 dX0_advertise_85 hl (k := 4) rfl (nI_1 i13) (by decide) rfl (fun ls hl => ?_)
          refine lv_goto (tgt := 13) S.1 S.2.1 dX0_advertise_88 (by decide) ?_
          exact ih_13 (i13 + 1) (by omega) _ _ (Wd.cast (congrArg (wX cZ cI a) (by simp only [itF, advS, eq_true c16, eq_true c22, ↓reduceIte])) hw) _ (lv_sub hl [1, 2, 3, 4, 0] rfl)
        · refine lv_aload_n S.1 S.2.1 dX0_advertise_25 rfl (lv_at hl 0 rfl) ?_
          refine bx_get S hK hin hw.1 0 rfl rfl 1 (by decide) flX0_advertise_13 rfl dX0_advertise_26 ?_
          refine lv_iload_n S.1 S.2.1 dX0_advertise_29 rfl (lv_at hl 1 rfl) ?_
          refine lv_iconst (v := 4) S.1 S.2.1 dX0_advertise_30 (by decide) ?_
          refine lv_imul S.1 S.2.1 dX0_advertise_31 ?_
          refine lv_iload S.1 S.2.1 dX0_advertise_32 (lv_at hl 4 rfl) ?_
          refine lv_iadd S.1 S.2.1 dX0_advertise_34 ?_
          refine bx_top (y := nI (4 * q + i13)) (pl_j (by omega) (by omega)) ?_
          refine bx_zald (v := (itF (advS q g num) (up σ 8 g ((σ 8 g) + 1)) i13) 1 (4 * q + i13)) S hK hw.1 2 0 rfl rfl (by omega) (by decide) rfl dX0_advertise_35 ?_
          refine bz_eq (tgt := 85) S dX0_advertise_36 (by decide) (fun c36 => ?_) (fun c36 => ?_)
          · refine lv_iinc (v := nI (i13 + 1)) (lv' := [(4, .int (nI (i13 + 1))), (0, .ref (a 0)), (1, .int (nI q)), (2, .int (nI g)), (3, .int num)]) S.1 S.2.1 dX0_advertise_85 hl (k := 4) rfl (nI_1 i13) (by decide) rfl (fun ls hl => ?_)
            refine lv_goto (tgt := 13) S.1 S.2.1 dX0_advertise_88 (by decide) ?_
            exact ih_13 (i13 + 1) (by omega) _ _ (Wd.cast (congrArg (wX cZ cI a) (by simp only [itF, advS, eq_true c16, eq_false c22, eq_true c36, ↓reduceIte])) hw) _ (lv_sub hl [1, 2, 3, 4, 0] rfl)
          · refine lv_aload_n S.1 S.2.1 dX0_advertise_39 rfl (lv_at hl 0 rfl) ?_
            refine bx_get S hK hin hw.1 0 rfl rfl 10 (by decide) flX0_advertise_41 rfl dX0_advertise_40 ?_
            refine lv_iload S.1 S.2.1 dX0_advertise_43 (lv_at hl 4 rfl) ?_
            refine lv_iload_n S.1 S.2.1 dX0_advertise_45 rfl (lv_at hl 2 rfl) ?_
            refine bc_si (As := [.int (nI i13), .int (nI g)]) (rest := [.ref (a 11)]) S hK hw (kX0_placeOf l D _ (r := i13) (g := g) (by omega) (by omega)) (va_cwS 2 S.2.2.2.2 gX0_advertise_X0_placeOf rfl rfl rfl (by decide +kernel) ⟨Nat.le_of_ble_eq_true rfl, Nat.le_of_ble_eq_true rfl⟩) rfl hl.1 rfl (Nat.le_of_ble_eq_true rfl) (Nat.zero_le _) (Nat.zero_le _) dX0_advertise_46 (fun H locs hw => ?_)
            refine bx_iald (v := (itF (advS q g num) (up σ 8 g ((σ 8 g) + 1)) i13) 10 (4 * g + i13)) S hK hw.1 11 1 rfl rfl (by omega) (by decide) rfl dX0_advertise_49 ?_
            refine lv_istore (lv' := [(5, .int ((itF (advS q g num) (up σ 8 g ((σ 8 g) + 1)) i13) 10 (4 * g + i13))), (0, .ref (a 0)), (1, .int (nI q)), (2, .int (nI g)), (3, .int num), (4, .int (nI i13))]) S.1 S.2.1 dX0_advertise_50 hl (by decide) rfl (fun ls hl => ?_)
            refine lv_iload S.1 S.2.1 dX0_advertise_52 (lv_at hl 0 rfl) ?_
            refine lv_iconst (v := 2) S.1 S.2.1 dX0_advertise_54 (by decide) ?_
            refine br_ne (tgt := 70) S dX0_advertise_55 (by decide) (fun c55 => ?_) (fun c55 => ?_)
            · refine lv_iload S.1 S.2.1 dX0_advertise_70 (lv_at hl 0 rfl) ?_
              refine lv_iconst (v := 1) S.1 S.2.1 dX0_advertise_72 (by decide) ?_
              refine br_ne (tgt := 85) S dX0_advertise_73 (by decide) (fun c73 => ?_) (fun c73 => ?_)
              · refine lv_iinc (v := nI (i13 + 1)) (lv' := [(4, .int (nI (i13 + 1))), (5, .int ((itF (advS q g num) (up σ 8 g ((σ 8 g) + 1)) i13) 10 (4 * g + i13))), (0, .ref (a 0)), (1, .int (nI q)), (2, .int (nI g)), (3, .int num)]) S.1 S.2.1 dX0_advertise_85 hl (k := 5) rfl (nI_1 i13) (by decide) rfl (fun ls hl => ?_)
                refine lv_goto (tgt := 13) S.1 S.2.1 dX0_advertise_88 (by decide) ?_
                exact ih_13 (i13 + 1) (by omega) _ _ (Wd.cast (congrArg (wX cZ cI a) (by simp only [itF, advS, eq_true c16, eq_false c22, eq_false c36, eq_false c55, eq_false c73, ↓reduceIte])) hw) _ (lv_sub hl [2, 3, 4, 5, 0] rfl)
              · refine lv_aload_n S.1 S.2.1 dX0_advertise_76 rfl (lv_at hl 1 rfl) ?_
                refine lv_iload S.1 S.2.1 dX0_advertise_77 (lv_at hl 5 rfl) ?_
                refine lv_iload_n S.1 S.2.1 dX0_advertise_79 rfl (lv_at hl 3 rfl) ?_
                refine lv_iload_n S.1 S.2.1 dX0_advertise_80 rfl (lv_at hl 2 rfl) ?_
                refine lv_iload_n S.1 S.2.1 dX0_advertise_81 rfl (lv_at hl 4 rfl) ?_
                refine bc_vv (As := [.int (nI i13), .int (nI g), .int (nI q), .int num]) (rest := []) S hK hw (kX0_receiveAsBackup l D cZ cI a (itF (advS q g num) (up σ 8 g ((σ 8 g) + 1)) i13) (r := i13) (g := g) (q := q) num (by omega) (by omega) (by omega)) (cwV 4 S.2.2.2.2 gX0_advertise_X0_receiveAsBackup rfl rfl rfl (by decide +kernel) ⟨Nat.le_of_ble_eq_true rfl, Nat.le_of_ble_eq_true rfl⟩) (q0 := 0) rfl rfl rfl hl.1 rfl (Nat.le_of_ble_eq_true rfl) (Nat.zero_le _) (Nat.zero_le _) dX0_advertise_82 (fun H locs hw => ?_)
                refine lv_iinc (v := nI (i13 + 1)) (lv' := [(4, .int (nI (i13 + 1))), (5, .int ((itF (advS q g num) (up σ 8 g ((σ 8 g) + 1)) i13) 10 (4 * g + i13))), (0, .ref (a 0)), (1, .int (nI q)), (2, .int (nI g)), (3, .int num)]) S.1 S.2.1 dX0_advertise_85 hl (k := 5) rfl (nI_1 i13) (by decide) rfl (fun ls hl => ?_)
                refine lv_goto (tgt := 13) S.1 S.2.1 dX0_advertise_88 (by decide) ?_
                exact ih_13 (i13 + 1) (by omega) _ _ (Wd.cast (congrArg (wX cZ cI a) (by simp only [itF, advS, eq_true c16, eq_false c22, eq_false c36, eq_false c55, eq_true c73, ↓reduceIte])) hw) _ (lv_sub hl [2, 3, 4, 5, 0] rfl)
            · refine lv_aload_n S.1 S.2.1 dX0_advertise_58 rfl (lv_at hl 1 rfl) ?_
              refine lv_iload S.1 S.2.1 dX0_advertise_59 (lv_at hl 5 rfl) ?_
              refine lv_iload_n S.1 S.2.1 dX0_advertise_61 rfl (lv_at hl 3 rfl) ?_
              refine lv_iload_n S.1 S.2.1 dX0_advertise_62 rfl (lv_at hl 2 rfl) ?_
              refine lv_iload_n S.1 S.2.1 dX0_advertise_63 rfl (lv_at hl 4 rfl) ?_
              refine bc_vv (As := [.int (nI i13), .int (nI g), .int (nI q), .int num]) (rest := []) S hK hw (kX0_receiveAsMaster l D cZ cI a (itF (advS q g num) (up σ 8 g ((σ 8 g) + 1)) i13) (r := i13) (g := g) (q := q) num (by omega) (by omega) (by omega)) (cwV 4 S.2.2.2.2 gX0_advertise_X0_receiveAsMaster rfl rfl rfl (by decide +kernel) ⟨Nat.le_of_ble_eq_true rfl, Nat.le_of_ble_eq_true rfl⟩) (q0 := 0) rfl rfl rfl hl.1 rfl (Nat.le_of_ble_eq_true rfl) (Nat.zero_le _) (Nat.zero_le _) dX0_advertise_64 (fun H locs hw => ?_)
              refine lv_goto (tgt := 85) S.1 S.2.1 dX0_advertise_67 (by decide) ?_
              refine lv_iinc (v := nI (i13 + 1)) (lv' := [(4, .int (nI (i13 + 1))), (5, .int ((itF (advS q g num) (up σ 8 g ((σ 8 g) + 1)) i13) 10 (4 * g + i13))), (0, .ref (a 0)), (1, .int (nI q)), (2, .int (nI g)), (3, .int num)]) S.1 S.2.1 dX0_advertise_85 hl (k := 5) rfl (nI_1 i13) (by decide) rfl (fun ls hl => ?_)
              refine lv_goto (tgt := 13) S.1 S.2.1 dX0_advertise_88 (by decide) ?_
              exact ih_13 (i13 + 1) (by omega) _ _ (Wd.cast (congrArg (wX cZ cI a) (by simp only [itF, advS, eq_true c16, eq_false c22, eq_false c36, eq_true c55, ↓reduceIte])) hw) _ (lv_sub hl [2, 3, 4, 5, 0] rfl)
  exact L13 (4 - 0) 0 (by omega) _ _ hw _ (lv_sub hl [1, 2, 3, 4, 0] rfl)

theorem inX0_runMasters : ∀ w ∈ u_ws RX0 TX0 18, w ∈ wsX0_runMasters := fun _ h => List.mem_cons_of_mem _ (List.mem_append_right _ h)
theorem flX0_runMasters_41 : Cond.fieldLink RX0 41 "StandbyPair" "roles" "[I" ∈ wsX0_runMasters := by decide +kernel
theorem flX0_runMasters_44 : Cond.fieldLink RX0 44 "StandbyPair" "timers" "[I" ∈ wsX0_runMasters := by decide +kernel
theorem flX0_runMasters_23 : Cond.fieldLink RX0 23 "StandbyPair" "periods" "[I" ∈ wsX0_runMasters := by decide +kernel
set_option maxHeartbeats 4000000 in
set_option maxRecDepth 100000 in
theorem kX0_runMasters (l : Launch) (D : va_G) (cZ cI : ClassId) (a : Nat → Nat) (σ : sC) {g : Nat} (hg : g < 3) : MV l yX0_runMasters wsX0_runMasters ({ frames := 5, cells := 0, slots := 0, locals := 119 } : Room) D (tyZ cZ cI) [.ref (a 0), .int (nI g)] (wX cZ cI a σ) (wX cZ cI a (runM σ g)) := by
  refine MV.of (cc := cX0_runMasters) (maxL := 4) (by decide) rfl ⟨rfl, rfl⟩ (Nat.le_of_ble_eq_true rfl) ?_
  intro p e s m args below meth c A Q S hK hret ls hl hw
  replace hl : lv_has ls 4 [(0, .ref (a 0)), (1, .int (nI g))] := hl
  replace S : CallFix p m c cX0_runMasters 4 s args wsX0_runMasters RX0 := S
  have hin := inX0_runMasters
  refine lv_iconst (v := nI 0) S.1 S.2.1 dX0_runMasters_0 (by decide) ?_
  refine lv_istore_n (lv' := [(2, .int (nI 0)), (0, .ref (a 0)), (1, .int (nI g))]) S.1 S.2.1 dX0_runMasters_1 rfl hl (by decide) rfl (fun ls hl => ?_)
  have L2 : ∀ (n i2 : Nat), i2 + n = 4 → ∀ (H : Heap) (locs : List Loc), Wd D A s.heap (wX cZ cI a (itF (turnM g) σ i2)) H locs → ∀ ls : Array Slot, lv_has ls 4 [(0, .ref (a 0)), (1, .int (nI g)), (2, .int (nI i2))] → W p l e ({ frames := 5, cells := 0, slots := 0, locals := 119 } : Room) s m args below meth c H locs 0 0 Q (F0 m 2 ls []) := by
    intro n
    induction n with
    | zero =>
      intro i2 hi H locs hw ls hl
      obtain rfl : i2 = 4 := by omega
      refine lv_iload_n S.1 S.2.1 dX0_runMasters_2 rfl (lv_at hl 2 rfl) ?_
      refine lv_iconst (v := nI 4) S.1 S.2.1 dX0_runMasters_3 (by decide) ?_
      refine br_ge (tgt := 72) S dX0_runMasters_4 (by decide) (fun c4 => ?_) (fun c4 => ?_)
      · exact hret hw dX0_runMasters_72 (congrArg (wX cZ cI a) (rfl))
      · exact absurd c4 (nlt_nI (by decide))
    | succ n ih_2 =>
      intro i2 hi H locs hw ls hl
      have hi2 : i2 < 4 := by omega
      refine lv_iload_n S.1 S.2.1 dX0_runMasters_2 rfl (lv_at hl 2 rfl) ?_
      refine lv_iconst (v := nI 4) S.1 S.2.1 dX0_runMasters_3 (by decide) ?_
      refine br_ge (tgt := 72) S dX0_runMasters_4 (by decide) (fun c4 => ?_) (fun c4 => ?_)
      · exact absurd c4 (not_not_intro (lt_nI hi2 (by decide)))
      · refine lv_iload_n S.1 S.2.1 dX0_runMasters_7 rfl (lv_at hl 2 rfl) ?_
        refine lv_iload_n S.1 S.2.1 dX0_runMasters_8 rfl (lv_at hl 1 rfl) ?_
        refine bc_si (As := [.int (nI i2), .int (nI g)]) (rest := []) S hK hw (kX0_placeOf l D _ (r := i2) (g := g) (by omega) (by omega)) (va_cwS 2 S.2.2.2.2 gX0_runMasters_X0_placeOf rfl rfl rfl (by decide +kernel) ⟨Nat.le_of_ble_eq_true rfl, Nat.le_of_ble_eq_true rfl⟩) rfl hl.1 rfl (Nat.le_of_ble_eq_true rfl) (Nat.zero_le _) (Nat.zero_le _) dX0_runMasters_9 (fun H locs hw => ?_)
        refine lv_istore_n (lv' := [(3, .int (nI (4 * g + i2))), (0, .ref (a 0)), (1, .int (nI g)), (2, .int (nI i2))]) S.1 S.2.1 dX0_runMasters_12 rfl hl (by decide) rfl (fun ls hl => ?_)
        refine lv_aload_n S.1 S.2.1 dX0_runMasters_13 rfl (lv_at hl 1 rfl) ?_
        refine bx_get S hK hin hw.1 0 rfl rfl 10 (by decide) flX0_runMasters_41 rfl dX0_runMasters_14 ?_
        refine lv_iload_n S.1 S.2.1 dX0_runMasters_17 rfl (lv_at hl 0 rfl) ?_
        refine bx_iald (v := (itF (turnM g) σ i2) 10 (4 * g + i2)) S hK hw.1 11 1 rfl rfl (by omega) (by decide) rfl dX0_runMasters_18 ?_
        refine lv_iconst (v := 2) S.1 S.2.1 dX0_runMasters_19 (by decide) ?_
        refine br_ne (tgt := 66) S dX0_runMasters_20 (by decide) (fun c20 => ?_) (fun c20 => ?_)
        · refine lv_iinc (v := nI (i2 + 1)) (lv' := [(2, .int (nI (i2 + 1))), (3, .int (nI (4 * g + i2))), (0, .ref (a 0)), (1, .int (nI g))]) S.1 S.2.1 dX0_runMasters_66 hl (k := 3) rfl (nI_1 i2) (by decide) rfl (fun ls hl => ?_)
          refine lv_goto (tgt := 2) S.1 S.2.1 dX0_runMasters_69 (by decide) ?_
          exact ih_2 (i2 + 1) (by omega) _ _ (Wd.cast (congrArg (wX cZ cI a) (by simp only [itF, turnM, tick1, sendF, eq_true c4, eq_false c20, ↓reduceIte])) hw) _ (lv_sub hl [2, 3, 0] rfl)
        · refine lv_aload_n S.1 S.2.1 dX0_runMasters_23 rfl (lv_at hl 1 rfl) ?_
          refine bx_get S hK hin hw.1 0 rfl rfl 11 (by decide) flX0_runMasters_44 rfl dX0_runMasters_24 ?_
          refine lv_iload_n S.1 S.2.1 dX0_runMasters_27 rfl (lv_at hl 0 rfl) ?_
          refine lv_dup2_11 S.1 S.2.1 dX0_runMasters_28 rfl rfl ?_
          refine bx_iald (v := (itF (turnM g) σ i2) 11 (4 * g + i2)) S hK hw.1 12 1 rfl rfl (by omega) (by decide) rfl dX0_runMasters_29 ?_
          refine lv_iconst (v := 1) S.1 S.2.1 dX0_runMasters_30 (by decide) ?_
          refine lv_isub S.1 S.2.1 dX0_runMasters_31 ?_
          refine bx_iast S hK hw 12 1 rfl rfl (by omega) (by decide) (wX_s11 cZ cI a (itF (turnM g) σ i2) (4 * g + i2) (((itF (turnM g) σ i2) 11 (4 * g + i2)) - 1)) dX0_runMasters_32 (fun H locs hw => ?_)
          refine lv_aload_n S.1 S.2.1 dX0_runMasters_33 rfl (lv_at hl 1 rfl) ?_
          refine bx_get S hK hin hw.1 0 rfl rfl 11 (by decide) flX0_runMasters_44 rfl dX0_runMasters_34 ?_
          refine lv_iload_n S.1 S.2.1 dX0_runMasters_37 rfl (lv_at hl 0 rfl) ?_
          refine bx_iald (v := (up (itF (turnM g) σ i2) 11 (4 * g + i2) (((itF (turnM g) σ i2) 11 (4 * g + i2)) - 1)) 11 (4 * g + i2)) S hK hw.1 12 1 rfl rfl (by omega) (by decide) rfl dX0_runMasters_38 ?_
          refine bz_ne (tgt := 66) S dX0_runMasters_39 (by decide) (fun c39 => ?_) (fun c39 => ?_)
          · refine lv_iinc (v := nI (i2 + 1)) (lv' := [(2, .int (nI (i2 + 1))), (3, .int (nI (4 * g + i2))), (0, .ref (a 0)), (1, .int (nI g))]) S.1 S.2.1 dX0_runMasters_66 hl (k := 3) rfl (nI_1 i2) (by decide) rfl (fun ls hl => ?_)
            refine lv_goto (tgt := 2) S.1 S.2.1 dX0_runMasters_69 (by decide) ?_
            exact ih_2 (i2 + 1) (by omega) _ _ (Wd.cast (congrArg (wX cZ cI a) (by simp only [itF, turnM, tick1, sendF, eq_true c4, eq_true c20, eq_false c39, ↓reduceIte])) hw) _ (lv_sub hl [2, 3, 0] rfl)
          · refine lv_aload_n S.1 S.2.1 dX0_runMasters_42 rfl (lv_at hl 1 rfl) ?_
            refine lv_iload_n S.1 S.2.1 dX0_runMasters_43 rfl (lv_at hl 3 rfl) ?_
            refine lv_iload_n S.1 S.2.1 dX0_runMasters_44 rfl (lv_at hl 2 rfl) ?_
            refine lv_aload_n S.1 S.2.1 dX0_runMasters_45 rfl (lv_at hl 1 rfl) ?_
            refine lv_iload_n S.1 S.2.1 dX0_runMasters_46 rfl (lv_at hl 3 rfl) ?_
            refine lv_iload_n S.1 S.2.1 dX0_runMasters_47 rfl (lv_at hl 2 rfl) ?_
            refine bc_vi (As := [.int (nI i2), .int (nI g)]) (rest := [.int (nI g), .int (nI i2), .ref (a 0)]) S hK hw (kX0_loweredPriority l D cZ cI a (up (itF (turnM g) σ i2) 11 (4 * g + i2) (((itF (turnM g) σ i2) 11 (4 * g + i2)) - 1)) (r := i2) (g := g) (by omega) (by omega)) (cwV 2 S.2.2.2.2 gX0_runMasters_X0_loweredPriority rfl rfl rfl (by decide +kernel) ⟨Nat.le_of_ble_eq_true rfl, Nat.le_of_ble_eq_true rfl⟩) (q0 := 0) rfl rfl rfl hl.1 rfl (Nat.le_of_ble_eq_true rfl) (Nat.zero_le _) (Nat.zero_le _) dX0_runMasters_48 (fun H locs hw => ?_)
            refine bc_vv (As := [.int (nI i2), .int (nI g), .int (lowP (up (itF (turnM g) σ i2) 11 (4 * g + i2) (((itF (turnM g) σ i2) 11 (4 * g + i2)) - 1)) i2 g)]) (rest := []) S hK hw (kX0_advertise l D cZ cI a (up (itF (turnM g) σ i2) 11 (4 * g + i2) (((itF (turnM g) σ i2) 11 (4 * g + i2)) - 1)) (q := i2) (g := g) (lowP (up (itF (turnM g) σ i2) 11 (4 * g + i2) (((itF (turnM g) σ i2) 11 (4 * g + i2)) - 1)) i2 g) (by omega) (by omega)) (cwV 3 S.2.2.2.2 gX0_runMasters_X0_advertise rfl rfl rfl (by decide +kernel) ⟨Nat.le_of_ble_eq_true rfl, Nat.le_of_ble_eq_true rfl⟩) (q0 := 0) rfl rfl rfl hl.1 rfl (Nat.le_of_ble_eq_true rfl) (Nat.zero_le _) (Nat.zero_le _) dX0_runMasters_51 (fun H locs hw => ?_)
            refine lv_aload_n S.1 S.2.1 dX0_runMasters_54 rfl (lv_at hl 1 rfl) ?_
            refine bx_get S hK hin hw.1 0 rfl rfl 11 (by decide) flX0_runMasters_44 rfl dX0_runMasters_55 ?_
            refine lv_iload_n S.1 S.2.1 dX0_runMasters_58 rfl (lv_at hl 0 rfl) ?_
            refine lv_aload_n S.1 S.2.1 dX0_runMasters_59 rfl (lv_at hl 1 rfl) ?_
            refine bx_get S hK hin hw.1 0 rfl rfl 4 (by decide) flX0_runMasters_23 rfl dX0_runMasters_60 ?_
            refine lv_iload_n S.1 S.2.1 dX0_runMasters_63 rfl (lv_at hl 2 rfl) ?_
            refine bx_iald (v := (advF (up (itF (turnM g) σ i2) 11 (4 * g + i2) (((itF (turnM g) σ i2) 11 (4 * g + i2)) - 1)) i2 g (lowP (up (itF (turnM g) σ i2) 11 (4 * g + i2) (((itF (turnM g) σ i2) 11 (4 * g + i2)) - 1)) i2 g)) 4 g) S hK hw.1 5 1 rfl rfl (by omega) (by decide) rfl dX0_runMasters_64 ?_
            refine bx_iast S hK hw 12 1 rfl rfl (by omega) (by decide) (wX_s11 cZ cI a (advF (up (itF (turnM g) σ i2) 11 (4 * g + i2) (((itF (turnM g) σ i2) 11 (4 * g + i2)) - 1)) i2 g (lowP (up (itF (turnM g) σ i2) 11 (4 * g + i2) (((itF (turnM g) σ i2) 11 (4 * g + i2)) - 1)) i2 g)) (4 * g + i2) ((advF (up (itF (turnM g) σ i2) 11 (4 * g + i2) (((itF (turnM g) σ i2) 11 (4 * g + i2)) - 1)) i2 g (lowP (up (itF (turnM g) σ i2) 11 (4 * g + i2) (((itF (turnM g) σ i2) 11 (4 * g + i2)) - 1)) i2 g)) 4 g)) dX0_runMasters_65 (fun H locs hw => ?_)
            refine lv_iinc (v := nI (i2 + 1)) (lv' := [(2, .int (nI (i2 + 1))), (3, .int (nI (4 * g + i2))), (0, .ref (a 0)), (1, .int (nI g))]) S.1 S.2.1 dX0_runMasters_66 hl (k := 3) rfl (nI_1 i2) (by decide) rfl (fun ls hl => ?_)
            refine lv_goto (tgt := 2) S.1 S.2.1 dX0_runMasters_69 (by decide) ?_
            exact ih_2 (i2 + 1) (by omega) _ _ (Wd.cast (congrArg (wX cZ cI a) (by simp only [itF, turnM, tick1, sendF, eq_true c4, eq_true c20, eq_true c39, ↓reduceIte])) hw) _ (lv_sub hl [2, 3, 0] rfl)
  exact L2 (4 - 0) 0 (by omega) _ _ hw _ (lv_sub hl [1, 2, 0] rfl)

theorem inX0_runBackups : ∀ w ∈ u_ws RX0 TX0 18, w ∈ wsX0_runBackups := fun _ h => List.mem_cons_of_mem _ (List.mem_append_right _ h)
theorem flX0_runBackups_41 : Cond.fieldLink RX0 41 "StandbyPair" "roles" "[I" ∈ wsX0_runBackups := by decide +kernel
theorem flX0_runBackups_44 : Cond.fieldLink RX0 44 "StandbyPair" "timers" "[I" ∈ wsX0_runBackups := by decide +kernel
theorem flX0_runBackups_53 : Cond.fieldLink RX0 53 "StandbyPair" "promotions" "[I" ∈ wsX0_runBackups := by decide +kernel
theorem flX0_runBackups_23 : Cond.fieldLink RX0 23 "StandbyPair" "periods" "[I" ∈ wsX0_runBackups := by decide +kernel
set_option maxHeartbeats 4000000 in
set_option maxRecDepth 100000 in
theorem kX0_runBackups (l : Launch) (D : va_G) (cZ cI : ClassId) (a : Nat → Nat) (σ : sC) {g : Nat} (hg : g < 3) : MV l yX0_runBackups wsX0_runBackups ({ frames := 5, cells := 0, slots := 0, locals := 119 } : Room) D (tyZ cZ cI) [.ref (a 0), .int (nI g)] (wX cZ cI a σ) (wX cZ cI a (runB σ g)) := by
  refine MV.of (cc := cX0_runBackups) (maxL := 4) (by decide) rfl ⟨rfl, rfl⟩ (Nat.le_of_ble_eq_true rfl) ?_
  intro p e s m args below meth c A Q S hK hret ls hl hw
  replace hl : lv_has ls 4 [(0, .ref (a 0)), (1, .int (nI g))] := hl
  replace S : CallFix p m c cX0_runBackups 4 s args wsX0_runBackups RX0 := S
  have hin := inX0_runBackups
  refine lv_iconst (v := nI 0) S.1 S.2.1 dX0_runBackups_0 (by decide) ?_
  refine lv_istore_n (lv' := [(2, .int (nI 0)), (0, .ref (a 0)), (1, .int (nI g))]) S.1 S.2.1 dX0_runBackups_1 rfl hl (by decide) rfl (fun ls hl => ?_)
  have L2 : ∀ (n i2 : Nat), i2 + n = 4 → ∀ (H : Heap) (locs : List Loc), Wd D A s.heap (wX cZ cI a (itF (turnB g) σ i2)) H locs → ∀ ls : Array Slot, lv_has ls 4 [(0, .ref (a 0)), (1, .int (nI g)), (2, .int (nI i2))] → W p l e ({ frames := 5, cells := 0, slots := 0, locals := 119 } : Room) s m args below meth c H locs 0 0 Q (F0 m 2 ls []) := by
    intro n
    induction n with
    | zero =>
      intro i2 hi H locs hw ls hl
      obtain rfl : i2 = 4 := by omega
      refine lv_iload_n S.1 S.2.1 dX0_runBackups_2 rfl (lv_at hl 2 rfl) ?_
      refine lv_iconst (v := nI 4) S.1 S.2.1 dX0_runBackups_3 (by decide) ?_
      refine br_ge (tgt := 89) S dX0_runBackups_4 (by decide) (fun c4 => ?_) (fun c4 => ?_)
      · exact hret hw dX0_runBackups_89 (congrArg (wX cZ cI a) (rfl))
      · exact absurd c4 (nlt_nI (by decide))
    | succ n ih_2 =>
      intro i2 hi H locs hw ls hl
      have hi2 : i2 < 4 := by omega
      refine lv_iload_n S.1 S.2.1 dX0_runBackups_2 rfl (lv_at hl 2 rfl) ?_
      refine lv_iconst (v := nI 4) S.1 S.2.1 dX0_runBackups_3 (by decide) ?_
      refine br_ge (tgt := 89) S dX0_runBackups_4 (by decide) (fun c4 => ?_) (fun c4 => ?_)
      · exact absurd c4 (not_not_intro (lt_nI hi2 (by decide)))
      · refine lv_iload_n S.1 S.2.1 dX0_runBackups_7 rfl (lv_at hl 2 rfl) ?_
        refine lv_iload_n S.1 S.2.1 dX0_runBackups_8 rfl (lv_at hl 1 rfl) ?_
        refine bc_si (As := [.int (nI i2), .int (nI g)]) (rest := []) S hK hw (kX0_placeOf l D _ (r := i2) (g := g) (by omega) (by omega)) (va_cwS 2 S.2.2.2.2 gX0_runBackups_X0_placeOf rfl rfl rfl (by decide +kernel) ⟨Nat.le_of_ble_eq_true rfl, Nat.le_of_ble_eq_true rfl⟩) rfl hl.1 rfl (Nat.le_of_ble_eq_true rfl) (Nat.zero_le _) (Nat.zero_le _) dX0_runBackups_9 (fun H locs hw => ?_)
        refine lv_istore_n (lv' := [(3, .int (nI (4 * g + i2))), (0, .ref (a 0)), (1, .int (nI g)), (2, .int (nI i2))]) S.1 S.2.1 dX0_runBackups_12 rfl hl (by decide) rfl (fun ls hl => ?_)
        refine lv_aload_n S.1 S.2.1 dX0_runBackups_13 rfl (lv_at hl 1 rfl) ?_
        refine bx_get S hK hin hw.1 0 rfl rfl 10 (by decide) flX0_runBackups_41 rfl dX0_runBackups_14 ?_
        refine lv_iload_n S.1 S.2.1 dX0_runBackups_17 rfl (lv_at hl 0 rfl) ?_
        refine bx_iald (v := (itF (turnB g) σ i2) 10 (4 * g + i2)) S hK hw.1 11 1 rfl rfl (by omega) (by decide) rfl dX0_runBackups_18 ?_
        refine lv_iconst (v := 1) S.1 S.2.1 dX0_runBackups_19 (by decide) ?_
        refine br_ne (tgt := 83) S dX0_runBackups_20 (by decide) (fun c20 => ?_) (fun c20 => ?_)
        · refine lv_iinc (v := nI (i2 + 1)) (lv' := [(2, .int (nI (i2 + 1))), (3, .int (nI (4 * g + i2))), (0, .ref (a 0)), (1, .int (nI g))]) S.1 S.2.1 dX0_runBackups_83 hl (k := 3) rfl (nI_1 i2) (by decide) rfl (fun ls hl => ?_)
          refine lv_goto (tgt := 2) S.1 S.2.1 dX0_runBackups_86 (by decide) ?_
          exact ih_2 (i2 + 1) (by omega) _ _ (Wd.cast (congrArg (wX cZ cI a) (by simp only [itF, turnB, tick1, sendF, riseF, eq_true c4, eq_false c20, ↓reduceIte])) hw) _ (lv_sub hl [2, 3, 0] rfl)
        · refine lv_aload_n S.1 S.2.1 dX0_runBackups_23 rfl (lv_at hl 1 rfl) ?_
          refine bx_get S hK hin hw.1 0 rfl rfl 11 (by decide) flX0_runBackups_44 rfl dX0_runBackups_24 ?_
          refine lv_iload_n S.1 S.2.1 dX0_runBackups_27 rfl (lv_at hl 0 rfl) ?_
          refine lv_dup2_11 S.1 S.2.1 dX0_runBackups_28 rfl rfl ?_
          refine bx_iald (v := (itF (turnB g) σ i2) 11 (4 * g + i2)) S hK hw.1 12 1 rfl rfl (by omega) (by decide) rfl dX0_runBackups_29 ?_
          refine lv_iconst (v := 1) S.1 S.2.1 dX0_runBackups_30 (by decide) ?_
          refine lv_isub S.1 S.2.1 dX0_runBackups_31 ?_
          refine bx_iast S hK hw 12 1 rfl rfl (by omega) (by decide) (wX_s11 cZ cI a (itF (turnB g) σ i2) (4 * g + i2) (((itF (turnB g) σ i2) 11 (4 * g + i2)) - 1)) dX0_runBackups_32 (fun H locs hw => ?_)
          refine lv_aload_n S.1 S.2.1 dX0_runBackups_33 rfl (lv_at hl 1 rfl) ?_
          refine bx_get S hK hin hw.1 0 rfl rfl 11 (by decide) flX0_runBackups_44 rfl dX0_runBackups_34 ?_
          refine lv_iload_n S.1 S.2.1 dX0_runBackups_37 rfl (lv_at hl 0 rfl) ?_
          refine bx_iald (v := (up (itF (turnB g) σ i2) 11 (4 * g + i2) (((itF (turnB g) σ i2) 11 (4 * g + i2)) - 1)) 11 (4 * g + i2)) S hK hw.1 12 1 rfl rfl (by omega) (by decide) rfl dX0_runBackups_38 ?_
          refine bz_ne (tgt := 83) S dX0_runBackups_39 (by decide) (fun c39 => ?_) (fun c39 => ?_)
          · refine lv_iinc (v := nI (i2 + 1)) (lv' := [(2, .int (nI (i2 + 1))), (3, .int (nI (4 * g + i2))), (0, .ref (a 0)), (1, .int (nI g))]) S.1 S.2.1 dX0_runBackups_83 hl (k := 3) rfl (nI_1 i2) (by decide) rfl (fun ls hl => ?_)
            refine lv_goto (tgt := 2) S.1 S.2.1 dX0_runBackups_86 (by decide) ?_
            exact ih_2 (i2 + 1) (by omega) _ _ (Wd.cast (congrArg (wX cZ cI a) (by simp only [itF, turnB, tick1, sendF, riseF, eq_true c4, eq_true c20, eq_false c39, ↓reduceIte])) hw) _ (lv_sub hl [2, 3, 0] rfl)
          · refine lv_aload_n S.1 S.2.1 dX0_runBackups_42 rfl (lv_at hl 1 rfl) ?_
            refine bx_get S hK hin hw.1 0 rfl rfl 10 (by decide) flX0_runBackups_41 rfl dX0_runBackups_43 ?_
            refine lv_iload_n S.1 S.2.1 dX0_runBackups_46 rfl (lv_at hl 0 rfl) ?_
            refine lv_iconst (v := 2) S.1 S.2.1 dX0_runBackups_47 (by decide) ?_
            refine bx_iast S hK hw 11 1 rfl rfl (by omega) (by decide) (wX_s10 cZ cI a (up (itF (turnB g) σ i2) 11 (4 * g + i2) (((itF (turnB g) σ i2) 11 (4 * g + i2)) - 1)) (4 * g + i2) 2) dX0_runBackups_48 (fun H locs hw => ?_)
            refine lv_aload_n S.1 S.2.1 dX0_runBackups_49 rfl (lv_at hl 1 rfl) ?_
            refine bx_get S hK hin hw.1 0 rfl rfl 14 (by decide) flX0_runBackups_53 rfl dX0_runBackups_50 ?_
            refine lv_iload_n S.1 S.2.1 dX0_runBackups_53 rfl (lv_at hl 0 rfl) ?_
            refine lv_dup2_11 S.1 S.2.1 dX0_runBackups_54 rfl rfl ?_
            refine bx_iald (v := (up (up (itF (turnB g) σ i2) 11 (4 * g + i2) (((itF (turnB g) σ i2) 11 (4 * g + i2)) - 1)) 10 (4 * g + i2) 2) 14 (4 * g + i2)) S hK hw.1 15 1 rfl rfl (by omega) (by decide) rfl dX0_runBackups_55 ?_
            refine lv_iconst (v := 1) S.1 S.2.1 dX0_runBackups_56 (by decide) ?_
            refine lv_iadd S.1 S.2.1 dX0_runBackups_57 ?_
            refine bx_iast S hK hw 15 1 rfl rfl (by omega) (by decide) (wX_s14 cZ cI a (up (up (itF (turnB g) σ i2) 11 (4 * g + i2) (((itF (turnB g) σ i2) 11 (4 * g + i2)) - 1)) 10 (4 * g + i2) 2) (4 * g + i2) (((up (up (itF (turnB g) σ i2) 11 (4 * g + i2) (((itF (turnB g) σ i2) 11 (4 * g + i2)) - 1)) 10 (4 * g + i2) 2) 14 (4 * g + i2)) + 1)) dX0_runBackups_58 (fun H locs hw => ?_)
            refine lv_aload_n S.1 S.2.1 dX0_runBackups_59 rfl (lv_at hl 1 rfl) ?_
            refine lv_iload_n S.1 S.2.1 dX0_runBackups_60 rfl (lv_at hl 3 rfl) ?_
            refine lv_iload_n S.1 S.2.1 dX0_runBackups_61 rfl (lv_at hl 2 rfl) ?_
            refine lv_aload_n S.1 S.2.1 dX0_runBackups_62 rfl (lv_at hl 1 rfl) ?_
            refine lv_iload_n S.1 S.2.1 dX0_runBackups_63 rfl (lv_at hl 3 rfl) ?_
            refine lv_iload_n S.1 S.2.1 dX0_runBackups_64 rfl (lv_at hl 2 rfl) ?_
            refine bc_vi (As := [.int (nI i2), .int (nI g)]) (rest := [.int (nI g), .int (nI i2), .ref (a 0)]) S hK hw (kX0_loweredPriority l D cZ cI a (up (up (up (itF (turnB g) σ i2) 11 (4 * g + i2) (((itF (turnB g) σ i2) 11 (4 * g + i2)) - 1)) 10 (4 * g + i2) 2) 14 (4 * g + i2) (((up (up (itF (turnB g) σ i2) 11 (4 * g + i2) (((itF (turnB g) σ i2) 11 (4 * g + i2)) - 1)) 10 (4 * g + i2) 2) 14 (4 * g + i2)) + 1)) (r := i2) (g := g) (by omega) (by omega)) (cwV 2 S.2.2.2.2 gX0_runBackups_X0_loweredPriority rfl rfl rfl (by decide +kernel) ⟨Nat.le_of_ble_eq_true rfl, Nat.le_of_ble_eq_true rfl⟩) (q0 := 0) rfl rfl rfl hl.1 rfl (Nat.le_of_ble_eq_true rfl) (Nat.zero_le _) (Nat.zero_le _) dX0_runBackups_65 (fun H locs hw => ?_)
            refine bc_vv (As := [.int (nI i2), .int (nI g), .int (lowP (up (up (up (itF (turnB g) σ i2) 11 (4 * g + i2) (((itF (turnB g) σ i2) 11 (4 * g + i2)) - 1)) 10 (4 * g + i2) 2) 14 (4 * g + i2) (((up (up (itF (turnB g) σ i2) 11 (4 * g + i2) (((itF (turnB g) σ i2) 11 (4 * g + i2)) - 1)) 10 (4 * g + i2) 2) 14 (4 * g + i2)) + 1)) i2 g)]) (rest := []) S hK hw (kX0_advertise l D cZ cI a (up (up (up (itF (turnB g) σ i2) 11 (4 * g + i2) (((itF (turnB g) σ i2) 11 (4 * g + i2)) - 1)) 10 (4 * g + i2) 2) 14 (4 * g + i2) (((up (up (itF (turnB g) σ i2) 11 (4 * g + i2) (((itF (turnB g) σ i2) 11 (4 * g + i2)) - 1)) 10 (4 * g + i2) 2) 14 (4 * g + i2)) + 1)) (q := i2) (g := g) (lowP (up (up (up (itF (turnB g) σ i2) 11 (4 * g + i2) (((itF (turnB g) σ i2) 11 (4 * g + i2)) - 1)) 10 (4 * g + i2) 2) 14 (4 * g + i2) (((up (up (itF (turnB g) σ i2) 11 (4 * g + i2) (((itF (turnB g) σ i2) 11 (4 * g + i2)) - 1)) 10 (4 * g + i2) 2) 14 (4 * g + i2)) + 1)) i2 g) (by omega) (by omega)) (cwV 3 S.2.2.2.2 gX0_runBackups_X0_advertise rfl rfl rfl (by decide +kernel) ⟨Nat.le_of_ble_eq_true rfl, Nat.le_of_ble_eq_true rfl⟩) (q0 := 0) rfl rfl rfl hl.1 rfl (Nat.le_of_ble_eq_true rfl) (Nat.zero_le _) (Nat.zero_le _) dX0_runBackups_68 (fun H locs hw => ?_)
            refine lv_aload_n S.1 S.2.1 dX0_runBackups_71 rfl (lv_at hl 1 rfl) ?_
            refine bx_get S hK hin hw.1 0 rfl rfl 11 (by decide) flX0_runBackups_44 rfl dX0_runBackups_72 ?_
            refine lv_iload_n S.1 S.2.1 dX0_runBackups_75 rfl (lv_at hl 0 rfl) ?_
            refine lv_aload_n S.1 S.2.1 dX0_runBackups_76 rfl (lv_at hl 1 rfl) ?_
            refine bx_get S hK hin hw.1 0 rfl rfl 4 (by decide) flX0_runBackups_23 rfl dX0_runBackups_77 ?_
            refine lv_iload_n S.1 S.2.1 dX0_runBackups_80 rfl (lv_at hl 2 rfl) ?_
            refine bx_iald (v := (advF (up (up (up (itF (turnB g) σ i2) 11 (4 * g + i2) (((itF (turnB g) σ i2) 11 (4 * g + i2)) - 1)) 10 (4 * g + i2) 2) 14 (4 * g + i2) (((up (up (itF (turnB g) σ i2) 11 (4 * g + i2) (((itF (turnB g) σ i2) 11 (4 * g + i2)) - 1)) 10 (4 * g + i2) 2) 14 (4 * g + i2)) + 1)) i2 g (lowP (up (up (up (itF (turnB g) σ i2) 11 (4 * g + i2) (((itF (turnB g) σ i2) 11 (4 * g + i2)) - 1)) 10 (4 * g + i2) 2) 14 (4 * g + i2) (((up (up (itF (turnB g) σ i2) 11 (4 * g + i2) (((itF (turnB g) σ i2) 11 (4 * g + i2)) - 1)) 10 (4 * g + i2) 2) 14 (4 * g + i2)) + 1)) i2 g)) 4 g) S hK hw.1 5 1 rfl rfl (by omega) (by decide) rfl dX0_runBackups_81 ?_
            refine bx_iast S hK hw 12 1 rfl rfl (by omega) (by decide) (wX_s11 cZ cI a (advF (up (up (up (itF (turnB g) σ i2) 11 (4 * g + i2) (((itF (turnB g) σ i2) 11 (4 * g + i2)) - 1)) 10 (4 * g + i2) 2) 14 (4 * g + i2) (((up (up (itF (turnB g) σ i2) 11 (4 * g + i2) (((itF (turnB g) σ i2) 11 (4 * g + i2)) - 1)) 10 (4 * g + i2) 2) 14 (4 * g + i2)) + 1)) i2 g (lowP (up (up (up (itF (turnB g) σ i2) 11 (4 * g + i2) (((itF (turnB g) σ i2) 11 (4 * g + i2)) - 1)) 10 (4 * g + i2) 2) 14 (4 * g + i2) (((up (up (itF (turnB g) σ i2) 11 (4 * g + i2) (((itF (turnB g) σ i2) 11 (4 * g + i2)) - 1)) 10 (4 * g + i2) 2) 14 (4 * g + i2)) + 1)) i2 g)) (4 * g + i2) ((advF (up (up (up (itF (turnB g) σ i2) 11 (4 * g + i2) (((itF (turnB g) σ i2) 11 (4 * g + i2)) - 1)) 10 (4 * g + i2) 2) 14 (4 * g + i2) (((up (up (itF (turnB g) σ i2) 11 (4 * g + i2) (((itF (turnB g) σ i2) 11 (4 * g + i2)) - 1)) 10 (4 * g + i2) 2) 14 (4 * g + i2)) + 1)) i2 g (lowP (up (up (up (itF (turnB g) σ i2) 11 (4 * g + i2) (((itF (turnB g) σ i2) 11 (4 * g + i2)) - 1)) 10 (4 * g + i2) 2) 14 (4 * g + i2) (((up (up (itF (turnB g) σ i2) 11 (4 * g + i2) (((itF (turnB g) σ i2) 11 (4 * g + i2)) - 1)) 10 (4 * g + i2) 2) 14 (4 * g + i2)) + 1)) i2 g)) 4 g)) dX0_runBackups_82 (fun H locs hw => ?_)
            refine lv_iinc (v := nI (i2 + 1)) (lv' := [(2, .int (nI (i2 + 1))), (3, .int (nI (4 * g + i2))), (0, .ref (a 0)), (1, .int (nI g))]) S.1 S.2.1 dX0_runBackups_83 hl (k := 3) rfl (nI_1 i2) (by decide) rfl (fun ls hl => ?_)
            refine lv_goto (tgt := 2) S.1 S.2.1 dX0_runBackups_86 (by decide) ?_
            exact ih_2 (i2 + 1) (by omega) _ _ (Wd.cast (congrArg (wX cZ cI a) (by simp only [itF, turnB, tick1, sendF, riseF, eq_true c4, eq_true c20, eq_true c39, ↓reduceIte])) hw) _ (lv_sub hl [2, 3, 0] rfl)
  exact L2 (4 - 0) 0 (by omega) _ _ hw _ (lv_sub hl [1, 2, 0] rfl)

theorem inX0_membersWith : ∀ w ∈ u_ws RX0 TX0 18, w ∈ wsX0_membersWith := fun _ h => List.mem_cons_of_mem _ (List.mem_append_right _ h)
theorem flX0_membersWith_41 : Cond.fieldLink RX0 41 "StandbyPair" "roles" "[I" ∈ wsX0_membersWith := by decide +kernel
set_option maxHeartbeats 4000000 in
set_option maxRecDepth 100000 in
theorem kX0_membersWith (l : Launch) (D : va_G) (cZ cI : ClassId) (a : Nat → Nat) (σ : sC) (role : Int32) {g : Nat} (hg : g < 3) : MI l yX0_membersWith wsX0_membersWith ({ frames := 1, cells := 0, slots := 0, locals := 21 } : Room) D (tyZ cZ cI) [.ref (a 0), .int role, .int (nI g)] (wX cZ cI a σ) (memW σ role g) (wX cZ cI a σ) := by
  refine MI.of (cc := cX0_membersWith) (maxL := 5) (ty := .int) (by decide) rfl (rfl) ⟨rfl, rfl⟩ (Nat.le_of_ble_eq_true rfl) ?_
  intro p e s m args below meth c A Q S hK hret ls hl hw
  replace hl : lv_has ls 5 [(0, .ref (a 0)), (1, .int role), (2, .int (nI g))] := hl
  replace S : CallFix p m c cX0_membersWith 5 s args wsX0_membersWith RX0 := S
  have hin := inX0_membersWith
  refine lv_iconst (v := 0) S.1 S.2.1 dX0_membersWith_0 (by decide) ?_
  refine lv_istore_n (lv' := [(3, .int 0), (0, .ref (a 0)), (1, .int role), (2, .int (nI g))]) S.1 S.2.1 dX0_membersWith_1 rfl hl (by decide) rfl (fun ls hl => ?_)
  refine lv_iconst (v := nI 0) S.1 S.2.1 dX0_membersWith_2 (by decide) ?_
  refine lv_istore (lv' := [(4, .int (nI 0)), (3, .int 0), (0, .ref (a 0)), (1, .int role), (2, .int (nI g))]) S.1 S.2.1 dX0_membersWith_3 hl (by decide) rfl (fun ls hl => ?_)
  have L5 : ∀ (n i5 : Nat), i5 + n = 4 → ∀ (H : Heap) (locs : List Loc), Wd D A s.heap (wX cZ cI a σ) H locs → ∀ ls : Array Slot, lv_has ls 5 [(0, .ref (a 0)), (1, .int role), (2, .int (nI g)), (3, .int (itF (memS σ role g) 0 i5)), (4, .int (nI i5))] → W p l e ({ frames := 1, cells := 0, slots := 0, locals := 21 } : Room) s m args below meth c H locs 0 0 Q (F0 m 5 ls []) := by
    intro n
    induction n with
    | zero =>
      intro i5 hi H locs hw ls hl
      obtain rfl : i5 = 4 := by omega
      refine lv_iload S.1 S.2.1 dX0_membersWith_5 (lv_at hl 4 rfl) ?_
      refine lv_iconst (v := nI 4) S.1 S.2.1 dX0_membersWith_7 (by decide) ?_
      refine br_ge (tgt := 39) S dX0_membersWith_8 (by decide) (fun c8 => ?_) (fun c8 => ?_)
      · refine lv_iload_n S.1 S.2.1 dX0_membersWith_39 rfl (lv_at hl 3 rfl) ?_
        exact hret hw dX0_membersWith_40 (rfl) (congrArg (wX cZ cI a) (rfl))
      · exact absurd c8 (nlt_nI (by decide))
    | succ n ih_5 =>
      intro i5 hi H locs hw ls hl
      have hi5 : i5 < 4 := by omega
      refine lv_iload S.1 S.2.1 dX0_membersWith_5 (lv_at hl 4 rfl) ?_
      refine lv_iconst (v := nI 4) S.1 S.2.1 dX0_membersWith_7 (by decide) ?_
      refine br_ge (tgt := 39) S dX0_membersWith_8 (by decide) (fun c8 => ?_) (fun c8 => ?_)
      · exact absurd c8 (not_not_intro (lt_nI hi5 (by decide)))
      · refine lv_aload_n S.1 S.2.1 dX0_membersWith_11 rfl (lv_at hl 0 rfl) ?_
        refine bx_get S hK hin hw.1 0 rfl rfl 10 (by decide) flX0_membersWith_41 rfl dX0_membersWith_12 ?_
        refine lv_iload S.1 S.2.1 dX0_membersWith_15 (lv_at hl 4 rfl) ?_
        refine lv_iload_n S.1 S.2.1 dX0_membersWith_17 rfl (lv_at hl 2 rfl) ?_
        refine bc_si (As := [.int (nI i5), .int (nI g)]) (rest := [.ref (a 11)]) S hK hw (kX0_placeOf l D _ (r := i5) (g := g) (by omega) (by omega)) (va_cwS 2 S.2.2.2.2 gX0_membersWith_X0_placeOf rfl rfl rfl (by decide +kernel) ⟨Nat.le_of_ble_eq_true rfl, Nat.le_of_ble_eq_true rfl⟩) rfl hl.1 rfl (Nat.le_of_ble_eq_true rfl) (Nat.zero_le _) (Nat.zero_le _) dX0_membersWith_18 (fun H locs hw => ?_)
        refine bx_iald (v := σ 10 (4 * g + i5)) S hK hw.1 11 1 rfl rfl (by omega) (by decide) rfl dX0_membersWith_21 ?_
        refine lv_iload_n S.1 S.2.1 dX0_membersWith_22 rfl (lv_at hl 1 rfl) ?_
        refine br_ne (tgt := 33) S dX0_membersWith_23 (by decide) (fun c23 => ?_) (fun c23 => ?_)
        · refine lv_iinc (v := nI (i5 + 1)) (lv' := [(4, .int (nI (i5 + 1))), (0, .ref (a 0)), (1, .int role), (2, .int (nI g)), (3, .int (itF (memS σ role g) 0 i5))]) S.1 S.2.1 dX0_membersWith_33 hl (k := 4) rfl (nI_1 i5) (by decide) rfl (fun ls hl => ?_)
          refine lv_goto (tgt := 5) S.1 S.2.1 dX0_membersWith_36 (by decide) ?_
          have ea : itF (memS σ role g) 0 (i5 + 1) = itF (memS σ role g) 0 i5 := by simp only [itF, memS, eq_true c8, eq_false c23, ↓reduceIte]
          exact ih_5 (i5 + 1) (by omega) _ _ hw _ (by rw [ea]; exact lv_sub hl [1, 2, 3, 4, 0] rfl)
        · refine lv_iload_n S.1 S.2.1 dX0_membersWith_26 rfl (lv_at hl 3 rfl) ?_
          refine lv_iconst (v := (1 : Int32)) S.1 S.2.1 dX0_membersWith_27 (by decide) ?_
          refine lv_iload S.1 S.2.1 dX0_membersWith_28 (lv_at hl 4 rfl) ?_
          refine lv_ishl S.1 S.2.1 dX0_membersWith_30 ?_
          refine lv_iadd S.1 S.2.1 dX0_membersWith_31 ?_
          refine lv_istore_n (lv' := [(3, .int ((itF (memS σ role g) 0 i5) + ((1 : Int32) <<< ((nI i5) &&& 31)))), (0, .ref (a 0)), (1, .int role), (2, .int (nI g)), (4, .int (nI i5))]) S.1 S.2.1 dX0_membersWith_32 rfl hl (by decide) rfl (fun ls hl => ?_)
          refine lv_iinc (v := nI (i5 + 1)) (lv' := [(4, .int (nI (i5 + 1))), (3, .int ((itF (memS σ role g) 0 i5) + ((1 : Int32) <<< ((nI i5) &&& 31)))), (0, .ref (a 0)), (1, .int role), (2, .int (nI g))]) S.1 S.2.1 dX0_membersWith_33 hl (k := 4) rfl (nI_1 i5) (by decide) rfl (fun ls hl => ?_)
          refine lv_goto (tgt := 5) S.1 S.2.1 dX0_membersWith_36 (by decide) ?_
          have ea : itF (memS σ role g) 0 (i5 + 1) = (itF (memS σ role g) 0 i5) + ((1 : Int32) <<< ((nI i5) &&& 31)) := by simp only [itF, memS, eq_true c8, eq_true c23, ↓reduceIte]
          exact ih_5 (i5 + 1) (by omega) _ _ hw _ (by rw [ea]; exact lv_sub hl [2, 3, 4, 1, 0] rfl)
  exact L5 (4 - 0) 0 (by omega) _ _ hw _ (lv_sub hl [2, 3, 4, 1, 0] rfl)

theorem inX0_noteGap : ∀ w ∈ u_ws RX0 TX0 18, w ∈ wsX0_noteGap := fun _ h => List.mem_cons_of_mem _ (List.mem_append_right _ h)
theorem flX0_noteGap_32 : Cond.fieldLink RX0 32 "StandbyPair" "gapTicks" "[I" ∈ wsX0_noteGap := by decide +kernel
set_option maxHeartbeats 4000000 in
set_option maxRecDepth 100000 in
theorem kX0_noteGap (l : Launch) (D : va_G) (cZ cI : ClassId) (a : Nat → Nat) (σ : sC) {g : Nat} (hg : g < 3) : MV l yX0_noteGap wsX0_noteGap ({ frames := 2, cells := 0, slots := 0, locals := 45 } : Room) D (tyZ cZ cI) [.ref (a 0), .int (nI g)] (wX cZ cI a σ) (wX cZ cI a (gapF σ g)) := by
  refine MV.of (cc := cX0_noteGap) (maxL := 2) (by decide) rfl ⟨rfl, rfl⟩ (Nat.le_of_ble_eq_true rfl) ?_
  intro p e s m args below meth c A Q S hK hret ls hl hw
  replace hl : lv_has ls 2 [(0, .ref (a 0)), (1, .int (nI g))] := hl
  replace S : CallFix p m c cX0_noteGap 2 s args wsX0_noteGap RX0 := S
  have hin := inX0_noteGap
  refine lv_aload_n S.1 S.2.1 dX0_noteGap_0 rfl (lv_at hl 0 rfl) ?_
  refine lv_iconst (v := 2) S.1 S.2.1 dX0_noteGap_1 (by decide) ?_
  refine lv_iload_n S.1 S.2.1 dX0_noteGap_2 rfl (lv_at hl 1 rfl) ?_
  refine bc_vi (As := [.int 2, .int (nI g)]) (rest := []) S hK hw (kX0_membersWith l D cZ cI a σ 2 (g := g) (by omega)) (cwV 2 S.2.2.2.2 gX0_noteGap_X0_membersWith rfl rfl rfl (by decide +kernel) ⟨Nat.le_of_ble_eq_true rfl, Nat.le_of_ble_eq_true rfl⟩) (q0 := 0) rfl rfl rfl hl.1 rfl (Nat.le_of_ble_eq_true rfl) (Nat.zero_le _) (Nat.zero_le _) dX0_noteGap_3 (fun H locs hw => ?_)
  refine bz_ne (tgt := 19) S dX0_noteGap_6 (by decide) (fun c6 => ?_) (fun c6 => ?_)
  · exact hret hw dX0_noteGap_19 (congrArg (wX cZ cI a) (by simp only [gapF, eq_false c6, ↓reduceIte]))
  · refine lv_aload_n S.1 S.2.1 dX0_noteGap_9 rfl (lv_at hl 0 rfl) ?_
    refine bx_get S hK hin hw.1 0 rfl rfl 7 (by decide) flX0_noteGap_32 rfl dX0_noteGap_10 ?_
    refine lv_iload_n S.1 S.2.1 dX0_noteGap_13 rfl (lv_at hl 1 rfl) ?_
    refine lv_dup2_11 S.1 S.2.1 dX0_noteGap_14 rfl rfl ?_
    refine bx_iald (v := σ 7 g) S hK hw.1 8 1 rfl rfl (by omega) (by decide) rfl dX0_noteGap_15 ?_
    refine lv_iconst (v := 1) S.1 S.2.1 dX0_noteGap_16 (by decide) ?_
    refine lv_iadd S.1 S.2.1 dX0_noteGap_17 ?_
    refine bx_iast S hK hw 8 1 rfl rfl (by omega) (by decide) (wX_s7 cZ cI a σ g ((σ 7 g) + 1)) dX0_noteGap_18 (fun H locs hw => ?_)
    exact hret hw dX0_noteGap_19 (congrArg (wX cZ cI a) (by simp only [gapF, eq_true c6, ↓reduceIte]))
