theorem inX0_init : ∀ w ∈ u_ws RX0 TX0 18, w ∈ wsX0_init := fun _ h => List.mem_cons_of_mem _ (List.mem_append_right _ h)
theorem flX0_init_9 : Cond.fieldLink RX0 9 "StandbyPair" "alive" "[Z" ∈ wsX0_init := by decide +kernel
theorem flX0_init_13 : Cond.fieldLink RX0 13 "StandbyPair" "joinedPairs" "[Z" ∈ wsX0_init := by decide +kernel
theorem flX0_init_16 : Cond.fieldLink RX0 16 "StandbyPair" "linkUp" "[Z" ∈ wsX0_init := by decide +kernel
theorem flX0_init_19 : Cond.fieldLink RX0 19 "StandbyPair" "decrements" "[I" ∈ wsX0_init := by decide +kernel
theorem flX0_init_23 : Cond.fieldLink RX0 23 "StandbyPair" "periods" "[I" ∈ wsX0_init := by decide +kernel
theorem flX0_init_26 : Cond.fieldLink RX0 26 "StandbyPair" "preempting" "[Z" ∈ wsX0_init := by decide +kernel
theorem flX0_init_29 : Cond.fieldLink RX0 29 "StandbyPair" "delays" "[I" ∈ wsX0_init := by decide +kernel
theorem flX0_init_32 : Cond.fieldLink RX0 32 "StandbyPair" "gapTicks" "[I" ∈ wsX0_init := by decide +kernel
theorem flX0_init_35 : Cond.fieldLink RX0 35 "StandbyPair" "advertisements" "[I" ∈ wsX0_init := by decide +kernel
theorem flX0_init_38 : Cond.fieldLink RX0 38 "StandbyPair" "basePriorities" "[I" ∈ wsX0_init := by decide +kernel
theorem flX0_init_41 : Cond.fieldLink RX0 41 "StandbyPair" "roles" "[I" ∈ wsX0_init := by decide +kernel
theorem flX0_init_44 : Cond.fieldLink RX0 44 "StandbyPair" "timers" "[I" ∈ wsX0_init := by decide +kernel
theorem flX0_init_47 : Cond.fieldLink RX0 47 "StandbyPair" "heard" "[I" ∈ wsX0_init := by decide +kernel
theorem flX0_init_50 : Cond.fieldLink RX0 50 "StandbyPair" "served" "[I" ∈ wsX0_init := by decide +kernel
theorem flX0_init_53 : Cond.fieldLink RX0 53 "StandbyPair" "promotions" "[I" ∈ wsX0_init := by decide +kernel
theorem flX0_init_56 : Cond.fieldLink RX0 56 "StandbyPair" "repairAsked" "[Z" ∈ wsX0_init := by decide +kernel
set_option maxHeartbeats 4000000 in
set_option maxRecDepth 100000 in
theorem kX0_init (l : Launch) (D : va_G) (cZ cI : ClassId) : MC l yX0_init wsX0_init ({ frames := 1, cells := 16, slots := 135, locals := 12 } : Room) D (tyZ cZ cI) 0 [.null, .null, .null, .null, .null, .null, .null, .null, .null, .null, .null, .null, .null, .null, .null, .null, .int 0, .int 0] 16 135 (fun a => wX cZ cI a s0) := by
  refine MC.of (cc := cX0_init) (maxL := 2) (by decide) rfl rfl (Nat.le_of_ble_eq_true rfl) ?_
  intro h0 p e s m args below meth c A Q S hK hin2 hret ls hl hw
  replace S : CallFix p m c cX0_init 2 s args wsX0_init RX0 := S
  have hin := inX0_init
  have hai : Cond.arrayClass .int ∈ wsX0_init := by decide +kernel
  have haz : Cond.arrayClass .boolean ∈ wsX0_init := by decide +kernel
  refine lv_aload_n S.1 S.2.1 dX0_init_0 rfl (lv_at hl 0 rfl) ?_
  refine W.objInit S.1 S.2.1 S.2.2.2.1 (S.2.2.2.2 (.methodLink RX0 1 objectInit) (by decide +kernel)) (S.2.2.2.2 (.instanceMethod objectInit) (by decide +kernel)) (S.2.2.2.2 (.code objectInit ⟨#[0xb1]⟩ 1 none) (by decide +kernel)) rfl (hl.1.trans S.2.2.1.symm) rfl dX0_init_1 (Nat.le_of_ble_eq_true rfl) (Nat.le_of_ble_eq_true rfl) ?_
  refine W.eq (g2 := F0 m 4 ls []) rfl ?_
  refine lv_aload_n S.1 S.2.1 dX0_init_4 rfl (lv_at hl 0 rfl) ?_
  refine lv_iconst (v := nI 4) S.1 S.2.1 dX0_init_5 (by decide) ?_
  refine bx_newz (c' := 1) (s' := 4) S hK hw (by decide) haz rfl rfl (by decide) (by decide) dX0_init_6 (fun q1 H hw => ?_)
  replace hw : Wd D A s.heap [(h0, .inr (0, [.null, .null, .null, .null, .null, .null, .null, .null, .null, .null, .null, .null, .null, .null, .null, .null, .int 0, .int 0])), (q1, .inl (cZ, 4, .inl (fun _ => 0)))] H _ := hw
  refine bx_putF (ws' := [(h0, .inr (0, [.ref q1, .null, .null, .null, .null, .null, .null, .null, .null, .null, .null, .null, .null, .null, .null, .null, .int 0, .int 0])), (q1, .inl (cZ, 4, .inl (fun _ => 0)))]) (v := .ref q1) (ty := .array .boolean) S hK hin tyX0 tyX0_ok nmX0 hw hin2 rfl rfl 0 (by decide) flX0_init_9 rfl rfl (by decide +kernel) rfl rfl (Nat.le_of_ble_eq_true rfl) rfl dX0_init_8 (fun H locs hw => ?_)
  refine lv_aload_n S.1 S.2.1 dX0_init_11 rfl (lv_at hl 0 rfl) ?_
  refine lv_bipush (v := nI 16) S.1 S.2.1 dX0_init_12 (by decide) ?_
  refine bx_newz (c' := 2) (s' := 20) S hK hw (by decide) haz rfl rfl (by decide) (by decide) dX0_init_14 (fun q2 H hw => ?_)
  replace hw : Wd D A s.heap [(h0, .inr (0, [.ref q1, .null, .null, .null, .null, .null, .null, .null, .null, .null, .null, .null, .null, .null, .null, .null, .int 0, .int 0])), (q1, .inl (cZ, 4, .inl (fun _ => 0))), (q2, .inl (cZ, 16, .inl (fun _ => 0)))] H _ := hw
  refine bx_putF (ws' := [(h0, .inr (0, [.ref q1, .ref q2, .null, .null, .null, .null, .null, .null, .null, .null, .null, .null, .null, .null, .null, .null, .int 0, .int 0])), (q1, .inl (cZ, 4, .inl (fun _ => 0))), (q2, .inl (cZ, 16, .inl (fun _ => 0)))]) (v := .ref q2) (ty := .array .boolean) S hK hin tyX0 tyX0_ok nmX0 hw hin2 rfl rfl 1 (by decide) flX0_init_13 rfl rfl (by decide +kernel) rfl rfl (Nat.le_of_ble_eq_true rfl) rfl dX0_init_16 (fun H locs hw => ?_)
  refine lv_aload_n S.1 S.2.1 dX0_init_19 rfl (lv_at hl 0 rfl) ?_
  refine lv_bipush (v := nI 8) S.1 S.2.1 dX0_init_20 (by decide) ?_
  refine bx_newz (c' := 3) (s' := 28) S hK hw (by decide) haz rfl rfl (by decide) (by decide) dX0_init_22 (fun q3 H hw => ?_)
  replace hw : Wd D A s.heap [(h0, .inr (0, [.ref q1, .ref q2, .null, .null, .null, .null, .null, .null, .null, .null, .null, .null, .null, .null, .null, .null, .int 0, .int 0])), (q1, .inl (cZ, 4, .inl (fun _ => 0))), (q2, .inl (cZ, 16, .inl (fun _ => 0))), (q3, .inl (cZ, 8, .inl (fun _ => 0)))] H _ := hw
  refine bx_putF (ws' := [(h0, .inr (0, [.ref q1, .ref q2, .ref q3, .null, .null, .null, .null, .null, .null, .null, .null, .null, .null, .null, .null, .null, .int 0, .int 0])), (q1, .inl (cZ, 4, .inl (fun _ => 0))), (q2, .inl (cZ, 16, .inl (fun _ => 0))), (q3, .inl (cZ, 8, .inl (fun _ => 0)))]) (v := .ref q3) (ty := .array .boolean) S hK hin tyX0 tyX0_ok nmX0 hw hin2 rfl rfl 2 (by decide) flX0_init_16 rfl rfl (by decide +kernel) rfl rfl (Nat.le_of_ble_eq_true rfl) rfl dX0_init_24 (fun H locs hw => ?_)
  refine lv_aload_n S.1 S.2.1 dX0_init_27 rfl (lv_at hl 0 rfl) ?_
  refine lv_bipush (v := nI 8) S.1 S.2.1 dX0_init_28 (by decide) ?_
  refine bx_newi (c' := 4) (s' := 36) S hK hw (by decide) hai rfl rfl (by decide) (by decide) dX0_init_30 (fun q4 H hw => ?_)
  replace hw : Wd D A s.heap [(h0, .inr (0, [.ref q1, .ref q2, .ref q3, .null, .null, .null, .null, .null, .null, .null, .null, .null, .null, .null, .null, .null, .int 0, .int 0])), (q1, .inl (cZ, 4, .inl (fun _ => 0))), (q2, .inl (cZ, 16, .inl (fun _ => 0))), (q3, .inl (cZ, 8, .inl (fun _ => 0))), (q4, .inl (cI, 8, .inl (fun _ => 0)))] H _ := hw
  refine bx_putF (ws' := [(h0, .inr (0, [.ref q1, .ref q2, .ref q3, .ref q4, .null, .null, .null, .null, .null, .null, .null, .null, .null, .null, .null, .null, .int 0, .int 0])), (q1, .inl (cZ, 4, .inl (fun _ => 0))), (q2, .inl (cZ, 16, .inl (fun _ => 0))), (q3, .inl (cZ, 8, .inl (fun _ => 0))), (q4, .inl (cI, 8, .inl (fun _ => 0)))]) (v := .ref q4) (ty := .array .int) S hK hin tyX0 tyX0_ok nmX0 hw hin2 rfl rfl 3 (by decide) flX0_init_19 rfl rfl (by decide +kernel) rfl rfl (Nat.le_of_ble_eq_true rfl) rfl dX0_init_32 (fun H locs hw => ?_)
  refine lv_aload_n S.1 S.2.1 dX0_init_35 rfl (lv_at hl 0 rfl) ?_
  refine lv_iconst (v := nI 3) S.1 S.2.1 dX0_init_36 (by decide) ?_
  refine bx_newi (c' := 5) (s' := 39) S hK hw (by decide) hai rfl rfl (by decide) (by decide) dX0_init_37 (fun q5 H hw => ?_)
  replace hw : Wd D A s.heap [(h0, .inr (0, [.ref q1, .ref q2, .ref q3, .ref q4, .null, .null, .null, .null, .null, .null, .null, .null, .null, .null, .null, .null, .int 0, .int 0])), (q1, .inl (cZ, 4, .inl (fun _ => 0))), (q2, .inl (cZ, 16, .inl (fun _ => 0))), (q3, .inl (cZ, 8, .inl (fun _ => 0))), (q4, .inl (cI, 8, .inl (fun _ => 0))), (q5, .inl (cI, 3, .inl (fun _ => 0)))] H _ := hw
  refine bx_putF (ws' := [(h0, .inr (0, [.ref q1, .ref q2, .ref q3, .ref q4, .ref q5, .null, .null, .null, .null, .null, .null, .null, .null, .null, .null, .null, .int 0, .int 0])), (q1, .inl (cZ, 4, .inl (fun _ => 0))), (q2, .inl (cZ, 16, .inl (fun _ => 0))), (q3, .inl (cZ, 8, .inl (fun _ => 0))), (q4, .inl (cI, 8, .inl (fun _ => 0))), (q5, .inl (cI, 3, .inl (fun _ => 0)))]) (v := .ref q5) (ty := .array .int) S hK hin tyX0 tyX0_ok nmX0 hw hin2 rfl rfl 4 (by decide) flX0_init_23 rfl rfl (by decide +kernel) rfl rfl (Nat.le_of_ble_eq_true rfl) rfl dX0_init_39 (fun H locs hw => ?_)
  refine lv_aload_n S.1 S.2.1 dX0_init_42 rfl (lv_at hl 0 rfl) ?_
  refine lv_iconst (v := nI 3) S.1 S.2.1 dX0_init_43 (by decide) ?_
  refine bx_newz (c' := 6) (s' := 42) S hK hw (by decide) haz rfl rfl (by decide) (by decide) dX0_init_44 (fun q6 H hw => ?_)
  replace hw : Wd D A s.heap [(h0, .inr (0, [.ref q1, .ref q2, .ref q3, .ref q4, .ref q5, .null, .null, .null, .null, .null, .null, .null, .null, .null, .null, .null, .int 0, .int 0])), (q1, .inl (cZ, 4, .inl (fun _ => 0))), (q2, .inl (cZ, 16, .inl (fun _ => 0))), (q3, .inl (cZ, 8, .inl (fun _ => 0))), (q4, .inl (cI, 8, .inl (fun _ => 0))), (q5, .inl (cI, 3, .inl (fun _ => 0))), (q6, .inl (cZ, 3, .inl (fun _ => 0)))] H _ := hw
  refine bx_putF (ws' := [(h0, .inr (0, [.ref q1, .ref q2, .ref q3, .ref q4, .ref q5, .ref q6, .null, .null, .null, .null, .null, .null, .null, .null, .null, .null, .int 0, .int 0])), (q1, .inl (cZ, 4, .inl (fun _ => 0))), (q2, .inl (cZ, 16, .inl (fun _ => 0))), (q3, .inl (cZ, 8, .inl (fun _ => 0))), (q4, .inl (cI, 8, .inl (fun _ => 0))), (q5, .inl (cI, 3, .inl (fun _ => 0))), (q6, .inl (cZ, 3, .inl (fun _ => 0)))]) (v := .ref q6) (ty := .array .boolean) S hK hin tyX0 tyX0_ok nmX0 hw hin2 rfl rfl 5 (by decide) flX0_init_26 rfl rfl (by decide +kernel) rfl rfl (Nat.le_of_ble_eq_true rfl) rfl dX0_init_46 (fun H locs hw => ?_)
  refine lv_aload_n S.1 S.2.1 dX0_init_49 rfl (lv_at hl 0 rfl) ?_
  refine lv_iconst (v := nI 3) S.1 S.2.1 dX0_init_50 (by decide) ?_
  refine bx_newi (c' := 7) (s' := 45) S hK hw (by decide) hai rfl rfl (by decide) (by decide) dX0_init_51 (fun q7 H hw => ?_)
  replace hw : Wd D A s.heap [(h0, .inr (0, [.ref q1, .ref q2, .ref q3, .ref q4, .ref q5, .ref q6, .null, .null, .null, .null, .null, .null, .null, .null, .null, .null, .int 0, .int 0])), (q1, .inl (cZ, 4, .inl (fun _ => 0))), (q2, .inl (cZ, 16, .inl (fun _ => 0))), (q3, .inl (cZ, 8, .inl (fun _ => 0))), (q4, .inl (cI, 8, .inl (fun _ => 0))), (q5, .inl (cI, 3, .inl (fun _ => 0))), (q6, .inl (cZ, 3, .inl (fun _ => 0))), (q7, .inl (cI, 3, .inl (fun _ => 0)))] H _ := hw
  refine bx_putF (ws' := [(h0, .inr (0, [.ref q1, .ref q2, .ref q3, .ref q4, .ref q5, .ref q6, .ref q7, .null, .null, .null, .null, .null, .null, .null, .null, .null, .int 0, .int 0])), (q1, .inl (cZ, 4, .inl (fun _ => 0))), (q2, .inl (cZ, 16, .inl (fun _ => 0))), (q3, .inl (cZ, 8, .inl (fun _ => 0))), (q4, .inl (cI, 8, .inl (fun _ => 0))), (q5, .inl (cI, 3, .inl (fun _ => 0))), (q6, .inl (cZ, 3, .inl (fun _ => 0))), (q7, .inl (cI, 3, .inl (fun _ => 0)))]) (v := .ref q7) (ty := .array .int) S hK hin tyX0 tyX0_ok nmX0 hw hin2 rfl rfl 6 (by decide) flX0_init_29 rfl rfl (by decide +kernel) rfl rfl (Nat.le_of_ble_eq_true rfl) rfl dX0_init_53 (fun H locs hw => ?_)
  refine lv_aload_n S.1 S.2.1 dX0_init_56 rfl (lv_at hl 0 rfl) ?_
  refine lv_iconst (v := nI 3) S.1 S.2.1 dX0_init_57 (by decide) ?_
  refine bx_newi (c' := 8) (s' := 48) S hK hw (by decide) hai rfl rfl (by decide) (by decide) dX0_init_58 (fun q8 H hw => ?_)
  replace hw : Wd D A s.heap [(h0, .inr (0, [.ref q1, .ref q2, .ref q3, .ref q4, .ref q5, .ref q6, .ref q7, .null, .null, .null, .null, .null, .null, .null, .null, .null, .int 0, .int 0])), (q1, .inl (cZ, 4, .inl (fun _ => 0))), (q2, .inl (cZ, 16, .inl (fun _ => 0))), (q3, .inl (cZ, 8, .inl (fun _ => 0))), (q4, .inl (cI, 8, .inl (fun _ => 0))), (q5, .inl (cI, 3, .inl (fun _ => 0))), (q6, .inl (cZ, 3, .inl (fun _ => 0))), (q7, .inl (cI, 3, .inl (fun _ => 0))), (q8, .inl (cI, 3, .inl (fun _ => 0)))] H _ := hw
  refine bx_putF (ws' := [(h0, .inr (0, [.ref q1, .ref q2, .ref q3, .ref q4, .ref q5, .ref q6, .ref q7, .ref q8, .null, .null, .null, .null, .null, .null, .null, .null, .int 0, .int 0])), (q1, .inl (cZ, 4, .inl (fun _ => 0))), (q2, .inl (cZ, 16, .inl (fun _ => 0))), (q3, .inl (cZ, 8, .inl (fun _ => 0))), (q4, .inl (cI, 8, .inl (fun _ => 0))), (q5, .inl (cI, 3, .inl (fun _ => 0))), (q6, .inl (cZ, 3, .inl (fun _ => 0))), (q7, .inl (cI, 3, .inl (fun _ => 0))), (q8, .inl (cI, 3, .inl (fun _ => 0)))]) (v := .ref q8) (ty := .array .int) S hK hin tyX0 tyX0_ok nmX0 hw hin2 rfl rfl 7 (by decide) flX0_init_32 rfl rfl (by decide +kernel) rfl rfl (Nat.le_of_ble_eq_true rfl) rfl dX0_init_60 (fun H locs hw => ?_)
  refine lv_aload_n S.1 S.2.1 dX0_init_63 rfl (lv_at hl 0 rfl) ?_
  refine lv_iconst (v := nI 3) S.1 S.2.1 dX0_init_64 (by decide) ?_
  refine bx_newi (c' := 9) (s' := 51) S hK hw (by decide) hai rfl rfl (by decide) (by decide) dX0_init_65 (fun q9 H hw => ?_)
  replace hw : Wd D A s.heap [(h0, .inr (0, [.ref q1, .ref q2, .ref q3, .ref q4, .ref q5, .ref q6, .ref q7, .ref q8, .null, .null, .null, .null, .null, .null, .null, .null, .int 0, .int 0])), (q1, .inl (cZ, 4, .inl (fun _ => 0))), (q2, .inl (cZ, 16, .inl (fun _ => 0))), (q3, .inl (cZ, 8, .inl (fun _ => 0))), (q4, .inl (cI, 8, .inl (fun _ => 0))), (q5, .inl (cI, 3, .inl (fun _ => 0))), (q6, .inl (cZ, 3, .inl (fun _ => 0))), (q7, .inl (cI, 3, .inl (fun _ => 0))), (q8, .inl (cI, 3, .inl (fun _ => 0))), (q9, .inl (cI, 3, .inl (fun _ => 0)))] H _ := hw
  refine bx_putF (ws' := [(h0, .inr (0, [.ref q1, .ref q2, .ref q3, .ref q4, .ref q5, .ref q6, .ref q7, .ref q8, .ref q9, .null, .null, .null, .null, .null, .null, .null, .int 0, .int 0])), (q1, .inl (cZ, 4, .inl (fun _ => 0))), (q2, .inl (cZ, 16, .inl (fun _ => 0))), (q3, .inl (cZ, 8, .inl (fun _ => 0))), (q4, .inl (cI, 8, .inl (fun _ => 0))), (q5, .inl (cI, 3, .inl (fun _ => 0))), (q6, .inl (cZ, 3, .inl (fun _ => 0))), (q7, .inl (cI, 3, .inl (fun _ => 0))), (q8, .inl (cI, 3, .inl (fun _ => 0))), (q9, .inl (cI, 3, .inl (fun _ => 0)))]) (v := .ref q9) (ty := .array .int) S hK hin tyX0 tyX0_ok nmX0 hw hin2 rfl rfl 8 (by decide) flX0_init_35 rfl rfl (by decide +kernel) rfl rfl (Nat.le_of_ble_eq_true rfl) rfl dX0_init_67 (fun H locs hw => ?_)
  refine lv_aload_n S.1 S.2.1 dX0_init_70 rfl (lv_at hl 0 rfl) ?_
  refine lv_bipush (v := nI 12) S.1 S.2.1 dX0_init_71 (by decide) ?_
  refine bx_newi (c' := 10) (s' := 63) S hK hw (by decide) hai rfl rfl (by decide) (by decide) dX0_init_73 (fun q10 H hw => ?_)
  replace hw : Wd D A s.heap [(h0, .inr (0, [.ref q1, .ref q2, .ref q3, .ref q4, .ref q5, .ref q6, .ref q7, .ref q8, .ref q9, .null, .null, .null, .null, .null, .null, .null, .int 0, .int 0])), (q1, .inl (cZ, 4, .inl (fun _ => 0))), (q2, .inl (cZ, 16, .inl (fun _ => 0))), (q3, .inl (cZ, 8, .inl (fun _ => 0))), (q4, .inl (cI, 8, .inl (fun _ => 0))), (q5, .inl (cI, 3, .inl (fun _ => 0))), (q6, .inl (cZ, 3, .inl (fun _ => 0))), (q7, .inl (cI, 3, .inl (fun _ => 0))), (q8, .inl (cI, 3, .inl (fun _ => 0))), (q9, .inl (cI, 3, .inl (fun _ => 0))), (q10, .inl (cI, 12, .inl (fun _ => 0)))] H _ := hw
  refine bx_putF (ws' := [(h0, .inr (0, [.ref q1, .ref q2, .ref q3, .ref q4, .ref q5, .ref q6, .ref q7, .ref q8, .ref q9, .ref q10, .null, .null, .null, .null, .null, .null, .int 0, .int 0])), (q1, .inl (cZ, 4, .inl (fun _ => 0))), (q2, .inl (cZ, 16, .inl (fun _ => 0))), (q3, .inl (cZ, 8, .inl (fun _ => 0))), (q4, .inl (cI, 8, .inl (fun _ => 0))), (q5, .inl (cI, 3, .inl (fun _ => 0))), (q6, .inl (cZ, 3, .inl (fun _ => 0))), (q7, .inl (cI, 3, .inl (fun _ => 0))), (q8, .inl (cI, 3, .inl (fun _ => 0))), (q9, .inl (cI, 3, .inl (fun _ => 0))), (q10, .inl (cI, 12, .inl (fun _ => 0)))]) (v := .ref q10) (ty := .array .int) S hK hin tyX0 tyX0_ok nmX0 hw hin2 rfl rfl 9 (by decide) flX0_init_38 rfl rfl (by decide +kernel) rfl rfl (Nat.le_of_ble_eq_true rfl) rfl dX0_init_75 (fun H locs hw => ?_)
  refine lv_aload_n S.1 S.2.1 dX0_init_78 rfl (lv_at hl 0 rfl) ?_
  refine lv_bipush (v := nI 12) S.1 S.2.1 dX0_init_79 (by decide) ?_
  refine bx_newi (c' := 11) (s' := 75) S hK hw (by decide) hai rfl rfl (by decide) (by decide) dX0_init_81 (fun q11 H hw => ?_)
  replace hw : Wd D A s.heap [(h0, .inr (0, [.ref q1, .ref q2, .ref q3, .ref q4, .ref q5, .ref q6, .ref q7, .ref q8, .ref q9, .ref q10, .null, .null, .null, .null, .null, .null, .int 0, .int 0])), (q1, .inl (cZ, 4, .inl (fun _ => 0))), (q2, .inl (cZ, 16, .inl (fun _ => 0))), (q3, .inl (cZ, 8, .inl (fun _ => 0))), (q4, .inl (cI, 8, .inl (fun _ => 0))), (q5, .inl (cI, 3, .inl (fun _ => 0))), (q6, .inl (cZ, 3, .inl (fun _ => 0))), (q7, .inl (cI, 3, .inl (fun _ => 0))), (q8, .inl (cI, 3, .inl (fun _ => 0))), (q9, .inl (cI, 3, .inl (fun _ => 0))), (q10, .inl (cI, 12, .inl (fun _ => 0))), (q11, .inl (cI, 12, .inl (fun _ => 0)))] H _ := hw
  refine bx_putF (ws' := [(h0, .inr (0, [.ref q1, .ref q2, .ref q3, .ref q4, .ref q5, .ref q6, .ref q7, .ref q8, .ref q9, .ref q10, .ref q11, .null, .null, .null, .null, .null, .int 0, .int 0])), (q1, .inl (cZ, 4, .inl (fun _ => 0))), (q2, .inl (cZ, 16, .inl (fun _ => 0))), (q3, .inl (cZ, 8, .inl (fun _ => 0))), (q4, .inl (cI, 8, .inl (fun _ => 0))), (q5, .inl (cI, 3, .inl (fun _ => 0))), (q6, .inl (cZ, 3, .inl (fun _ => 0))), (q7, .inl (cI, 3, .inl (fun _ => 0))), (q8, .inl (cI, 3, .inl (fun _ => 0))), (q9, .inl (cI, 3, .inl (fun _ => 0))), (q10, .inl (cI, 12, .inl (fun _ => 0))), (q11, .inl (cI, 12, .inl (fun _ => 0)))]) (v := .ref q11) (ty := .array .int) S hK hin tyX0 tyX0_ok nmX0 hw hin2 rfl rfl 10 (by decide) flX0_init_41 rfl rfl (by decide +kernel) rfl rfl (Nat.le_of_ble_eq_true rfl) rfl dX0_init_83 (fun H locs hw => ?_)
  refine lv_aload_n S.1 S.2.1 dX0_init_86 rfl (lv_at hl 0 rfl) ?_
  refine lv_bipush (v := nI 12) S.1 S.2.1 dX0_init_87 (by decide) ?_
  refine bx_newi (c' := 12) (s' := 87) S hK hw (by decide) hai rfl rfl (by decide) (by decide) dX0_init_89 (fun q12 H hw => ?_)
  replace hw : Wd D A s.heap [(h0, .inr (0, [.ref q1, .ref q2, .ref q3, .ref q4, .ref q5, .ref q6, .ref q7, .ref q8, .ref q9, .ref q10, .ref q11, .null, .null, .null, .null, .null, .int 0, .int 0])), (q1, .inl (cZ, 4, .inl (fun _ => 0))), (q2, .inl (cZ, 16, .inl (fun _ => 0))), (q3, .inl (cZ, 8, .inl (fun _ => 0))), (q4, .inl (cI, 8, .inl (fun _ => 0))), (q5, .inl (cI, 3, .inl (fun _ => 0))), (q6, .inl (cZ, 3, .inl (fun _ => 0))), (q7, .inl (cI, 3, .inl (fun _ => 0))), (q8, .inl (cI, 3, .inl (fun _ => 0))), (q9, .inl (cI, 3, .inl (fun _ => 0))), (q10, .inl (cI, 12, .inl (fun _ => 0))), (q11, .inl (cI, 12, .inl (fun _ => 0))), (q12, .inl (cI, 12, .inl (fun _ => 0)))] H _ := hw
  refine bx_putF (ws' := [(h0, .inr (0, [.ref q1, .ref q2, .ref q3, .ref q4, .ref q5, .ref q6, .ref q7, .ref q8, .ref q9, .ref q10, .ref q11, .ref q12, .null, .null, .null, .null, .int 0, .int 0])), (q1, .inl (cZ, 4, .inl (fun _ => 0))), (q2, .inl (cZ, 16, .inl (fun _ => 0))), (q3, .inl (cZ, 8, .inl (fun _ => 0))), (q4, .inl (cI, 8, .inl (fun _ => 0))), (q5, .inl (cI, 3, .inl (fun _ => 0))), (q6, .inl (cZ, 3, .inl (fun _ => 0))), (q7, .inl (cI, 3, .inl (fun _ => 0))), (q8, .inl (cI, 3, .inl (fun _ => 0))), (q9, .inl (cI, 3, .inl (fun _ => 0))), (q10, .inl (cI, 12, .inl (fun _ => 0))), (q11, .inl (cI, 12, .inl (fun _ => 0))), (q12, .inl (cI, 12, .inl (fun _ => 0)))]) (v := .ref q12) (ty := .array .int) S hK hin tyX0 tyX0_ok nmX0 hw hin2 rfl rfl 11 (by decide) flX0_init_44 rfl rfl (by decide +kernel) rfl rfl (Nat.le_of_ble_eq_true rfl) rfl dX0_init_91 (fun H locs hw => ?_)
  refine lv_aload_n S.1 S.2.1 dX0_init_94 rfl (lv_at hl 0 rfl) ?_
  refine lv_bipush (v := nI 12) S.1 S.2.1 dX0_init_95 (by decide) ?_
  refine bx_newi (c' := 13) (s' := 99) S hK hw (by decide) hai rfl rfl (by decide) (by decide) dX0_init_97 (fun q13 H hw => ?_)
  replace hw : Wd D A s.heap [(h0, .inr (0, [.ref q1, .ref q2, .ref q3, .ref q4, .ref q5, .ref q6, .ref q7, .ref q8, .ref q9, .ref q10, .ref q11, .ref q12, .null, .null, .null, .null, .int 0, .int 0])), (q1, .inl (cZ, 4, .inl (fun _ => 0))), (q2, .inl (cZ, 16, .inl (fun _ => 0))), (q3, .inl (cZ, 8, .inl (fun _ => 0))), (q4, .inl (cI, 8, .inl (fun _ => 0))), (q5, .inl (cI, 3, .inl (fun _ => 0))), (q6, .inl (cZ, 3, .inl (fun _ => 0))), (q7, .inl (cI, 3, .inl (fun _ => 0))), (q8, .inl (cI, 3, .inl (fun _ => 0))), (q9, .inl (cI, 3, .inl (fun _ => 0))), (q10, .inl (cI, 12, .inl (fun _ => 0))), (q11, .inl (cI, 12, .inl (fun _ => 0))), (q12, .inl (cI, 12, .inl (fun _ => 0))), (q13, .inl (cI, 12, .inl (fun _ => 0)))] H _ := hw
  refine bx_putF (ws' := [(h0, .inr (0, [.ref q1, .ref q2, .ref q3, .ref q4, .ref q5, .ref q6, .ref q7, .ref q8, .ref q9, .ref q10, .ref q11, .ref q12, .ref q13, .null, .null, .null, .int 0, .int 0])), (q1, .inl (cZ, 4, .inl (fun _ => 0))), (q2, .inl (cZ, 16, .inl (fun _ => 0))), (q3, .inl (cZ, 8, .inl (fun _ => 0))), (q4, .inl (cI, 8, .inl (fun _ => 0))), (q5, .inl (cI, 3, .inl (fun _ => 0))), (q6, .inl (cZ, 3, .inl (fun _ => 0))), (q7, .inl (cI, 3, .inl (fun _ => 0))), (q8, .inl (cI, 3, .inl (fun _ => 0))), (q9, .inl (cI, 3, .inl (fun _ => 0))), (q10, .inl (cI, 12, .inl (fun _ => 0))), (q11, .inl (cI, 12, .inl (fun _ => 0))), (q12, .inl (cI, 12, .inl (fun _ => 0))), (q13, .inl (cI, 12, .inl (fun _ => 0)))]) (v := .ref q13) (ty := .array .int) S hK hin tyX0 tyX0_ok nmX0 hw hin2 rfl rfl 12 (by decide) flX0_init_47 rfl rfl (by decide +kernel) rfl rfl (Nat.le_of_ble_eq_true rfl) rfl dX0_init_99 (fun H locs hw => ?_)
  refine lv_aload_n S.1 S.2.1 dX0_init_102 rfl (lv_at hl 0 rfl) ?_
  refine lv_bipush (v := nI 12) S.1 S.2.1 dX0_init_103 (by decide) ?_
  refine bx_newi (c' := 14) (s' := 111) S hK hw (by decide) hai rfl rfl (by decide) (by decide) dX0_init_105 (fun q14 H hw => ?_)
  replace hw : Wd D A s.heap [(h0, .inr (0, [.ref q1, .ref q2, .ref q3, .ref q4, .ref q5, .ref q6, .ref q7, .ref q8, .ref q9, .ref q10, .ref q11, .ref q12, .ref q13, .null, .null, .null, .int 0, .int 0])), (q1, .inl (cZ, 4, .inl (fun _ => 0))), (q2, .inl (cZ, 16, .inl (fun _ => 0))), (q3, .inl (cZ, 8, .inl (fun _ => 0))), (q4, .inl (cI, 8, .inl (fun _ => 0))), (q5, .inl (cI, 3, .inl (fun _ => 0))), (q6, .inl (cZ, 3, .inl (fun _ => 0))), (q7, .inl (cI, 3, .inl (fun _ => 0))), (q8, .inl (cI, 3, .inl (fun _ => 0))), (q9, .inl (cI, 3, .inl (fun _ => 0))), (q10, .inl (cI, 12, .inl (fun _ => 0))), (q11, .inl (cI, 12, .inl (fun _ => 0))), (q12, .inl (cI, 12, .inl (fun _ => 0))), (q13, .inl (cI, 12, .inl (fun _ => 0))), (q14, .inl (cI, 12, .inl (fun _ => 0)))] H _ := hw
  refine bx_putF (ws' := [(h0, .inr (0, [.ref q1, .ref q2, .ref q3, .ref q4, .ref q5, .ref q6, .ref q7, .ref q8, .ref q9, .ref q10, .ref q11, .ref q12, .ref q13, .ref q14, .null, .null, .int 0, .int 0])), (q1, .inl (cZ, 4, .inl (fun _ => 0))), (q2, .inl (cZ, 16, .inl (fun _ => 0))), (q3, .inl (cZ, 8, .inl (fun _ => 0))), (q4, .inl (cI, 8, .inl (fun _ => 0))), (q5, .inl (cI, 3, .inl (fun _ => 0))), (q6, .inl (cZ, 3, .inl (fun _ => 0))), (q7, .inl (cI, 3, .inl (fun _ => 0))), (q8, .inl (cI, 3, .inl (fun _ => 0))), (q9, .inl (cI, 3, .inl (fun _ => 0))), (q10, .inl (cI, 12, .inl (fun _ => 0))), (q11, .inl (cI, 12, .inl (fun _ => 0))), (q12, .inl (cI, 12, .inl (fun _ => 0))), (q13, .inl (cI, 12, .inl (fun _ => 0))), (q14, .inl (cI, 12, .inl (fun _ => 0)))]) (v := .ref q14) (ty := .array .int) S hK hin tyX0 tyX0_ok nmX0 hw hin2 rfl rfl 13 (by decide) flX0_init_50 rfl rfl (by decide +kernel) rfl rfl (Nat.le_of_ble_eq_true rfl) rfl dX0_init_107 (fun H locs hw => ?_)
  refine lv_aload_n S.1 S.2.1 dX0_init_110 rfl (lv_at hl 0 rfl) ?_
  refine lv_bipush (v := nI 12) S.1 S.2.1 dX0_init_111 (by decide) ?_
  refine bx_newi (c' := 15) (s' := 123) S hK hw (by decide) hai rfl rfl (by decide) (by decide) dX0_init_113 (fun q15 H hw => ?_)
  replace hw : Wd D A s.heap [(h0, .inr (0, [.ref q1, .ref q2, .ref q3, .ref q4, .ref q5, .ref q6, .ref q7, .ref q8, .ref q9, .ref q10, .ref q11, .ref q12, .ref q13, .ref q14, .null, .null, .int 0, .int 0])), (q1, .inl (cZ, 4, .inl (fun _ => 0))), (q2, .inl (cZ, 16, .inl (fun _ => 0))), (q3, .inl (cZ, 8, .inl (fun _ => 0))), (q4, .inl (cI, 8, .inl (fun _ => 0))), (q5, .inl (cI, 3, .inl (fun _ => 0))), (q6, .inl (cZ, 3, .inl (fun _ => 0))), (q7, .inl (cI, 3, .inl (fun _ => 0))), (q8, .inl (cI, 3, .inl (fun _ => 0))), (q9, .inl (cI, 3, .inl (fun _ => 0))), (q10, .inl (cI, 12, .inl (fun _ => 0))), (q11, .inl (cI, 12, .inl (fun _ => 0))), (q12, .inl (cI, 12, .inl (fun _ => 0))), (q13, .inl (cI, 12, .inl (fun _ => 0))), (q14, .inl (cI, 12, .inl (fun _ => 0))), (q15, .inl (cI, 12, .inl (fun _ => 0)))] H _ := hw
  refine bx_putF (ws' := [(h0, .inr (0, [.ref q1, .ref q2, .ref q3, .ref q4, .ref q5, .ref q6, .ref q7, .ref q8, .ref q9, .ref q10, .ref q11, .ref q12, .ref q13, .ref q14, .ref q15, .null, .int 0, .int 0])), (q1, .inl (cZ, 4, .inl (fun _ => 0))), (q2, .inl (cZ, 16, .inl (fun _ => 0))), (q3, .inl (cZ, 8, .inl (fun _ => 0))), (q4, .inl (cI, 8, .inl (fun _ => 0))), (q5, .inl (cI, 3, .inl (fun _ => 0))), (q6, .inl (cZ, 3, .inl (fun _ => 0))), (q7, .inl (cI, 3, .inl (fun _ => 0))), (q8, .inl (cI, 3, .inl (fun _ => 0))), (q9, .inl (cI, 3, .inl (fun _ => 0))), (q10, .inl (cI, 12, .inl (fun _ => 0))), (q11, .inl (cI, 12, .inl (fun _ => 0))), (q12, .inl (cI, 12, .inl (fun _ => 0))), (q13, .inl (cI, 12, .inl (fun _ => 0))), (q14, .inl (cI, 12, .inl (fun _ => 0))), (q15, .inl (cI, 12, .inl (fun _ => 0)))]) (v := .ref q15) (ty := .array .int) S hK hin tyX0 tyX0_ok nmX0 hw hin2 rfl rfl 14 (by decide) flX0_init_53 rfl rfl (by decide +kernel) rfl rfl (Nat.le_of_ble_eq_true rfl) rfl dX0_init_115 (fun H locs hw => ?_)
  refine lv_aload_n S.1 S.2.1 dX0_init_118 rfl (lv_at hl 0 rfl) ?_
  refine lv_bipush (v := nI 12) S.1 S.2.1 dX0_init_119 (by decide) ?_
  refine bx_newz (c' := 16) (s' := 135) S hK hw (by decide) haz rfl rfl (by decide) (by decide) dX0_init_121 (fun q16 H hw => ?_)
  replace hw : Wd D A s.heap [(h0, .inr (0, [.ref q1, .ref q2, .ref q3, .ref q4, .ref q5, .ref q6, .ref q7, .ref q8, .ref q9, .ref q10, .ref q11, .ref q12, .ref q13, .ref q14, .ref q15, .null, .int 0, .int 0])), (q1, .inl (cZ, 4, .inl (fun _ => 0))), (q2, .inl (cZ, 16, .inl (fun _ => 0))), (q3, .inl (cZ, 8, .inl (fun _ => 0))), (q4, .inl (cI, 8, .inl (fun _ => 0))), (q5, .inl (cI, 3, .inl (fun _ => 0))), (q6, .inl (cZ, 3, .inl (fun _ => 0))), (q7, .inl (cI, 3, .inl (fun _ => 0))), (q8, .inl (cI, 3, .inl (fun _ => 0))), (q9, .inl (cI, 3, .inl (fun _ => 0))), (q10, .inl (cI, 12, .inl (fun _ => 0))), (q11, .inl (cI, 12, .inl (fun _ => 0))), (q12, .inl (cI, 12, .inl (fun _ => 0))), (q13, .inl (cI, 12, .inl (fun _ => 0))), (q14, .inl (cI, 12, .inl (fun _ => 0))), (q15, .inl (cI, 12, .inl (fun _ => 0))), (q16, .inl (cZ, 12, .inl (fun _ => 0)))] H _ := hw
  refine bx_putF (ws' := [(h0, .inr (0, [.ref q1, .ref q2, .ref q3, .ref q4, .ref q5, .ref q6, .ref q7, .ref q8, .ref q9, .ref q10, .ref q11, .ref q12, .ref q13, .ref q14, .ref q15, .ref q16, .int 0, .int 0])), (q1, .inl (cZ, 4, .inl (fun _ => 0))), (q2, .inl (cZ, 16, .inl (fun _ => 0))), (q3, .inl (cZ, 8, .inl (fun _ => 0))), (q4, .inl (cI, 8, .inl (fun _ => 0))), (q5, .inl (cI, 3, .inl (fun _ => 0))), (q6, .inl (cZ, 3, .inl (fun _ => 0))), (q7, .inl (cI, 3, .inl (fun _ => 0))), (q8, .inl (cI, 3, .inl (fun _ => 0))), (q9, .inl (cI, 3, .inl (fun _ => 0))), (q10, .inl (cI, 12, .inl (fun _ => 0))), (q11, .inl (cI, 12, .inl (fun _ => 0))), (q12, .inl (cI, 12, .inl (fun _ => 0))), (q13, .inl (cI, 12, .inl (fun _ => 0))), (q14, .inl (cI, 12, .inl (fun _ => 0))), (q15, .inl (cI, 12, .inl (fun _ => 0))), (q16, .inl (cZ, 12, .inl (fun _ => 0)))]) (v := .ref q16) (ty := .array .boolean) S hK hin tyX0 tyX0_ok nmX0 hw hin2 rfl rfl 15 (by decide) flX0_init_56 rfl rfl (by decide +kernel) rfl rfl (Nat.le_of_ble_eq_true rfl) rfl dX0_init_123 (fun H locs hw => ?_)
  obtain ⟨a, ha0, hw⟩ : ∃ a : Nat → Nat, a 0 = h0 ∧ Wd D A s.heap (wX cZ cI a sZ) _ _ := ⟨aL [h0, q1, q2, q3, q4, q5, q6, q7, q8, q9, q10, q11, q12, q13, q14, q15, q16], rfl, hw⟩
  replace hl : lv_has ls 2 [(0, .ref (a 0))] := by rw [ha0]; exact hl
  refine lv_iconst (v := nI 0) S.1 S.2.1 dX0_init_126 (by decide) ?_
  refine lv_istore_n (lv' := [(1, .int (nI 0)), (0, .ref (a 0))]) S.1 S.2.1 dX0_init_127 rfl hl (by decide) rfl (fun ls hl => ?_)
  have L128 : ∀ (n i128 : Nat), i128 + n = 4 → ∀ (H : Heap) (locs : List Loc), Wd D A s.heap (wX cZ cI a (itF iniA sZ i128)) H locs → ∀ ls : Array Slot, lv_has ls 2 [(0, .ref (a 0)), (1, .int (nI i128))] → W p l e ({ frames := 1, cells := 16, slots := 135, locals := 12 } : Room) s m args below meth c H locs 16 135 Q (F0 m 128 ls []) := by
    intro n
    induction n with
    | zero =>
      intro i128 hi H locs hw ls hl
      obtain rfl : i128 = 4 := by omega
      refine lv_iload_n S.1 S.2.1 dX0_init_128 rfl (lv_at hl 1 rfl) ?_
      refine lv_iconst (v := nI 4) S.1 S.2.1 dX0_init_129 (by decide) ?_
      refine br_ge (tgt := 146) S dX0_init_130 (by decide) (fun c130 => ?_) (fun c130 => ?_)
      · refine lv_iconst (v := nI 0) S.1 S.2.1 dX0_init_146 (by decide) ?_
        replace hw := Wd.cast (congrArg (wX cZ cI a) (show itF iniA sZ 4 = s1 from rfl)) hw
        refine lv_istore_n (lv' := [(1, .int (nI 0)), (0, .ref (a 0))]) S.1 S.2.1 dX0_init_147 rfl hl (by decide) rfl (fun ls hl => ?_)
        have L148 : ∀ (n i148 : Nat), i148 + n = 16 → ∀ (H : Heap) (locs : List Loc), Wd D A s.heap (wX cZ cI a (itF iniB s1 i148)) H locs → ∀ ls : Array Slot, lv_has ls 2 [(0, .ref (a 0)), (1, .int (nI i148))] → W p l e ({ frames := 1, cells := 16, slots := 135, locals := 12 } : Room) s m args below meth c H locs 16 135 Q (F0 m 148 ls []) := by
          intro n
          induction n with
          | zero =>
            intro i148 hi H locs hw ls hl
            obtain rfl : i148 = 16 := by omega
            refine lv_iload_n S.1 S.2.1 dX0_init_148 rfl (lv_at hl 1 rfl) ?_
            refine lv_bipush (v := nI 16) S.1 S.2.1 dX0_init_149 (by decide) ?_
            refine br_ge (tgt := 167) S dX0_init_151 (by decide) (fun c151 => ?_) (fun c151 => ?_)
            · refine lv_iconst (v := nI 0) S.1 S.2.1 dX0_init_167 (by decide) ?_
              replace hw := Wd.cast (congrArg (wX cZ cI a) (show itF iniB s1 16 = s2 from rfl)) hw
              refine lv_istore_n (lv' := [(1, .int (nI 0)), (0, .ref (a 0))]) S.1 S.2.1 dX0_init_168 rfl hl (by decide) rfl (fun ls hl => ?_)
              have L169 : ∀ (n i169 : Nat), i169 + n = 8 → ∀ (H : Heap) (locs : List Loc), Wd D A s.heap (wX cZ cI a (itF iniC s2 i169)) H locs → ∀ ls : Array Slot, lv_has ls 2 [(0, .ref (a 0)), (1, .int (nI i169))] → W p l e ({ frames := 1, cells := 16, slots := 135, locals := 12 } : Room) s m args below meth c H locs 16 135 Q (F0 m 169 ls []) := by
                intro n
                induction n with
                | zero =>
                  intro i169 hi H locs hw ls hl
                  obtain rfl : i169 = 8 := by omega
                  refine lv_iload_n S.1 S.2.1 dX0_init_169 rfl (lv_at hl 1 rfl) ?_
                  refine lv_bipush (v := nI 8) S.1 S.2.1 dX0_init_170 (by decide) ?_
                  refine br_ge (tgt := 188) S dX0_init_172 (by decide) (fun c172 => ?_) (fun c172 => ?_)
                  · refine lv_iconst (v := nI 0) S.1 S.2.1 dX0_init_188 (by decide) ?_
                    replace hw := Wd.cast (congrArg (wX cZ cI a) (show itF iniC s2 8 = s3 from rfl)) hw
                    refine lv_istore_n (lv' := [(1, .int (nI 0)), (0, .ref (a 0))]) S.1 S.2.1 dX0_init_189 rfl hl (by decide) rfl (fun ls hl => ?_)
                    have L190 : ∀ (n i190 : Nat), i190 + n = 3 → ∀ (H : Heap) (locs : List Loc), Wd D A s.heap (wX cZ cI a (itF iniD s3 i190)) H locs → ∀ ls : Array Slot, lv_has ls 2 [(0, .ref (a 0)), (1, .int (nI i190))] → W p l e ({ frames := 1, cells := 16, slots := 135, locals := 12 } : Room) s m args below meth c H locs 16 135 Q (F0 m 190 ls []) := by
                      intro n
                      induction n with
                      | zero =>
                        intro i190 hi H locs hw ls hl
                        obtain rfl : i190 = 3 := by omega
                        refine lv_iload_n S.1 S.2.1 dX0_init_190 rfl (lv_at hl 1 rfl) ?_
                        refine lv_iconst (v := nI 3) S.1 S.2.1 dX0_init_191 (by decide) ?_
                        refine br_ge (tgt := 215) S dX0_init_192 (by decide) (fun c192 => ?_) (fun c192 => ?_)
                        · replace hw := Wd.cg 1 (s0 0) rfl (by decide +kernel) hw
                          replace hw := Wd.cg 2 (s0 1) rfl (by decide +kernel) hw
                          replace hw := Wd.cg 3 (s0 2) rfl (by decide +kernel) hw
                          replace hw := Wd.cg 4 (s0 3) rfl (by decide +kernel) hw
                          replace hw := Wd.cg 5 (s0 4) rfl (by decide +kernel) hw
                          replace hw := Wd.cg 6 (s0 5) rfl (by decide +kernel) hw
                          replace hw := Wd.cg 7 (s0 6) rfl (by decide +kernel) hw
                          replace hw := Wd.cg 8 (s0 7) rfl (by decide +kernel) hw
                          replace hw := Wd.cg 9 (s0 8) rfl (by decide +kernel) hw
                          replace hw := Wd.cg 10 (s0 9) rfl (by decide +kernel) hw
                          replace hw := Wd.cg 11 (s0 10) rfl (by decide +kernel) hw
                          replace hw := Wd.cg 12 (s0 11) rfl (by decide +kernel) hw
                          replace hw := Wd.cg 13 (s0 12) rfl (by decide +kernel) hw
                          replace hw := Wd.cg 14 (s0 13) rfl (by decide +kernel) hw
                          replace hw := Wd.cg 15 (s0 14) rfl (by decide +kernel) hw
                          replace hw := Wd.cg 16 (s0 15) rfl (by decide +kernel) hw
                          exact hret (show Wd D A s.heap (wX cZ cI a s0) _ _ from hw) ha0 dX0_init_215
                        · exact absurd c192 (nlt_nI (by decide))
                      | succ n ih_190 =>
                        intro i190 hi H locs hw ls hl
                        have hi190 : i190 < 3 := by omega
                        refine lv_iload_n S.1 S.2.1 dX0_init_190 rfl (lv_at hl 1 rfl) ?_
                        refine lv_iconst (v := nI 3) S.1 S.2.1 dX0_init_191 (by decide) ?_
                        refine br_ge (tgt := 215) S dX0_init_192 (by decide) (fun c192 => ?_) (fun c192 => ?_)
                        · exact absurd c192 (not_not_intro (lt_nI hi190 (by decide)))
                        · refine lv_aload_n S.1 S.2.1 dX0_init_195 rfl (lv_at hl 0 rfl) ?_
                          refine bx_get S hK hin hw.1 0 rfl rfl 4 (by decide) flX0_init_23 rfl dX0_init_196 ?_
                          refine lv_iload_n S.1 S.2.1 dX0_init_199 rfl (lv_at hl 1 rfl) ?_
                          refine lv_iconst (v := 4) S.1 S.2.1 dX0_init_200 (by decide) ?_
                          refine bx_iast S hK hw 5 1 rfl rfl (by omega) (by decide) (wX_s4 cZ cI a (itF iniD s3 i190) i190 4) dX0_init_201 (fun H locs hw => ?_)
                          refine lv_aload_n S.1 S.2.1 dX0_init_202 rfl (lv_at hl 0 rfl) ?_
                          refine bx_get S hK hin hw.1 0 rfl rfl 5 (by decide) flX0_init_26 rfl dX0_init_203 ?_
                          refine lv_iload_n S.1 S.2.1 dX0_init_206 rfl (lv_at hl 1 rfl) ?_
                          refine lv_iconst (v := 1) S.1 S.2.1 dX0_init_207 (by decide) ?_
                          refine bx_zast S hK hw 6 0 rfl rfl (by omega) (by decide) (by decide) (wX_s5 cZ cI a (up (itF iniD s3 i190) 4 i190 4) i190 1) dX0_init_208 (fun H locs hw => ?_)
                          refine lv_iinc (v := nI (i190 + 1)) (lv' := [(1, .int (nI (i190 + 1))), (0, .ref (a 0))]) S.1 S.2.1 dX0_init_209 hl (k := 1) rfl (nI_1 i190) (by decide) rfl (fun ls hl => ?_)
                          refine lv_goto (tgt := 190) S.1 S.2.1 dX0_init_212 (by decide) ?_
                          exact ih_190 (i190 + 1) (by omega) _ _ (Wd.cast (congrArg (wX cZ cI a) ((it_s iniD _ _).symm)) hw) _ (lv_sub hl [1, 0] rfl)
                    exact L190 (3 - 0) 0 (by omega) _ _ hw _ (lv_sub hl [1, 0] rfl)
                  · exact absurd c172 (nlt_nI (by decide))
                | succ n ih_169 =>
                  intro i169 hi H locs hw ls hl
                  have hi169 : i169 < 8 := by omega
                  refine lv_iload_n S.1 S.2.1 dX0_init_169 rfl (lv_at hl 1 rfl) ?_
                  refine lv_bipush (v := nI 8) S.1 S.2.1 dX0_init_170 (by decide) ?_
                  refine br_ge (tgt := 188) S dX0_init_172 (by decide) (fun c172 => ?_) (fun c172 => ?_)
                  · exact absurd c172 (not_not_intro (lt_nI hi169 (by decide)))
                  · refine lv_aload_n S.1 S.2.1 dX0_init_175 rfl (lv_at hl 0 rfl) ?_
                    refine bx_get S hK hin hw.1 0 rfl rfl 2 (by decide) flX0_init_16 rfl dX0_init_176 ?_
                    refine lv_iload_n S.1 S.2.1 dX0_init_179 rfl (lv_at hl 1 rfl) ?_
                    refine lv_iconst (v := 1) S.1 S.2.1 dX0_init_180 (by decide) ?_
                    refine bx_zast S hK hw 3 0 rfl rfl (by omega) (by decide) (by decide) (wX_s2 cZ cI a (itF iniC s2 i169) i169 1) dX0_init_181 (fun H locs hw => ?_)
                    refine lv_iinc (v := nI (i169 + 1)) (lv' := [(1, .int (nI (i169 + 1))), (0, .ref (a 0))]) S.1 S.2.1 dX0_init_182 hl (k := 1) rfl (nI_1 i169) (by decide) rfl (fun ls hl => ?_)
                    refine lv_goto (tgt := 169) S.1 S.2.1 dX0_init_185 (by decide) ?_
                    exact ih_169 (i169 + 1) (by omega) _ _ (Wd.cast (congrArg (wX cZ cI a) ((it_s iniC _ _).symm)) hw) _ (lv_sub hl [1, 0] rfl)
              exact L169 (8 - 0) 0 (by omega) _ _ hw _ (lv_sub hl [1, 0] rfl)
            · exact absurd c151 (nlt_nI (by decide))
          | succ n ih_148 =>
            intro i148 hi H locs hw ls hl
            have hi148 : i148 < 16 := by omega
            refine lv_iload_n S.1 S.2.1 dX0_init_148 rfl (lv_at hl 1 rfl) ?_
            refine lv_bipush (v := nI 16) S.1 S.2.1 dX0_init_149 (by decide) ?_
            refine br_ge (tgt := 167) S dX0_init_151 (by decide) (fun c151 => ?_) (fun c151 => ?_)
            · exact absurd c151 (not_not_intro (lt_nI hi148 (by decide)))
            · refine lv_aload_n S.1 S.2.1 dX0_init_154 rfl (lv_at hl 0 rfl) ?_
              refine bx_get S hK hin hw.1 0 rfl rfl 1 (by decide) flX0_init_13 rfl dX0_init_155 ?_
              refine lv_iload_n S.1 S.2.1 dX0_init_158 rfl (lv_at hl 1 rfl) ?_
              refine lv_iconst (v := 1) S.1 S.2.1 dX0_init_159 (by decide) ?_
              refine bx_zast S hK hw 2 0 rfl rfl (by omega) (by decide) (by decide) (wX_s1 cZ cI a (itF iniB s1 i148) i148 1) dX0_init_160 (fun H locs hw => ?_)
              refine lv_iinc (v := nI (i148 + 1)) (lv' := [(1, .int (nI (i148 + 1))), (0, .ref (a 0))]) S.1 S.2.1 dX0_init_161 hl (k := 1) rfl (nI_1 i148) (by decide) rfl (fun ls hl => ?_)
              refine lv_goto (tgt := 148) S.1 S.2.1 dX0_init_164 (by decide) ?_
              exact ih_148 (i148 + 1) (by omega) _ _ (Wd.cast (congrArg (wX cZ cI a) ((it_s iniB _ _).symm)) hw) _ (lv_sub hl [1, 0] rfl)
        exact L148 (16 - 0) 0 (by omega) _ _ hw _ (lv_sub hl [1, 0] rfl)
      · exact absurd c130 (nlt_nI (by decide))
    | succ n ih_128 =>
      intro i128 hi H locs hw ls hl
      have hi128 : i128 < 4 := by omega
      refine lv_iload_n S.1 S.2.1 dX0_init_128 rfl (lv_at hl 1 rfl) ?_
      refine lv_iconst (v := nI 4) S.1 S.2.1 dX0_init_129 (by decide) ?_
      refine br_ge (tgt := 146) S dX0_init_130 (by decide) (fun c130 => ?_) (fun c130 => ?_)
      · exact absurd c130 (not_not_intro (lt_nI hi128 (by decide)))
      · refine lv_aload_n S.1 S.2.1 dX0_init_133 rfl (lv_at hl 0 rfl) ?_
        refine bx_get S hK hin hw.1 0 rfl rfl 0 (by decide) flX0_init_9 rfl dX0_init_134 ?_
        refine lv_iload_n S.1 S.2.1 dX0_init_137 rfl (lv_at hl 1 rfl) ?_
        refine lv_iconst (v := 1) S.1 S.2.1 dX0_init_138 (by decide) ?_
        refine bx_zast S hK hw 1 0 rfl rfl (by omega) (by decide) (by decide) (wX_s0 cZ cI a (itF iniA sZ i128) i128 1) dX0_init_139 (fun H locs hw => ?_)
        refine lv_iinc (v := nI (i128 + 1)) (lv' := [(1, .int (nI (i128 + 1))), (0, .ref (a 0))]) S.1 S.2.1 dX0_init_140 hl (k := 1) rfl (nI_1 i128) (by decide) rfl (fun ls hl => ?_)
        refine lv_goto (tgt := 128) S.1 S.2.1 dX0_init_143 (by decide) ?_
        exact ih_128 (i128 + 1) (by omega) _ _ (Wd.cast (congrArg (wX cZ cI a) ((it_s iniA _ _).symm)) hw) _ (lv_sub hl [1, 0] rfl)
  exact L128 (4 - 0) 0 (by omega) _ _ hw _ (lv_sub hl [1, 0] rfl)
