/-! ===== act at 9 (a refused die), areAlike and isGroupSo of new objects: what they answer, how many cells they make ===== -/
theorem s0_0 (k : Nat) (hk : 6 ≤ k) (j : Nat) : s0 k j = 0 := by
  unfold s0
  rw [if_neg (by omega), if_neg (by omega), if_neg (by omega), if_neg (by omega), if_neg (by omega)]
theorem it_s4 {α : Type} (f : Nat → α → α) (x : α) : itF f x 4 = f 3 (f 2 (f 1 (f 0 x))) := rfl
theorem mem_s0 (role : Int32) (g : Nat) (h : ¬ (0 : Int32) = role) : memW s0 role g = 0 := by
  unfold memW
  rw [it_s4]
  unfold memS
  rw [s0_0 10 (by decide), s0_0 10 (by decide), s0_0 10 (by decide), s0_0 10 (by decide), if_neg h, if_neg h, if_neg h, if_neg h]
theorem setl_s0 (g : Nat) : setlF s0 g = 1 := by
  unfold setlF
  rw [mem_s0 2 g (by decide), mem_s0 1 g (by decide)]
  rfl
theorem prio_s0 (r g : Nat) : prioF s0 r g = 0 := by
  unfold prioF
  rw [if_pos (s0_0 10 (by decide) _)]
set_option maxHeartbeats 4000000 in
set_option maxRecDepth 100000 in
theorem kL_act9 (l : Launch) (hfl : l.stackTraces = false) (D : va_G) (cZ cI : ClassId) (a : Nat → Nat) : MR l yL_act wsL_act ({ frames := 9, cells := 1, slots := 6, locals := 163 } : Room) D (tyZ cZ cI) [.ref (a 0), .int 9] (wX cZ cI a s0) (-99999) 1 6 0 := by
  refine MR.of (cc := cL_act) (maxL := 5) (ty := .int) (by decide) rfl rfl (Nat.le_of_ble_eq_true rfl) ?_
  intro p e s m args below meth c A Q S hK hZ hret ls hl hw
  replace hl : lv_has ls 5 [(0, .ref (a 0)), (1, .int 9)] := hl
  replace S : CallFix p m c cL_act 5 s args wsL_act RL := S
  refine lv_iload_n S.1 S.2.1 dL_act_0 rfl (lv_at hl 1 rfl) ?_
  refine lv_bipush (v := 24) S.1 S.2.1 dL_act_1 (by decide) ?_
  refine lv_ishr S.1 S.2.1 dL_act_3 ?_
  refine bx_top (y := 0) (by decide +kernel) ?_
  refine lv_bipush (v := 9) S.1 S.2.1 dL_act_4 (by decide) ?_
  refine bm_si (As := [.int 0, .int 9]) (rest := []) S hK hw (kL_low l D _ 0 9 (by decide)) (va_cwS 2 S.2.2.2.2 gL_act_L_low rfl rfl rfl (by decide +kernel) ⟨Nat.le_of_ble_eq_true rfl, Nat.le_of_ble_eq_true rfl⟩) rfl hl.1 rfl (Nat.le_of_ble_eq_true rfl) (Nat.zero_le _) (Nat.zero_le _) dL_act_6 (fun H locs hw hg1 => ?_)
  refine bx_top (y := 0) (by decide +kernel) ?_
  refine bz_ne (tgt := 16) S dL_act_9 (by decide) (fun c9 => ?_) (fun c9 => ?_)
  · exact absurd c9 (by decide)
  refine lv_iconst (v := 1) S.1 S.2.1 dL_act_12 (by decide) ?_
  refine lv_goto (tgt := 17) S.1 S.2.1 dL_act_13 (by decide) ?_
  refine lv_istore_n (lv' := [(2, .int 1), (0, .ref (a 0)), (1, .int 9)]) S.1 S.2.1 dL_act_17 rfl hl (by decide) rfl (fun ls hl => ?_)
  refine lv_iload_n S.1 S.2.1 dL_act_18 rfl (lv_at hl 0 rfl) ?_
  refine bz_eq (tgt := 35) S dL_act_19 (by decide) (fun c19 => ?_) (fun c19 => ?_)
  · exact absurd c19 (by decide)
  refine lv_iload_n S.1 S.2.1 dL_act_22 rfl (lv_at hl 2 rfl) ?_
  refine lv_iconst (v := 4) S.1 S.2.1 dL_act_23 (by decide) ?_
  refine lv_ishr S.1 S.2.1 dL_act_24 ?_
  refine bx_top (y := 0) (by decide +kernel) ?_
  refine lv_bipush (v := 6) S.1 S.2.1 dL_act_25 (by decide) ?_
  refine bm_si (As := [.int 0, .int 6]) (rest := []) S hK hw (kL_low l D _ 0 6 (by decide)) (va_cwS 2 S.2.2.2.2 gL_act_L_low rfl rfl rfl (by decide +kernel) ⟨Nat.le_of_ble_eq_true rfl, Nat.le_of_ble_eq_true rfl⟩) rfl hl.1 rfl (Nat.le_of_ble_eq_true rfl) (Nat.zero_le _) (Nat.zero_le _) dL_act_27 (fun H locs hw hg1 => ?_)
  refine bx_top (y := 0) (by decide +kernel) ?_
  refine lv_iconst (v := 1) S.1 S.2.1 dL_act_30 (by decide) ?_
  refine lv_isub S.1 S.2.1 dL_act_31 ?_
  refine bx_top (y := -1) (by decide +kernel) ?_
  refine lv_goto (tgt := 42) S.1 S.2.1 dL_act_32 (by decide) ?_
  refine lv_istore_n (lv' := [(3, .int (-1)), (2, .int 1), (0, .ref (a 0)), (1, .int 9)]) S.1 S.2.1 dL_act_42 rfl hl (by decide) rfl (fun ls hl => ?_)
  refine lv_iload_n S.1 S.2.1 dL_act_43 rfl (lv_at hl 1 rfl) ?_
  refine bz_eq (tgt := 60) S dL_act_44 (by decide) (fun c44 => ?_) (fun c44 => ?_)
  · exact absurd c44 (by decide)
  refine lv_iload_n S.1 S.2.1 dL_act_47 rfl (lv_at hl 3 rfl) ?_
  refine lv_bipush (v := 7) S.1 S.2.1 dL_act_48 (by decide) ?_
  refine lv_ishr S.1 S.2.1 dL_act_50 ?_
  refine bx_top (y := 0) (by decide +kernel) ?_
  refine lv_iconst (v := 5) S.1 S.2.1 dL_act_51 (by decide) ?_
  refine bm_si (As := [.int 0, .int 5]) (rest := []) S hK hw (kL_low l D _ 0 5 (by decide)) (va_cwS 2 S.2.2.2.2 gL_act_L_low rfl rfl rfl (by decide +kernel) ⟨Nat.le_of_ble_eq_true rfl, Nat.le_of_ble_eq_true rfl⟩) rfl hl.1 rfl (Nat.le_of_ble_eq_true rfl) (Nat.zero_le _) (Nat.zero_le _) dL_act_52 (fun H locs hw hg1 => ?_)
  refine bx_top (y := 0) (by decide +kernel) ?_
  refine lv_iconst (v := 1) S.1 S.2.1 dL_act_55 (by decide) ?_
  refine lv_isub S.1 S.2.1 dL_act_56 ?_
  refine bx_top (y := -1) (by decide +kernel) ?_
  refine lv_goto (tgt := 68) S.1 S.2.1 dL_act_57 (by decide) ?_
  refine lv_istore (lv' := [(4, .int (-1)), (3, .int (-1)), (2, .int 1), (0, .ref (a 0)), (1, .int 9)]) S.1 S.2.1 dL_act_68 hl (by decide) rfl (fun ls hl => ?_)
  refine lv_iload_n S.1 S.2.1 dL_act_70 rfl (lv_at hl 4 rfl) ?_
  refine lv_bipush (v := 18) S.1 S.2.1 dL_act_71 (by decide) ?_
  refine bm_si (As := [.int 9, .int 18]) (rest := []) S hK hw (kL_low l D _ 9 18 (by decide)) (va_cwS 2 S.2.2.2.2 gL_act_L_low rfl rfl rfl (by decide +kernel) ⟨Nat.le_of_ble_eq_true rfl, Nat.le_of_ble_eq_true rfl⟩) rfl hl.1 rfl (Nat.le_of_ble_eq_true rfl) (Nat.zero_le _) (Nat.zero_le _) dL_act_73 (fun H locs hw hg1 => ?_)
  refine bx_top (y := 9) (by decide +kernel) ?_
  refine lv_tableIn (tgt := 401) (off := 325) S.1 S.2.1 dL_act_76 (by decide +kernel) (by decide +kernel) (by decide +kernel) (by decide) ?_
  refine lv_aload_n S.1 S.2.1 dL_act_401 rfl (lv_at hl 3 rfl) ?_
  refine lv_iload_n S.1 S.2.1 dL_act_402 rfl (lv_at hl 1 rfl) ?_
  refine bm_sb (w2 := []) (As := [.ref (a 0), .int (-1)]) (rest := []) S hK hZ hw.nil (kL_die_IA l D cZ cI a s0 (-1) (tX0_die_1 l hfl D cZ cI a s0 (-1) (by decide +kernel))) (vx_cwSW 2 S.2.2.2.2 gL_act_L_die rfl rfl rfl (by decide +kernel) ⟨Nat.le_of_ble_eq_true rfl, Nat.le_of_ble_eq_true rfl⟩) rfl hl.1 rfl (Nat.le_of_ble_eq_true rfl) (by decide) (by decide) dL_act_403 (fun H locs hw hg1 => ?_)
  exact hret hw.unnil hw.2.2.1.1 dL_act_406 rfl
set_option maxHeartbeats 4000000 in
set_option maxRecDepth 100000 in
theorem kL_areAlike (l : Launch) (hfl : l.stackTraces = false) (D : va_G) (cZ cI : ClassId) (a b : Nat → Nat) (σ : sC) (hro : ∀ r g : Nat, r < 4 → g < 3 → σ 10 (4 * g + r) = 0) : MR l yL_areAlike wsL_areAlike ({ frames := 9, cells := 24, slots := 144, locals := 163 } : Room) D (tyZ cZ cI) [.ref (a 0), .ref (b 0)] (wX cZ cI a σ ++ wX cZ cI b σ) 1 24 144 24 := by
  refine MR.of (cc := cL_areAlike) (maxL := 5) (ty := .boolean) (by decide) rfl rfl (Nat.le_of_ble_eq_true rfl) ?_
  intro p e s m args below meth c A Q S hK hZ hret ls hl hw
  replace hl : lv_has ls 5 [(0, .ref (a 0)), (1, .ref (b 0))] := hl
  replace S : CallFix p m c cL_areAlike 5 s args wsL_areAlike RL := S
  have hg : s.heap.size + 0 ≤ s.heap.size := Nat.le_refl _
  refine lv_aload_n S.1 S.2.1 dL_areAlike_0 rfl (lv_at hl 0 rfl) ?_
  refine bm_vi (As := []) (rest := []) S hK hw (kX0_repairs l D cZ cI a σ) (cwV 0 S.2.2.2.2 gL_areAlike_X0_repairs rfl rfl rfl (by decide +kernel) ⟨Nat.le_of_ble_eq_true rfl, Nat.le_of_ble_eq_true rfl⟩) (q0 := 0) rfl rfl rfl hl.1 rfl (Nat.le_of_ble_eq_true rfl) (Nat.zero_le _) (Nat.zero_le _) dL_areAlike_1 (fun H locs hw hg1 => ?_)
  replace hg := Nat.le_trans hg hg1
  refine lv_aload_n S.1 S.2.1 dL_areAlike_4 rfl (lv_at hl 1 rfl) ?_
  refine bm_wi (As := []) (rest := [.int (σ 16 0)]) S hK hw (kX0_repairs l D cZ cI b σ) (cwV 0 S.2.2.2.2 gL_areAlike_X0_repairs rfl rfl rfl (by decide +kernel) ⟨Nat.le_of_ble_eq_true rfl, Nat.le_of_ble_eq_true rfl⟩) (q0 := 0) rfl rfl rfl hl.1 rfl (Nat.le_of_ble_eq_true rfl) (Nat.zero_le _) (Nat.zero_le _) dL_areAlike_5 (fun H locs hw hg1 => ?_)
  replace hg := Nat.le_trans hg hg1
  refine br_ne (tgt := 15) S dL_areAlike_8 (by decide) (fun c8 => ?_) (fun c8 => ?_)
  · exact absurd c8 (not_not_intro rfl)
  refine lv_iconst (v := 1) S.1 S.2.1 dL_areAlike_11 (by decide) ?_
  refine lv_goto (tgt := 16) S.1 S.2.1 dL_areAlike_12 (by decide) ?_
  refine lv_istore_n (lv' := [(2, .int 1), (0, .ref (a 0)), (1, .ref (b 0))]) S.1 S.2.1 dL_areAlike_16 rfl hl (by decide) rfl (fun ls hl => ?_)
  refine lv_iconst (v := nI 0) S.1 S.2.1 dL_areAlike_17 (by decide) ?_
  refine lv_istore_n (lv' := [(3, .int (nI 0)), (2, .int 1), (0, .ref (a 0)), (1, .ref (b 0))]) S.1 S.2.1 dL_areAlike_18 rfl hl (by decide) rfl (fun ls hl => ?_)
  have L19 : ∀ (n g : Nat), g + n = 3 → ∀ (H : Heap) (locs : List Loc), Wd D A s.heap (wX cZ cI a σ ++ wX cZ cI b σ) H locs → s.heap.size + 8 * g ≤ H.size → ∀ ls : Array Slot, lv_has ls 5 [(0, .ref (a 0)), (1, .ref (b 0)), (2, .int 1), (3, .int (nI g))] → W p l e ({ frames := 9, cells := 24, slots := 144, locals := 163 } : Room) s m args below meth c H locs (8 * g) (48 * g) Q (F0 m 19 ls []) := by
    intro n
    induction n with
    | zero =>
      intro g hi H locs hw hg ls hl
      obtain rfl : g = 3 := by omega
      refine lv_iload_n S.1 S.2.1 dL_areAlike_19 rfl (lv_at hl 3 rfl) ?_
      refine lv_iconst (v := nI 3) S.1 S.2.1 dL_areAlike_20 (by decide) ?_
      refine br_ge (tgt := 172) S dL_areAlike_21 (by decide) (fun c21 => ?_) (fun c21 => ?_)
      rotate_left
      · exact absurd c21 (nlt_nI (by decide))
      refine lv_iload_n S.1 S.2.1 dL_areAlike_172 rfl (lv_at hl 2 rfl) ?_
      exact hret hw hg dL_areAlike_173 rfl
    | succ n ih19 =>
      intro g hi H locs hw hg ls hl
      have hg3 : g < 3 := by omega
      refine lv_iload_n S.1 S.2.1 dL_areAlike_19 rfl (lv_at hl 3 rfl) ?_
      refine lv_iconst (v := nI 3) S.1 S.2.1 dL_areAlike_20 (by decide) ?_
      refine br_ge (tgt := 172) S dL_areAlike_21 (by decide) (fun c21 => ?_) (fun c21 => ?_)
      · exact absurd c21 (not_not_intro (lt_nI hg3 (by decide)))
      refine lv_iload_n S.1 S.2.1 dL_areAlike_24 rfl (lv_at hl 2 rfl) ?_
      refine bz_eq (tgt := 71) S dL_areAlike_25 (by decide) (fun c25 => ?_) (fun c25 => ?_)
      · exact absurd c25 (by decide)
      refine lv_aload_n S.1 S.2.1 dL_areAlike_28 rfl (lv_at hl 0 rfl) ?_
      refine lv_iload_n S.1 S.2.1 dL_areAlike_29 rfl (lv_at hl 3 rfl) ?_
      refine bm_vi (As := [.int (nI g)]) (rest := []) S hK hw (kX0_masters l D cZ cI a σ (g := g) hg3) (cwV 1 S.2.2.2.2 gL_areAlike_X0_masters rfl rfl rfl (by decide +kernel) ⟨Nat.le_of_ble_eq_true rfl, Nat.le_of_ble_eq_true rfl⟩) (q0 := 0) rfl rfl rfl hl.1 rfl (Nat.le_of_ble_eq_true rfl) (by show _ ≤ 24; omega) (by show _ ≤ 144; omega) dL_areAlike_30 (fun H locs hw hg1 => ?_)
      replace hg := Nat.le_trans hg hg1
      refine lv_aload_n S.1 S.2.1 dL_areAlike_33 rfl (lv_at hl 1 rfl) ?_
      refine lv_iload_n S.1 S.2.1 dL_areAlike_34 rfl (lv_at hl 3 rfl) ?_
      refine bm_wi (As := [.int (nI g)]) (rest := [.int (memW σ 2 g)]) S hK hw (kX0_masters l D cZ cI b σ (g := g) hg3) (cwV 1 S.2.2.2.2 gL_areAlike_X0_masters rfl rfl rfl (by decide +kernel) ⟨Nat.le_of_ble_eq_true rfl, Nat.le_of_ble_eq_true rfl⟩) (q0 := 0) rfl rfl rfl hl.1 rfl (Nat.le_of_ble_eq_true rfl) (by show _ ≤ 24; omega) (by show _ ≤ 144; omega) dL_areAlike_35 (fun H locs hw hg1 => ?_)
      replace hg := Nat.le_trans hg hg1
      refine br_ne (tgt := 71) S dL_areAlike_38 (by decide) (fun c38 => ?_) (fun c38 => ?_)
      · exact absurd c38 (not_not_intro rfl)
      refine lv_aload_n S.1 S.2.1 dL_areAlike_41 rfl (lv_at hl 0 rfl) ?_
      refine lv_iload_n S.1 S.2.1 dL_areAlike_42 rfl (lv_at hl 3 rfl) ?_
      refine bm_vi (As := [.int (nI g)]) (rest := []) S hK hw (kX0_gaps l D cZ cI a σ (g := g) hg3) (cwV 1 S.2.2.2.2 gL_areAlike_X0_gaps rfl rfl rfl (by decide +kernel) ⟨Nat.le_of_ble_eq_true rfl, Nat.le_of_ble_eq_true rfl⟩) (q0 := 0) rfl rfl rfl hl.1 rfl (Nat.le_of_ble_eq_true rfl) (by show _ ≤ 24; omega) (by show _ ≤ 144; omega) dL_areAlike_43 (fun H locs hw hg1 => ?_)
      replace hg := Nat.le_trans hg hg1
      refine lv_aload_n S.1 S.2.1 dL_areAlike_46 rfl (lv_at hl 1 rfl) ?_
      refine lv_iload_n S.1 S.2.1 dL_areAlike_47 rfl (lv_at hl 3 rfl) ?_
      refine bm_wi (As := [.int (nI g)]) (rest := [.int (σ 7 g)]) S hK hw (kX0_gaps l D cZ cI b σ (g := g) hg3) (cwV 1 S.2.2.2.2 gL_areAlike_X0_gaps rfl rfl rfl (by decide +kernel) ⟨Nat.le_of_ble_eq_true rfl, Nat.le_of_ble_eq_true rfl⟩) (q0 := 0) rfl rfl rfl hl.1 rfl (Nat.le_of_ble_eq_true rfl) (by show _ ≤ 24; omega) (by show _ ≤ 144; omega) dL_areAlike_48 (fun H locs hw hg1 => ?_)
      replace hg := Nat.le_trans hg hg1
      refine br_ne (tgt := 71) S dL_areAlike_51 (by decide) (fun c51 => ?_) (fun c51 => ?_)
      · exact absurd c51 (not_not_intro rfl)
      refine lv_aload_n S.1 S.2.1 dL_areAlike_54 rfl (lv_at hl 0 rfl) ?_
      refine lv_iload_n S.1 S.2.1 dL_areAlike_55 rfl (lv_at hl 3 rfl) ?_
      refine bm_vi (As := [.int (nI g)]) (rest := []) S hK hw (kX0_sent l D cZ cI a σ (g := g) hg3) (cwV 1 S.2.2.2.2 gL_areAlike_X0_sent rfl rfl rfl (by decide +kernel) ⟨Nat.le_of_ble_eq_true rfl, Nat.le_of_ble_eq_true rfl⟩) (q0 := 0) rfl rfl rfl hl.1 rfl (Nat.le_of_ble_eq_true rfl) (by show _ ≤ 24; omega) (by show _ ≤ 144; omega) dL_areAlike_56 (fun H locs hw hg1 => ?_)
      replace hg := Nat.le_trans hg hg1
      refine lv_aload_n S.1 S.2.1 dL_areAlike_59 rfl (lv_at hl 1 rfl) ?_
      refine lv_iload_n S.1 S.2.1 dL_areAlike_60 rfl (lv_at hl 3 rfl) ?_
      refine bm_wi (As := [.int (nI g)]) (rest := [.int (σ 8 g)]) S hK hw (kX0_sent l D cZ cI b σ (g := g) hg3) (cwV 1 S.2.2.2.2 gL_areAlike_X0_sent rfl rfl rfl (by decide +kernel) ⟨Nat.le_of_ble_eq_true rfl, Nat.le_of_ble_eq_true rfl⟩) (q0 := 0) rfl rfl rfl hl.1 rfl (Nat.le_of_ble_eq_true rfl) (by show _ ≤ 24; omega) (by show _ ≤ 144; omega) dL_areAlike_61 (fun H locs hw hg1 => ?_)
      replace hg := Nat.le_trans hg hg1
      refine br_ne (tgt := 71) S dL_areAlike_64 (by decide) (fun c64 => ?_) (fun c64 => ?_)
      · exact absurd c64 (not_not_intro rfl)
      refine lv_iconst (v := 1) S.1 S.2.1 dL_areAlike_67 (by decide) ?_
      refine lv_goto (tgt := 72) S.1 S.2.1 dL_areAlike_68 (by decide) ?_
      refine lv_istore_n (lv' := [(2, .int 1), (0, .ref (a 0)), (1, .ref (b 0)), (3, .int (nI g))]) S.1 S.2.1 dL_areAlike_72 rfl hl (by decide) rfl (fun ls hl => ?_)
      refine lv_iconst (v := nI 0) S.1 S.2.1 dL_areAlike_73 (by decide) ?_
      refine lv_istore (lv' := [(4, .int (nI 0)), (2, .int 1), (0, .ref (a 0)), (1, .ref (b 0)), (3, .int (nI g))]) S.1 S.2.1 dL_areAlike_74 hl (by decide) rfl (fun ls hl => ?_)
      have L76 : ∀ (n r : Nat), r + n = 4 → ∀ (H : Heap) (locs : List Loc), Wd D A s.heap (wX cZ cI a σ ++ wX cZ cI b σ) H locs → s.heap.size + (8 * g + 2 * r) ≤ H.size → ∀ ls : Array Slot, lv_has ls 5 [(0, .ref (a 0)), (1, .ref (b 0)), (2, .int 1), (3, .int (nI g)), (4, .int (nI r))] → W p l e ({ frames := 9, cells := 24, slots := 144, locals := 163 } : Room) s m args below meth c H locs (8 * g + 2 * r) (48 * g + 12 * r) Q (F0 m 76 ls []) := by
        intro n
        induction n with
        | zero =>
          intro r hi2 H locs hw hg ls hl
          obtain rfl : r = 4 := by omega
          refine lv_iload S.1 S.2.1 dL_areAlike_76 (lv_at hl 4 rfl) ?_
          refine lv_iconst (v := nI 4) S.1 S.2.1 dL_areAlike_78 (by decide) ?_
          refine br_ge (tgt := 166) S dL_areAlike_79 (by decide) (fun c79 => ?_) (fun c79 => ?_)
          rotate_left
          · exact absurd c79 (nlt_nI (by decide))
          refine lv_iinc (v := nI (g + 1)) (lv' := [(3, .int (nI (g + 1))), (0, .ref (a 0)), (1, .ref (b 0)), (2, .int 1), (4, .int (nI 4))]) S.1 S.2.1 dL_areAlike_166 hl (k := 3) rfl (nI_1 g) (by decide) rfl (fun ls hl => ?_)
          refine lv_goto (tgt := 19) S.1 S.2.1 dL_areAlike_169 (by decide) ?_
          refine W.widen (k := 8 * (g + 1)) (n := 48 * (g + 1)) (by omega) (by omega) ?_
          exact ih19 (g + 1) (by omega) _ _ hw (by omega) _ (lv_sub hl [1, 2, 3, 0] rfl)
        | succ n ih76 =>
          intro r hi2 H locs hw hg ls hl
          have hr : r < 4 := by omega
          refine lv_iload S.1 S.2.1 dL_areAlike_76 (lv_at hl 4 rfl) ?_
          refine lv_iconst (v := nI 4) S.1 S.2.1 dL_areAlike_78 (by decide) ?_
          refine br_ge (tgt := 166) S dL_areAlike_79 (by decide) (fun c79 => ?_) (fun c79 => ?_)
          · exact absurd c79 (not_not_intro (lt_nI hr (by decide)))
          refine lv_iload_n S.1 S.2.1 dL_areAlike_82 rfl (lv_at hl 2 rfl) ?_
          refine bz_eq (tgt := 158) S dL_areAlike_83 (by decide) (fun c83 => ?_) (fun c83 => ?_)
          · exact absurd c83 (by decide)
          refine lv_aload_n S.1 S.2.1 dL_areAlike_86 rfl (lv_at hl 0 rfl) ?_
          refine lv_iload S.1 S.2.1 dL_areAlike_87 (lv_at hl 4 rfl) ?_
          refine lv_iload_n S.1 S.2.1 dL_areAlike_89 rfl (lv_at hl 3 rfl) ?_
          refine bm_vi (As := [.int (nI r), .int (nI g)]) (rest := []) S hK hw (kX0_state l D cZ cI a σ (r := r) (g := g) hr hg3) (cwV 2 S.2.2.2.2 gL_areAlike_X0_state rfl rfl rfl (by decide +kernel) ⟨Nat.le_of_ble_eq_true rfl, Nat.le_of_ble_eq_true rfl⟩) (q0 := 0) rfl rfl rfl hl.1 rfl (Nat.le_of_ble_eq_true rfl) (by show _ ≤ 24; omega) (by show _ ≤ 144; omega) dL_areAlike_90 (fun H locs hw hg1 => ?_)
          replace hg := Nat.le_trans hg hg1
          refine lv_aload_n S.1 S.2.1 dL_areAlike_93 rfl (lv_at hl 1 rfl) ?_
          refine lv_iload S.1 S.2.1 dL_areAlike_94 (lv_at hl 4 rfl) ?_
          refine lv_iload_n S.1 S.2.1 dL_areAlike_96 rfl (lv_at hl 3 rfl) ?_
          refine bm_wi (As := [.int (nI r), .int (nI g)]) (rest := [.int (σ 10 (4 * g + r))]) S hK hw (kX0_state l D cZ cI b σ (r := r) (g := g) hr hg3) (cwV 2 S.2.2.2.2 gL_areAlike_X0_state rfl rfl rfl (by decide +kernel) ⟨Nat.le_of_ble_eq_true rfl, Nat.le_of_ble_eq_true rfl⟩) (q0 := 0) rfl rfl rfl hl.1 rfl (Nat.le_of_ble_eq_true rfl) (by show _ ≤ 24; omega) (by show _ ≤ 144; omega) dL_areAlike_97 (fun H locs hw hg1 => ?_)
          replace hg := Nat.le_trans hg hg1
          refine br_ne (tgt := 158) S dL_areAlike_100 (by decide) (fun c100 => ?_) (fun c100 => ?_)
          · exact absurd c100 (not_not_intro rfl)
          refine lv_aload_n S.1 S.2.1 dL_areAlike_103 rfl (lv_at hl 0 rfl) ?_
          refine lv_iload S.1 S.2.1 dL_areAlike_104 (lv_at hl 4 rfl) ?_
          refine lv_iload_n S.1 S.2.1 dL_areAlike_106 rfl (lv_at hl 3 rfl) ?_
          refine bm_sb (As := [.ref (a 0), .int (nI r), .int (nI g)]) (rest := []) S hK hZ hw (kL_timer_IS l D cZ cI a σ (nI r) (nI g) (tX0_timer_s l hfl D cZ cI a σ (r := r) (g := g) hr hg3 (hro r g hr hg3))) (vx_cwSW 3 S.2.2.2.2 gL_areAlike_L_timer rfl rfl rfl (by decide +kernel) ⟨Nat.le_of_ble_eq_true rfl, Nat.le_of_ble_eq_true rfl⟩) rfl hl.1 rfl (Nat.le_of_ble_eq_true rfl) (by show _ ≤ 24; omega) (by show _ ≤ 144; omega) dL_areAlike_107 (fun H locs hw hg1 => ?_)
          replace hg := Nat.succ_le_of_lt (Nat.lt_of_le_of_lt hg hg1)
          refine lv_aload_n S.1 S.2.1 dL_areAlike_110 rfl (lv_at hl 1 rfl) ?_
          refine lv_iload S.1 S.2.1 dL_areAlike_111 (lv_at hl 4 rfl) ?_
          refine lv_iload_n S.1 S.2.1 dL_areAlike_113 rfl (lv_at hl 3 rfl) ?_
          refine bm_wb (As := [.ref (b 0), .int (nI r), .int (nI g)]) (rest := [.int (-1)]) S hK hZ hw (kL_timer_IS l D cZ cI b σ (nI r) (nI g) (tX0_timer_s l hfl D cZ cI b σ (r := r) (g := g) hr hg3 (hro r g hr hg3))) (vx_cwSW 3 S.2.2.2.2 gL_areAlike_L_timer rfl rfl rfl (by decide +kernel) ⟨Nat.le_of_ble_eq_true rfl, Nat.le_of_ble_eq_true rfl⟩) rfl hl.1 rfl (Nat.le_of_ble_eq_true rfl) (by show _ ≤ 24; omega) (by show _ ≤ 144; omega) dL_areAlike_114 (fun H locs hw hg1 => ?_)
          replace hg := Nat.succ_le_of_lt (Nat.lt_of_le_of_lt hg hg1)
          refine br_ne (tgt := 158) S dL_areAlike_117 (by decide) (fun c117 => ?_) (fun c117 => ?_)
          · exact absurd c117 (not_not_intro rfl)
          refine lv_aload_n S.1 S.2.1 dL_areAlike_120 rfl (lv_at hl 0 rfl) ?_
          refine lv_iload S.1 S.2.1 dL_areAlike_121 (lv_at hl 4 rfl) ?_
          refine lv_iload_n S.1 S.2.1 dL_areAlike_123 rfl (lv_at hl 3 rfl) ?_
          refine bm_vi (As := [.int (nI r), .int (nI g)]) (rest := []) S hK hw (kX0_known l D cZ cI a σ (r := r) (g := g) hr hg3) (cwV 2 S.2.2.2.2 gL_areAlike_X0_known rfl rfl rfl (by decide +kernel) ⟨Nat.le_of_ble_eq_true rfl, Nat.le_of_ble_eq_true rfl⟩) (q0 := 0) rfl rfl rfl hl.1 rfl (Nat.le_of_ble_eq_true rfl) (by show _ ≤ 24; omega) (by show _ ≤ 144; omega) dL_areAlike_124 (fun H locs hw hg1 => ?_)
          replace hg := Nat.le_trans hg hg1
          refine lv_aload_n S.1 S.2.1 dL_areAlike_127 rfl (lv_at hl 1 rfl) ?_
          refine lv_iload S.1 S.2.1 dL_areAlike_128 (lv_at hl 4 rfl) ?_
          refine lv_iload_n S.1 S.2.1 dL_areAlike_130 rfl (lv_at hl 3 rfl) ?_
          refine bm_wi (As := [.int (nI r), .int (nI g)]) (rest := [.int (σ 13 (4 * g + r))]) S hK hw (kX0_known l D cZ cI b σ (r := r) (g := g) hr hg3) (cwV 2 S.2.2.2.2 gL_areAlike_X0_known rfl rfl rfl (by decide +kernel) ⟨Nat.le_of_ble_eq_true rfl, Nat.le_of_ble_eq_true rfl⟩) (q0 := 0) rfl rfl rfl hl.1 rfl (Nat.le_of_ble_eq_true rfl) (by show _ ≤ 24; omega) (by show _ ≤ 144; omega) dL_areAlike_131 (fun H locs hw hg1 => ?_)
          replace hg := Nat.le_trans hg hg1
          refine br_ne (tgt := 158) S dL_areAlike_134 (by decide) (fun c134 => ?_) (fun c134 => ?_)
          · exact absurd c134 (not_not_intro rfl)
          refine lv_aload_n S.1 S.2.1 dL_areAlike_137 rfl (lv_at hl 0 rfl) ?_
          refine lv_iload S.1 S.2.1 dL_areAlike_138 (lv_at hl 4 rfl) ?_
          refine lv_iload_n S.1 S.2.1 dL_areAlike_140 rfl (lv_at hl 3 rfl) ?_
          refine bm_vi (As := [.int (nI r), .int (nI g)]) (rest := []) S hK hw (kX0_changes l D cZ cI a σ (r := r) (g := g) hr hg3) (cwV 2 S.2.2.2.2 gL_areAlike_X0_changes rfl rfl rfl (by decide +kernel) ⟨Nat.le_of_ble_eq_true rfl, Nat.le_of_ble_eq_true rfl⟩) (q0 := 0) rfl rfl rfl hl.1 rfl (Nat.le_of_ble_eq_true rfl) (by show _ ≤ 24; omega) (by show _ ≤ 144; omega) dL_areAlike_141 (fun H locs hw hg1 => ?_)
          replace hg := Nat.le_trans hg hg1
          refine lv_aload_n S.1 S.2.1 dL_areAlike_144 rfl (lv_at hl 1 rfl) ?_
          refine lv_iload S.1 S.2.1 dL_areAlike_145 (lv_at hl 4 rfl) ?_
          refine lv_iload_n S.1 S.2.1 dL_areAlike_147 rfl (lv_at hl 3 rfl) ?_
          refine bm_wi (As := [.int (nI r), .int (nI g)]) (rest := [.int (σ 14 (4 * g + r))]) S hK hw (kX0_changes l D cZ cI b σ (r := r) (g := g) hr hg3) (cwV 2 S.2.2.2.2 gL_areAlike_X0_changes rfl rfl rfl (by decide +kernel) ⟨Nat.le_of_ble_eq_true rfl, Nat.le_of_ble_eq_true rfl⟩) (q0 := 0) rfl rfl rfl hl.1 rfl (Nat.le_of_ble_eq_true rfl) (by show _ ≤ 24; omega) (by show _ ≤ 144; omega) dL_areAlike_148 (fun H locs hw hg1 => ?_)
          replace hg := Nat.le_trans hg hg1
          refine br_ne (tgt := 158) S dL_areAlike_151 (by decide) (fun c151 => ?_) (fun c151 => ?_)
          · exact absurd c151 (not_not_intro rfl)
          refine lv_iconst (v := 1) S.1 S.2.1 dL_areAlike_154 (by decide) ?_
          refine lv_goto (tgt := 159) S.1 S.2.1 dL_areAlike_155 (by decide) ?_
          refine lv_istore_n (lv' := [(2, .int 1), (0, .ref (a 0)), (1, .ref (b 0)), (3, .int (nI g)), (4, .int (nI r))]) S.1 S.2.1 dL_areAlike_159 rfl hl (by decide) rfl (fun ls hl => ?_)
          refine lv_iinc (v := nI (r + 1)) (lv' := [(4, .int (nI (r + 1))), (2, .int 1), (0, .ref (a 0)), (1, .ref (b 0)), (3, .int (nI g))]) S.1 S.2.1 dL_areAlike_160 hl (k := 4) rfl (nI_1 r) (by decide) rfl (fun ls hl => ?_)
          refine lv_goto (tgt := 76) S.1 S.2.1 dL_areAlike_163 (by decide) ?_
          refine W.widen (k := 8 * g + 2 * (r + 1)) (n := 48 * g + 12 * (r + 1)) (by omega) (by omega) ?_
          exact ih76 (r + 1) (by omega) _ _ hw (by omega) _ (lv_sub hl [2, 3, 1, 4, 0] rfl)
      refine W.widen (k := 8 * g + 2 * 0) (n := 48 * g + 12 * 0) (by omega) (by omega) ?_
      exact L76 4 0 rfl _ _ hw (by omega) _ (lv_sub hl [2, 3, 1, 4, 0] rfl)
  exact L19 3 0 rfl _ _ hw hg _ (lv_sub hl [2, 3, 1, 0] rfl)
set_option maxHeartbeats 4000000 in
set_option maxRecDepth 100000 in
theorem kL_isGroupSo (l : Launch) (hfl : l.stackTraces = false) (D : va_G) (cZ cI : ClassId) (a : Nat → Nat) {g : Nat} (hg3 : g < 3) : MR l yL_isGroupSo wsL_isGroupSo ({ frames := 9, cells := 4, slots := 24, locals := 163 } : Room) D (tyZ cZ cI) [.ref (a 0), .int (nI g)] (wX cZ cI a s0) 1 4 24 4 := by
  refine MR.of (cc := cL_isGroupSo) (maxL := 10) (ty := .boolean) (by decide) rfl rfl (Nat.le_of_ble_eq_true rfl) ?_
  intro p e s m args below meth c A Q S hK hZ hret ls hl hw
  replace hl : lv_has ls 10 [(0, .ref (a 0)), (1, .int (nI g))] := hl
  replace S : CallFix p m c cL_isGroupSo 10 s args wsL_isGroupSo RL := S
  have hg : s.heap.size + 0 ≤ s.heap.size := Nat.le_refl _
  refine lv_iconst (v := 0) S.1 S.2.1 dL_isGroupSo_0 (by decide) ?_
  refine lv_istore_n (lv' := [(2, .int 0), (0, .ref (a 0)), (1, .int (nI g))]) S.1 S.2.1 dL_isGroupSo_1 rfl hl (by decide) rfl (fun ls hl => ?_)
  refine lv_iconst (v := 0) S.1 S.2.1 dL_isGroupSo_2 (by decide) ?_
  refine lv_istore_n (lv' := [(3, .int 0), (2, .int 0), (0, .ref (a 0)), (1, .int (nI g))]) S.1 S.2.1 dL_isGroupSo_3 rfl hl (by decide) rfl (fun ls hl => ?_)
  refine lv_iconst (v := 0) S.1 S.2.1 dL_isGroupSo_4 (by decide) ?_
  refine lv_istore (lv' := [(4, .int 0), (3, .int 0), (2, .int 0), (0, .ref (a 0)), (1, .int (nI g))]) S.1 S.2.1 dL_isGroupSo_5 hl (by decide) rfl (fun ls hl => ?_)
  refine lv_iconst (v := nI 0) S.1 S.2.1 dL_isGroupSo_7 (by decide) ?_
  refine lv_istore (lv' := [(5, .int (nI 0)), (4, .int 0), (3, .int 0), (2, .int 0), (0, .ref (a 0)), (1, .int (nI g))]) S.1 S.2.1 dL_isGroupSo_8 hl (by decide) rfl (fun ls hl => ?_)
  have L10 : ∀ (n r : Nat), r + n = 4 → ∀ (H : Heap) (locs : List Loc), Wd D A s.heap (wX cZ cI a s0) H locs → s.heap.size + r ≤ H.size → ∀ ls : Array Slot, lv_has ls 10 [(0, .ref (a 0)), (1, .int (nI g)), (2, .int 0), (3, .int 0), (4, .int 0), (5, .int (nI r))] → W p l e ({ frames := 9, cells := 4, slots := 24, locals := 163 } : Room) s m args below meth c H locs r (6 * r) Q (F0 m 10 ls []) := by
    intro n
    induction n with
    | zero =>
      intro r hi H locs hw hg ls hl
      obtain rfl : r = 4 := by omega
      refine lv_iload S.1 S.2.1 dL_isGroupSo_10 (lv_at hl 5 rfl) ?_
      refine lv_iconst (v := nI 4) S.1 S.2.1 dL_isGroupSo_12 (by decide) ?_
      refine br_ge (tgt := 170) S dL_isGroupSo_13 (by decide) (fun c13 => ?_) (fun c13 => ?_)
      rotate_left
      · exact absurd c13 (nlt_nI (by decide))
      refine lv_iload_n S.1 S.2.1 dL_isGroupSo_170 rfl (lv_at hl 2 rfl) ?_
      refine bz_eq (tgt := 186) S dL_isGroupSo_171 (by decide) (fun c171 => ?_) (fun c171 => ?_)
      rotate_left
      · exact absurd c171 (by decide)
      refine lv_iconst (v := 0) S.1 S.2.1 dL_isGroupSo_186 (by decide) ?_
      refine lv_istore (lv' := [(5, .int 0), (0, .ref (a 0)), (1, .int (nI g)), (2, .int 0), (3, .int 0), (4, .int 0)]) S.1 S.2.1 dL_isGroupSo_187 hl (by decide) rfl (fun ls hl => ?_)
      refine lv_aload_n S.1 S.2.1 dL_isGroupSo_189 rfl (lv_at hl 1 rfl) ?_
      refine lv_iload_n S.1 S.2.1 dL_isGroupSo_190 rfl (lv_at hl 2 rfl) ?_
      refine bm_vi (w2 := []) (As := [.int (nI g)]) (rest := []) S hK hw.nil (kX0_masters l D cZ cI a s0 (g := g) hg3) (cwV 1 S.2.2.2.2 gL_isGroupSo_X0_masters rfl rfl rfl (by decide +kernel) ⟨Nat.le_of_ble_eq_true rfl, Nat.le_of_ble_eq_true rfl⟩) (q0 := 0) rfl rfl rfl hl.1 rfl (Nat.le_of_ble_eq_true rfl) (by show _ ≤ 4; omega) (by show _ ≤ 24; omega) dL_isGroupSo_191 (fun H locs hw hg1 => ?_)
      replace hw := Wd.unnil hw
      replace hg := Nat.le_trans hg hg1
      refine bx_top (y := 0) (mem_s0 2 g (by decide)) ?_
      refine lv_iload_n S.1 S.2.1 dL_isGroupSo_194 rfl (lv_at hl 3 rfl) ?_
      refine br_ne (tgt := 246) S dL_isGroupSo_195 (by decide) (fun c195 => ?_) (fun c195 => ?_)
      · exact absurd c195 (by decide)
      refine lv_iload S.1 S.2.1 dL_isGroupSo_198 (lv_at hl 0 rfl) ?_
      refine bz_eq (tgt := 211) S dL_isGroupSo_200 (by decide) (fun c200 => ?_) (fun c200 => ?_)
      rotate_left
      · exact absurd c200 (by decide)
      refine lv_iload_n S.1 S.2.1 dL_isGroupSo_211 rfl (lv_at hl 3 rfl) ?_
      refine bz_ne (tgt := 232) S dL_isGroupSo_212 (by decide) (fun c212 => ?_) (fun c212 => ?_)
      · exact absurd c212 (by decide)
      refine lv_aload_n S.1 S.2.1 dL_isGroupSo_215 rfl (lv_at hl 1 rfl) ?_
      refine lv_iload_n S.1 S.2.1 dL_isGroupSo_216 rfl (lv_at hl 2 rfl) ?_
      refine bm_vi (w2 := []) (As := [.int (nI g)]) (rest := []) S hK hw.nil (kX0_isSettled l D cZ cI a s0 (g := g) hg3) (cwV 1 S.2.2.2.2 gL_isGroupSo_X0_isSettled rfl rfl rfl (by decide +kernel) ⟨Nat.le_of_ble_eq_true rfl, Nat.le_of_ble_eq_true rfl⟩) (q0 := 0) rfl rfl rfl hl.1 rfl (Nat.le_of_ble_eq_true rfl) (by show _ ≤ 4; omega) (by show _ ≤ 24; omega) dL_isGroupSo_217 (fun H locs hw hg1 => ?_)
      replace hw := Wd.unnil hw
      replace hg := Nat.le_trans hg hg1
      refine bx_top (y := 1) (setl_s0 g) ?_
      refine lv_iload_n S.1 S.2.1 dL_isGroupSo_220 rfl (lv_at hl 4 rfl) ?_
      refine bz_ne (tgt := 228) S dL_isGroupSo_221 (by decide) (fun c221 => ?_) (fun c221 => ?_)
      · exact absurd c221 (by decide)
      refine lv_iconst (v := 1) S.1 S.2.1 dL_isGroupSo_224 (by decide) ?_
      refine lv_goto (tgt := 229) S.1 S.2.1 dL_isGroupSo_225 (by decide) ?_
      refine br_ne (tgt := 246) S dL_isGroupSo_229 (by decide) (fun c229 => ?_) (fun c229 => ?_)
      · exact absurd c229 (by decide)
      refine lv_iload S.1 S.2.1 dL_isGroupSo_232 (lv_at hl 5 rfl) ?_
      refine lv_aload_n S.1 S.2.1 dL_isGroupSo_234 rfl (lv_at hl 1 rfl) ?_
      refine lv_iload_n S.1 S.2.1 dL_isGroupSo_235 rfl (lv_at hl 2 rfl) ?_
      refine bm_vi (w2 := []) (As := [.int (nI g)]) (rest := [.int 0]) S hK hw.nil (kX0_sent l D cZ cI a s0 (g := g) hg3) (cwV 1 S.2.2.2.2 gL_isGroupSo_X0_sent rfl rfl rfl (by decide +kernel) ⟨Nat.le_of_ble_eq_true rfl, Nat.le_of_ble_eq_true rfl⟩) (q0 := 0) rfl rfl rfl hl.1 rfl (Nat.le_of_ble_eq_true rfl) (by show _ ≤ 4; omega) (by show _ ≤ 24; omega) dL_isGroupSo_236 (fun H locs hw hg1 => ?_)
      replace hw := Wd.unnil hw
      replace hg := Nat.le_trans hg hg1
      refine bx_top (y := 0) (s0_0 8 (by decide) g) ?_
      refine br_gt (tgt := 246) S dL_isGroupSo_239 (by decide) (fun c239 => ?_) (fun c239 => ?_)
      · exact absurd c239 (by decide)
      refine lv_iconst (v := 1) S.1 S.2.1 dL_isGroupSo_242 (by decide) ?_
      refine lv_goto (tgt := 247) S.1 S.2.1 dL_isGroupSo_243 (by decide) ?_
      exact hret hw hg dL_isGroupSo_247 rfl
    | succ n ih10 =>
      intro r hi H locs hw hg ls hl
      have hr : r < 4 := by omega
      refine lv_iload S.1 S.2.1 dL_isGroupSo_10 (lv_at hl 5 rfl) ?_
      refine lv_iconst (v := nI 4) S.1 S.2.1 dL_isGroupSo_12 (by decide) ?_
      refine br_ge (tgt := 170) S dL_isGroupSo_13 (by decide) (fun c13 => ?_) (fun c13 => ?_)
      · exact absurd c13 (not_not_intro (lt_nI hr (by decide)))
      refine lv_aload_n S.1 S.2.1 dL_isGroupSo_16 rfl (lv_at hl 0 rfl) ?_
      refine lv_iload S.1 S.2.1 dL_isGroupSo_17 (lv_at hl 5 rfl) ?_
      refine lv_iload_n S.1 S.2.1 dL_isGroupSo_19 rfl (lv_at hl 1 rfl) ?_
      refine bm_vi (w2 := []) (As := [.int (nI r), .int (nI g)]) (rest := []) S hK hw.nil (kX0_state l D cZ cI a s0 (r := r) (g := g) hr hg3) (cwV 2 S.2.2.2.2 gL_isGroupSo_X0_state rfl rfl rfl (by decide +kernel) ⟨Nat.le_of_ble_eq_true rfl, Nat.le_of_ble_eq_true rfl⟩) (q0 := 0) rfl rfl rfl hl.1 rfl (Nat.le_of_ble_eq_true rfl) (by show _ ≤ 4; omega) (by show _ ≤ 24; omega) dL_isGroupSo_20 (fun H locs hw hg1 => ?_)
      replace hw := Wd.unnil hw
      replace hg := Nat.le_trans hg hg1
      refine bx_top (y := 0) (s0_0 10 (by decide) _) ?_
      refine lv_istore (lv' := [(6, .int 0), (0, .ref (a 0)), (1, .int (nI g)), (2, .int 0), (3, .int 0), (4, .int 0), (5, .int (nI r))]) S.1 S.2.1 dL_isGroupSo_23 hl (by decide) rfl (fun ls hl => ?_)
      refine lv_aload_n S.1 S.2.1 dL_isGroupSo_25 rfl (lv_at hl 1 rfl) ?_
      refine lv_iload S.1 S.2.1 dL_isGroupSo_26 (lv_at hl 6 rfl) ?_
      refine lv_iload_n S.1 S.2.1 dL_isGroupSo_28 rfl (lv_at hl 2 rfl) ?_
      refine bm_sb (w2 := []) (As := [.ref (a 0), .int (nI r), .int (nI g)]) (rest := []) S hK hZ hw.nil (kL_timer_IS l D cZ cI a s0 (nI r) (nI g) (tX0_timer_s l hfl D cZ cI a s0 (r := r) (g := g) hr hg3 rfl)) (vx_cwSW 3 S.2.2.2.2 gL_isGroupSo_L_timer rfl rfl rfl (by decide +kernel) ⟨Nat.le_of_ble_eq_true rfl, Nat.le_of_ble_eq_true rfl⟩) rfl hl.1 rfl (Nat.le_of_ble_eq_true rfl) (by show _ ≤ 4; omega) (by show _ ≤ 24; omega) dL_isGroupSo_29 (fun H locs hw hg1 => ?_)
      replace hw := Wd.unnil hw
      replace hg := Nat.succ_le_of_lt (Nat.lt_of_le_of_lt hg hg1)
      refine lv_istore (lv' := [(7, .int (-1)), (6, .int 0), (0, .ref (a 0)), (1, .int (nI g)), (2, .int 0), (3, .int 0), (4, .int 0), (5, .int (nI r))]) S.1 S.2.1 dL_isGroupSo_32 hl (by decide) rfl (fun ls hl => ?_)
      refine lv_aload_n S.1 S.2.1 dL_isGroupSo_34 rfl (lv_at hl 2 rfl) ?_
      refine lv_iload S.1 S.2.1 dL_isGroupSo_35 (lv_at hl 7 rfl) ?_
      refine lv_iload_n S.1 S.2.1 dL_isGroupSo_37 rfl (lv_at hl 3 rfl) ?_
      refine bm_vi (w2 := []) (As := [.int (nI r), .int (nI g)]) (rest := []) S hK hw.nil (kX0_priority l D cZ cI a s0 (r := r) (g := g) hr hg3) (cwV 2 S.2.2.2.2 gL_isGroupSo_X0_priority rfl rfl rfl (by decide +kernel) ⟨Nat.le_of_ble_eq_true rfl, Nat.le_of_ble_eq_true rfl⟩) (q0 := 0) rfl rfl rfl hl.1 rfl (Nat.le_of_ble_eq_true rfl) (by show _ ≤ 4; omega) (by show _ ≤ 24; omega) dL_isGroupSo_38 (fun H locs hw hg1 => ?_)
      replace hw := Wd.unnil hw
      replace hg := Nat.le_trans hg hg1
      refine bx_top (y := 0) (prio_s0 r g) ?_
      refine lv_istore (lv' := [(8, .int 0), (7, .int (-1)), (6, .int 0), (0, .ref (a 0)), (1, .int (nI g)), (2, .int 0), (3, .int 0), (4, .int 0), (5, .int (nI r))]) S.1 S.2.1 dL_isGroupSo_41 hl (by decide) rfl (fun ls hl => ?_)
      refine lv_iload S.1 S.2.1 dL_isGroupSo_43 (lv_at hl 2 rfl) ?_
      refine bz_lt (tgt := 112) S dL_isGroupSo_45 (by decide) (fun c45 => ?_) (fun c45 => ?_)
      · exact absurd c45 (by decide)
      refine lv_iload S.1 S.2.1 dL_isGroupSo_48 (lv_at hl 2 rfl) ?_
      refine lv_iconst (v := 3) S.1 S.2.1 dL_isGroupSo_50 (by decide) ?_
      refine br_ge (tgt := 112) S dL_isGroupSo_51 (by decide) (fun c51 => ?_) (fun c51 => ?_)
      · exact absurd c51 (by decide)
      refine lv_iload S.1 S.2.1 dL_isGroupSo_54 (lv_at hl 2 rfl) ?_
      refine bz_ne (tgt := 73) S dL_isGroupSo_56 (by decide) (fun c56 => ?_) (fun c56 => ?_)
      · exact absurd c56 (by decide)
      refine lv_iload S.1 S.2.1 dL_isGroupSo_59 (lv_at hl 1 rfl) ?_
      refine lv_iconst (v := -1) S.1 S.2.1 dL_isGroupSo_61 (by decide) ?_
      refine br_ne (tgt := 112) S dL_isGroupSo_62 (by decide) (fun c62 => ?_) (fun c62 => ?_)
      · exact absurd c62 (by decide)
      refine lv_iload S.1 S.2.1 dL_isGroupSo_65 (lv_at hl 0 rfl) ?_
      refine bz_ne (tgt := 112) S dL_isGroupSo_67 (by decide) (fun c67 => ?_) (fun c67 => ?_)
      · exact absurd c67 (by decide)
      refine lv_goto (tgt := 98) S.1 S.2.1 dL_isGroupSo_70 (by decide) ?_
      refine lv_aload_n S.1 S.2.1 dL_isGroupSo_98 rfl (lv_at hl 3 rfl) ?_
      refine lv_iload S.1 S.2.1 dL_isGroupSo_99 (lv_at hl 8 rfl) ?_
      refine lv_iload_n S.1 S.2.1 dL_isGroupSo_101 rfl (lv_at hl 4 rfl) ?_
      refine bm_vi (w2 := []) (As := [.int (nI r), .int (nI g)]) (rest := []) S hK hw.nil (kX0_known l D cZ cI a s0 (r := r) (g := g) hr hg3) (cwV 2 S.2.2.2.2 gL_isGroupSo_X0_known rfl rfl rfl (by decide +kernel) ⟨Nat.le_of_ble_eq_true rfl, Nat.le_of_ble_eq_true rfl⟩) (q0 := 0) rfl rfl rfl hl.1 rfl (Nat.le_of_ble_eq_true rfl) (by show _ ≤ 4; omega) (by show _ ≤ 24; omega) dL_isGroupSo_102 (fun H locs hw hg1 => ?_)
      replace hw := Wd.unnil hw
      replace hg := Nat.le_trans hg hg1
      refine bx_top (y := 0) (s0_0 13 (by decide) _) ?_
      refine bz_lt (tgt := 112) S dL_isGroupSo_105 (by decide) (fun c105 => ?_) (fun c105 => ?_)
      · exact absurd c105 (by decide)
      refine lv_iconst (v := 1) S.1 S.2.1 dL_isGroupSo_108 (by decide) ?_
      refine lv_goto (tgt := 113) S.1 S.2.1 dL_isGroupSo_109 (by decide) ?_
      refine lv_istore (lv' := [(9, .int 1), (8, .int 0), (7, .int (-1)), (6, .int 0), (0, .ref (a 0)), (1, .int (nI g)), (2, .int 0), (3, .int 0), (4, .int 0), (5, .int (nI r))]) S.1 S.2.1 dL_isGroupSo_113 hl (by decide) rfl (fun ls hl => ?_)
      refine lv_iload S.1 S.2.1 dL_isGroupSo_115 (lv_at hl 0 rfl) ?_
      refine bz_ne (tgt := 122) S dL_isGroupSo_117 (by decide) (fun c117 => ?_) (fun c117 => ?_)
      rotate_left
      · exact absurd c117 (by decide)
      refine lv_iload_n S.1 S.2.1 dL_isGroupSo_122 rfl (lv_at hl 6 rfl) ?_
      refine lv_iload S.1 S.2.1 dL_isGroupSo_123 (lv_at hl 3 rfl) ?_
      refine lv_iconst (v := 2) S.1 S.2.1 dL_isGroupSo_125 (by decide) ?_
      refine br_ne (tgt := 136) S dL_isGroupSo_126 (by decide) (fun c126 => ?_) (fun c126 => ?_)
      rotate_left
      · exact absurd c126 (by decide)
      refine lv_iconst (v := 0) S.1 S.2.1 dL_isGroupSo_136 (by decide) ?_
      refine lv_ior S.1 S.2.1 dL_isGroupSo_137 ?_
      refine bx_top (y := 0) (by decide +kernel) ?_
      refine lv_istore_n (lv' := [(2, .int 0), (9, .int 1), (8, .int 0), (7, .int (-1)), (6, .int 0), (0, .ref (a 0)), (1, .int (nI g)), (3, .int 0), (4, .int 0), (5, .int (nI r))]) S.1 S.2.1 dL_isGroupSo_138 rfl hl (by decide) rfl (fun ls hl => ?_)
      refine lv_iload_n S.1 S.2.1 dL_isGroupSo_139 rfl (lv_at hl 7 rfl) ?_
      refine lv_iload S.1 S.2.1 dL_isGroupSo_140 (lv_at hl 4 rfl) ?_
      refine bz_le (tgt := 149) S dL_isGroupSo_142 (by decide) (fun c142 => ?_) (fun c142 => ?_)
      rotate_left
      · exact absurd c142 (by decide)
      refine lv_iconst (v := 0) S.1 S.2.1 dL_isGroupSo_149 (by decide) ?_
      refine lv_iadd S.1 S.2.1 dL_isGroupSo_150 ?_
      refine bx_top (y := 0) (by decide +kernel) ?_
      refine lv_istore_n (lv' := [(3, .int 0), (2, .int 0), (9, .int 1), (8, .int 0), (7, .int (-1)), (6, .int 0), (0, .ref (a 0)), (1, .int (nI g)), (4, .int 0), (5, .int (nI r))]) S.1 S.2.1 dL_isGroupSo_151 rfl hl (by decide) rfl (fun ls hl => ?_)
      refine lv_iload S.1 S.2.1 dL_isGroupSo_152 (lv_at hl 8 rfl) ?_
      refine lv_aload_n S.1 S.2.1 dL_isGroupSo_154 rfl (lv_at hl 6 rfl) ?_
      refine lv_iload S.1 S.2.1 dL_isGroupSo_155 (lv_at hl 9 rfl) ?_
      refine lv_iload_n S.1 S.2.1 dL_isGroupSo_157 rfl (lv_at hl 7 rfl) ?_
      refine bm_vi (w2 := []) (As := [.int (nI r), .int (nI g)]) (rest := [.int 0]) S hK hw.nil (kX0_changes l D cZ cI a s0 (r := r) (g := g) hr hg3) (cwV 2 S.2.2.2.2 gL_isGroupSo_X0_changes rfl rfl rfl (by decide +kernel) ⟨Nat.le_of_ble_eq_true rfl, Nat.le_of_ble_eq_true rfl⟩) (q0 := 0) rfl rfl rfl hl.1 rfl (Nat.le_of_ble_eq_true rfl) (by show _ ≤ 4; omega) (by show _ ≤ 24; omega) dL_isGroupSo_158 (fun H locs hw hg1 => ?_)
      replace hw := Wd.unnil hw
      replace hg := Nat.le_trans hg hg1
      refine bx_top (y := 0) (s0_0 14 (by decide) _) ?_
      refine lv_iadd S.1 S.2.1 dL_isGroupSo_161 ?_
      refine bx_top (y := 0) (by decide +kernel) ?_
      refine lv_istore (lv' := [(4, .int 0), (3, .int 0), (2, .int 0), (9, .int 1), (8, .int 0), (7, .int (-1)), (6, .int 0), (0, .ref (a 0)), (1, .int (nI g)), (5, .int (nI r))]) S.1 S.2.1 dL_isGroupSo_162 hl (by decide) rfl (fun ls hl => ?_)
      refine lv_iinc (v := nI (r + 1)) (lv' := [(5, .int (nI (r + 1))), (4, .int 0), (3, .int 0), (2, .int 0), (9, .int 1), (8, .int 0), (7, .int (-1)), (6, .int 0), (0, .ref (a 0)), (1, .int (nI g))]) S.1 S.2.1 dL_isGroupSo_164 hl (k := 9) rfl (nI_1 r) (by decide) rfl (fun ls hl => ?_)
      refine lv_goto (tgt := 10) S.1 S.2.1 dL_isGroupSo_167 (by decide) ?_
      refine W.widen (k := r + 1) (n := 6 * (r + 1)) (by omega) (by omega) ?_
      exact ih10 (r + 1) (by omega) _ _ hw (by omega) _ (lv_sub hl [8, 9, 3, 2, 1, 0] rfl)
  exact L10 4 0 rfl _ _ hw hg _ (lv_sub hl [4, 5, 3, 2, 1, 0] rfl)
