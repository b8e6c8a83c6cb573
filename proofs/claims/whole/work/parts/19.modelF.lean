theorem inX1_setPriority : ∀ w ∈ u_ws RX1 TX1 19, w ∈ wsX1_setPriority := fun _ h => List.mem_cons_of_mem _ (List.mem_append_right _ h)
theorem flX1_setPriority_13 : Cond.fieldLink RX1 13 "StandbyPairModel" "bases" "[I" ∈ wsX1_setPriority := by decide +kernel
theorem flX1_setPriority_35 : Cond.fieldLink RX1 35 "StandbyPairModel" "states" "[I" ∈ wsX1_setPriority := by decide +kernel
set_option maxHeartbeats 4000000 in
set_option maxRecDepth 100000 in
theorem kX1_setPriority (l : Launch) (D : va_G) (cZ cI : ClassId) (a : Nat → Nat) (th : Int32) (σ : sC) {r g : Nat} (v : Int32) (hr : r < 4) (hg : g < 3) (h1 : ¬ v < 0) (h2 : ¬ 254 < v) (hI : I1 σ) (hd : σ 0 r = 0 → σ 10 (4 * g + r) = 0) : MI l yX1_setPriority wsX1_setPriority ({ frames := 6, cells := 0, slots := 0, locals := 135 } : Room) D (tyZ cZ cI) [.ref (a 0), .int (nI r), .int (nI g), .int v] (wM cZ cI a th σ) (σ 9 (4 * g + r)) (wM cZ cI a 0 (setPF σ r g v)) := by
  refine MI.of (cc := cX1_setPriority) (maxL := 6) (ty := .int) (by decide) rfl (rfl) ⟨rfl, rfl⟩ (Nat.le_of_ble_eq_true rfl) ?_
  intro p e s m args below meth c A Q S hK hret ls hl hw
  replace hl : lv_has ls 6 [(0, .ref (a 0)), (1, .int (nI r)), (2, .int (nI g)), (3, .int v)] := hl
  replace S : CallFix p m c cX1_setPriority 6 s args wsX1_setPriority RX1 := S
  have hin := inX1_setPriority
  refine lv_aload_n S.1 S.2.1 dX1_setPriority_0 rfl (lv_at hl 0 rfl) ?_
  refine lv_iload_n S.1 S.2.1 dX1_setPriority_1 rfl (lv_at hl 1 rfl) ?_
  refine lv_iload_n S.1 S.2.1 dX1_setPriority_2 rfl (lv_at hl 2 rfl) ?_
  refine bc_si (As := [.int (nI r), .int (nI g)]) (rest := [.ref (a 0)]) S hK hw (kX1_are l D _ (nI r) (nI g)) (va_cwS 2 S.2.2.2.2 gX1_setPriority_X1_are rfl rfl rfl (by decide +kernel) ⟨Nat.le_of_ble_eq_true rfl, Nat.le_of_ble_eq_true rfl⟩) rfl hl.1 rfl (Nat.le_of_ble_eq_true rfl) (Nat.zero_le _) (Nat.zero_le _) dX1_setPriority_3 (fun H locs hw => ?_)
  refine bx_top (y := 1) (are_1 hr hg) ?_
  refine bz_eq (tgt := 24) S dX1_setPriority_6 (by decide) (fun c6 => ?_) (fun c6 => ?_)
  · exact absurd c6 (by decide)
  · refine lv_iload_n S.1 S.2.1 dX1_setPriority_9 rfl (lv_at hl 3 rfl) ?_
    refine lv_iconst (v := 0) S.1 S.2.1 dX1_setPriority_10 (by decide) ?_
    refine lv_sipush (v := 254) S.1 S.2.1 dX1_setPriority_11 (by decide) ?_
    refine bc_si (As := [.int v, .int 0, .int 254]) (rest := [.ref (a 0)]) S hK hw (kX1_in l D _ v 0 254) (va_cwS 3 S.2.2.2.2 gX1_setPriority_X1_in rfl rfl rfl (by decide +kernel) ⟨Nat.le_of_ble_eq_true rfl, Nat.le_of_ble_eq_true rfl⟩) rfl hl.1 rfl (Nat.le_of_ble_eq_true rfl) (Nat.zero_le _) (Nat.zero_le _) dX1_setPriority_14 (fun H locs hw => ?_)
    refine bx_top (y := 1) (in_1 h1 h2) ?_
    refine bz_eq (tgt := 24) S dX1_setPriority_17 (by decide) (fun c17 => ?_) (fun c17 => ?_)
    · exact absurd c17 (by decide)
    · refine lv_iconst (v := 0) S.1 S.2.1 dX1_setPriority_20 (by decide) ?_
      refine lv_goto (tgt := 25) S.1 S.2.1 dX1_setPriority_21 (by decide) ?_
      refine bc_vi (As := [.int 0]) (rest := []) S hK hw (kX1_goesWell l D cZ cI a th σ 0) (cwV 1 S.2.2.2.2 gX1_setPriority_X1_goesWell rfl rfl rfl (by decide +kernel) ⟨Nat.le_of_ble_eq_true rfl, Nat.le_of_ble_eq_true rfl⟩) (q0 := 0) rfl rfl rfl hl.1 rfl (Nat.le_of_ble_eq_true rfl) (Nat.zero_le _) (Nat.zero_le _) dX1_setPriority_25 (fun H locs hw => ?_)
      refine bx_top (y := 1) (rfl) ?_
      refine bz_ne (tgt := 33) S dX1_setPriority_28 (by decide) (fun c28 => ?_) (fun c28 => ?_)
      · refine lv_iconst (v := 3) S.1 S.2.1 dX1_setPriority_33 (by decide) ?_
        refine lv_iload_n S.1 S.2.1 dX1_setPriority_34 rfl (lv_at hl 1 rfl) ?_
        refine lv_imul S.1 S.2.1 dX1_setPriority_35 ?_
        refine lv_iload_n S.1 S.2.1 dX1_setPriority_36 rfl (lv_at hl 2 rfl) ?_
        refine lv_iadd S.1 S.2.1 dX1_setPriority_37 ?_
        refine bx_top (y := nI (3 * r + g)) (ml3 hr hg) ?_
        refine lv_istore (lv' := [(4, .int (nI (3 * r + g))), (0, .ref (a 0)), (1, .int (nI r)), (2, .int (nI g)), (3, .int v)]) S.1 S.2.1 dX1_setPriority_38 hl (by decide) rfl (fun ls hl => ?_)
        refine lv_aload_n S.1 S.2.1 dX1_setPriority_40 rfl (lv_at hl 1 rfl) ?_
        refine bx_get S hK hin hw.1 0 rfl rfl 2 (by decide) flX1_setPriority_13 rfl dX1_setPriority_41 ?_
        refine lv_iload S.1 S.2.1 dX1_setPriority_44 (lv_at hl 0 rfl) ?_
        refine bx_iald (v := σ 9 (4 * g + r)) S hK hw.1 2 1 rfl rfl (by omega) (by decide) (congrArg (σ 9) (pm_at (r := r) (g := g) (by omega) (by omega))) dX1_setPriority_46 ?_
        refine lv_istore (lv' := [(5, .int (σ 9 (4 * g + r))), (4, .int (nI (3 * r + g))), (0, .ref (a 0)), (1, .int (nI r)), (2, .int (nI g)), (3, .int v)]) S.1 S.2.1 dX1_setPriority_47 hl (by decide) rfl (fun ls hl => ?_)
        have J71 : ∀ (σj : sC) (H : Heap) (locs : List Loc), Wd D A s.heap (wM cZ cI a 0 σj) H locs → (setP1 σ r g v = σj) → ∀ ls : Array Slot, lv_has ls 6 [(0, .ref (a 0)), (1, .int (nI r)), (2, .int (nI g)), (3, .int v), (4, .int (nI (3 * r + g))), (5, .int (σ 9 (4 * g + r)))] → W p l e ({ frames := 6, cells := 0, slots := 0, locals := 135 } : Room) s m args below meth c H locs 0 0 Q (F0 m 71 ls []) := by
          intro σj H locs hw hj ls hl
          refine lv_aload_n S.1 S.2.1 dX1_setPriority_71 rfl (lv_at hl 0 rfl) ?_
          refine bx_get S hK hin hw.1 0 rfl rfl 2 (by decide) flX1_setPriority_13 rfl dX1_setPriority_72 ?_
          refine lv_iload S.1 S.2.1 dX1_setPriority_75 (lv_at hl 4 rfl) ?_
          refine lv_iload_n S.1 S.2.1 dX1_setPriority_77 rfl (lv_at hl 3 rfl) ?_
          refine bx_iast S hK hw 2 1 rfl rfl (by omega) (by decide) (wM_s2 cZ cI a 0 σj (r := r) (g := g) (by omega) (by omega) v) dX1_setPriority_78 (fun H locs hw => ?_)
          refine lv_aload_n S.1 S.2.1 dX1_setPriority_79 rfl (lv_at hl 0 rfl) ?_
          refine lv_iload S.1 S.2.1 dX1_setPriority_80 (lv_at hl 4 rfl) ?_
          refine bc_vv (As := [.int (nI (3 * r + g))]) (rest := []) S hK hw (kX1_settle l D cZ cI a 0 (up σj 9 (4 * g + r) v) (r := r) (g := g) (by omega) (by omega)) (cwV 1 S.2.2.2.2 gX1_setPriority_X1_settle rfl rfl rfl (by decide +kernel) ⟨Nat.le_of_ble_eq_true rfl, Nat.le_of_ble_eq_true rfl⟩) (q0 := 0) rfl rfl rfl hl.1 rfl (Nat.le_of_ble_eq_true rfl) (Nat.zero_le _) (Nat.zero_le _) dX1_setPriority_82 (fun H locs hw => ?_)
          refine lv_iload S.1 S.2.1 dX1_setPriority_85 (lv_at hl 5 rfl) ?_
          exact hret hw dX1_setPriority_87 (rfl) (congrArg (wM cZ cI a 0) (by rw [← hj]; exact sett_p hd h1))
        refine lv_iload_n S.1 S.2.1 dX1_setPriority_49 rfl (lv_at hl 5 rfl) ?_
        refine bz_ne (tgt := 71) S dX1_setPriority_50 (by decide) (fun c50 => ?_) (fun c50 => ?_)
        · exact J71 _ _ _ hw (by simp only [setP1, eq_false c50, ↓reduceIte]) _ (lv_sub hl [2, 3, 4, 5, 1, 0] rfl)
        · refine lv_aload_n S.1 S.2.1 dX1_setPriority_53 rfl (lv_at hl 2 rfl) ?_
          refine bx_get S hK hin hw.1 0 rfl rfl 9 (by decide) flX1_setPriority_35 rfl dX1_setPriority_54 ?_
          refine lv_iload S.1 S.2.1 dX1_setPriority_57 (lv_at hl 1 rfl) ?_
          refine bx_iald (v := σ 10 (4 * g + r)) S hK hw.1 9 1 rfl rfl (by omega) (by decide) (congrArg (σ 10) (pm_at (r := r) (g := g) (by omega) (by omega))) dX1_setPriority_59 ?_
          refine lv_iconst (v := 2) S.1 S.2.1 dX1_setPriority_60 (by decide) ?_
          refine br_ne (tgt := 71) S dX1_setPriority_61 (by decide) (fun c61 => ?_) (fun c61 => ?_)
          · exact J71 _ _ _ hw (by simp only [setP1, eq_true c50, eq_false c61, ↓reduceIte]) _ (lv_sub hl [2, 3, 4, 5, 1, 0] rfl)
          · refine lv_aload_n S.1 S.2.1 dX1_setPriority_64 rfl (lv_at hl 2 rfl) ?_
            refine lv_iload S.1 S.2.1 dX1_setPriority_65 (lv_at hl 1 rfl) ?_
            refine lv_iconst (v := 0) S.1 S.2.1 dX1_setPriority_67 (by decide) ?_
            have hA := hI
            refine bc_vv (As := [.int (nI (3 * r + g)), .int 0]) (rest := []) S hK hw (kX1_advertise l D cZ cI a 0 σ (q := r) (g := g) 0 (by omega) (by omega) hA) (cwV 2 S.2.2.2.2 gX1_setPriority_X1_advertise rfl rfl rfl (by decide +kernel) ⟨Nat.le_of_ble_eq_true rfl, Nat.le_of_ble_eq_true rfl⟩) (q0 := 0) rfl rfl rfl hl.1 rfl (Nat.le_of_ble_eq_true rfl) (Nat.zero_le _) (Nat.zero_le _) dX1_setPriority_68 (fun H locs hw => ?_)
            exact J71 _ _ _ hw (by simp only [setP1, eq_true c50, eq_true c61, ↓reduceIte]) _ (lv_sub hl [2, 3, 4, 5, 1, 0] rfl)
      · exact absurd c28 (by decide)

set_option maxHeartbeats 4000000 in
set_option maxRecDepth 100000 in
theorem kX1_setPriority_bad (l : Launch) (D : va_G) (cZ cI : ClassId) (a : Nat → Nat) (th : Int32) (σ : sC) (x y v : Int32) (hb : arE x y = 0 ∨ inB v 0 254 = 0) : MI l yX1_setPriority wsX1_setPriority ({ frames := 6, cells := 0, slots := 0, locals := 135 } : Room) D (tyZ cZ cI) [.ref (a 0), .int x, .int y, .int v] (wM cZ cI a th σ) 0 (wM cZ cI a 1 σ) := by
  refine MI.of (cc := cX1_setPriority) (maxL := 6) (ty := .int) (by decide) rfl (rfl) ⟨rfl, rfl⟩ (Nat.le_of_ble_eq_true rfl) ?_
  intro p e s m args below meth c A Q S hK hret ls hl hw
  replace hl : lv_has ls 6 [(0, .ref (a 0)), (1, .int x), (2, .int y), (3, .int v)] := hl
  replace S : CallFix p m c cX1_setPriority 6 s args wsX1_setPriority RX1 := S
  have hin := inX1_setPriority
  refine lv_aload_n S.1 S.2.1 dX1_setPriority_0 rfl (lv_at hl 0 rfl) ?_
  refine lv_iload_n S.1 S.2.1 dX1_setPriority_1 rfl (lv_at hl 1 rfl) ?_
  refine lv_iload_n S.1 S.2.1 dX1_setPriority_2 rfl (lv_at hl 2 rfl) ?_
  refine bc_si (As := [.int x, .int y]) (rest := [.ref (a 0)]) S hK hw (kX1_are l D _ x y) (va_cwS 2 S.2.2.2.2 gX1_setPriority_X1_are rfl rfl rfl (by decide +kernel) ⟨Nat.le_of_ble_eq_true rfl, Nat.le_of_ble_eq_true rfl⟩) rfl hl.1 rfl (Nat.le_of_ble_eq_true rfl) (Nat.zero_le _) (Nat.zero_le _) dX1_setPriority_3 (fun H locs hw => ?_)
  refine bz_eq (tgt := 24) S dX1_setPriority_6 (by decide) (fun c6 => ?_) (fun c6 => ?_)
  · refine lv_iconst (v := 1) S.1 S.2.1 dX1_setPriority_24 (by decide) ?_
    refine bc_vi (As := [.int 1]) (rest := []) S hK hw (kX1_goesWell l D cZ cI a th σ 1) (cwV 1 S.2.2.2.2 gX1_setPriority_X1_goesWell rfl rfl rfl (by decide +kernel) ⟨Nat.le_of_ble_eq_true rfl, Nat.le_of_ble_eq_true rfl⟩) (q0 := 0) rfl rfl rfl hl.1 rfl (Nat.le_of_ble_eq_true rfl) (Nat.zero_le _) (Nat.zero_le _) dX1_setPriority_25 (fun H locs hw => ?_)
    refine bx_top (y := 0) (rfl) ?_
    refine bz_ne (tgt := 33) S dX1_setPriority_28 (by decide) (fun c28 => ?_) (fun c28 => ?_)
    · exact absurd c28 (by decide)
    · refine lv_iconst (v := 0) S.1 S.2.1 dX1_setPriority_31 (by decide) ?_
      exact hret hw dX1_setPriority_32 (rfl) (congrArg (wM cZ cI a 1) (rfl))
  · refine lv_iload_n S.1 S.2.1 dX1_setPriority_9 rfl (lv_at hl 3 rfl) ?_
    refine lv_iconst (v := 0) S.1 S.2.1 dX1_setPriority_10 (by decide) ?_
    refine lv_sipush (v := 254) S.1 S.2.1 dX1_setPriority_11 (by decide) ?_
    refine bc_si (As := [.int v, .int 0, .int 254]) (rest := [.ref (a 0)]) S hK hw (kX1_in l D _ v 0 254) (va_cwS 3 S.2.2.2.2 gX1_setPriority_X1_in rfl rfl rfl (by decide +kernel) ⟨Nat.le_of_ble_eq_true rfl, Nat.le_of_ble_eq_true rfl⟩) rfl hl.1 rfl (Nat.le_of_ble_eq_true rfl) (Nat.zero_le _) (Nat.zero_le _) dX1_setPriority_14 (fun H locs hw => ?_)
    refine bz_eq (tgt := 24) S dX1_setPriority_17 (by decide) (fun c17 => ?_) (fun c17 => ?_)
    · refine lv_iconst (v := 1) S.1 S.2.1 dX1_setPriority_24 (by decide) ?_
      refine bc_vi (As := [.int 1]) (rest := []) S hK hw (kX1_goesWell l D cZ cI a th σ 1) (cwV 1 S.2.2.2.2 gX1_setPriority_X1_goesWell rfl rfl rfl (by decide +kernel) ⟨Nat.le_of_ble_eq_true rfl, Nat.le_of_ble_eq_true rfl⟩) (q0 := 0) rfl rfl rfl hl.1 rfl (Nat.le_of_ble_eq_true rfl) (Nat.zero_le _) (Nat.zero_le _) dX1_setPriority_25 (fun H locs hw => ?_)
      refine bx_top (y := 0) (rfl) ?_
      refine bz_ne (tgt := 33) S dX1_setPriority_28 (by decide) (fun c28 => ?_) (fun c28 => ?_)
      · exact absurd c28 (by decide)
      · refine lv_iconst (v := 0) S.1 S.2.1 dX1_setPriority_31 (by decide) ?_
        exact hret hw dX1_setPriority_32 (rfl) (congrArg (wM cZ cI a 1) (rfl))
    · exact (hb.elim c6 c17).elim

theorem inX1_track : ∀ w ∈ u_ws RX1 TX1 19, w ∈ wsX1_track := fun _ h => List.mem_cons_of_mem _ (List.mem_append_right _ h)
theorem flX1_track_17 : Cond.fieldLink RX1 17 "StandbyPairModel" "decrements" "[I" ∈ wsX1_track := by decide +kernel
set_option maxHeartbeats 4000000 in
set_option maxRecDepth 100000 in
theorem kX1_track (l : Launch) (D : va_G) (cZ cI : ClassId) (a : Nat → Nat) (th : Int32) (σ : sC) {r k : Nat} (v : Int32) (hr : r < 4) (hk : k < 2) (h1 : ¬ v < 0) (h2 : ¬ 100 < v) : MI l yX1_track wsX1_track ({ frames := 3, cells := 0, slots := 0, locals := 63 } : Room) D (tyZ cZ cI) [.ref (a 0), .int (nI r), .int (nI k), .int v] (wM cZ cI a th σ) (σ 3 (2 * r + k)) (wM cZ cI a 0 (up σ 3 (2 * r + k) v)) := by
  refine MI.of (cc := cX1_track) (maxL := 5) (ty := .int) (by decide) rfl (rfl) ⟨rfl, rfl⟩ (Nat.le_of_ble_eq_true rfl) ?_
  intro p e s m args below meth c A Q S hK hret ls hl hw
  replace hl : lv_has ls 5 [(0, .ref (a 0)), (1, .int (nI r)), (2, .int (nI k)), (3, .int v)] := hl
  replace S : CallFix p m c cX1_track 5 s args wsX1_track RX1 := S
  have hin := inX1_track
  refine lv_aload_n S.1 S.2.1 dX1_track_0 rfl (lv_at hl 0 rfl) ?_
  refine lv_iload_n S.1 S.2.1 dX1_track_1 rfl (lv_at hl 1 rfl) ?_
  refine lv_iload_n S.1 S.2.1 dX1_track_2 rfl (lv_at hl 2 rfl) ?_
  refine bc_si (As := [.int (nI r), .int (nI k)]) (rest := [.ref (a 0)]) S hK hw (kX1_isLink l D _ (nI r) (nI k)) (va_cwS 2 S.2.2.2.2 gX1_track_X1_isLink rfl rfl rfl (by decide +kernel) ⟨Nat.le_of_ble_eq_true rfl, Nat.le_of_ble_eq_true rfl⟩) rfl hl.1 rfl (Nat.le_of_ble_eq_true rfl) (Nat.zero_le _) (Nat.zero_le _) dX1_track_3 (fun H locs hw => ?_)
  refine bx_top (y := 1) (lk_1 hr hk) ?_
  refine bz_eq (tgt := 23) S dX1_track_6 (by decide) (fun c6 => ?_) (fun c6 => ?_)
  · exact absurd c6 (by decide)
  · refine lv_iload_n S.1 S.2.1 dX1_track_9 rfl (lv_at hl 3 rfl) ?_
    refine lv_iconst (v := 0) S.1 S.2.1 dX1_track_10 (by decide) ?_
    refine lv_bipush (v := 100) S.1 S.2.1 dX1_track_11 (by decide) ?_
    refine bc_si (As := [.int v, .int 0, .int 100]) (rest := [.ref (a 0)]) S hK hw (kX1_in l D _ v 0 100) (va_cwS 3 S.2.2.2.2 gX1_track_X1_in rfl rfl rfl (by decide +kernel) ⟨Nat.le_of_ble_eq_true rfl, Nat.le_of_ble_eq_true rfl⟩) rfl hl.1 rfl (Nat.le_of_ble_eq_true rfl) (Nat.zero_le _) (Nat.zero_le _) dX1_track_13 (fun H locs hw => ?_)
    refine bx_top (y := 1) (in_1 h1 h2) ?_
    refine bz_eq (tgt := 23) S dX1_track_16 (by decide) (fun c16 => ?_) (fun c16 => ?_)
    · exact absurd c16 (by decide)
    · refine lv_iconst (v := 0) S.1 S.2.1 dX1_track_19 (by decide) ?_
      refine lv_goto (tgt := 24) S.1 S.2.1 dX1_track_20 (by decide) ?_
      refine bc_vi (As := [.int 0]) (rest := []) S hK hw (kX1_goesWell l D cZ cI a th σ 0) (cwV 1 S.2.2.2.2 gX1_track_X1_goesWell rfl rfl rfl (by decide +kernel) ⟨Nat.le_of_ble_eq_true rfl, Nat.le_of_ble_eq_true rfl⟩) (q0 := 0) rfl rfl rfl hl.1 rfl (Nat.le_of_ble_eq_true rfl) (Nat.zero_le _) (Nat.zero_le _) dX1_track_24 (fun H locs hw => ?_)
      refine bx_top (y := 1) (rfl) ?_
      refine bz_ne (tgt := 32) S dX1_track_27 (by decide) (fun c27 => ?_) (fun c27 => ?_)
      · refine lv_aload_n S.1 S.2.1 dX1_track_32 rfl (lv_at hl 0 rfl) ?_
        refine bx_get S hK hin hw.1 0 rfl rfl 3 (by decide) flX1_track_17 rfl dX1_track_33 ?_
        refine lv_iconst (v := 2) S.1 S.2.1 dX1_track_36 (by decide) ?_
        refine lv_iload_n S.1 S.2.1 dX1_track_37 rfl (lv_at hl 1 rfl) ?_
        refine lv_imul S.1 S.2.1 dX1_track_38 ?_
        refine lv_iload_n S.1 S.2.1 dX1_track_39 rfl (lv_at hl 2 rfl) ?_
        refine lv_iadd S.1 S.2.1 dX1_track_40 ?_
        refine bx_top (y := nI (2 * r + k)) (ml2 hr hk) ?_
        refine bx_iald (v := σ 3 (2 * r + k)) S hK hw.1 3 1 rfl rfl (by omega) (by decide) rfl dX1_track_41 ?_
        refine lv_istore (lv' := [(4, .int (σ 3 (2 * r + k))), (0, .ref (a 0)), (1, .int (nI r)), (2, .int (nI k)), (3, .int v)]) S.1 S.2.1 dX1_track_42 hl (by decide) rfl (fun ls hl => ?_)
        refine lv_aload_n S.1 S.2.1 dX1_track_44 rfl (lv_at hl 1 rfl) ?_
        refine bx_get S hK hin hw.1 0 rfl rfl 3 (by decide) flX1_track_17 rfl dX1_track_45 ?_
        refine lv_iconst (v := 2) S.1 S.2.1 dX1_track_48 (by decide) ?_
        refine lv_iload_n S.1 S.2.1 dX1_track_49 rfl (lv_at hl 2 rfl) ?_
        refine lv_imul S.1 S.2.1 dX1_track_50 ?_
        refine lv_iload_n S.1 S.2.1 dX1_track_51 rfl (lv_at hl 3 rfl) ?_
        refine lv_iadd S.1 S.2.1 dX1_track_52 ?_
        refine bx_top (y := nI (2 * r + k)) (ml2 hr hk) ?_
        refine lv_iload_n S.1 S.2.1 dX1_track_53 rfl (lv_at hl 4 rfl) ?_
        refine bx_iast S hK hw 3 1 rfl rfl (by omega) (by decide) (wM_s3 cZ cI a 0 σ (2 * r + k) v) dX1_track_54 (fun H locs hw => ?_)
        refine lv_iload S.1 S.2.1 dX1_track_55 (lv_at hl 0 rfl) ?_
        exact hret hw dX1_track_57 (rfl) (congrArg (wM cZ cI a 0) (rfl))
      · exact absurd c27 (by decide)

set_option maxHeartbeats 4000000 in
set_option maxRecDepth 100000 in
theorem kX1_track_bad (l : Launch) (D : va_G) (cZ cI : ClassId) (a : Nat → Nat) (th : Int32) (σ : sC) (x y v : Int32) (hb : lkE x y = 0 ∨ inB v 0 100 = 0) : MI l yX1_track wsX1_track ({ frames := 3, cells := 0, slots := 0, locals := 63 } : Room) D (tyZ cZ cI) [.ref (a 0), .int x, .int y, .int v] (wM cZ cI a th σ) 0 (wM cZ cI a 1 σ) := by
  refine MI.of (cc := cX1_track) (maxL := 5) (ty := .int) (by decide) rfl (rfl) ⟨rfl, rfl⟩ (Nat.le_of_ble_eq_true rfl) ?_
  intro p e s m args below meth c A Q S hK hret ls hl hw
  replace hl : lv_has ls 5 [(0, .ref (a 0)), (1, .int x), (2, .int y), (3, .int v)] := hl
  replace S : CallFix p m c cX1_track 5 s args wsX1_track RX1 := S
  have hin := inX1_track
  refine lv_aload_n S.1 S.2.1 dX1_track_0 rfl (lv_at hl 0 rfl) ?_
  refine lv_iload_n S.1 S.2.1 dX1_track_1 rfl (lv_at hl 1 rfl) ?_
  refine lv_iload_n S.1 S.2.1 dX1_track_2 rfl (lv_at hl 2 rfl) ?_
  refine bc_si (As := [.int x, .int y]) (rest := [.ref (a 0)]) S hK hw (kX1_isLink l D _ x y) (va_cwS 2 S.2.2.2.2 gX1_track_X1_isLink rfl rfl rfl (by decide +kernel) ⟨Nat.le_of_ble_eq_true rfl, Nat.le_of_ble_eq_true rfl⟩) rfl hl.1 rfl (Nat.le_of_ble_eq_true rfl) (Nat.zero_le _) (Nat.zero_le _) dX1_track_3 (fun H locs hw => ?_)
  refine bz_eq (tgt := 23) S dX1_track_6 (by decide) (fun c6 => ?_) (fun c6 => ?_)
  · refine lv_iconst (v := 1) S.1 S.2.1 dX1_track_23 (by decide) ?_
    refine bc_vi (As := [.int 1]) (rest := []) S hK hw (kX1_goesWell l D cZ cI a th σ 1) (cwV 1 S.2.2.2.2 gX1_track_X1_goesWell rfl rfl rfl (by decide +kernel) ⟨Nat.le_of_ble_eq_true rfl, Nat.le_of_ble_eq_true rfl⟩) (q0 := 0) rfl rfl rfl hl.1 rfl (Nat.le_of_ble_eq_true rfl) (Nat.zero_le _) (Nat.zero_le _) dX1_track_24 (fun H locs hw => ?_)
    refine bx_top (y := 0) (rfl) ?_
    refine bz_ne (tgt := 32) S dX1_track_27 (by decide) (fun c27 => ?_) (fun c27 => ?_)
    · exact absurd c27 (by decide)
    · refine lv_iconst (v := 0) S.1 S.2.1 dX1_track_30 (by decide) ?_
      exact hret hw dX1_track_31 (rfl) (congrArg (wM cZ cI a 1) (rfl))
  · refine lv_iload_n S.1 S.2.1 dX1_track_9 rfl (lv_at hl 3 rfl) ?_
    refine lv_iconst (v := 0) S.1 S.2.1 dX1_track_10 (by decide) ?_
    refine lv_bipush (v := 100) S.1 S.2.1 dX1_track_11 (by decide) ?_
    refine bc_si (As := [.int v, .int 0, .int 100]) (rest := [.ref (a 0)]) S hK hw (kX1_in l D _ v 0 100) (va_cwS 3 S.2.2.2.2 gX1_track_X1_in rfl rfl rfl (by decide +kernel) ⟨Nat.le_of_ble_eq_true rfl, Nat.le_of_ble_eq_true rfl⟩) rfl hl.1 rfl (Nat.le_of_ble_eq_true rfl) (Nat.zero_le _) (Nat.zero_le _) dX1_track_13 (fun H locs hw => ?_)
    refine bz_eq (tgt := 23) S dX1_track_16 (by decide) (fun c16 => ?_) (fun c16 => ?_)
    · refine lv_iconst (v := 1) S.1 S.2.1 dX1_track_23 (by decide) ?_
      refine bc_vi (As := [.int 1]) (rest := []) S hK hw (kX1_goesWell l D cZ cI a th σ 1) (cwV 1 S.2.2.2.2 gX1_track_X1_goesWell rfl rfl rfl (by decide +kernel) ⟨Nat.le_of_ble_eq_true rfl, Nat.le_of_ble_eq_true rfl⟩) (q0 := 0) rfl rfl rfl hl.1 rfl (Nat.le_of_ble_eq_true rfl) (Nat.zero_le _) (Nat.zero_le _) dX1_track_24 (fun H locs hw => ?_)
      refine bx_top (y := 0) (rfl) ?_
      refine bz_ne (tgt := 32) S dX1_track_27 (by decide) (fun c27 => ?_) (fun c27 => ?_)
      · exact absurd c27 (by decide)
      · refine lv_iconst (v := 0) S.1 S.2.1 dX1_track_30 (by decide) ?_
        exact hret hw dX1_track_31 (rfl) (congrArg (wM cZ cI a 1) (rfl))
    · exact (hb.elim c6 c16).elim

theorem inX1_setLink : ∀ w ∈ u_ws RX1 TX1 19, w ∈ wsX1_setLink := fun _ h => List.mem_cons_of_mem _ (List.mem_append_right _ h)
theorem flX1_setLink_20 : Cond.fieldLink RX1 20 "StandbyPairModel" "isDown" "[Z" ∈ wsX1_setLink := by decide +kernel
set_option maxHeartbeats 4000000 in
set_option maxRecDepth 100000 in
theorem kX1_setLink (l : Launch) (D : va_G) (cZ cI : ClassId) (a : Nat → Nat) (th : Int32) (σ : sC) {r k : Nat} (b : Int32) (hr : r < 4) (hk : k < 2) (hz : σ 2 (2 * r + k) = 0 ∨ σ 2 (2 * r + k) = 1) : MI l yX1_setLink wsX1_setLink ({ frames := 3, cells := 0, slots := 0, locals := 63 } : Room) D (tyZ cZ cI) [.ref (a 0), .int (nI r), .int (nI k), .int b] (wM cZ cI a th σ) (σ 2 (2 * r + k)) (wM cZ cI a 0 (up σ 2 (2 * r + k) b)) := by
  refine MI.of (cc := cX1_setLink) (maxL := 5) (ty := .boolean) (by decide) rfl (nar_z hz) ⟨rfl, rfl⟩ (Nat.le_of_ble_eq_true rfl) ?_
  intro p e s m args below meth c A Q S hK hret ls hl hw
  replace hl : lv_has ls 5 [(0, .ref (a 0)), (1, .int (nI r)), (2, .int (nI k)), (3, .int b)] := hl
  replace S : CallFix p m c cX1_setLink 5 s args wsX1_setLink RX1 := S
  have hin := inX1_setLink
  refine lv_aload_n S.1 S.2.1 dX1_setLink_0 rfl (lv_at hl 0 rfl) ?_
  refine lv_iload_n S.1 S.2.1 dX1_setLink_1 rfl (lv_at hl 1 rfl) ?_
  refine lv_iload_n S.1 S.2.1 dX1_setLink_2 rfl (lv_at hl 2 rfl) ?_
  refine bc_si (As := [.int (nI r), .int (nI k)]) (rest := [.ref (a 0)]) S hK hw (kX1_isLink l D _ (nI r) (nI k)) (va_cwS 2 S.2.2.2.2 gX1_setLink_X1_isLink rfl rfl rfl (by decide +kernel) ⟨Nat.le_of_ble_eq_true rfl, Nat.le_of_ble_eq_true rfl⟩) rfl hl.1 rfl (Nat.le_of_ble_eq_true rfl) (Nat.zero_le _) (Nat.zero_le _) dX1_setLink_3 (fun H locs hw => ?_)
  refine bx_top (y := 1) (lk_1 hr hk) ?_
  refine bz_eq (tgt := 13) S dX1_setLink_6 (by decide) (fun c6 => ?_) (fun c6 => ?_)
  · exact absurd c6 (by decide)
  · refine lv_iconst (v := 0) S.1 S.2.1 dX1_setLink_9 (by decide) ?_
    refine lv_goto (tgt := 14) S.1 S.2.1 dX1_setLink_10 (by decide) ?_
    refine bc_vi (As := [.int 0]) (rest := []) S hK hw (kX1_goesWell l D cZ cI a th σ 0) (cwV 1 S.2.2.2.2 gX1_setLink_X1_goesWell rfl rfl rfl (by decide +kernel) ⟨Nat.le_of_ble_eq_true rfl, Nat.le_of_ble_eq_true rfl⟩) (q0 := 0) rfl rfl rfl hl.1 rfl (Nat.le_of_ble_eq_true rfl) (Nat.zero_le _) (Nat.zero_le _) dX1_setLink_14 (fun H locs hw => ?_)
    refine bx_top (y := 1) (rfl) ?_
    refine bz_ne (tgt := 22) S dX1_setLink_17 (by decide) (fun c17 => ?_) (fun c17 => ?_)
    · refine lv_aload_n S.1 S.2.1 dX1_setLink_22 rfl (lv_at hl 0 rfl) ?_
      refine bx_get S hK hin hw.1 0 rfl rfl 4 (by decide) flX1_setLink_20 rfl dX1_setLink_23 ?_
      refine lv_iconst (v := 2) S.1 S.2.1 dX1_setLink_26 (by decide) ?_
      refine lv_iload_n S.1 S.2.1 dX1_setLink_27 rfl (lv_at hl 1 rfl) ?_
      refine lv_imul S.1 S.2.1 dX1_setLink_28 ?_
      refine lv_iload_n S.1 S.2.1 dX1_setLink_29 rfl (lv_at hl 2 rfl) ?_
      refine lv_iadd S.1 S.2.1 dX1_setLink_30 ?_
      refine bx_top (y := nI (2 * r + k)) (ml2 hr hk) ?_
      refine bx_zald (v := flip (σ 2 (2 * r + k))) S hK hw.1 4 0 rfl rfl (by omega) (by decide) rfl dX1_setLink_31 ?_
      refine bz_ne (tgt := 39) S dX1_setLink_32 (by decide) (fun c32 => ?_) (fun c32 => ?_)
      · refine lv_iconst (v := 0) S.1 S.2.1 dX1_setLink_39 (by decide) ?_
        refine lv_istore (lv' := [(4, .int 0), (0, .ref (a 0)), (1, .int (nI r)), (2, .int (nI k)), (3, .int b)]) S.1 S.2.1 dX1_setLink_40 hl (by decide) rfl (fun ls hl => ?_)
        refine lv_aload_n S.1 S.2.1 dX1_setLink_42 rfl (lv_at hl 1 rfl) ?_
        refine bx_get S hK hin hw.1 0 rfl rfl 4 (by decide) flX1_setLink_20 rfl dX1_setLink_43 ?_
        refine lv_iconst (v := 2) S.1 S.2.1 dX1_setLink_46 (by decide) ?_
        refine lv_iload_n S.1 S.2.1 dX1_setLink_47 rfl (lv_at hl 2 rfl) ?_
        refine lv_imul S.1 S.2.1 dX1_setLink_48 ?_
        refine lv_iload_n S.1 S.2.1 dX1_setLink_49 rfl (lv_at hl 3 rfl) ?_
        refine lv_iadd S.1 S.2.1 dX1_setLink_50 ?_
        refine bx_top (y := nI (2 * r + k)) (ml2 hr hk) ?_
        refine lv_iload_n S.1 S.2.1 dX1_setLink_51 rfl (lv_at hl 4 rfl) ?_
        refine bz_ne (tgt := 59) S dX1_setLink_52 (by decide) (fun c52 => ?_) (fun c52 => ?_)
        · refine lv_iconst (v := 0) S.1 S.2.1 dX1_setLink_59 (by decide) ?_
          refine bx_zast S hK hw 4 0 rfl rfl (by omega) (by decide) (by decide) (wM_s4 cZ cI a 0 σ (2 * r + k) (y := b) ((flip_0 b).mpr c52)) dX1_setLink_60 (fun H locs hw => ?_)
          refine lv_iload S.1 S.2.1 dX1_setLink_61 (lv_at hl 0 rfl) ?_
          exact hret hw dX1_setLink_63 ((flip_1 c32).symm) (congrArg (wM cZ cI a 0) (rfl))
        · refine lv_iconst (v := 1) S.1 S.2.1 dX1_setLink_55 (by decide) ?_
          refine lv_goto (tgt := 60) S.1 S.2.1 dX1_setLink_56 (by decide) ?_
          refine bx_zast S hK hw 4 0 rfl rfl (by omega) (by decide) (by decide) (wM_s4 cZ cI a 0 σ (2 * r + k) (y := b) (by rw [c52]; rfl)) dX1_setLink_60 (fun H locs hw => ?_)
          refine lv_iload S.1 S.2.1 dX1_setLink_61 (lv_at hl 0 rfl) ?_
          exact hret hw dX1_setLink_63 ((flip_1 c32).symm) (congrArg (wM cZ cI a 0) (rfl))
      · refine lv_iconst (v := 1) S.1 S.2.1 dX1_setLink_35 (by decide) ?_
        refine lv_goto (tgt := 40) S.1 S.2.1 dX1_setLink_36 (by decide) ?_
        refine lv_istore (lv' := [(4, .int 1), (0, .ref (a 0)), (1, .int (nI r)), (2, .int (nI k)), (3, .int b)]) S.1 S.2.1 dX1_setLink_40 hl (by decide) rfl (fun ls hl => ?_)
        refine lv_aload_n S.1 S.2.1 dX1_setLink_42 rfl (lv_at hl 1 rfl) ?_
        refine bx_get S hK hin hw.1 0 rfl rfl 4 (by decide) flX1_setLink_20 rfl dX1_setLink_43 ?_
        refine lv_iconst (v := 2) S.1 S.2.1 dX1_setLink_46 (by decide) ?_
        refine lv_iload_n S.1 S.2.1 dX1_setLink_47 rfl (lv_at hl 2 rfl) ?_
        refine lv_imul S.1 S.2.1 dX1_setLink_48 ?_
        refine lv_iload_n S.1 S.2.1 dX1_setLink_49 rfl (lv_at hl 3 rfl) ?_
        refine lv_iadd S.1 S.2.1 dX1_setLink_50 ?_
        refine bx_top (y := nI (2 * r + k)) (ml2 hr hk) ?_
        refine lv_iload_n S.1 S.2.1 dX1_setLink_51 rfl (lv_at hl 4 rfl) ?_
        refine bz_ne (tgt := 59) S dX1_setLink_52 (by decide) (fun c52 => ?_) (fun c52 => ?_)
        · refine lv_iconst (v := 0) S.1 S.2.1 dX1_setLink_59 (by decide) ?_
          refine bx_zast S hK hw 4 0 rfl rfl (by omega) (by decide) (by decide) (wM_s4 cZ cI a 0 σ (2 * r + k) (y := b) ((flip_0 b).mpr c52)) dX1_setLink_60 (fun H locs hw => ?_)
          refine lv_iload S.1 S.2.1 dX1_setLink_61 (lv_at hl 0 rfl) ?_
          exact hret hw dX1_setLink_63 ((hz.resolve_left ((flip_0 _).mp c32)).symm) (congrArg (wM cZ cI a 0) (rfl))
        · refine lv_iconst (v := 1) S.1 S.2.1 dX1_setLink_55 (by decide) ?_
          refine lv_goto (tgt := 60) S.1 S.2.1 dX1_setLink_56 (by decide) ?_
          refine bx_zast S hK hw 4 0 rfl rfl (by omega) (by decide) (by decide) (wM_s4 cZ cI a 0 σ (2 * r + k) (y := b) (by rw [c52]; rfl)) dX1_setLink_60 (fun H locs hw => ?_)
          refine lv_iload S.1 S.2.1 dX1_setLink_61 (lv_at hl 0 rfl) ?_
          exact hret hw dX1_setLink_63 ((hz.resolve_left ((flip_0 _).mp c32)).symm) (congrArg (wM cZ cI a 0) (rfl))
    · exact absurd c17 (by decide)

set_option maxHeartbeats 4000000 in
set_option maxRecDepth 100000 in
theorem kX1_setLink_bad (l : Launch) (D : va_G) (cZ cI : ClassId) (a : Nat → Nat) (th : Int32) (σ : sC) (x y b : Int32) (hb : lkE x y = 0) : MI l yX1_setLink wsX1_setLink ({ frames := 3, cells := 0, slots := 0, locals := 63 } : Room) D (tyZ cZ cI) [.ref (a 0), .int x, .int y, .int b] (wM cZ cI a th σ) 0 (wM cZ cI a 1 σ) := by
  refine MI.of (cc := cX1_setLink) (maxL := 5) (ty := .boolean) (by decide) rfl (rfl) ⟨rfl, rfl⟩ (Nat.le_of_ble_eq_true rfl) ?_
  intro p e s m args below meth c A Q S hK hret ls hl hw
  replace hl : lv_has ls 5 [(0, .ref (a 0)), (1, .int x), (2, .int y), (3, .int b)] := hl
  replace S : CallFix p m c cX1_setLink 5 s args wsX1_setLink RX1 := S
  have hin := inX1_setLink
  refine lv_aload_n S.1 S.2.1 dX1_setLink_0 rfl (lv_at hl 0 rfl) ?_
  refine lv_iload_n S.1 S.2.1 dX1_setLink_1 rfl (lv_at hl 1 rfl) ?_
  refine lv_iload_n S.1 S.2.1 dX1_setLink_2 rfl (lv_at hl 2 rfl) ?_
  refine bc_si (As := [.int x, .int y]) (rest := [.ref (a 0)]) S hK hw (kX1_isLink l D _ x y) (va_cwS 2 S.2.2.2.2 gX1_setLink_X1_isLink rfl rfl rfl (by decide +kernel) ⟨Nat.le_of_ble_eq_true rfl, Nat.le_of_ble_eq_true rfl⟩) rfl hl.1 rfl (Nat.le_of_ble_eq_true rfl) (Nat.zero_le _) (Nat.zero_le _) dX1_setLink_3 (fun H locs hw => ?_)
  refine bx_top (y := 0) (hb) ?_
  refine bz_eq (tgt := 13) S dX1_setLink_6 (by decide) (fun c6 => ?_) (fun c6 => ?_)
  · refine lv_iconst (v := 1) S.1 S.2.1 dX1_setLink_13 (by decide) ?_
    refine bc_vi (As := [.int 1]) (rest := []) S hK hw (kX1_goesWell l D cZ cI a th σ 1) (cwV 1 S.2.2.2.2 gX1_setLink_X1_goesWell rfl rfl rfl (by decide +kernel) ⟨Nat.le_of_ble_eq_true rfl, Nat.le_of_ble_eq_true rfl⟩) (q0 := 0) rfl rfl rfl hl.1 rfl (Nat.le_of_ble_eq_true rfl) (Nat.zero_le _) (Nat.zero_le _) dX1_setLink_14 (fun H locs hw => ?_)
    refine bx_top (y := 0) (rfl) ?_
    refine bz_ne (tgt := 22) S dX1_setLink_17 (by decide) (fun c17 => ?_) (fun c17 => ?_)
    · exact absurd c17 (by decide)
    · refine lv_iconst (v := 0) S.1 S.2.1 dX1_setLink_20 (by decide) ?_
      exact hret hw dX1_setLink_21 (rfl) (congrArg (wM cZ cI a 1) (rfl))
  · exact absurd c6 (by decide)

theorem inX1_setPeriod : ∀ w ∈ u_ws RX1 TX1 19, w ∈ wsX1_setPeriod := fun _ h => List.mem_cons_of_mem _ (List.mem_append_right _ h)
theorem flX1_setPeriod_26 : Cond.fieldLink RX1 26 "StandbyPairModel" "periods" "[I" ∈ wsX1_setPeriod := by decide +kernel
set_option maxHeartbeats 4000000 in
set_option maxRecDepth 100000 in
theorem kX1_setPeriod (l : Launch) (D : va_G) (cZ cI : ClassId) (a : Nat → Nat) (th : Int32) (σ : sC) {g : Nat} (v : Int32) (hg : g < 3) (h1 : ¬ v < 1) (h2 : ¬ 10 < v) : MI l yX1_setPeriod wsX1_setPeriod ({ frames := 2, cells := 0, slots := 0, locals := 42 } : Room) D (tyZ cZ cI) [.ref (a 0), .int (nI g), .int v] (wM cZ cI a th σ) (σ 4 g) (wM cZ cI a 0 (up σ 4 g v)) := by
  refine MI.of (cc := cX1_setPeriod) (maxL := 4) (ty := .int) (by decide) rfl (rfl) ⟨rfl, rfl⟩ (Nat.le_of_ble_eq_true rfl) ?_
  intro p e s m args below meth c A Q S hK hret ls hl hw
  replace hl : lv_has ls 4 [(0, .ref (a 0)), (1, .int (nI g)), (2, .int v)] := hl
  replace S : CallFix p m c cX1_setPeriod 4 s args wsX1_setPeriod RX1 := S
  have hin := inX1_setPeriod
  refine lv_aload_n S.1 S.2.1 dX1_setPeriod_0 rfl (lv_at hl 0 rfl) ?_
  refine lv_iload_n S.1 S.2.1 dX1_setPeriod_1 rfl (lv_at hl 1 rfl) ?_
  refine bc_si (As := [.int (nI g)]) (rest := [.ref (a 0)]) S hK hw (kX1_isGroup l D _ (nI g)) (va_cwS 1 S.2.2.2.2 gX1_setPeriod_X1_isGroup rfl rfl rfl (by decide +kernel) ⟨Nat.le_of_ble_eq_true rfl, Nat.le_of_ble_eq_true rfl⟩) rfl hl.1 rfl (Nat.le_of_ble_eq_true rfl) (Nat.zero_le _) (Nat.zero_le _) dX1_setPeriod_2 (fun H locs hw => ?_)
  refine bx_top (y := 1) (in_g hg) ?_
  refine bz_eq (tgt := 22) S dX1_setPeriod_5 (by decide) (fun c5 => ?_) (fun c5 => ?_)
  · exact absurd c5 (by decide)
  · refine lv_iload_n S.1 S.2.1 dX1_setPeriod_8 rfl (lv_at hl 2 rfl) ?_
    refine lv_iconst (v := 1) S.1 S.2.1 dX1_setPeriod_9 (by decide) ?_
    refine lv_bipush (v := 10) S.1 S.2.1 dX1_setPeriod_10 (by decide) ?_
    refine bc_si (As := [.int v, .int 1, .int 10]) (rest := [.ref (a 0)]) S hK hw (kX1_in l D _ v 1 10) (va_cwS 3 S.2.2.2.2 gX1_setPeriod_X1_in rfl rfl rfl (by decide +kernel) ⟨Nat.le_of_ble_eq_true rfl, Nat.le_of_ble_eq_true rfl⟩) rfl hl.1 rfl (Nat.le_of_ble_eq_true rfl) (Nat.zero_le _) (Nat.zero_le _) dX1_setPeriod_12 (fun H locs hw => ?_)
    refine bx_top (y := 1) (in_1 h1 h2) ?_
    refine bz_eq (tgt := 22) S dX1_setPeriod_15 (by decide) (fun c15 => ?_) (fun c15 => ?_)
    · exact absurd c15 (by decide)
    · refine lv_iconst (v := 0) S.1 S.2.1 dX1_setPeriod_18 (by decide) ?_
      refine lv_goto (tgt := 23) S.1 S.2.1 dX1_setPeriod_19 (by decide) ?_
      refine bc_vi (As := [.int 0]) (rest := []) S hK hw (kX1_goesWell l D cZ cI a th σ 0) (cwV 1 S.2.2.2.2 gX1_setPeriod_X1_goesWell rfl rfl rfl (by decide +kernel) ⟨Nat.le_of_ble_eq_true rfl, Nat.le_of_ble_eq_true rfl⟩) (q0 := 0) rfl rfl rfl hl.1 rfl (Nat.le_of_ble_eq_true rfl) (Nat.zero_le _) (Nat.zero_le _) dX1_setPeriod_23 (fun H locs hw => ?_)
      refine bx_top (y := 1) (rfl) ?_
      refine bz_ne (tgt := 31) S dX1_setPeriod_26 (by decide) (fun c26 => ?_) (fun c26 => ?_)
      · refine lv_aload_n S.1 S.2.1 dX1_setPeriod_31 rfl (lv_at hl 0 rfl) ?_
        refine bx_get S hK hin hw.1 0 rfl rfl 6 (by decide) flX1_setPeriod_26 rfl dX1_setPeriod_32 ?_
        refine lv_iload_n S.1 S.2.1 dX1_setPeriod_35 rfl (lv_at hl 1 rfl) ?_
        refine bx_iald (v := σ 4 g) S hK hw.1 6 1 rfl rfl (by omega) (by decide) rfl dX1_setPeriod_36 ?_
        refine lv_istore_n (lv' := [(3, .int (σ 4 g)), (0, .ref (a 0)), (1, .int (nI g)), (2, .int v)]) S.1 S.2.1 dX1_setPeriod_37 rfl hl (by decide) rfl (fun ls hl => ?_)
        refine lv_aload_n S.1 S.2.1 dX1_setPeriod_38 rfl (lv_at hl 1 rfl) ?_
        refine bx_get S hK hin hw.1 0 rfl rfl 6 (by decide) flX1_setPeriod_26 rfl dX1_setPeriod_39 ?_
        refine lv_iload_n S.1 S.2.1 dX1_setPeriod_42 rfl (lv_at hl 2 rfl) ?_
        refine lv_iload_n S.1 S.2.1 dX1_setPeriod_43 rfl (lv_at hl 3 rfl) ?_
        refine bx_iast S hK hw 6 1 rfl rfl (by omega) (by decide) (wM_s6 cZ cI a 0 σ g v) dX1_setPeriod_44 (fun H locs hw => ?_)
        refine lv_iload_n S.1 S.2.1 dX1_setPeriod_45 rfl (lv_at hl 0 rfl) ?_
        exact hret hw dX1_setPeriod_46 (rfl) (congrArg (wM cZ cI a 0) (rfl))
      · exact absurd c26 (by decide)

set_option maxHeartbeats 4000000 in
set_option maxRecDepth 100000 in
theorem kX1_setPeriod_bad (l : Launch) (D : va_G) (cZ cI : ClassId) (a : Nat → Nat) (th : Int32) (σ : sC) (x v : Int32) (hb : inB x 0 2 = 0 ∨ inB v 1 10 = 0) : MI l yX1_setPeriod wsX1_setPeriod ({ frames := 2, cells := 0, slots := 0, locals := 42 } : Room) D (tyZ cZ cI) [.ref (a 0), .int x, .int v] (wM cZ cI a th σ) 0 (wM cZ cI a 1 σ) := by
  refine MI.of (cc := cX1_setPeriod) (maxL := 4) (ty := .int) (by decide) rfl (rfl) ⟨rfl, rfl⟩ (Nat.le_of_ble_eq_true rfl) ?_
  intro p e s m args below meth c A Q S hK hret ls hl hw
  replace hl : lv_has ls 4 [(0, .ref (a 0)), (1, .int x), (2, .int v)] := hl
  replace S : CallFix p m c cX1_setPeriod 4 s args wsX1_setPeriod RX1 := S
  have hin := inX1_setPeriod
  refine lv_aload_n S.1 S.2.1 dX1_setPeriod_0 rfl (lv_at hl 0 rfl) ?_
  refine lv_iload_n S.1 S.2.1 dX1_setPeriod_1 rfl (lv_at hl 1 rfl) ?_
  refine bc_si (As := [.int x]) (rest := [.ref (a 0)]) S hK hw (kX1_isGroup l D _ x) (va_cwS 1 S.2.2.2.2 gX1_setPeriod_X1_isGroup rfl rfl rfl (by decide +kernel) ⟨Nat.le_of_ble_eq_true rfl, Nat.le_of_ble_eq_true rfl⟩) rfl hl.1 rfl (Nat.le_of_ble_eq_true rfl) (Nat.zero_le _) (Nat.zero_le _) dX1_setPeriod_2 (fun H locs hw => ?_)
  refine bz_eq (tgt := 22) S dX1_setPeriod_5 (by decide) (fun c5 => ?_) (fun c5 => ?_)
  · refine lv_iconst (v := 1) S.1 S.2.1 dX1_setPeriod_22 (by decide) ?_
    refine bc_vi (As := [.int 1]) (rest := []) S hK hw (kX1_goesWell l D cZ cI a th σ 1) (cwV 1 S.2.2.2.2 gX1_setPeriod_X1_goesWell rfl rfl rfl (by decide +kernel) ⟨Nat.le_of_ble_eq_true rfl, Nat.le_of_ble_eq_true rfl⟩) (q0 := 0) rfl rfl rfl hl.1 rfl (Nat.le_of_ble_eq_true rfl) (Nat.zero_le _) (Nat.zero_le _) dX1_setPeriod_23 (fun H locs hw => ?_)
    refine bx_top (y := 0) (rfl) ?_
    refine bz_ne (tgt := 31) S dX1_setPeriod_26 (by decide) (fun c26 => ?_) (fun c26 => ?_)
    · exact absurd c26 (by decide)
    · refine lv_iconst (v := 0) S.1 S.2.1 dX1_setPeriod_29 (by decide) ?_
      exact hret hw dX1_setPeriod_30 (rfl) (congrArg (wM cZ cI a 1) (rfl))
  · refine lv_iload_n S.1 S.2.1 dX1_setPeriod_8 rfl (lv_at hl 2 rfl) ?_
    refine lv_iconst (v := 1) S.1 S.2.1 dX1_setPeriod_9 (by decide) ?_
    refine lv_bipush (v := 10) S.1 S.2.1 dX1_setPeriod_10 (by decide) ?_
    refine bc_si (As := [.int v, .int 1, .int 10]) (rest := [.ref (a 0)]) S hK hw (kX1_in l D _ v 1 10) (va_cwS 3 S.2.2.2.2 gX1_setPeriod_X1_in rfl rfl rfl (by decide +kernel) ⟨Nat.le_of_ble_eq_true rfl, Nat.le_of_ble_eq_true rfl⟩) rfl hl.1 rfl (Nat.le_of_ble_eq_true rfl) (Nat.zero_le _) (Nat.zero_le _) dX1_setPeriod_12 (fun H locs hw => ?_)
    refine bz_eq (tgt := 22) S dX1_setPeriod_15 (by decide) (fun c15 => ?_) (fun c15 => ?_)
    · refine lv_iconst (v := 1) S.1 S.2.1 dX1_setPeriod_22 (by decide) ?_
      refine bc_vi (As := [.int 1]) (rest := []) S hK hw (kX1_goesWell l D cZ cI a th σ 1) (cwV 1 S.2.2.2.2 gX1_setPeriod_X1_goesWell rfl rfl rfl (by decide +kernel) ⟨Nat.le_of_ble_eq_true rfl, Nat.le_of_ble_eq_true rfl⟩) (q0 := 0) rfl rfl rfl hl.1 rfl (Nat.le_of_ble_eq_true rfl) (Nat.zero_le _) (Nat.zero_le _) dX1_setPeriod_23 (fun H locs hw => ?_)
      refine bx_top (y := 0) (rfl) ?_
      refine bz_ne (tgt := 31) S dX1_setPeriod_26 (by decide) (fun c26 => ?_) (fun c26 => ?_)
      · exact absurd c26 (by decide)
      · refine lv_iconst (v := 0) S.1 S.2.1 dX1_setPeriod_29 (by decide) ?_
        exact hret hw dX1_setPeriod_30 (rfl) (congrArg (wM cZ cI a 1) (rfl))
    · exact (hb.elim c5 c15).elim

theorem inX1_setPreemption : ∀ w ∈ u_ws RX1 TX1 19, w ∈ wsX1_setPreemption := fun _ h => List.mem_cons_of_mem _ (List.mem_append_right _ h)
theorem flX1_setPreemption_29 : Cond.fieldLink RX1 29 "StandbyPairModel" "isOff" "[Z" ∈ wsX1_setPreemption := by decide +kernel
theorem flX1_setPreemption_32 : Cond.fieldLink RX1 32 "StandbyPairModel" "delays" "[I" ∈ wsX1_setPreemption := by decide +kernel
set_option maxHeartbeats 4000000 in
set_option maxRecDepth 100000 in
theorem kX1_setPreemption (l : Launch) (D : va_G) (cZ cI : ClassId) (a : Nat → Nat) (th : Int32) (σ : sC) {g : Nat} (b v : Int32) (hg : g < 3) (h1 : ¬ v < 0) (h2 : ¬ 10 < v) : MV l yX1_setPreemption wsX1_setPreemption ({ frames := 2, cells := 0, slots := 0, locals := 42 } : Room) D (tyZ cZ cI) [.ref (a 0), .int (nI g), .int b, .int v] (wM cZ cI a th σ) (wM cZ cI a 0 (up (up σ 5 g b) 6 g v)) := by
  refine MV.of (cc := cX1_setPreemption) (maxL := 4) (by decide) rfl ⟨rfl, rfl⟩ (Nat.le_of_ble_eq_true rfl) ?_
  intro p e s m args below meth c A Q S hK hret ls hl hw
  replace hl : lv_has ls 4 [(0, .ref (a 0)), (1, .int (nI g)), (2, .int b), (3, .int v)] := hl
  replace S : CallFix p m c cX1_setPreemption 4 s args wsX1_setPreemption RX1 := S
  have hin := inX1_setPreemption
  refine lv_aload_n S.1 S.2.1 dX1_setPreemption_0 rfl (lv_at hl 0 rfl) ?_
  refine lv_iload_n S.1 S.2.1 dX1_setPreemption_1 rfl (lv_at hl 1 rfl) ?_
  refine bc_si (As := [.int (nI g)]) (rest := [.ref (a 0)]) S hK hw (kX1_isGroup l D _ (nI g)) (va_cwS 1 S.2.2.2.2 gX1_setPreemption_X1_isGroup rfl rfl rfl (by decide +kernel) ⟨Nat.le_of_ble_eq_true rfl, Nat.le_of_ble_eq_true rfl⟩) rfl hl.1 rfl (Nat.le_of_ble_eq_true rfl) (Nat.zero_le _) (Nat.zero_le _) dX1_setPreemption_2 (fun H locs hw => ?_)
  refine bx_top (y := 1) (in_g hg) ?_
  refine bz_eq (tgt := 22) S dX1_setPreemption_5 (by decide) (fun c5 => ?_) (fun c5 => ?_)
  · exact absurd c5 (by decide)
  · refine lv_iload_n S.1 S.2.1 dX1_setPreemption_8 rfl (lv_at hl 3 rfl) ?_
    refine lv_iconst (v := 0) S.1 S.2.1 dX1_setPreemption_9 (by decide) ?_
    refine lv_bipush (v := 10) S.1 S.2.1 dX1_setPreemption_10 (by decide) ?_
    refine bc_si (As := [.int v, .int 0, .int 10]) (rest := [.ref (a 0)]) S hK hw (kX1_in l D _ v 0 10) (va_cwS 3 S.2.2.2.2 gX1_setPreemption_X1_in rfl rfl rfl (by decide +kernel) ⟨Nat.le_of_ble_eq_true rfl, Nat.le_of_ble_eq_true rfl⟩) rfl hl.1 rfl (Nat.le_of_ble_eq_true rfl) (Nat.zero_le _) (Nat.zero_le _) dX1_setPreemption_12 (fun H locs hw => ?_)
    refine bx_top (y := 1) (in_1 h1 h2) ?_
    refine bz_eq (tgt := 22) S dX1_setPreemption_15 (by decide) (fun c15 => ?_) (fun c15 => ?_)
    · exact absurd c15 (by decide)
    · refine lv_iconst (v := 0) S.1 S.2.1 dX1_setPreemption_18 (by decide) ?_
      refine lv_goto (tgt := 23) S.1 S.2.1 dX1_setPreemption_19 (by decide) ?_
      refine bc_vi (As := [.int 0]) (rest := []) S hK hw (kX1_goesWell l D cZ cI a th σ 0) (cwV 1 S.2.2.2.2 gX1_setPreemption_X1_goesWell rfl rfl rfl (by decide +kernel) ⟨Nat.le_of_ble_eq_true rfl, Nat.le_of_ble_eq_true rfl⟩) (q0 := 0) rfl rfl rfl hl.1 rfl (Nat.le_of_ble_eq_true rfl) (Nat.zero_le _) (Nat.zero_le _) dX1_setPreemption_23 (fun H locs hw => ?_)
      refine bx_top (y := 1) (rfl) ?_
      refine bz_eq (tgt := 51) S dX1_setPreemption_26 (by decide) (fun c26 => ?_) (fun c26 => ?_)
      · exact absurd c26 (by decide)
      · refine lv_aload_n S.1 S.2.1 dX1_setPreemption_29 rfl (lv_at hl 0 rfl) ?_
        refine bx_get S hK hin hw.1 0 rfl rfl 7 (by decide) flX1_setPreemption_29 rfl dX1_setPreemption_30 ?_
        refine lv_iload_n S.1 S.2.1 dX1_setPreemption_33 rfl (lv_at hl 1 rfl) ?_
        refine lv_iload_n S.1 S.2.1 dX1_setPreemption_34 rfl (lv_at hl 2 rfl) ?_
        refine bz_ne (tgt := 42) S dX1_setPreemption_35 (by decide) (fun c35 => ?_) (fun c35 => ?_)
        · refine lv_iconst (v := 0) S.1 S.2.1 dX1_setPreemption_42 (by decide) ?_
          refine bx_zast S hK hw 7 0 rfl rfl (by omega) (by decide) (by decide) (wM_s7 cZ cI a 0 σ g (y := b) ((flip_0 b).mpr c35)) dX1_setPreemption_43 (fun H locs hw => ?_)
          refine lv_aload_n S.1 S.2.1 dX1_setPreemption_44 rfl (lv_at hl 0 rfl) ?_
          refine bx_get S hK hin hw.1 0 rfl rfl 8 (by decide) flX1_setPreemption_32 rfl dX1_setPreemption_45 ?_
          refine lv_iload_n S.1 S.2.1 dX1_setPreemption_48 rfl (lv_at hl 1 rfl) ?_
          refine lv_iload_n S.1 S.2.1 dX1_setPreemption_49 rfl (lv_at hl 3 rfl) ?_
          refine bx_iast S hK hw 8 1 rfl rfl (by omega) (by decide) (wM_s8 cZ cI a 0 (up σ 5 g b) g v) dX1_setPreemption_50 (fun H locs hw => ?_)
          exact hret hw dX1_setPreemption_51 (congrArg (wM cZ cI a 0) (rfl))
        · refine lv_iconst (v := 1) S.1 S.2.1 dX1_setPreemption_38 (by decide) ?_
          refine lv_goto (tgt := 43) S.1 S.2.1 dX1_setPreemption_39 (by decide) ?_
          refine bx_zast S hK hw 7 0 rfl rfl (by omega) (by decide) (by decide) (wM_s7 cZ cI a 0 σ g (y := b) (by rw [c35]; rfl)) dX1_setPreemption_43 (fun H locs hw => ?_)
          refine lv_aload_n S.1 S.2.1 dX1_setPreemption_44 rfl (lv_at hl 0 rfl) ?_
          refine bx_get S hK hin hw.1 0 rfl rfl 8 (by decide) flX1_setPreemption_32 rfl dX1_setPreemption_45 ?_
          refine lv_iload_n S.1 S.2.1 dX1_setPreemption_48 rfl (lv_at hl 1 rfl) ?_
          refine lv_iload_n S.1 S.2.1 dX1_setPreemption_49 rfl (lv_at hl 3 rfl) ?_
          refine bx_iast S hK hw 8 1 rfl rfl (by omega) (by decide) (wM_s8 cZ cI a 0 (up σ 5 g b) g v) dX1_setPreemption_50 (fun H locs hw => ?_)
          exact hret hw dX1_setPreemption_51 (congrArg (wM cZ cI a 0) (rfl))

set_option maxHeartbeats 4000000 in
set_option maxRecDepth 100000 in
theorem kX1_setPreemption_bad (l : Launch) (D : va_G) (cZ cI : ClassId) (a : Nat → Nat) (th : Int32) (σ : sC) (x b v : Int32) (hb : inB x 0 2 = 0 ∨ inB v 0 10 = 0) : MV l yX1_setPreemption wsX1_setPreemption ({ frames := 2, cells := 0, slots := 0, locals := 42 } : Room) D (tyZ cZ cI) [.ref (a 0), .int x, .int b, .int v] (wM cZ cI a th σ) (wM cZ cI a 1 σ) := by
  refine MV.of (cc := cX1_setPreemption) (maxL := 4) (by decide) rfl ⟨rfl, rfl⟩ (Nat.le_of_ble_eq_true rfl) ?_
  intro p e s m args below meth c A Q S hK hret ls hl hw
  replace hl : lv_has ls 4 [(0, .ref (a 0)), (1, .int x), (2, .int b), (3, .int v)] := hl
  replace S : CallFix p m c cX1_setPreemption 4 s args wsX1_setPreemption RX1 := S
  have hin := inX1_setPreemption
  refine lv_aload_n S.1 S.2.1 dX1_setPreemption_0 rfl (lv_at hl 0 rfl) ?_
  refine lv_iload_n S.1 S.2.1 dX1_setPreemption_1 rfl (lv_at hl 1 rfl) ?_
  refine bc_si (As := [.int x]) (rest := [.ref (a 0)]) S hK hw (kX1_isGroup l D _ x) (va_cwS 1 S.2.2.2.2 gX1_setPreemption_X1_isGroup rfl rfl rfl (by decide +kernel) ⟨Nat.le_of_ble_eq_true rfl, Nat.le_of_ble_eq_true rfl⟩) rfl hl.1 rfl (Nat.le_of_ble_eq_true rfl) (Nat.zero_le _) (Nat.zero_le _) dX1_setPreemption_2 (fun H locs hw => ?_)
  refine bz_eq (tgt := 22) S dX1_setPreemption_5 (by decide) (fun c5 => ?_) (fun c5 => ?_)
  · refine lv_iconst (v := 1) S.1 S.2.1 dX1_setPreemption_22 (by decide) ?_
    refine bc_vi (As := [.int 1]) (rest := []) S hK hw (kX1_goesWell l D cZ cI a th σ 1) (cwV 1 S.2.2.2.2 gX1_setPreemption_X1_goesWell rfl rfl rfl (by decide +kernel) ⟨Nat.le_of_ble_eq_true rfl, Nat.le_of_ble_eq_true rfl⟩) (q0 := 0) rfl rfl rfl hl.1 rfl (Nat.le_of_ble_eq_true rfl) (Nat.zero_le _) (Nat.zero_le _) dX1_setPreemption_23 (fun H locs hw => ?_)
    refine bx_top (y := 0) (rfl) ?_
    refine bz_eq (tgt := 51) S dX1_setPreemption_26 (by decide) (fun c26 => ?_) (fun c26 => ?_)
    · exact hret hw dX1_setPreemption_51 (congrArg (wM cZ cI a 1) (rfl))
    · exact absurd c26 (by decide)
  · refine lv_iload_n S.1 S.2.1 dX1_setPreemption_8 rfl (lv_at hl 3 rfl) ?_
    refine lv_iconst (v := 0) S.1 S.2.1 dX1_setPreemption_9 (by decide) ?_
    refine lv_bipush (v := 10) S.1 S.2.1 dX1_setPreemption_10 (by decide) ?_
    refine bc_si (As := [.int v, .int 0, .int 10]) (rest := [.ref (a 0)]) S hK hw (kX1_in l D _ v 0 10) (va_cwS 3 S.2.2.2.2 gX1_setPreemption_X1_in rfl rfl rfl (by decide +kernel) ⟨Nat.le_of_ble_eq_true rfl, Nat.le_of_ble_eq_true rfl⟩) rfl hl.1 rfl (Nat.le_of_ble_eq_true rfl) (Nat.zero_le _) (Nat.zero_le _) dX1_setPreemption_12 (fun H locs hw => ?_)
    refine bz_eq (tgt := 22) S dX1_setPreemption_15 (by decide) (fun c15 => ?_) (fun c15 => ?_)
    · refine lv_iconst (v := 1) S.1 S.2.1 dX1_setPreemption_22 (by decide) ?_
      refine bc_vi (As := [.int 1]) (rest := []) S hK hw (kX1_goesWell l D cZ cI a th σ 1) (cwV 1 S.2.2.2.2 gX1_setPreemption_X1_goesWell rfl rfl rfl (by decide +kernel) ⟨Nat.le_of_ble_eq_true rfl, Nat.le_of_ble_eq_true rfl⟩) (q0 := 0) rfl rfl rfl hl.1 rfl (Nat.le_of_ble_eq_true rfl) (Nat.zero_le _) (Nat.zero_le _) dX1_setPreemption_23 (fun H locs hw => ?_)
      refine bx_top (y := 0) (rfl) ?_
      refine bz_eq (tgt := 51) S dX1_setPreemption_26 (by decide) (fun c26 => ?_) (fun c26 => ?_)
      · exact hret hw dX1_setPreemption_51 (congrArg (wM cZ cI a 1) (rfl))
      · exact absurd c26 (by decide)
    · exact (hb.elim c5 c15).elim

theorem inX1_join : ∀ w ∈ u_ws RX1 TX1 19, w ∈ wsX1_join := fun _ h => List.mem_cons_of_mem _ (List.mem_append_right _ h)
theorem flX1_join_23 : Cond.fieldLink RX1 23 "StandbyPairModel" "isCut" "[Z" ∈ wsX1_join := by decide +kernel
set_option maxHeartbeats 4000000 in
set_option maxRecDepth 100000 in
theorem kX1_join (l : Launch) (D : va_G) (cZ cI : ClassId) (a : Nat → Nat) (th : Int32) (σ : sC) {i j : Nat} (b : Int32) (hi : i < 4) (hj : j < 4) (hne : ¬ nI i = nI j) (hz : σ 1 (4 * i + j) = 0 ∨ σ 1 (4 * i + j) = 1) : MI l yX1_join wsX1_join ({ frames := 2, cells := 0, slots := 0, locals := 42 } : Room) D (tyZ cZ cI) [.ref (a 0), .int (nI i), .int (nI j), .int b] (wM cZ cI a th σ) (σ 1 (4 * i + j)) (wM cZ cI a 0 (up (up σ 1 (4 * i + j) b) 1 (4 * j + i) b)) := by
  refine MI.of (cc := cX1_join) (maxL := 5) (ty := .boolean) (by decide) rfl (nar_z hz) ⟨rfl, rfl⟩ (Nat.le_of_ble_eq_true rfl) ?_
  intro p e s m args below meth c A Q S hK hret ls hl hw
  replace hl : lv_has ls 5 [(0, .ref (a 0)), (1, .int (nI i)), (2, .int (nI j)), (3, .int b)] := hl
  replace S : CallFix p m c cX1_join 5 s args wsX1_join RX1 := S
  have hin := inX1_join
  refine lv_aload_n S.1 S.2.1 dX1_join_0 rfl (lv_at hl 0 rfl) ?_
  refine lv_iload_n S.1 S.2.1 dX1_join_1 rfl (lv_at hl 1 rfl) ?_
  refine bc_si (As := [.int (nI i)]) (rest := [.ref (a 0)]) S hK hw (kX1_isRouter l D _ (nI i)) (va_cwS 1 S.2.2.2.2 gX1_join_X1_isRouter rfl rfl rfl (by decide +kernel) ⟨Nat.le_of_ble_eq_true rfl, Nat.le_of_ble_eq_true rfl⟩) rfl hl.1 rfl (Nat.le_of_ble_eq_true rfl) (Nat.zero_le _) (Nat.zero_le _) dX1_join_2 (fun H locs hw => ?_)
  refine bx_top (y := 1) (in_r hi) ?_
  refine bz_eq (tgt := 24) S dX1_join_5 (by decide) (fun c5 => ?_) (fun c5 => ?_)
  · exact absurd c5 (by decide)
  · refine lv_iload_n S.1 S.2.1 dX1_join_8 rfl (lv_at hl 2 rfl) ?_
    refine bc_si (As := [.int (nI j)]) (rest := [.ref (a 0)]) S hK hw (kX1_isRouter l D _ (nI j)) (va_cwS 1 S.2.2.2.2 gX1_join_X1_isRouter rfl rfl rfl (by decide +kernel) ⟨Nat.le_of_ble_eq_true rfl, Nat.le_of_ble_eq_true rfl⟩) rfl hl.1 rfl (Nat.le_of_ble_eq_true rfl) (Nat.zero_le _) (Nat.zero_le _) dX1_join_9 (fun H locs hw => ?_)
    refine bx_top (y := 1) (in_r hj) ?_
    refine bz_eq (tgt := 24) S dX1_join_12 (by decide) (fun c12 => ?_) (fun c12 => ?_)
    · exact absurd c12 (by decide)
    · refine lv_iload_n S.1 S.2.1 dX1_join_15 rfl (lv_at hl 1 rfl) ?_
      refine lv_iload_n S.1 S.2.1 dX1_join_16 rfl (lv_at hl 2 rfl) ?_
      refine br_eq (tgt := 24) S dX1_join_17 (by decide) (fun c17 => ?_) (fun c17 => ?_)
      · exact absurd c17 hne
      · refine lv_iconst (v := 0) S.1 S.2.1 dX1_join_20 (by decide) ?_
        refine lv_goto (tgt := 25) S.1 S.2.1 dX1_join_21 (by decide) ?_
        refine bc_vi (As := [.int 0]) (rest := []) S hK hw (kX1_goesWell l D cZ cI a th σ 0) (cwV 1 S.2.2.2.2 gX1_join_X1_goesWell rfl rfl rfl (by decide +kernel) ⟨Nat.le_of_ble_eq_true rfl, Nat.le_of_ble_eq_true rfl⟩) (q0 := 0) rfl rfl rfl hl.1 rfl (Nat.le_of_ble_eq_true rfl) (Nat.zero_le _) (Nat.zero_le _) dX1_join_25 (fun H locs hw => ?_)
        refine bx_top (y := 1) (rfl) ?_
        refine bz_ne (tgt := 33) S dX1_join_28 (by decide) (fun c28 => ?_) (fun c28 => ?_)
        · refine lv_aload_n S.1 S.2.1 dX1_join_33 rfl (lv_at hl 0 rfl) ?_
          refine bx_get S hK hin hw.1 0 rfl rfl 5 (by decide) flX1_join_23 rfl dX1_join_34 ?_
          refine lv_iconst (v := 4) S.1 S.2.1 dX1_join_37 (by decide) ?_
          refine lv_iload_n S.1 S.2.1 dX1_join_38 rfl (lv_at hl 1 rfl) ?_
          refine lv_imul S.1 S.2.1 dX1_join_39 ?_
          refine lv_iload_n S.1 S.2.1 dX1_join_40 rfl (lv_at hl 2 rfl) ?_
          refine lv_iadd S.1 S.2.1 dX1_join_41 ?_
          refine bx_top (y := nI (4 * i + j)) (ml4 hi hj) ?_
          refine bx_zald (v := flip (σ 1 (4 * i + j))) S hK hw.1 5 0 rfl rfl (by omega) (by decide) rfl dX1_join_42 ?_
          refine bz_ne (tgt := 50) S dX1_join_43 (by decide) (fun c43 => ?_) (fun c43 => ?_)
          · refine lv_iconst (v := 0) S.1 S.2.1 dX1_join_50 (by decide) ?_
            refine lv_istore (lv' := [(4, .int 0), (0, .ref (a 0)), (1, .int (nI i)), (2, .int (nI j)), (3, .int b)]) S.1 S.2.1 dX1_join_51 hl (by decide) rfl (fun ls hl => ?_)
            refine lv_aload_n S.1 S.2.1 dX1_join_53 rfl (lv_at hl 1 rfl) ?_
            refine bx_get S hK hin hw.1 0 rfl rfl 5 (by decide) flX1_join_23 rfl dX1_join_54 ?_
            refine lv_iconst (v := 4) S.1 S.2.1 dX1_join_57 (by decide) ?_
            refine lv_iload_n S.1 S.2.1 dX1_join_58 rfl (lv_at hl 2 rfl) ?_
            refine lv_imul S.1 S.2.1 dX1_join_59 ?_
            refine lv_iload_n S.1 S.2.1 dX1_join_60 rfl (lv_at hl 3 rfl) ?_
            refine lv_iadd S.1 S.2.1 dX1_join_61 ?_
            refine bx_top (y := nI (4 * i + j)) (ml4 hi hj) ?_
            refine lv_iload_n S.1 S.2.1 dX1_join_62 rfl (lv_at hl 4 rfl) ?_
            refine bz_ne (tgt := 70) S dX1_join_63 (by decide) (fun c63 => ?_) (fun c63 => ?_)
            · refine lv_iconst (v := 0) S.1 S.2.1 dX1_join_70 (by decide) ?_
              refine bx_zast S hK hw 5 0 rfl rfl (by omega) (by decide) (by decide) (wM_s5 cZ cI a 0 σ (4 * i + j) (y := b) ((flip_0 b).mpr c63)) dX1_join_71 (fun H locs hw => ?_)
              refine lv_aload_n S.1 S.2.1 dX1_join_72 rfl (lv_at hl 1 rfl) ?_
              refine bx_get S hK hin hw.1 0 rfl rfl 5 (by decide) flX1_join_23 rfl dX1_join_73 ?_
              refine lv_iconst (v := 4) S.1 S.2.1 dX1_join_76 (by decide) ?_
              refine lv_iload_n S.1 S.2.1 dX1_join_77 rfl (lv_at hl 3 rfl) ?_
              refine lv_imul S.1 S.2.1 dX1_join_78 ?_
              refine lv_iload_n S.1 S.2.1 dX1_join_79 rfl (lv_at hl 2 rfl) ?_
              refine lv_iadd S.1 S.2.1 dX1_join_80 ?_
              refine bx_top (y := nI (4 * j + i)) (ml4 hj hi) ?_
              refine lv_iload_n S.1 S.2.1 dX1_join_81 rfl (lv_at hl 4 rfl) ?_
              refine bz_ne (tgt := 89) S dX1_join_82 (by decide) (fun c82 => ?_) (fun c82 => ?_)
              · refine lv_iconst (v := 0) S.1 S.2.1 dX1_join_89 (by decide) ?_
                refine bx_zast S hK hw 5 0 rfl rfl (by omega) (by decide) (by decide) (wM_s5 cZ cI a 0 (up σ 1 (4 * i + j) b) (4 * j + i) (y := b) ((flip_0 b).mpr c82)) dX1_join_90 (fun H locs hw => ?_)
                refine lv_iload S.1 S.2.1 dX1_join_91 (lv_at hl 0 rfl) ?_
                exact hret hw dX1_join_93 ((flip_1 c43).symm) (congrArg (wM cZ cI a 0) (rfl))
              · refine lv_iconst (v := 1) S.1 S.2.1 dX1_join_85 (by decide) ?_
                refine lv_goto (tgt := 90) S.1 S.2.1 dX1_join_86 (by decide) ?_
                refine bx_zast S hK hw 5 0 rfl rfl (by omega) (by decide) (by decide) (wM_s5 cZ cI a 0 (up σ 1 (4 * i + j) b) (4 * j + i) (y := b) (by rw [c82]; rfl)) dX1_join_90 (fun H locs hw => ?_)
                refine lv_iload S.1 S.2.1 dX1_join_91 (lv_at hl 0 rfl) ?_
                exact hret hw dX1_join_93 ((flip_1 c43).symm) (congrArg (wM cZ cI a 0) (rfl))
            · refine lv_iconst (v := 1) S.1 S.2.1 dX1_join_66 (by decide) ?_
              refine lv_goto (tgt := 71) S.1 S.2.1 dX1_join_67 (by decide) ?_
              refine bx_zast S hK hw 5 0 rfl rfl (by omega) (by decide) (by decide) (wM_s5 cZ cI a 0 σ (4 * i + j) (y := b) (by rw [c63]; rfl)) dX1_join_71 (fun H locs hw => ?_)
              refine lv_aload_n S.1 S.2.1 dX1_join_72 rfl (lv_at hl 1 rfl) ?_
              refine bx_get S hK hin hw.1 0 rfl rfl 5 (by decide) flX1_join_23 rfl dX1_join_73 ?_
              refine lv_iconst (v := 4) S.1 S.2.1 dX1_join_76 (by decide) ?_
              refine lv_iload_n S.1 S.2.1 dX1_join_77 rfl (lv_at hl 3 rfl) ?_
              refine lv_imul S.1 S.2.1 dX1_join_78 ?_
              refine lv_iload_n S.1 S.2.1 dX1_join_79 rfl (lv_at hl 2 rfl) ?_
              refine lv_iadd S.1 S.2.1 dX1_join_80 ?_
              refine bx_top (y := nI (4 * j + i)) (ml4 hj hi) ?_
              refine lv_iload_n S.1 S.2.1 dX1_join_81 rfl (lv_at hl 4 rfl) ?_
              refine bz_ne (tgt := 89) S dX1_join_82 (by decide) (fun c82 => ?_) (fun c82 => ?_)
              · refine lv_iconst (v := 0) S.1 S.2.1 dX1_join_89 (by decide) ?_
                refine bx_zast S hK hw 5 0 rfl rfl (by omega) (by decide) (by decide) (wM_s5 cZ cI a 0 (up σ 1 (4 * i + j) b) (4 * j + i) (y := b) ((flip_0 b).mpr c82)) dX1_join_90 (fun H locs hw => ?_)
                refine lv_iload S.1 S.2.1 dX1_join_91 (lv_at hl 0 rfl) ?_
                exact hret hw dX1_join_93 ((flip_1 c43).symm) (congrArg (wM cZ cI a 0) (rfl))
              · refine lv_iconst (v := 1) S.1 S.2.1 dX1_join_85 (by decide) ?_
                refine lv_goto (tgt := 90) S.1 S.2.1 dX1_join_86 (by decide) ?_
                refine bx_zast S hK hw 5 0 rfl rfl (by omega) (by decide) (by decide) (wM_s5 cZ cI a 0 (up σ 1 (4 * i + j) b) (4 * j + i) (y := b) (by rw [c82]; rfl)) dX1_join_90 (fun H locs hw => ?_)
                refine lv_iload S.1 S.2.1 dX1_join_91 (lv_at hl 0 rfl) ?_
                exact hret hw dX1_join_93 ((flip_1 c43).symm) (congrArg (wM cZ cI a 0) (rfl))
          · refine lv_iconst (v := 1) S.1 S.2.1 dX1_join_46 (by decide) ?_
            refine lv_goto (tgt := 51) S.1 S.2.1 dX1_join_47 (by decide) ?_
            refine lv_istore (lv' := [(4, .int 1), (0, .ref (a 0)), (1, .int (nI i)), (2, .int (nI j)), (3, .int b)]) S.1 S.2.1 dX1_join_51 hl (by decide) rfl (fun ls hl => ?_)
            refine lv_aload_n S.1 S.2.1 dX1_join_53 rfl (lv_at hl 1 rfl) ?_
            refine bx_get S hK hin hw.1 0 rfl rfl 5 (by decide) flX1_join_23 rfl dX1_join_54 ?_
            refine lv_iconst (v := 4) S.1 S.2.1 dX1_join_57 (by decide) ?_
            refine lv_iload_n S.1 S.2.1 dX1_join_58 rfl (lv_at hl 2 rfl) ?_
            refine lv_imul S.1 S.2.1 dX1_join_59 ?_
            refine lv_iload_n S.1 S.2.1 dX1_join_60 rfl (lv_at hl 3 rfl) ?_
            refine lv_iadd S.1 S.2.1 dX1_join_61 ?_
            refine bx_top (y := nI (4 * i + j)) (ml4 hi hj) ?_
            refine lv_iload_n S.1 S.2.1 dX1_join_62 rfl (lv_at hl 4 rfl) ?_
            refine bz_ne (tgt := 70) S dX1_join_63 (by decide) (fun c63 => ?_) (fun c63 => ?_)
            · refine lv_iconst (v := 0) S.1 S.2.1 dX1_join_70 (by decide) ?_
              refine bx_zast S hK hw 5 0 rfl rfl (by omega) (by decide) (by decide) (wM_s5 cZ cI a 0 σ (4 * i + j) (y := b) ((flip_0 b).mpr c63)) dX1_join_71 (fun H locs hw => ?_)
              refine lv_aload_n S.1 S.2.1 dX1_join_72 rfl (lv_at hl 1 rfl) ?_
              refine bx_get S hK hin hw.1 0 rfl rfl 5 (by decide) flX1_join_23 rfl dX1_join_73 ?_
              refine lv_iconst (v := 4) S.1 S.2.1 dX1_join_76 (by decide) ?_
              refine lv_iload_n S.1 S.2.1 dX1_join_77 rfl (lv_at hl 3 rfl) ?_
              refine lv_imul S.1 S.2.1 dX1_join_78 ?_
              refine lv_iload_n S.1 S.2.1 dX1_join_79 rfl (lv_at hl 2 rfl) ?_
              refine lv_iadd S.1 S.2.1 dX1_join_80 ?_
              refine bx_top (y := nI (4 * j + i)) (ml4 hj hi) ?_
              refine lv_iload_n S.1 S.2.1 dX1_join_81 rfl (lv_at hl 4 rfl) ?_
              refine bz_ne (tgt := 89) S dX1_join_82 (by decide) (fun c82 => ?_) (fun c82 => ?_)
              · refine lv_iconst (v := 0) S.1 S.2.1 dX1_join_89 (by decide) ?_
                refine bx_zast S hK hw 5 0 rfl rfl (by omega) (by decide) (by decide) (wM_s5 cZ cI a 0 (up σ 1 (4 * i + j) b) (4 * j + i) (y := b) ((flip_0 b).mpr c82)) dX1_join_90 (fun H locs hw => ?_)
                refine lv_iload S.1 S.2.1 dX1_join_91 (lv_at hl 0 rfl) ?_
                exact hret hw dX1_join_93 ((hz.resolve_left ((flip_0 _).mp c43)).symm) (congrArg (wM cZ cI a 0) (rfl))
              · refine lv_iconst (v := 1) S.1 S.2.1 dX1_join_85 (by decide) ?_
                refine lv_goto (tgt := 90) S.1 S.2.1 dX1_join_86 (by decide) ?_
                refine bx_zast S hK hw 5 0 rfl rfl (by omega) (by decide) (by decide) (wM_s5 cZ cI a 0 (up σ 1 (4 * i + j) b) (4 * j + i) (y := b) (by rw [c82]; rfl)) dX1_join_90 (fun H locs hw => ?_)
                refine lv_iload S.1 S.2.1 dX1_join_91 (lv_at hl 0 rfl) ?_
                exact hret hw dX1_join_93 ((hz.resolve_left ((flip_0 _).mp c43)).symm) (congrArg (wM cZ cI a 0) (rfl))
            · refine lv_iconst (v := 1) S.1 S.2.1 dX1_join_66 (by decide) ?_
              refine lv_goto (tgt := 71) S.1 S.2.1 dX1_join_67 (by decide) ?_
              refine bx_zast S hK hw 5 0 rfl rfl (by omega) (by decide) (by decide) (wM_s5 cZ cI a 0 σ (4 * i + j) (y := b) (by rw [c63]; rfl)) dX1_join_71 (fun H locs hw => ?_)
              refine lv_aload_n S.1 S.2.1 dX1_join_72 rfl (lv_at hl 1 rfl) ?_
              refine bx_get S hK hin hw.1 0 rfl rfl 5 (by decide) flX1_join_23 rfl dX1_join_73 ?_
              refine lv_iconst (v := 4) S.1 S.2.1 dX1_join_76 (by decide) ?_
              refine lv_iload_n S.1 S.2.1 dX1_join_77 rfl (lv_at hl 3 rfl) ?_
              refine lv_imul S.1 S.2.1 dX1_join_78 ?_
              refine lv_iload_n S.1 S.2.1 dX1_join_79 rfl (lv_at hl 2 rfl) ?_
              refine lv_iadd S.1 S.2.1 dX1_join_80 ?_
              refine bx_top (y := nI (4 * j + i)) (ml4 hj hi) ?_
              refine lv_iload_n S.1 S.2.1 dX1_join_81 rfl (lv_at hl 4 rfl) ?_
              refine bz_ne (tgt := 89) S dX1_join_82 (by decide) (fun c82 => ?_) (fun c82 => ?_)
              · refine lv_iconst (v := 0) S.1 S.2.1 dX1_join_89 (by decide) ?_
                refine bx_zast S hK hw 5 0 rfl rfl (by omega) (by decide) (by decide) (wM_s5 cZ cI a 0 (up σ 1 (4 * i + j) b) (4 * j + i) (y := b) ((flip_0 b).mpr c82)) dX1_join_90 (fun H locs hw => ?_)
                refine lv_iload S.1 S.2.1 dX1_join_91 (lv_at hl 0 rfl) ?_
                exact hret hw dX1_join_93 ((hz.resolve_left ((flip_0 _).mp c43)).symm) (congrArg (wM cZ cI a 0) (rfl))
              · refine lv_iconst (v := 1) S.1 S.2.1 dX1_join_85 (by decide) ?_
                refine lv_goto (tgt := 90) S.1 S.2.1 dX1_join_86 (by decide) ?_
                refine bx_zast S hK hw 5 0 rfl rfl (by omega) (by decide) (by decide) (wM_s5 cZ cI a 0 (up σ 1 (4 * i + j) b) (4 * j + i) (y := b) (by rw [c82]; rfl)) dX1_join_90 (fun H locs hw => ?_)
                refine lv_iload S.1 S.2.1 dX1_join_91 (lv_at hl 0 rfl) ?_
                exact hret hw dX1_join_93 ((hz.resolve_left ((flip_0 _).mp c43)).symm) (congrArg (wM cZ cI a 0) (rfl))
        · exact absurd c28 (by decide)

set_option maxHeartbeats 4000000 in
set_option maxRecDepth 100000 in
theorem kX1_join_bad (l : Launch) (D : va_G) (cZ cI : ClassId) (a : Nat → Nat) (th : Int32) (σ : sC) (x y b : Int32) (hb : inB x 0 3 = 0 ∨ inB y 0 3 = 0 ∨ x = y) : MI l yX1_join wsX1_join ({ frames := 2, cells := 0, slots := 0, locals := 42 } : Room) D (tyZ cZ cI) [.ref (a 0), .int x, .int y, .int b] (wM cZ cI a th σ) 0 (wM cZ cI a 1 σ) := by
  refine MI.of (cc := cX1_join) (maxL := 5) (ty := .boolean) (by decide) rfl (rfl) ⟨rfl, rfl⟩ (Nat.le_of_ble_eq_true rfl) ?_
  intro p e s m args below meth c A Q S hK hret ls hl hw
  replace hl : lv_has ls 5 [(0, .ref (a 0)), (1, .int x), (2, .int y), (3, .int b)] := hl
  replace S : CallFix p m c cX1_join 5 s args wsX1_join RX1 := S
  have hin := inX1_join
  refine lv_aload_n S.1 S.2.1 dX1_join_0 rfl (lv_at hl 0 rfl) ?_
  refine lv_iload_n S.1 S.2.1 dX1_join_1 rfl (lv_at hl 1 rfl) ?_
  refine bc_si (As := [.int x]) (rest := [.ref (a 0)]) S hK hw (kX1_isRouter l D _ x) (va_cwS 1 S.2.2.2.2 gX1_join_X1_isRouter rfl rfl rfl (by decide +kernel) ⟨Nat.le_of_ble_eq_true rfl, Nat.le_of_ble_eq_true rfl⟩) rfl hl.1 rfl (Nat.le_of_ble_eq_true rfl) (Nat.zero_le _) (Nat.zero_le _) dX1_join_2 (fun H locs hw => ?_)
  refine bz_eq (tgt := 24) S dX1_join_5 (by decide) (fun c5 => ?_) (fun c5 => ?_)
  · refine lv_iconst (v := 1) S.1 S.2.1 dX1_join_24 (by decide) ?_
    refine bc_vi (As := [.int 1]) (rest := []) S hK hw (kX1_goesWell l D cZ cI a th σ 1) (cwV 1 S.2.2.2.2 gX1_join_X1_goesWell rfl rfl rfl (by decide +kernel) ⟨Nat.le_of_ble_eq_true rfl, Nat.le_of_ble_eq_true rfl⟩) (q0 := 0) rfl rfl rfl hl.1 rfl (Nat.le_of_ble_eq_true rfl) (Nat.zero_le _) (Nat.zero_le _) dX1_join_25 (fun H locs hw => ?_)
    refine bx_top (y := 0) (rfl) ?_
    refine bz_ne (tgt := 33) S dX1_join_28 (by decide) (fun c28 => ?_) (fun c28 => ?_)
    · exact absurd c28 (by decide)
    · refine lv_iconst (v := 0) S.1 S.2.1 dX1_join_31 (by decide) ?_
      exact hret hw dX1_join_32 (rfl) (congrArg (wM cZ cI a 1) (rfl))
  · refine lv_iload_n S.1 S.2.1 dX1_join_8 rfl (lv_at hl 2 rfl) ?_
    refine bc_si (As := [.int y]) (rest := [.ref (a 0)]) S hK hw (kX1_isRouter l D _ y) (va_cwS 1 S.2.2.2.2 gX1_join_X1_isRouter rfl rfl rfl (by decide +kernel) ⟨Nat.le_of_ble_eq_true rfl, Nat.le_of_ble_eq_true rfl⟩) rfl hl.1 rfl (Nat.le_of_ble_eq_true rfl) (Nat.zero_le _) (Nat.zero_le _) dX1_join_9 (fun H locs hw => ?_)
    refine bz_eq (tgt := 24) S dX1_join_12 (by decide) (fun c12 => ?_) (fun c12 => ?_)
    · refine lv_iconst (v := 1) S.1 S.2.1 dX1_join_24 (by decide) ?_
      refine bc_vi (As := [.int 1]) (rest := []) S hK hw (kX1_goesWell l D cZ cI a th σ 1) (cwV 1 S.2.2.2.2 gX1_join_X1_goesWell rfl rfl rfl (by decide +kernel) ⟨Nat.le_of_ble_eq_true rfl, Nat.le_of_ble_eq_true rfl⟩) (q0 := 0) rfl rfl rfl hl.1 rfl (Nat.le_of_ble_eq_true rfl) (Nat.zero_le _) (Nat.zero_le _) dX1_join_25 (fun H locs hw => ?_)
      refine bx_top (y := 0) (rfl) ?_
      refine bz_ne (tgt := 33) S dX1_join_28 (by decide) (fun c28 => ?_) (fun c28 => ?_)
      · exact absurd c28 (by decide)
      · refine lv_iconst (v := 0) S.1 S.2.1 dX1_join_31 (by decide) ?_
        exact hret hw dX1_join_32 (rfl) (congrArg (wM cZ cI a 1) (rfl))
    · refine lv_iload_n S.1 S.2.1 dX1_join_15 rfl (lv_at hl 1 rfl) ?_
      refine lv_iload_n S.1 S.2.1 dX1_join_16 rfl (lv_at hl 2 rfl) ?_
      refine br_eq (tgt := 24) S dX1_join_17 (by decide) (fun c17 => ?_) (fun c17 => ?_)
      · refine lv_iconst (v := 1) S.1 S.2.1 dX1_join_24 (by decide) ?_
        refine bc_vi (As := [.int 1]) (rest := []) S hK hw (kX1_goesWell l D cZ cI a th σ 1) (cwV 1 S.2.2.2.2 gX1_join_X1_goesWell rfl rfl rfl (by decide +kernel) ⟨Nat.le_of_ble_eq_true rfl, Nat.le_of_ble_eq_true rfl⟩) (q0 := 0) rfl rfl rfl hl.1 rfl (Nat.le_of_ble_eq_true rfl) (Nat.zero_le _) (Nat.zero_le _) dX1_join_25 (fun H locs hw => ?_)
        refine bx_top (y := 0) (rfl) ?_
        refine bz_ne (tgt := 33) S dX1_join_28 (by decide) (fun c28 => ?_) (fun c28 => ?_)
        · exact absurd c28 (by decide)
        · refine lv_iconst (v := 0) S.1 S.2.1 dX1_join_31 (by decide) ?_
          exact hret hw dX1_join_32 (rfl) (congrArg (wM cZ cI a 1) (rfl))
      · exact (hb.elim c5 (fun h => h.elim c12 c17)).elim

theorem inX1_die : ∀ w ∈ u_ws RX1 TX1 19, w ∈ wsX1_die := fun _ h => List.mem_cons_of_mem _ (List.mem_append_right _ h)
theorem flX1_die_7 : Cond.fieldLink RX1 7 "StandbyPairModel" "isDead" "[Z" ∈ wsX1_die := by decide +kernel
theorem flX1_die_35 : Cond.fieldLink RX1 35 "StandbyPairModel" "states" "[I" ∈ wsX1_die := by decide +kernel
set_option maxHeartbeats 4000000 in
set_option maxRecDepth 100000 in
theorem kX1_die (l : Launch) (D : va_G) (cZ cI : ClassId) (a : Nat → Nat) (th : Int32) (σ : sC) {r : Nat} (hr : r < 4) (ha : ¬ σ 0 r = 0) : MI l yX1_die wsX1_die ({ frames := 5, cells := 0, slots := 0, locals := 110 } : Room) D (tyZ cZ cI) [.ref (a 0), .int (nI r)] (wM cZ cI a th σ) (dieN σ r 3) (wM cZ cI a 0 (dieG σ r 3)) := by
  refine MI.of (cc := cX1_die) (maxL := 4) (ty := .int) (by decide) rfl (rfl) ⟨rfl, rfl⟩ (Nat.le_of_ble_eq_true rfl) ?_
  intro p e s m args below meth c A Q S hK hret ls hl hw
  replace hl : lv_has ls 4 [(0, .ref (a 0)), (1, .int (nI r))] := hl
  replace S : CallFix p m c cX1_die 4 s args wsX1_die RX1 := S
  have hin := inX1_die
  refine lv_aload_n S.1 S.2.1 dX1_die_0 rfl (lv_at hl 0 rfl) ?_
  refine lv_iload_n S.1 S.2.1 dX1_die_1 rfl (lv_at hl 1 rfl) ?_
  refine bc_si (As := [.int (nI r)]) (rest := [.ref (a 0)]) S hK hw (kX1_isRouter l D _ (nI r)) (va_cwS 1 S.2.2.2.2 gX1_die_X1_isRouter rfl rfl rfl (by decide +kernel) ⟨Nat.le_of_ble_eq_true rfl, Nat.le_of_ble_eq_true rfl⟩) rfl hl.1 rfl (Nat.le_of_ble_eq_true rfl) (Nat.zero_le _) (Nat.zero_le _) dX1_die_2 (fun H locs hw => ?_)
  refine bx_top (y := 1) (in_r hr) ?_
  refine bz_ne (tgt := 12) S dX1_die_5 (by decide) (fun c5 => ?_) (fun c5 => ?_)
  · refine lv_aload_n S.1 S.2.1 dX1_die_12 rfl (lv_at hl 0 rfl) ?_
    refine bx_get S hK hin hw.1 0 rfl rfl 1 (by decide) flX1_die_7 rfl dX1_die_13 ?_
    refine lv_iload_n S.1 S.2.1 dX1_die_16 rfl (lv_at hl 1 rfl) ?_
    refine bx_zald (v := flip (σ 0 r)) S hK hw.1 1 0 rfl rfl (by omega) (by decide) rfl dX1_die_17 ?_
    refine bz_eq (tgt := 25) S dX1_die_18 (by decide) (fun c18 => ?_) (fun c18 => ?_)
    · refine lv_iconst (v := 0) S.1 S.2.1 dX1_die_25 (by decide) ?_
      refine bc_vi (As := [.int 0]) (rest := []) S hK hw (kX1_goesWell l D cZ cI a th σ 0) (cwV 1 S.2.2.2.2 gX1_die_X1_goesWell rfl rfl rfl (by decide +kernel) ⟨Nat.le_of_ble_eq_true rfl, Nat.le_of_ble_eq_true rfl⟩) (q0 := 0) rfl rfl rfl hl.1 rfl (Nat.le_of_ble_eq_true rfl) (Nat.zero_le _) (Nat.zero_le _) dX1_die_26 (fun H locs hw => ?_)
      refine bx_top (y := 1) (rfl) ?_
      refine bz_ne (tgt := 34) S dX1_die_29 (by decide) (fun c29 => ?_) (fun c29 => ?_)
      · refine lv_iconst (v := 0) S.1 S.2.1 dX1_die_34 (by decide) ?_
        refine lv_istore_n (lv' := [(2, .int 0), (0, .ref (a 0)), (1, .int (nI r))]) S.1 S.2.1 dX1_die_35 rfl hl (by decide) rfl (fun ls hl => ?_)
        refine lv_aload_n S.1 S.2.1 dX1_die_36 rfl (lv_at hl 1 rfl) ?_
        refine bx_get S hK hin hw.1 0 rfl rfl 1 (by decide) flX1_die_7 rfl dX1_die_37 ?_
        refine lv_iload_n S.1 S.2.1 dX1_die_40 rfl (lv_at hl 2 rfl) ?_
        refine lv_iconst (v := 1) S.1 S.2.1 dX1_die_41 (by decide) ?_
        refine bx_zast S hK hw 1 0 rfl rfl (by omega) (by decide) (by decide) (wM_s1 cZ cI a 0 σ r (y := 0) (by decide)) dX1_die_42 (fun H locs hw => ?_)
        refine lv_iconst (v := nI 0) S.1 S.2.1 dX1_die_43 (by decide) ?_
        refine lv_istore_n (lv' := [(3, .int (nI 0)), (2, .int 0), (0, .ref (a 0)), (1, .int (nI r))]) S.1 S.2.1 dX1_die_44 rfl hl (by decide) rfl (fun ls hl => ?_)
        have L45 : ∀ (n i45 : Nat), i45 + n = 3 → ∀ (H : Heap) (locs : List Loc), Wd D A s.heap (wM cZ cI a 0 (dieG σ r i45)) H locs → ∀ ls : Array Slot, lv_has ls 4 [(0, .ref (a 0)), (1, .int (nI r)), (2, .int (dieN σ r i45)), (3, .int (nI i45))] → W p l e ({ frames := 5, cells := 0, slots := 0, locals := 110 } : Room) s m args below meth c H locs 0 0 Q (F0 m 45 ls []) := by
          intro n
          induction n with
          | zero =>
            intro i45 hi H locs hw ls hl
            obtain rfl : i45 = 3 := by omega
            refine lv_iload_n S.1 S.2.1 dX1_die_45 rfl (lv_at hl 3 rfl) ?_
            refine lv_iconst (v := nI 3) S.1 S.2.1 dX1_die_46 (by decide) ?_
            refine br_ge (tgt := 87) S dX1_die_47 (by decide) (fun c47 => ?_) (fun c47 => ?_)
            · refine lv_iload_n S.1 S.2.1 dX1_die_87 rfl (lv_at hl 2 rfl) ?_
              exact hret hw dX1_die_88 (rfl) (congrArg (wM cZ cI a 0) (rfl))
            · exact absurd c47 (nlt_nI (by decide))
          | succ n ih_45 =>
            intro i45 hi H locs hw ls hl
            have hi45 : i45 < 3 := by omega
            refine lv_iload_n S.1 S.2.1 dX1_die_45 rfl (lv_at hl 3 rfl) ?_
            refine lv_iconst (v := nI 3) S.1 S.2.1 dX1_die_46 (by decide) ?_
            refine br_ge (tgt := 87) S dX1_die_47 (by decide) (fun c47 => ?_) (fun c47 => ?_)
            · exact absurd c47 (not_not_intro (lt_nI hi45 (by decide)))
            · refine lv_iload_n S.1 S.2.1 dX1_die_50 rfl (lv_at hl 2 rfl) ?_
              refine lv_aload_n S.1 S.2.1 dX1_die_51 rfl (lv_at hl 0 rfl) ?_
              refine bx_get S hK hin hw.1 0 rfl rfl 9 (by decide) flX1_die_35 rfl dX1_die_52 ?_
              refine lv_iconst (v := 3) S.1 S.2.1 dX1_die_55 (by decide) ?_
              refine lv_iload_n S.1 S.2.1 dX1_die_56 rfl (lv_at hl 1 rfl) ?_
              refine lv_imul S.1 S.2.1 dX1_die_57 ?_
              refine lv_iload_n S.1 S.2.1 dX1_die_58 rfl (lv_at hl 3 rfl) ?_
              refine lv_iadd S.1 S.2.1 dX1_die_59 ?_
              refine bx_top (y := nI (3 * r + i45)) (ml3 hr (by omega)) ?_
              refine bx_iald (v := (dieG σ r i45) 10 (4 * i45 + r)) S hK hw.1 9 1 rfl rfl (by omega) (by decide) (congrArg ((dieG σ r i45) 10) (pm_at (r := r) (g := i45) (by omega) (by omega))) dX1_die_60 ?_
              refine lv_iconst (v := 2) S.1 S.2.1 dX1_die_61 (by decide) ?_
              refine br_ne (tgt := 69) S dX1_die_62 (by decide) (fun c62 => ?_) (fun c62 => ?_)
              · refine lv_iconst (v := 0) S.1 S.2.1 dX1_die_69 (by decide) ?_
                refine lv_iadd S.1 S.2.1 dX1_die_70 ?_
                refine lv_istore_n (lv' := [(2, .int ((dieN σ r i45) + 0)), (0, .ref (a 0)), (1, .int (nI r)), (3, .int (nI i45))]) S.1 S.2.1 dX1_die_71 rfl hl (by decide) rfl (fun ls hl => ?_)
                refine lv_aload_n S.1 S.2.1 dX1_die_72 rfl (lv_at hl 1 rfl) ?_
                refine lv_iconst (v := 3) S.1 S.2.1 dX1_die_73 (by decide) ?_
                refine lv_iload_n S.1 S.2.1 dX1_die_74 rfl (lv_at hl 2 rfl) ?_
                refine lv_imul S.1 S.2.1 dX1_die_75 ?_
                refine lv_iload_n S.1 S.2.1 dX1_die_76 rfl (lv_at hl 3 rfl) ?_
                refine lv_iadd S.1 S.2.1 dX1_die_77 ?_
                refine bx_top (y := nI (3 * r + i45)) (ml3 hr (by omega)) ?_
                refine bc_vv (As := [.int (nI (3 * r + i45))]) (rest := []) S hK hw (kX1_settle l D cZ cI a 0 (dieG σ r i45) (r := r) (g := i45) (by omega) (by omega)) (cwV 1 S.2.2.2.2 gX1_die_X1_settle rfl rfl rfl (by decide +kernel) ⟨Nat.le_of_ble_eq_true rfl, Nat.le_of_ble_eq_true rfl⟩) (q0 := 0) rfl rfl rfl hl.1 rfl (Nat.le_of_ble_eq_true rfl) (Nat.zero_le _) (Nat.zero_le _) dX1_die_78 (fun H locs hw => ?_)
                refine lv_iinc (v := nI (i45 + 1)) (lv' := [(3, .int (nI (i45 + 1))), (2, .int ((dieN σ r i45) + 0)), (0, .ref (a 0)), (1, .int (nI r))]) S.1 S.2.1 dX1_die_81 hl (k := 3) rfl (nI_1 i45) (by decide) rfl (fun ls hl => ?_)
                refine lv_goto (tgt := 45) S.1 S.2.1 dX1_die_84 (by decide) ?_
                have ea : dieN σ r (i45 + 1) = (dieN σ r i45) + 0 := by simp only [dieN, itF, dieC, eq_true c18, eq_true c47, eq_false c62, ↓reduceIte, Int32.add_zero]
                exact ih_45 (i45 + 1) (by omega) _ _ (Wd.cast (congrArg (wM cZ cI a 0) (sett_d σ r i45)) hw) _ (by rw [ea]; exact lv_sub hl [2, 3, 1, 0] rfl)
              · refine lv_iconst (v := 1) S.1 S.2.1 dX1_die_65 (by decide) ?_
                refine lv_goto (tgt := 70) S.1 S.2.1 dX1_die_66 (by decide) ?_
                refine lv_iadd S.1 S.2.1 dX1_die_70 ?_
                refine lv_istore_n (lv' := [(2, .int ((dieN σ r i45) + 1)), (0, .ref (a 0)), (1, .int (nI r)), (3, .int (nI i45))]) S.1 S.2.1 dX1_die_71 rfl hl (by decide) rfl (fun ls hl => ?_)
                refine lv_aload_n S.1 S.2.1 dX1_die_72 rfl (lv_at hl 1 rfl) ?_
                refine lv_iconst (v := 3) S.1 S.2.1 dX1_die_73 (by decide) ?_
                refine lv_iload_n S.1 S.2.1 dX1_die_74 rfl (lv_at hl 2 rfl) ?_
                refine lv_imul S.1 S.2.1 dX1_die_75 ?_
                refine lv_iload_n S.1 S.2.1 dX1_die_76 rfl (lv_at hl 3 rfl) ?_
                refine lv_iadd S.1 S.2.1 dX1_die_77 ?_
                refine bx_top (y := nI (3 * r + i45)) (ml3 hr (by omega)) ?_
                refine bc_vv (As := [.int (nI (3 * r + i45))]) (rest := []) S hK hw (kX1_settle l D cZ cI a 0 (dieG σ r i45) (r := r) (g := i45) (by omega) (by omega)) (cwV 1 S.2.2.2.2 gX1_die_X1_settle rfl rfl rfl (by decide +kernel) ⟨Nat.le_of_ble_eq_true rfl, Nat.le_of_ble_eq_true rfl⟩) (q0 := 0) rfl rfl rfl hl.1 rfl (Nat.le_of_ble_eq_true rfl) (Nat.zero_le _) (Nat.zero_le _) dX1_die_78 (fun H locs hw => ?_)
                refine lv_iinc (v := nI (i45 + 1)) (lv' := [(3, .int (nI (i45 + 1))), (2, .int ((dieN σ r i45) + 1)), (0, .ref (a 0)), (1, .int (nI r))]) S.1 S.2.1 dX1_die_81 hl (k := 3) rfl (nI_1 i45) (by decide) rfl (fun ls hl => ?_)
                refine lv_goto (tgt := 45) S.1 S.2.1 dX1_die_84 (by decide) ?_
                have ea : dieN σ r (i45 + 1) = (dieN σ r i45) + 1 := by simp only [dieN, itF, dieC, eq_true c18, eq_true c47, eq_true c62, ↓reduceIte, Int32.add_zero]
                exact ih_45 (i45 + 1) (by omega) _ _ (Wd.cast (congrArg (wM cZ cI a 0) (sett_d σ r i45)) hw) _ (by rw [ea]; exact lv_sub hl [2, 3, 1, 0] rfl)
        exact L45 (3 - 0) 0 (by omega) _ _ hw _ (lv_sub hl [2, 3, 1, 0] rfl)
      · exact absurd c29 (by decide)
    · exact absurd c18 (not_not_intro ((flip_0 _).mpr ha))
  · exact absurd c5 (by decide)

set_option maxHeartbeats 4000000 in
set_option maxRecDepth 100000 in
theorem kX1_die_bad (l : Launch) (D : va_G) (cZ cI : ClassId) (a : Nat → Nat) (th : Int32) (σ : sC) (x : Int32) (hb : inB x 0 3 = 0) : MI l yX1_die wsX1_die ({ frames := 5, cells := 0, slots := 0, locals := 110 } : Room) D (tyZ cZ cI) [.ref (a 0), .int x] (wM cZ cI a th σ) 0 (wM cZ cI a 1 σ) := by
  refine MI.of (cc := cX1_die) (maxL := 4) (ty := .int) (by decide) rfl (rfl) ⟨rfl, rfl⟩ (Nat.le_of_ble_eq_true rfl) ?_
  intro p e s m args below meth c A Q S hK hret ls hl hw
  replace hl : lv_has ls 4 [(0, .ref (a 0)), (1, .int x)] := hl
  replace S : CallFix p m c cX1_die 4 s args wsX1_die RX1 := S
  have hin := inX1_die
  refine lv_aload_n S.1 S.2.1 dX1_die_0 rfl (lv_at hl 0 rfl) ?_
  refine lv_iload_n S.1 S.2.1 dX1_die_1 rfl (lv_at hl 1 rfl) ?_
  refine bc_si (As := [.int x]) (rest := [.ref (a 0)]) S hK hw (kX1_isRouter l D _ x) (va_cwS 1 S.2.2.2.2 gX1_die_X1_isRouter rfl rfl rfl (by decide +kernel) ⟨Nat.le_of_ble_eq_true rfl, Nat.le_of_ble_eq_true rfl⟩) rfl hl.1 rfl (Nat.le_of_ble_eq_true rfl) (Nat.zero_le _) (Nat.zero_le _) dX1_die_2 (fun H locs hw => ?_)
  refine bx_top (y := 0) (hb) ?_
  refine bz_ne (tgt := 12) S dX1_die_5 (by decide) (fun c5 => ?_) (fun c5 => ?_)
  · exact absurd c5 (by decide)
  · refine lv_iconst (v := 1) S.1 S.2.1 dX1_die_8 (by decide) ?_
    refine lv_goto (tgt := 26) S.1 S.2.1 dX1_die_9 (by decide) ?_
    refine bc_vi (As := [.int 1]) (rest := []) S hK hw (kX1_goesWell l D cZ cI a th σ 1) (cwV 1 S.2.2.2.2 gX1_die_X1_goesWell rfl rfl rfl (by decide +kernel) ⟨Nat.le_of_ble_eq_true rfl, Nat.le_of_ble_eq_true rfl⟩) (q0 := 0) rfl rfl rfl hl.1 rfl (Nat.le_of_ble_eq_true rfl) (Nat.zero_le _) (Nat.zero_le _) dX1_die_26 (fun H locs hw => ?_)
    refine bx_top (y := 0) (rfl) ?_
    refine bz_ne (tgt := 34) S dX1_die_29 (by decide) (fun c29 => ?_) (fun c29 => ?_)
    · exact absurd c29 (by decide)
    · refine lv_iconst (v := 0) S.1 S.2.1 dX1_die_32 (by decide) ?_
      exact hret hw dX1_die_33 (rfl) (congrArg (wM cZ cI a 1) (rfl))

set_option maxHeartbeats 4000000 in
set_option maxRecDepth 100000 in
theorem kX1_die_bad2 (l : Launch) (D : va_G) (cZ cI : ClassId) (a : Nat → Nat) (th : Int32) (σ : sC) {r : Nat} (hr : r < 4) (ha : σ 0 r = 0) : MI l yX1_die wsX1_die ({ frames := 5, cells := 0, slots := 0, locals := 110 } : Room) D (tyZ cZ cI) [.ref (a 0), .int (nI r)] (wM cZ cI a th σ) 0 (wM cZ cI a 2 σ) := by
  refine MI.of (cc := cX1_die) (maxL := 4) (ty := .int) (by decide) rfl (rfl) ⟨rfl, rfl⟩ (Nat.le_of_ble_eq_true rfl) ?_
  intro p e s m args below meth c A Q S hK hret ls hl hw
  replace hl : lv_has ls 4 [(0, .ref (a 0)), (1, .int (nI r))] := hl
  replace S : CallFix p m c cX1_die 4 s args wsX1_die RX1 := S
  have hin := inX1_die
  refine lv_aload_n S.1 S.2.1 dX1_die_0 rfl (lv_at hl 0 rfl) ?_
  refine lv_iload_n S.1 S.2.1 dX1_die_1 rfl (lv_at hl 1 rfl) ?_
  refine bc_si (As := [.int (nI r)]) (rest := [.ref (a 0)]) S hK hw (kX1_isRouter l D _ (nI r)) (va_cwS 1 S.2.2.2.2 gX1_die_X1_isRouter rfl rfl rfl (by decide +kernel) ⟨Nat.le_of_ble_eq_true rfl, Nat.le_of_ble_eq_true rfl⟩) rfl hl.1 rfl (Nat.le_of_ble_eq_true rfl) (Nat.zero_le _) (Nat.zero_le _) dX1_die_2 (fun H locs hw => ?_)
  refine bx_top (y := 1) (in_r hr) ?_
  refine bz_ne (tgt := 12) S dX1_die_5 (by decide) (fun c5 => ?_) (fun c5 => ?_)
  · refine lv_aload_n S.1 S.2.1 dX1_die_12 rfl (lv_at hl 0 rfl) ?_
    refine bx_get S hK hin hw.1 0 rfl rfl 1 (by decide) flX1_die_7 rfl dX1_die_13 ?_
    refine lv_iload_n S.1 S.2.1 dX1_die_16 rfl (lv_at hl 1 rfl) ?_
    refine bx_zald (v := flip (σ 0 r)) S hK hw.1 1 0 rfl rfl (by omega) (by decide) rfl dX1_die_17 ?_
    refine bz_eq (tgt := 25) S dX1_die_18 (by decide) (fun c18 => ?_) (fun c18 => ?_)
    · exact absurd c18 (fun h => (flip_0 _).mp h ha)
    · refine lv_iconst (v := 2) S.1 S.2.1 dX1_die_21 (by decide) ?_
      refine lv_goto (tgt := 26) S.1 S.2.1 dX1_die_22 (by decide) ?_
      refine bc_vi (As := [.int 2]) (rest := []) S hK hw (kX1_goesWell l D cZ cI a th σ 2) (cwV 1 S.2.2.2.2 gX1_die_X1_goesWell rfl rfl rfl (by decide +kernel) ⟨Nat.le_of_ble_eq_true rfl, Nat.le_of_ble_eq_true rfl⟩) (q0 := 0) rfl rfl rfl hl.1 rfl (Nat.le_of_ble_eq_true rfl) (Nat.zero_le _) (Nat.zero_le _) dX1_die_26 (fun H locs hw => ?_)
      refine bx_top (y := 0) (rfl) ?_
      refine bz_ne (tgt := 34) S dX1_die_29 (by decide) (fun c29 => ?_) (fun c29 => ?_)
      · exact absurd c29 (by decide)
      · refine lv_iconst (v := 0) S.1 S.2.1 dX1_die_32 (by decide) ?_
        exact hret hw dX1_die_33 (rfl) (congrArg (wM cZ cI a 2) (rfl))
  · exact absurd c5 (by decide)

theorem inX1_live : ∀ w ∈ u_ws RX1 TX1 19, w ∈ wsX1_live := fun _ h => List.mem_cons_of_mem _ (List.mem_append_right _ h)
theorem flX1_live_7 : Cond.fieldLink RX1 7 "StandbyPairModel" "isDead" "[Z" ∈ wsX1_live := by decide +kernel
theorem flX1_live_35 : Cond.fieldLink RX1 35 "StandbyPairModel" "states" "[I" ∈ wsX1_live := by decide +kernel
set_option maxHeartbeats 4000000 in
set_option maxRecDepth 100000 in
theorem kX1_live (l : Launch) (D : va_G) (cZ cI : ClassId) (a : Nat → Nat) (th : Int32) (σ : sC) {r : Nat} (hr : r < 4) (ha : σ 0 r = 0) (hd : ∀ g, g < 3 → σ 10 (4 * g + r) = 0) : MI l yX1_live wsX1_live ({ frames := 5, cells := 0, slots := 0, locals := 110 } : Room) D (tyZ cZ cI) [.ref (a 0), .int (nI r)] (wM cZ cI a th σ) (liveN σ r 3) (wM cZ cI a 0 (liveG σ r 3)) := by
  refine MI.of (cc := cX1_live) (maxL := 4) (ty := .int) (by decide) rfl (rfl) ⟨rfl, rfl⟩ (Nat.le_of_ble_eq_true rfl) ?_
  intro p e s m args below meth c A Q S hK hret ls hl hw
  replace hl : lv_has ls 4 [(0, .ref (a 0)), (1, .int (nI r))] := hl
  replace S : CallFix p m c cX1_live 4 s args wsX1_live RX1 := S
  have hin := inX1_live
  refine lv_aload_n S.1 S.2.1 dX1_live_0 rfl (lv_at hl 0 rfl) ?_
  refine lv_iload_n S.1 S.2.1 dX1_live_1 rfl (lv_at hl 1 rfl) ?_
  refine bc_si (As := [.int (nI r)]) (rest := [.ref (a 0)]) S hK hw (kX1_isRouter l D _ (nI r)) (va_cwS 1 S.2.2.2.2 gX1_live_X1_isRouter rfl rfl rfl (by decide +kernel) ⟨Nat.le_of_ble_eq_true rfl, Nat.le_of_ble_eq_true rfl⟩) rfl hl.1 rfl (Nat.le_of_ble_eq_true rfl) (Nat.zero_le _) (Nat.zero_le _) dX1_live_2 (fun H locs hw => ?_)
  refine bx_top (y := 1) (in_r hr) ?_
  refine bz_ne (tgt := 12) S dX1_live_5 (by decide) (fun c5 => ?_) (fun c5 => ?_)
  · refine lv_aload_n S.1 S.2.1 dX1_live_12 rfl (lv_at hl 0 rfl) ?_
    refine bx_get S hK hin hw.1 0 rfl rfl 1 (by decide) flX1_live_7 rfl dX1_live_13 ?_
    refine lv_iload_n S.1 S.2.1 dX1_live_16 rfl (lv_at hl 1 rfl) ?_
    refine bx_zald (v := flip (σ 0 r)) S hK hw.1 1 0 rfl rfl (by omega) (by decide) rfl dX1_live_17 ?_
    refine bz_eq (tgt := 25) S dX1_live_18 (by decide) (fun c18 => ?_) (fun c18 => ?_)
    · exact absurd c18 (fun h => (flip_0 _).mp h ha)
    · refine lv_iconst (v := 0) S.1 S.2.1 dX1_live_21 (by decide) ?_
      refine lv_goto (tgt := 26) S.1 S.2.1 dX1_live_22 (by decide) ?_
      refine bc_vi (As := [.int 0]) (rest := []) S hK hw (kX1_goesWell l D cZ cI a th σ 0) (cwV 1 S.2.2.2.2 gX1_live_X1_goesWell rfl rfl rfl (by decide +kernel) ⟨Nat.le_of_ble_eq_true rfl, Nat.le_of_ble_eq_true rfl⟩) (q0 := 0) rfl rfl rfl hl.1 rfl (Nat.le_of_ble_eq_true rfl) (Nat.zero_le _) (Nat.zero_le _) dX1_live_26 (fun H locs hw => ?_)
      refine bx_top (y := 1) (rfl) ?_
      refine bz_ne (tgt := 34) S dX1_live_29 (by decide) (fun c29 => ?_) (fun c29 => ?_)
      · refine lv_iconst (v := 0) S.1 S.2.1 dX1_live_34 (by decide) ?_
        refine lv_istore_n (lv' := [(2, .int 0), (0, .ref (a 0)), (1, .int (nI r))]) S.1 S.2.1 dX1_live_35 rfl hl (by decide) rfl (fun ls hl => ?_)
        refine lv_aload_n S.1 S.2.1 dX1_live_36 rfl (lv_at hl 1 rfl) ?_
        refine bx_get S hK hin hw.1 0 rfl rfl 1 (by decide) flX1_live_7 rfl dX1_live_37 ?_
        refine lv_iload_n S.1 S.2.1 dX1_live_40 rfl (lv_at hl 2 rfl) ?_
        refine lv_iconst (v := 0) S.1 S.2.1 dX1_live_41 (by decide) ?_
        refine bx_zast S hK hw 1 0 rfl rfl (by omega) (by decide) (by decide) (wM_s1 cZ cI a 0 σ r (y := 1) (by decide)) dX1_live_42 (fun H locs hw => ?_)
        refine lv_iconst (v := nI 0) S.1 S.2.1 dX1_live_43 (by decide) ?_
        refine lv_istore_n (lv' := [(3, .int (nI 0)), (2, .int 0), (0, .ref (a 0)), (1, .int (nI r))]) S.1 S.2.1 dX1_live_44 rfl hl (by decide) rfl (fun ls hl => ?_)
        have L45 : ∀ (n i45 : Nat), i45 + n = 3 → ∀ (H : Heap) (locs : List Loc), Wd D A s.heap (wM cZ cI a 0 (liveG σ r i45)) H locs → ∀ ls : Array Slot, lv_has ls 4 [(0, .ref (a 0)), (1, .int (nI r)), (2, .int (liveN σ r i45)), (3, .int (nI i45))] → W p l e ({ frames := 5, cells := 0, slots := 0, locals := 110 } : Room) s m args below meth c H locs 0 0 Q (F0 m 45 ls []) := by
          intro n
          induction n with
          | zero =>
            intro i45 hi H locs hw ls hl
            obtain rfl : i45 = 3 := by omega
            refine lv_iload_n S.1 S.2.1 dX1_live_45 rfl (lv_at hl 3 rfl) ?_
            refine lv_iconst (v := nI 3) S.1 S.2.1 dX1_live_46 (by decide) ?_
            refine br_ge (tgt := 86) S dX1_live_47 (by decide) (fun c47 => ?_) (fun c47 => ?_)
            · refine lv_iload_n S.1 S.2.1 dX1_live_86 rfl (lv_at hl 2 rfl) ?_
              exact hret hw dX1_live_87 (rfl) (congrArg (wM cZ cI a 0) (rfl))
            · exact absurd c47 (nlt_nI (by decide))
          | succ n ih_45 =>
            intro i45 hi H locs hw ls hl
            have hi45 : i45 < 3 := by omega
            refine lv_iload_n S.1 S.2.1 dX1_live_45 rfl (lv_at hl 3 rfl) ?_
            refine lv_iconst (v := nI 3) S.1 S.2.1 dX1_live_46 (by decide) ?_
            refine br_ge (tgt := 86) S dX1_live_47 (by decide) (fun c47 => ?_) (fun c47 => ?_)
            · exact absurd c47 (not_not_intro (lt_nI hi45 (by decide)))
            · refine lv_aload_n S.1 S.2.1 dX1_live_50 rfl (lv_at hl 0 rfl) ?_
              refine lv_iconst (v := 3) S.1 S.2.1 dX1_live_51 (by decide) ?_
              refine lv_iload_n S.1 S.2.1 dX1_live_52 rfl (lv_at hl 1 rfl) ?_
              refine lv_imul S.1 S.2.1 dX1_live_53 ?_
              refine lv_iload_n S.1 S.2.1 dX1_live_54 rfl (lv_at hl 3 rfl) ?_
              refine lv_iadd S.1 S.2.1 dX1_live_55 ?_
              refine bx_top (y := nI (3 * r + i45)) (ml3 hr (by omega)) ?_
              refine bc_vv (As := [.int (nI (3 * r + i45))]) (rest := []) S hK hw (kX1_settle l D cZ cI a 0 (liveG σ r i45) (r := r) (g := i45) (by omega) (by omega)) (cwV 1 S.2.2.2.2 gX1_live_X1_settle rfl rfl rfl (by decide +kernel) ⟨Nat.le_of_ble_eq_true rfl, Nat.le_of_ble_eq_true rfl⟩) (q0 := 0) rfl rfl rfl hl.1 rfl (Nat.le_of_ble_eq_true rfl) (Nat.zero_le _) (Nat.zero_le _) dX1_live_56 (fun H locs hw => ?_)
              replace hw := Wd.cast (congrArg (wM cZ cI a 0) (show settF (liveG σ r i45) r i45 = liveG σ r (i45 + 1) from sett_l hd hi45)) hw
              refine lv_iload_n S.1 S.2.1 dX1_live_59 rfl (lv_at hl 2 rfl) ?_
              refine lv_aload_n S.1 S.2.1 dX1_live_60 rfl (lv_at hl 0 rfl) ?_
              refine bx_get S hK hin hw.1 0 rfl rfl 9 (by decide) flX1_live_35 rfl dX1_live_61 ?_
              refine lv_iconst (v := 3) S.1 S.2.1 dX1_live_64 (by decide) ?_
              refine lv_iload_n S.1 S.2.1 dX1_live_65 rfl (lv_at hl 1 rfl) ?_
              refine lv_imul S.1 S.2.1 dX1_live_66 ?_
              refine lv_iload_n S.1 S.2.1 dX1_live_67 rfl (lv_at hl 3 rfl) ?_
              refine lv_iadd S.1 S.2.1 dX1_live_68 ?_
              refine bx_top (y := nI (3 * r + i45)) (ml3 hr (by omega)) ?_
              refine bx_iald (v := (liveG σ r (i45 + 1)) 10 (4 * i45 + r)) S hK hw.1 9 1 rfl rfl (by omega) (by decide) (congrArg ((liveG σ r (i45 + 1)) 10) (pm_at (r := r) (g := i45) (by omega) (by omega))) dX1_live_69 ?_
              refine bz_ne (tgt := 77) S dX1_live_70 (by decide) (fun c70 => ?_) (fun c70 => ?_)
              · refine lv_iconst (v := 1) S.1 S.2.1 dX1_live_77 (by decide) ?_
                refine lv_iadd S.1 S.2.1 dX1_live_78 ?_
                refine lv_istore_n (lv' := [(2, .int ((liveN σ r i45) + 1)), (0, .ref (a 0)), (1, .int (nI r)), (3, .int (nI i45))]) S.1 S.2.1 dX1_live_79 rfl hl (by decide) rfl (fun ls hl => ?_)
                refine lv_iinc (v := nI (i45 + 1)) (lv' := [(3, .int (nI (i45 + 1))), (2, .int ((liveN σ r i45) + 1)), (0, .ref (a 0)), (1, .int (nI r))]) S.1 S.2.1 dX1_live_80 hl (k := 3) rfl (nI_1 i45) (by decide) rfl (fun ls hl => ?_)
                refine lv_goto (tgt := 45) S.1 S.2.1 dX1_live_83 (by decide) ?_
                have ea : liveN σ r (i45 + 1) = (liveN σ r i45) + 1 := by simp only [liveN, itF, liveC, eq_false c18, eq_true c47, eq_true (Classical.byContradiction fun q => c70 (live_n0 (hd i45 hi45) q)), ↓reduceIte, Int32.add_zero]
                exact ih_45 (i45 + 1) (by omega) _ _ hw _ (by rw [ea]; exact lv_sub hl [2, 3, 1, 0] rfl)
              · refine lv_iconst (v := 0) S.1 S.2.1 dX1_live_73 (by decide) ?_
                refine lv_goto (tgt := 78) S.1 S.2.1 dX1_live_74 (by decide) ?_
                refine lv_iadd S.1 S.2.1 dX1_live_78 ?_
                refine lv_istore_n (lv' := [(2, .int ((liveN σ r i45) + 0)), (0, .ref (a 0)), (1, .int (nI r)), (3, .int (nI i45))]) S.1 S.2.1 dX1_live_79 rfl hl (by decide) rfl (fun ls hl => ?_)
                refine lv_iinc (v := nI (i45 + 1)) (lv' := [(3, .int (nI (i45 + 1))), (2, .int ((liveN σ r i45) + 0)), (0, .ref (a 0)), (1, .int (nI r))]) S.1 S.2.1 dX1_live_80 hl (k := 3) rfl (nI_1 i45) (by decide) rfl (fun ls hl => ?_)
                refine lv_goto (tgt := 45) S.1 S.2.1 dX1_live_83 (by decide) ?_
                have ea : liveN σ r (i45 + 1) = (liveN σ r i45) + 0 := by simp only [liveN, itF, liveC, eq_false c18, eq_true c47, eq_false (fun q => absurd ((live_n1 q).symm.trans c70) (by decide)), ↓reduceIte, Int32.add_zero]
                exact ih_45 (i45 + 1) (by omega) _ _ hw _ (by rw [ea]; exact lv_sub hl [2, 3, 1, 0] rfl)
        exact L45 (3 - 0) 0 (by omega) _ _ hw _ (lv_sub hl [2, 3, 1, 0] rfl)
      · exact absurd c29 (by decide)
  · exact absurd c5 (by decide)

set_option maxHeartbeats 4000000 in
set_option maxRecDepth 100000 in
theorem kX1_live_bad (l : Launch) (D : va_G) (cZ cI : ClassId) (a : Nat → Nat) (th : Int32) (σ : sC) (x : Int32) (hb : inB x 0 3 = 0) : MI l yX1_live wsX1_live ({ frames := 5, cells := 0, slots := 0, locals := 110 } : Room) D (tyZ cZ cI) [.ref (a 0), .int x] (wM cZ cI a th σ) 0 (wM cZ cI a 1 σ) := by
  refine MI.of (cc := cX1_live) (maxL := 4) (ty := .int) (by decide) rfl (rfl) ⟨rfl, rfl⟩ (Nat.le_of_ble_eq_true rfl) ?_
  intro p e s m args below meth c A Q S hK hret ls hl hw
  replace hl : lv_has ls 4 [(0, .ref (a 0)), (1, .int x)] := hl
  replace S : CallFix p m c cX1_live 4 s args wsX1_live RX1 := S
  have hin := inX1_live
  refine lv_aload_n S.1 S.2.1 dX1_live_0 rfl (lv_at hl 0 rfl) ?_
  refine lv_iload_n S.1 S.2.1 dX1_live_1 rfl (lv_at hl 1 rfl) ?_
  refine bc_si (As := [.int x]) (rest := [.ref (a 0)]) S hK hw (kX1_isRouter l D _ x) (va_cwS 1 S.2.2.2.2 gX1_live_X1_isRouter rfl rfl rfl (by decide +kernel) ⟨Nat.le_of_ble_eq_true rfl, Nat.le_of_ble_eq_true rfl⟩) rfl hl.1 rfl (Nat.le_of_ble_eq_true rfl) (Nat.zero_le _) (Nat.zero_le _) dX1_live_2 (fun H locs hw => ?_)
  refine bx_top (y := 0) (hb) ?_
  refine bz_ne (tgt := 12) S dX1_live_5 (by decide) (fun c5 => ?_) (fun c5 => ?_)
  · exact absurd c5 (by decide)
  · refine lv_iconst (v := 1) S.1 S.2.1 dX1_live_8 (by decide) ?_
    refine lv_goto (tgt := 26) S.1 S.2.1 dX1_live_9 (by decide) ?_
    refine bc_vi (As := [.int 1]) (rest := []) S hK hw (kX1_goesWell l D cZ cI a th σ 1) (cwV 1 S.2.2.2.2 gX1_live_X1_goesWell rfl rfl rfl (by decide +kernel) ⟨Nat.le_of_ble_eq_true rfl, Nat.le_of_ble_eq_true rfl⟩) (q0 := 0) rfl rfl rfl hl.1 rfl (Nat.le_of_ble_eq_true rfl) (Nat.zero_le _) (Nat.zero_le _) dX1_live_26 (fun H locs hw => ?_)
    refine bx_top (y := 0) (rfl) ?_
    refine bz_ne (tgt := 34) S dX1_live_29 (by decide) (fun c29 => ?_) (fun c29 => ?_)
    · exact absurd c29 (by decide)
    · refine lv_iconst (v := 0) S.1 S.2.1 dX1_live_32 (by decide) ?_
      exact hret hw dX1_live_33 (rfl) (congrArg (wM cZ cI a 1) (rfl))

set_option maxHeartbeats 4000000 in
set_option maxRecDepth 100000 in
theorem kX1_live_bad2 (l : Launch) (D : va_G) (cZ cI : ClassId) (a : Nat → Nat) (th : Int32) (σ : sC) {r : Nat} (hr : r < 4) (ha : ¬ σ 0 r = 0) : MI l yX1_live wsX1_live ({ frames := 5, cells := 0, slots := 0, locals := 110 } : Room) D (tyZ cZ cI) [.ref (a 0), .int (nI r)] (wM cZ cI a th σ) 0 (wM cZ cI a 2 σ) := by
  refine MI.of (cc := cX1_live) (maxL := 4) (ty := .int) (by decide) rfl (rfl) ⟨rfl, rfl⟩ (Nat.le_of_ble_eq_true rfl) ?_
  intro p e s m args below meth c A Q S hK hret ls hl hw
  replace hl : lv_has ls 4 [(0, .ref (a 0)), (1, .int (nI r))] := hl
  replace S : CallFix p m c cX1_live 4 s args wsX1_live RX1 := S
  have hin := inX1_live
  refine lv_aload_n S.1 S.2.1 dX1_live_0 rfl (lv_at hl 0 rfl) ?_
  refine lv_iload_n S.1 S.2.1 dX1_live_1 rfl (lv_at hl 1 rfl) ?_
  refine bc_si (As := [.int (nI r)]) (rest := [.ref (a 0)]) S hK hw (kX1_isRouter l D _ (nI r)) (va_cwS 1 S.2.2.2.2 gX1_live_X1_isRouter rfl rfl rfl (by decide +kernel) ⟨Nat.le_of_ble_eq_true rfl, Nat.le_of_ble_eq_true rfl⟩) rfl hl.1 rfl (Nat.le_of_ble_eq_true rfl) (Nat.zero_le _) (Nat.zero_le _) dX1_live_2 (fun H locs hw => ?_)
  refine bx_top (y := 1) (in_r hr) ?_
  refine bz_ne (tgt := 12) S dX1_live_5 (by decide) (fun c5 => ?_) (fun c5 => ?_)
  · refine lv_aload_n S.1 S.2.1 dX1_live_12 rfl (lv_at hl 0 rfl) ?_
    refine bx_get S hK hin hw.1 0 rfl rfl 1 (by decide) flX1_live_7 rfl dX1_live_13 ?_
    refine lv_iload_n S.1 S.2.1 dX1_live_16 rfl (lv_at hl 1 rfl) ?_
    refine bx_zald (v := flip (σ 0 r)) S hK hw.1 1 0 rfl rfl (by omega) (by decide) rfl dX1_live_17 ?_
    refine bz_eq (tgt := 25) S dX1_live_18 (by decide) (fun c18 => ?_) (fun c18 => ?_)
    · refine lv_iconst (v := 2) S.1 S.2.1 dX1_live_25 (by decide) ?_
      refine bc_vi (As := [.int 2]) (rest := []) S hK hw (kX1_goesWell l D cZ cI a th σ 2) (cwV 1 S.2.2.2.2 gX1_live_X1_goesWell rfl rfl rfl (by decide +kernel) ⟨Nat.le_of_ble_eq_true rfl, Nat.le_of_ble_eq_true rfl⟩) (q0 := 0) rfl rfl rfl hl.1 rfl (Nat.le_of_ble_eq_true rfl) (Nat.zero_le _) (Nat.zero_le _) dX1_live_26 (fun H locs hw => ?_)
      refine bx_top (y := 0) (rfl) ?_
      refine bz_ne (tgt := 34) S dX1_live_29 (by decide) (fun c29 => ?_) (fun c29 => ?_)
      · exact absurd c29 (by decide)
      · refine lv_iconst (v := 0) S.1 S.2.1 dX1_live_32 (by decide) ?_
        exact hret hw dX1_live_33 (rfl) (congrArg (wM cZ cI a 2) (rfl))
    · exact absurd c18 (not_not_intro ((flip_0 _).mpr ha))
  · exact absurd c5 (by decide)

theorem inX1_handOver : ∀ w ∈ u_ws RX1 TX1 19, w ∈ wsX1_handOver := fun _ h => List.mem_cons_of_mem _ (List.mem_append_right _ h)
theorem flX1_handOver_35 : Cond.fieldLink RX1 35 "StandbyPairModel" "states" "[I" ∈ wsX1_handOver := by decide +kernel
set_option maxHeartbeats 4000000 in
set_option maxRecDepth 100000 in
theorem kX1_handOver (l : Launch) (D : va_G) (cZ cI : ClassId) (a : Nat → Nat) (th : Int32) (σ : sC) {r g : Nat} (hr : r < 4) (hg : g < 3) (hm : σ 10 (4 * g + r) = 2) (hI : I1 σ) : MV l yX1_handOver wsX1_handOver ({ frames := 6, cells := 0, slots := 0, locals := 135 } : Room) D (tyZ cZ cI) [.ref (a 0), .int (nI r), .int (nI g)] (wM cZ cI a th σ) (wM cZ cI a 0 (advF (restF σ r g 0) r g 0)) := by
  refine MV.of (cc := cX1_handOver) (maxL := 5) (by decide) rfl ⟨rfl, rfl⟩ (Nat.le_of_ble_eq_true rfl) ?_
  intro p e s m args below meth c A Q S hK hret ls hl hw
  replace hl : lv_has ls 5 [(0, .ref (a 0)), (1, .int (nI r)), (2, .int (nI g))] := hl
  replace S : CallFix p m c cX1_handOver 5 s args wsX1_handOver RX1 := S
  have hin := inX1_handOver
  refine lv_iconst (v := 3) S.1 S.2.1 dX1_handOver_0 (by decide) ?_
  refine lv_iload_n S.1 S.2.1 dX1_handOver_1 rfl (lv_at hl 1 rfl) ?_
  refine lv_imul S.1 S.2.1 dX1_handOver_2 ?_
  refine lv_iload_n S.1 S.2.1 dX1_handOver_3 rfl (lv_at hl 2 rfl) ?_
  refine lv_iadd S.1 S.2.1 dX1_handOver_4 ?_
  refine bx_top (y := nI (3 * r + g)) (ml3 hr hg) ?_
  refine lv_istore_n (lv' := [(3, .int (nI (3 * r + g))), (0, .ref (a 0)), (1, .int (nI r)), (2, .int (nI g))]) S.1 S.2.1 dX1_handOver_5 rfl hl (by decide) rfl (fun ls hl => ?_)
  refine lv_iload_n S.1 S.2.1 dX1_handOver_6 rfl (lv_at hl 2 rfl) ?_
  refine lv_iload_n S.1 S.2.1 dX1_handOver_7 rfl (lv_at hl 3 rfl) ?_
  refine bc_si (As := [.int (nI r), .int (nI g)]) (rest := []) S hK hw (kX1_are l D _ (nI r) (nI g)) (va_cwS 2 S.2.2.2.2 gX1_handOver_X1_are rfl rfl rfl (by decide +kernel) ⟨Nat.le_of_ble_eq_true rfl, Nat.le_of_ble_eq_true rfl⟩) rfl hl.1 rfl (Nat.le_of_ble_eq_true rfl) (Nat.zero_le _) (Nat.zero_le _) dX1_handOver_8 (fun H locs hw => ?_)
  refine bx_top (y := 1) (are_1 hr hg) ?_
  refine bz_eq (tgt := 28) S dX1_handOver_11 (by decide) (fun c11 => ?_) (fun c11 => ?_)
  · exact absurd c11 (by decide)
  · refine lv_aload_n S.1 S.2.1 dX1_handOver_14 rfl (lv_at hl 1 rfl) ?_
    refine bx_get S hK hin hw.1 0 rfl rfl 9 (by decide) flX1_handOver_35 rfl dX1_handOver_15 ?_
    refine lv_iload_n S.1 S.2.1 dX1_handOver_18 rfl (lv_at hl 0 rfl) ?_
    refine bx_iald (v := σ 10 (4 * g + r)) S hK hw.1 9 1 rfl rfl (by omega) (by decide) (congrArg (σ 10) (pm_at (r := r) (g := g) (by omega) (by omega))) dX1_handOver_19 ?_
    refine lv_iconst (v := 2) S.1 S.2.1 dX1_handOver_20 (by decide) ?_
    refine br_ne (tgt := 28) S dX1_handOver_21 (by decide) (fun c21 => ?_) (fun c21 => ?_)
    · exact absurd c21 (not_not_intro hm)
    · refine lv_iconst (v := 1) S.1 S.2.1 dX1_handOver_24 (by decide) ?_
      refine lv_goto (tgt := 29) S.1 S.2.1 dX1_handOver_25 (by decide) ?_
      refine lv_istore (lv' := [(4, .int 1), (3, .int (nI (3 * r + g))), (0, .ref (a 0)), (1, .int (nI r)), (2, .int (nI g))]) S.1 S.2.1 dX1_handOver_29 hl (by decide) rfl (fun ls hl => ?_)
      refine lv_aload_n S.1 S.2.1 dX1_handOver_31 rfl (lv_at hl 2 rfl) ?_
      refine lv_iload_n S.1 S.2.1 dX1_handOver_32 rfl (lv_at hl 3 rfl) ?_
      refine lv_iload_n S.1 S.2.1 dX1_handOver_33 rfl (lv_at hl 4 rfl) ?_
      refine bc_si (As := [.int (nI r), .int (nI g)]) (rest := [.ref (a 0)]) S hK hw (kX1_are l D _ (nI r) (nI g)) (va_cwS 2 S.2.2.2.2 gX1_handOver_X1_are rfl rfl rfl (by decide +kernel) ⟨Nat.le_of_ble_eq_true rfl, Nat.le_of_ble_eq_true rfl⟩) rfl hl.1 rfl (Nat.le_of_ble_eq_true rfl) (Nat.zero_le _) (Nat.zero_le _) dX1_handOver_34 (fun H locs hw => ?_)
      refine bx_top (y := 1) (are_1 hr hg) ?_
      refine bz_ne (tgt := 44) S dX1_handOver_37 (by decide) (fun c37 => ?_) (fun c37 => ?_)
      · refine lv_iload S.1 S.2.1 dX1_handOver_44 (lv_at hl 0 rfl) ?_
        refine bz_eq (tgt := 53) S dX1_handOver_46 (by decide) (fun c46 => ?_) (fun c46 => ?_)
        · exact absurd c46 (by decide)
        · refine lv_iconst (v := 0) S.1 S.2.1 dX1_handOver_49 (by decide) ?_
          refine lv_goto (tgt := 54) S.1 S.2.1 dX1_handOver_50 (by decide) ?_
          refine bc_vi (As := [.int 0]) (rest := []) S hK hw (kX1_goesWell l D cZ cI a th σ 0) (cwV 1 S.2.2.2.2 gX1_handOver_X1_goesWell rfl rfl rfl (by decide +kernel) ⟨Nat.le_of_ble_eq_true rfl, Nat.le_of_ble_eq_true rfl⟩) (q0 := 0) rfl rfl rfl hl.1 rfl (Nat.le_of_ble_eq_true rfl) (Nat.zero_le _) (Nat.zero_le _) dX1_handOver_54 (fun H locs hw => ?_)
          refine bx_top (y := 1) (rfl) ?_
          refine bz_eq (tgt := 72) S dX1_handOver_57 (by decide) (fun c57 => ?_) (fun c57 => ?_)
          · exact absurd c57 (by decide)
          · refine lv_aload_n S.1 S.2.1 dX1_handOver_60 rfl (lv_at hl 2 rfl) ?_
            refine lv_iload_n S.1 S.2.1 dX1_handOver_61 rfl (lv_at hl 1 rfl) ?_
            refine lv_iconst (v := 0) S.1 S.2.1 dX1_handOver_62 (by decide) ?_
            refine bc_vv (As := [.int (nI (3 * r + g)), .int 0]) (rest := []) S hK hw (kX1_rest l D cZ cI a 0 σ (r := r) (g := g) 0 (by omega) (by omega)) (cwV 2 S.2.2.2.2 gX1_handOver_X1_rest rfl rfl rfl (by decide +kernel) ⟨Nat.le_of_ble_eq_true rfl, Nat.le_of_ble_eq_true rfl⟩) (q0 := 0) rfl rfl rfl hl.1 rfl (Nat.le_of_ble_eq_true rfl) (Nat.zero_le _) (Nat.zero_le _) dX1_handOver_63 (fun H locs hw => ?_)
            refine lv_aload_n S.1 S.2.1 dX1_handOver_66 rfl (lv_at hl 2 rfl) ?_
            refine lv_iload_n S.1 S.2.1 dX1_handOver_67 rfl (lv_at hl 1 rfl) ?_
            refine lv_iconst (v := 0) S.1 S.2.1 dX1_handOver_68 (by decide) ?_
            have hA := I1_rest r g 0 hI
            refine bc_vv (As := [.int (nI (3 * r + g)), .int 0]) (rest := []) S hK hw (kX1_advertise l D cZ cI a 0 (restF σ r g 0) (q := r) (g := g) 0 (by omega) (by omega) hA) (cwV 2 S.2.2.2.2 gX1_handOver_X1_advertise rfl rfl rfl (by decide +kernel) ⟨Nat.le_of_ble_eq_true rfl, Nat.le_of_ble_eq_true rfl⟩) (q0 := 0) rfl rfl rfl hl.1 rfl (Nat.le_of_ble_eq_true rfl) (Nat.zero_le _) (Nat.zero_le _) dX1_handOver_69 (fun H locs hw => ?_)
            exact hret hw dX1_handOver_72 (congrArg (wM cZ cI a 0) (rfl))
      · exact absurd c37 (by decide)

set_option maxHeartbeats 4000000 in
set_option maxRecDepth 100000 in
theorem kX1_handOver_bad (l : Launch) (D : va_G) (cZ cI : ClassId) (a : Nat → Nat) (th : Int32) (σ : sC) (x y : Int32) (hb : arE x y = 0) : MV l yX1_handOver wsX1_handOver ({ frames := 6, cells := 0, slots := 0, locals := 135 } : Room) D (tyZ cZ cI) [.ref (a 0), .int x, .int y] (wM cZ cI a th σ) (wM cZ cI a 1 σ) := by
  refine MV.of (cc := cX1_handOver) (maxL := 5) (by decide) rfl ⟨rfl, rfl⟩ (Nat.le_of_ble_eq_true rfl) ?_
  intro p e s m args below meth c A Q S hK hret ls hl hw
  replace hl : lv_has ls 5 [(0, .ref (a 0)), (1, .int x), (2, .int y)] := hl
  replace S : CallFix p m c cX1_handOver 5 s args wsX1_handOver RX1 := S
  have hin := inX1_handOver
  refine lv_iconst (v := 3) S.1 S.2.1 dX1_handOver_0 (by decide) ?_
  refine lv_iload_n S.1 S.2.1 dX1_handOver_1 rfl (lv_at hl 1 rfl) ?_
  refine lv_imul S.1 S.2.1 dX1_handOver_2 ?_
  refine lv_iload_n S.1 S.2.1 dX1_handOver_3 rfl (lv_at hl 2 rfl) ?_
  refine lv_iadd S.1 S.2.1 dX1_handOver_4 ?_
  refine lv_istore_n (lv' := [(3, .int ((3 * x) + y)), (0, .ref (a 0)), (1, .int x), (2, .int y)]) S.1 S.2.1 dX1_handOver_5 rfl hl (by decide) rfl (fun ls hl => ?_)
  refine lv_iload_n S.1 S.2.1 dX1_handOver_6 rfl (lv_at hl 2 rfl) ?_
  refine lv_iload_n S.1 S.2.1 dX1_handOver_7 rfl (lv_at hl 3 rfl) ?_
  refine bc_si (As := [.int x, .int y]) (rest := []) S hK hw (kX1_are l D _ x y) (va_cwS 2 S.2.2.2.2 gX1_handOver_X1_are rfl rfl rfl (by decide +kernel) ⟨Nat.le_of_ble_eq_true rfl, Nat.le_of_ble_eq_true rfl⟩) rfl hl.1 rfl (Nat.le_of_ble_eq_true rfl) (Nat.zero_le _) (Nat.zero_le _) dX1_handOver_8 (fun H locs hw => ?_)
  refine bx_top (y := 0) (hb) ?_
  refine bz_eq (tgt := 28) S dX1_handOver_11 (by decide) (fun c11 => ?_) (fun c11 => ?_)
  · refine lv_iconst (v := 0) S.1 S.2.1 dX1_handOver_28 (by decide) ?_
    refine lv_istore (lv' := [(4, .int 0), (3, .int ((3 * x) + y)), (0, .ref (a 0)), (1, .int x), (2, .int y)]) S.1 S.2.1 dX1_handOver_29 hl (by decide) rfl (fun ls hl => ?_)
    refine lv_aload_n S.1 S.2.1 dX1_handOver_31 rfl (lv_at hl 2 rfl) ?_
    refine lv_iload_n S.1 S.2.1 dX1_handOver_32 rfl (lv_at hl 3 rfl) ?_
    refine lv_iload_n S.1 S.2.1 dX1_handOver_33 rfl (lv_at hl 4 rfl) ?_
    refine bc_si (As := [.int x, .int y]) (rest := [.ref (a 0)]) S hK hw (kX1_are l D _ x y) (va_cwS 2 S.2.2.2.2 gX1_handOver_X1_are rfl rfl rfl (by decide +kernel) ⟨Nat.le_of_ble_eq_true rfl, Nat.le_of_ble_eq_true rfl⟩) rfl hl.1 rfl (Nat.le_of_ble_eq_true rfl) (Nat.zero_le _) (Nat.zero_le _) dX1_handOver_34 (fun H locs hw => ?_)
    refine bx_top (y := 0) (hb) ?_
    refine bz_ne (tgt := 44) S dX1_handOver_37 (by decide) (fun c37 => ?_) (fun c37 => ?_)
    · exact absurd c37 (by decide)
    · refine lv_iconst (v := 1) S.1 S.2.1 dX1_handOver_40 (by decide) ?_
      refine lv_goto (tgt := 54) S.1 S.2.1 dX1_handOver_41 (by decide) ?_
      refine bc_vi (As := [.int 1]) (rest := []) S hK hw (kX1_goesWell l D cZ cI a th σ 1) (cwV 1 S.2.2.2.2 gX1_handOver_X1_goesWell rfl rfl rfl (by decide +kernel) ⟨Nat.le_of_ble_eq_true rfl, Nat.le_of_ble_eq_true rfl⟩) (q0 := 0) rfl rfl rfl hl.1 rfl (Nat.le_of_ble_eq_true rfl) (Nat.zero_le _) (Nat.zero_le _) dX1_handOver_54 (fun H locs hw => ?_)
      refine bx_top (y := 0) (rfl) ?_
      refine bz_eq (tgt := 72) S dX1_handOver_57 (by decide) (fun c57 => ?_) (fun c57 => ?_)
      · exact hret hw dX1_handOver_72 (congrArg (wM cZ cI a 1) (rfl))
      · exact absurd c57 (by decide)
  · exact absurd c11 (by decide)

set_option maxHeartbeats 4000000 in
set_option maxRecDepth 100000 in
theorem kX1_handOver_bad2 (l : Launch) (D : va_G) (cZ cI : ClassId) (a : Nat → Nat) (th : Int32) (σ : sC) {r g : Nat} (hr : r < 4) (hg : g < 3) (hm : ¬ σ 10 (4 * g + r) = 2) : MV l yX1_handOver wsX1_handOver ({ frames := 6, cells := 0, slots := 0, locals := 135 } : Room) D (tyZ cZ cI) [.ref (a 0), .int (nI r), .int (nI g)] (wM cZ cI a th σ) (wM cZ cI a 2 σ) := by
  refine MV.of (cc := cX1_handOver) (maxL := 5) (by decide) rfl ⟨rfl, rfl⟩ (Nat.le_of_ble_eq_true rfl) ?_
  intro p e s m args below meth c A Q S hK hret ls hl hw
  replace hl : lv_has ls 5 [(0, .ref (a 0)), (1, .int (nI r)), (2, .int (nI g))] := hl
  replace S : CallFix p m c cX1_handOver 5 s args wsX1_handOver RX1 := S
  have hin := inX1_handOver
  refine lv_iconst (v := 3) S.1 S.2.1 dX1_handOver_0 (by decide) ?_
  refine lv_iload_n S.1 S.2.1 dX1_handOver_1 rfl (lv_at hl 1 rfl) ?_
  refine lv_imul S.1 S.2.1 dX1_handOver_2 ?_
  refine lv_iload_n S.1 S.2.1 dX1_handOver_3 rfl (lv_at hl 2 rfl) ?_
  refine lv_iadd S.1 S.2.1 dX1_handOver_4 ?_
  refine bx_top (y := nI (3 * r + g)) (ml3 hr hg) ?_
  refine lv_istore_n (lv' := [(3, .int (nI (3 * r + g))), (0, .ref (a 0)), (1, .int (nI r)), (2, .int (nI g))]) S.1 S.2.1 dX1_handOver_5 rfl hl (by decide) rfl (fun ls hl => ?_)
  refine lv_iload_n S.1 S.2.1 dX1_handOver_6 rfl (lv_at hl 2 rfl) ?_
  refine lv_iload_n S.1 S.2.1 dX1_handOver_7 rfl (lv_at hl 3 rfl) ?_
  refine bc_si (As := [.int (nI r), .int (nI g)]) (rest := []) S hK hw (kX1_are l D _ (nI r) (nI g)) (va_cwS 2 S.2.2.2.2 gX1_handOver_X1_are rfl rfl rfl (by decide +kernel) ⟨Nat.le_of_ble_eq_true rfl, Nat.le_of_ble_eq_true rfl⟩) rfl hl.1 rfl (Nat.le_of_ble_eq_true rfl) (Nat.zero_le _) (Nat.zero_le _) dX1_handOver_8 (fun H locs hw => ?_)
  refine bx_top (y := 1) (are_1 hr hg) ?_
  refine bz_eq (tgt := 28) S dX1_handOver_11 (by decide) (fun c11 => ?_) (fun c11 => ?_)
  · exact absurd c11 (by decide)
  · refine lv_aload_n S.1 S.2.1 dX1_handOver_14 rfl (lv_at hl 1 rfl) ?_
    refine bx_get S hK hin hw.1 0 rfl rfl 9 (by decide) flX1_handOver_35 rfl dX1_handOver_15 ?_
    refine lv_iload_n S.1 S.2.1 dX1_handOver_18 rfl (lv_at hl 0 rfl) ?_
    refine bx_iald (v := σ 10 (4 * g + r)) S hK hw.1 9 1 rfl rfl (by omega) (by decide) (congrArg (σ 10) (pm_at (r := r) (g := g) (by omega) (by omega))) dX1_handOver_19 ?_
    refine lv_iconst (v := 2) S.1 S.2.1 dX1_handOver_20 (by decide) ?_
    refine br_ne (tgt := 28) S dX1_handOver_21 (by decide) (fun c21 => ?_) (fun c21 => ?_)
    · refine lv_iconst (v := 0) S.1 S.2.1 dX1_handOver_28 (by decide) ?_
      refine lv_istore (lv' := [(4, .int 0), (3, .int (nI (3 * r + g))), (0, .ref (a 0)), (1, .int (nI r)), (2, .int (nI g))]) S.1 S.2.1 dX1_handOver_29 hl (by decide) rfl (fun ls hl => ?_)
      refine lv_aload_n S.1 S.2.1 dX1_handOver_31 rfl (lv_at hl 2 rfl) ?_
      refine lv_iload_n S.1 S.2.1 dX1_handOver_32 rfl (lv_at hl 3 rfl) ?_
      refine lv_iload_n S.1 S.2.1 dX1_handOver_33 rfl (lv_at hl 4 rfl) ?_
      refine bc_si (As := [.int (nI r), .int (nI g)]) (rest := [.ref (a 0)]) S hK hw (kX1_are l D _ (nI r) (nI g)) (va_cwS 2 S.2.2.2.2 gX1_handOver_X1_are rfl rfl rfl (by decide +kernel) ⟨Nat.le_of_ble_eq_true rfl, Nat.le_of_ble_eq_true rfl⟩) rfl hl.1 rfl (Nat.le_of_ble_eq_true rfl) (Nat.zero_le _) (Nat.zero_le _) dX1_handOver_34 (fun H locs hw => ?_)
      refine bx_top (y := 1) (are_1 hr hg) ?_
      refine bz_ne (tgt := 44) S dX1_handOver_37 (by decide) (fun c37 => ?_) (fun c37 => ?_)
      · refine lv_iload S.1 S.2.1 dX1_handOver_44 (lv_at hl 0 rfl) ?_
        refine bz_eq (tgt := 53) S dX1_handOver_46 (by decide) (fun c46 => ?_) (fun c46 => ?_)
        · refine lv_iconst (v := 2) S.1 S.2.1 dX1_handOver_53 (by decide) ?_
          refine bc_vi (As := [.int 2]) (rest := []) S hK hw (kX1_goesWell l D cZ cI a th σ 2) (cwV 1 S.2.2.2.2 gX1_handOver_X1_goesWell rfl rfl rfl (by decide +kernel) ⟨Nat.le_of_ble_eq_true rfl, Nat.le_of_ble_eq_true rfl⟩) (q0 := 0) rfl rfl rfl hl.1 rfl (Nat.le_of_ble_eq_true rfl) (Nat.zero_le _) (Nat.zero_le _) dX1_handOver_54 (fun H locs hw => ?_)
          refine bx_top (y := 0) (rfl) ?_
          refine bz_eq (tgt := 72) S dX1_handOver_57 (by decide) (fun c57 => ?_) (fun c57 => ?_)
          · exact hret hw dX1_handOver_72 (congrArg (wM cZ cI a 2) (rfl))
          · exact absurd c57 (by decide)
        · exact absurd c46 (by decide)
      · exact absurd c37 (by decide)
    · exact absurd c21 hm

theorem inX1_serve : ∀ w ∈ u_ws RX1 TX1 19, w ∈ wsX1_serve := fun _ h => List.mem_cons_of_mem _ (List.mem_append_right _ h)
theorem flX1_serve_35 : Cond.fieldLink RX1 35 "StandbyPairModel" "states" "[I" ∈ wsX1_serve := by decide +kernel
theorem flX1_serve_44 : Cond.fieldLink RX1 44 "StandbyPairModel" "served" "[I" ∈ wsX1_serve := by decide +kernel
set_option maxHeartbeats 4000000 in
set_option maxRecDepth 100000 in
theorem kX1_serve (l : Launch) (D : va_G) (cZ cI : ClassId) (a : Nat → Nat) (th : Int32) (σ : sC) {g : Nat} (v : Int32) (hg : g < 3) (h1 : ¬ v < 1) (h2 : ¬ 100 < v) : MI l yX1_serve wsX1_serve ({ frames := 2, cells := 0, slots := 0, locals := 42 } : Room) D (tyZ cZ cI) [.ref (a 0), .int (nI g), .int v] (wM cZ cI a th σ) (serveN σ g v 4) (wM cZ cI a 0 (serveG σ g v 4)) := by
  refine MI.of (cc := cX1_serve) (maxL := 5) (ty := .int) (by decide) rfl (rfl) ⟨rfl, rfl⟩ (Nat.le_of_ble_eq_true rfl) ?_
  intro p e s m args below meth c A Q S hK hret ls hl hw
  replace hl : lv_has ls 5 [(0, .ref (a 0)), (1, .int (nI g)), (2, .int v)] := hl
  replace S : CallFix p m c cX1_serve 5 s args wsX1_serve RX1 := S
  have hin := inX1_serve
  refine lv_aload_n S.1 S.2.1 dX1_serve_0 rfl (lv_at hl 0 rfl) ?_
  refine lv_iload_n S.1 S.2.1 dX1_serve_1 rfl (lv_at hl 1 rfl) ?_
  refine bc_si (As := [.int (nI g)]) (rest := [.ref (a 0)]) S hK hw (kX1_isGroup l D _ (nI g)) (va_cwS 1 S.2.2.2.2 gX1_serve_X1_isGroup rfl rfl rfl (by decide +kernel) ⟨Nat.le_of_ble_eq_true rfl, Nat.le_of_ble_eq_true rfl⟩) rfl hl.1 rfl (Nat.le_of_ble_eq_true rfl) (Nat.zero_le _) (Nat.zero_le _) dX1_serve_2 (fun H locs hw => ?_)
  refine bx_top (y := 1) (in_g hg) ?_
  refine bz_eq (tgt := 22) S dX1_serve_5 (by decide) (fun c5 => ?_) (fun c5 => ?_)
  · exact absurd c5 (by decide)
  · refine lv_iload_n S.1 S.2.1 dX1_serve_8 rfl (lv_at hl 2 rfl) ?_
    refine lv_iconst (v := 1) S.1 S.2.1 dX1_serve_9 (by decide) ?_
    refine lv_bipush (v := 100) S.1 S.2.1 dX1_serve_10 (by decide) ?_
    refine bc_si (As := [.int v, .int 1, .int 100]) (rest := [.ref (a 0)]) S hK hw (kX1_in l D _ v 1 100) (va_cwS 3 S.2.2.2.2 gX1_serve_X1_in rfl rfl rfl (by decide +kernel) ⟨Nat.le_of_ble_eq_true rfl, Nat.le_of_ble_eq_true rfl⟩) rfl hl.1 rfl (Nat.le_of_ble_eq_true rfl) (Nat.zero_le _) (Nat.zero_le _) dX1_serve_12 (fun H locs hw => ?_)
    refine bx_top (y := 1) (in_1 h1 h2) ?_
    refine bz_eq (tgt := 22) S dX1_serve_15 (by decide) (fun c15 => ?_) (fun c15 => ?_)
    · exact absurd c15 (by decide)
    · refine lv_iconst (v := 0) S.1 S.2.1 dX1_serve_18 (by decide) ?_
      refine lv_goto (tgt := 23) S.1 S.2.1 dX1_serve_19 (by decide) ?_
      refine bc_vi (As := [.int 0]) (rest := []) S hK hw (kX1_goesWell l D cZ cI a th σ 0) (cwV 1 S.2.2.2.2 gX1_serve_X1_goesWell rfl rfl rfl (by decide +kernel) ⟨Nat.le_of_ble_eq_true rfl, Nat.le_of_ble_eq_true rfl⟩) (q0 := 0) rfl rfl rfl hl.1 rfl (Nat.le_of_ble_eq_true rfl) (Nat.zero_le _) (Nat.zero_le _) dX1_serve_23 (fun H locs hw => ?_)
      refine bx_top (y := 1) (rfl) ?_
      refine bz_ne (tgt := 31) S dX1_serve_26 (by decide) (fun c26 => ?_) (fun c26 => ?_)
      · refine lv_iconst (v := 0) S.1 S.2.1 dX1_serve_31 (by decide) ?_
        refine lv_istore_n (lv' := [(3, .int 0), (0, .ref (a 0)), (1, .int (nI g)), (2, .int v)]) S.1 S.2.1 dX1_serve_32 rfl hl (by decide) rfl (fun ls hl => ?_)
        refine lv_iload_n S.1 S.2.1 dX1_serve_33 rfl (lv_at hl 2 rfl) ?_
        refine bx_top (y := nI (3 * 0 + g)) (congrArg nI (by omega)) ?_
        refine lv_istore (lv' := [(4, .int (nI (3 * 0 + g))), (3, .int 0), (0, .ref (a 0)), (1, .int (nI g)), (2, .int v)]) S.1 S.2.1 dX1_serve_34 hl (by decide) rfl (fun ls hl => ?_)
        have L36 : ∀ (n i36 : Nat), i36 + n = 4 → ∀ (H : Heap) (locs : List Loc), Wd D A s.heap (wM cZ cI a 0 (serveG σ g v i36)) H locs → ∀ ls : Array Slot, lv_has ls 5 [(0, .ref (a 0)), (1, .int (nI g)), (2, .int v), (3, .int (serveN σ g v i36)), (4, .int (nI (3 * i36 + g)))] → W p l e ({ frames := 2, cells := 0, slots := 0, locals := 42 } : Room) s m args below meth c H locs 0 0 Q (F0 m 36 ls []) := by
          intro n
          induction n with
          | zero =>
            intro i36 hi H locs hw ls hl
            obtain rfl : i36 = 4 := by omega
            refine lv_iload S.1 S.2.1 dX1_serve_36 (lv_at hl 4 rfl) ?_
            refine lv_bipush (v := nI 12) S.1 S.2.1 dX1_serve_38 (by decide) ?_
            refine br_ge (tgt := 74) S dX1_serve_40 (by decide) (fun c40 => ?_) (fun c40 => ?_)
            · refine lv_iload_n S.1 S.2.1 dX1_serve_74 rfl (lv_at hl 3 rfl) ?_
              exact hret hw dX1_serve_75 (rfl) (congrArg (wM cZ cI a 0) (rfl))
            · exact absurd c40 (ge12 (by omega))
          | succ n ih_36 =>
            intro i36 hi H locs hw ls hl
            have hi36 : i36 < 4 := by omega
            refine lv_iload S.1 S.2.1 dX1_serve_36 (lv_at hl 4 rfl) ?_
            refine lv_bipush (v := nI 12) S.1 S.2.1 dX1_serve_38 (by decide) ?_
            refine br_ge (tgt := 74) S dX1_serve_40 (by decide) (fun c40 => ?_) (fun c40 => ?_)
            · exact absurd c40 (not_not_intro (lt12 (by omega) (by omega)))
            · refine lv_aload_n S.1 S.2.1 dX1_serve_43 rfl (lv_at hl 0 rfl) ?_
              refine bx_get S hK hin hw.1 0 rfl rfl 9 (by decide) flX1_serve_35 rfl dX1_serve_44 ?_
              refine lv_iload S.1 S.2.1 dX1_serve_47 (lv_at hl 4 rfl) ?_
              refine bx_iald (v := (serveG σ g v i36) 10 (4 * g + i36)) S hK hw.1 9 1 rfl rfl (by omega) (by decide) (congrArg ((serveG σ g v i36) 10) (pm_at (r := i36) (g := g) (by omega) (by omega))) dX1_serve_49 ?_
              refine lv_iconst (v := 2) S.1 S.2.1 dX1_serve_50 (by decide) ?_
              refine br_ne (tgt := 68) S dX1_serve_51 (by decide) (fun c51 => ?_) (fun c51 => ?_)
              · refine lv_iinc (v := nI (3 * (i36 + 1) + g)) (lv' := [(4, .int (nI (3 * (i36 + 1) + g))), (0, .ref (a 0)), (1, .int (nI g)), (2, .int v), (3, .int (serveN σ g v i36))]) S.1 S.2.1 dX1_serve_68 hl (k := 4) rfl (st3 (by omega) hg) (by decide) rfl (fun ls hl => ?_)
                refine lv_goto (tgt := 36) S.1 S.2.1 dX1_serve_71 (by decide) ?_
                have ea : serveN σ g v (i36 + 1) = serveN σ g v i36 := by simp only [serveN, itF, serveC, eq_true c40, eq_false c51, ↓reduceIte]
                exact ih_36 (i36 + 1) (by omega) _ _ (Wd.cast (congrArg (wM cZ cI a 0) (by rw [show serveG σ g v (i36 + 1) = serveS g v i36 (serveG σ g v i36) from rfl]; simp only [serveS, eq_true c40, eq_false c51, ↓reduceIte])) hw) _ (by rw [ea]; exact lv_sub hl [1, 2, 3, 4, 0] rfl)
              · refine lv_aload_n S.1 S.2.1 dX1_serve_54 rfl (lv_at hl 0 rfl) ?_
                refine bx_get S hK hin hw.1 0 rfl rfl 12 (by decide) flX1_serve_44 rfl dX1_serve_55 ?_
                refine lv_iload S.1 S.2.1 dX1_serve_58 (lv_at hl 4 rfl) ?_
                refine lv_dup2_11 S.1 S.2.1 dX1_serve_60 rfl rfl ?_
                refine bx_iald (v := (serveG σ g v i36) 13 (4 * g + i36)) S hK hw.1 12 1 rfl rfl (by omega) (by decide) (congrArg ((serveG σ g v i36) 13) (pm_at (r := i36) (g := g) (by omega) (by omega))) dX1_serve_61 ?_
                refine lv_iload_n S.1 S.2.1 dX1_serve_62 rfl (lv_at hl 2 rfl) ?_
                refine lv_iadd S.1 S.2.1 dX1_serve_63 ?_
                refine bx_iast S hK hw 12 1 rfl rfl (by omega) (by decide) (wM_s12 cZ cI a 0 (serveG σ g v i36) (r := i36) (g := g) (by omega) (by omega) (((serveG σ g v i36) 13 (4 * g + i36)) + v)) dX1_serve_64 (fun H locs hw => ?_)
                refine lv_iinc (v := (serveN σ g v i36) + 1) (lv' := [(3, .int ((serveN σ g v i36) + 1)), (0, .ref (a 0)), (1, .int (nI g)), (2, .int v), (4, .int (nI (3 * i36 + g)))]) S.1 S.2.1 dX1_serve_65 hl (k := 3) rfl (rfl) (by decide) rfl (fun ls hl => ?_)
                refine lv_iinc (v := nI (3 * (i36 + 1) + g)) (lv' := [(4, .int (nI (3 * (i36 + 1) + g))), (3, .int ((serveN σ g v i36) + 1)), (0, .ref (a 0)), (1, .int (nI g)), (2, .int v)]) S.1 S.2.1 dX1_serve_68 hl (k := 4) rfl (st3 (by omega) hg) (by decide) rfl (fun ls hl => ?_)
                refine lv_goto (tgt := 36) S.1 S.2.1 dX1_serve_71 (by decide) ?_
                have ea : serveN σ g v (i36 + 1) = (serveN σ g v i36) + 1 := by simp only [serveN, itF, serveC, eq_true c40, eq_true c51, ↓reduceIte]
                exact ih_36 (i36 + 1) (by omega) _ _ (Wd.cast (congrArg (wM cZ cI a 0) (by rw [show serveG σ g v (i36 + 1) = serveS g v i36 (serveG σ g v i36) from rfl]; simp only [serveS, eq_true c40, eq_true c51, ↓reduceIte])) hw) _ (by rw [ea]; exact lv_sub hl [2, 3, 4, 1, 0] rfl)
        exact L36 (4 - 0) 0 (by omega) _ _ hw _ (lv_sub hl [2, 3, 4, 1, 0] rfl)
      · exact absurd c26 (by decide)

set_option maxHeartbeats 4000000 in
set_option maxRecDepth 100000 in
theorem kX1_serve_bad (l : Launch) (D : va_G) (cZ cI : ClassId) (a : Nat → Nat) (th : Int32) (σ : sC) (x v : Int32) (hb : inB x 0 2 = 0 ∨ inB v 1 100 = 0) : MI l yX1_serve wsX1_serve ({ frames := 2, cells := 0, slots := 0, locals := 42 } : Room) D (tyZ cZ cI) [.ref (a 0), .int x, .int v] (wM cZ cI a th σ) 0 (wM cZ cI a 1 σ) := by
  refine MI.of (cc := cX1_serve) (maxL := 5) (ty := .int) (by decide) rfl (rfl) ⟨rfl, rfl⟩ (Nat.le_of_ble_eq_true rfl) ?_
  intro p e s m args below meth c A Q S hK hret ls hl hw
  replace hl : lv_has ls 5 [(0, .ref (a 0)), (1, .int x), (2, .int v)] := hl
  replace S : CallFix p m c cX1_serve 5 s args wsX1_serve RX1 := S
  have hin := inX1_serve
  refine lv_aload_n S.1 S.2.1 dX1_serve_0 rfl (lv_at hl 0 rfl) ?_
  refine lv_iload_n S.1 S.2.1 dX1_serve_1 rfl (lv_at hl 1 rfl) ?_
  refine bc_si (As := [.int x]) (rest := [.ref (a 0)]) S hK hw (kX1_isGroup l D _ x) (va_cwS 1 S.2.2.2.2 gX1_serve_X1_isGroup rfl rfl rfl (by decide +kernel) ⟨Nat.le_of_ble_eq_true rfl, Nat.le_of_ble_eq_true rfl⟩) rfl hl.1 rfl (Nat.le_of_ble_eq_true rfl) (Nat.zero_le _) (Nat.zero_le _) dX1_serve_2 (fun H locs hw => ?_)
  refine bz_eq (tgt := 22) S dX1_serve_5 (by decide) (fun c5 => ?_) (fun c5 => ?_)
  · refine lv_iconst (v := 1) S.1 S.2.1 dX1_serve_22 (by decide) ?_
    refine bc_vi (As := [.int 1]) (rest := []) S hK hw (kX1_goesWell l D cZ cI a th σ 1) (cwV 1 S.2.2.2.2 gX1_serve_X1_goesWell rfl rfl rfl (by decide +kernel) ⟨Nat.le_of_ble_eq_true rfl, Nat.le_of_ble_eq_true rfl⟩) (q0 := 0) rfl rfl rfl hl.1 rfl (Nat.le_of_ble_eq_true rfl) (Nat.zero_le _) (Nat.zero_le _) dX1_serve_23 (fun H locs hw => ?_)
    refine bx_top (y := 0) (rfl) ?_
    refine bz_ne (tgt := 31) S dX1_serve_26 (by decide) (fun c26 => ?_) (fun c26 => ?_)
    · exact absurd c26 (by decide)
    · refine lv_iconst (v := 0) S.1 S.2.1 dX1_serve_29 (by decide) ?_
      exact hret hw dX1_serve_30 (rfl) (congrArg (wM cZ cI a 1) (rfl))
  · refine lv_iload_n S.1 S.2.1 dX1_serve_8 rfl (lv_at hl 2 rfl) ?_
    refine lv_iconst (v := 1) S.1 S.2.1 dX1_serve_9 (by decide) ?_
    refine lv_bipush (v := 100) S.1 S.2.1 dX1_serve_10 (by decide) ?_
    refine bc_si (As := [.int v, .int 1, .int 100]) (rest := [.ref (a 0)]) S hK hw (kX1_in l D _ v 1 100) (va_cwS 3 S.2.2.2.2 gX1_serve_X1_in rfl rfl rfl (by decide +kernel) ⟨Nat.le_of_ble_eq_true rfl, Nat.le_of_ble_eq_true rfl⟩) rfl hl.1 rfl (Nat.le_of_ble_eq_true rfl) (Nat.zero_le _) (Nat.zero_le _) dX1_serve_12 (fun H locs hw => ?_)
    refine bz_eq (tgt := 22) S dX1_serve_15 (by decide) (fun c15 => ?_) (fun c15 => ?_)
    · refine lv_iconst (v := 1) S.1 S.2.1 dX1_serve_22 (by decide) ?_
      refine bc_vi (As := [.int 1]) (rest := []) S hK hw (kX1_goesWell l D cZ cI a th σ 1) (cwV 1 S.2.2.2.2 gX1_serve_X1_goesWell rfl rfl rfl (by decide +kernel) ⟨Nat.le_of_ble_eq_true rfl, Nat.le_of_ble_eq_true rfl⟩) (q0 := 0) rfl rfl rfl hl.1 rfl (Nat.le_of_ble_eq_true rfl) (Nat.zero_le _) (Nat.zero_le _) dX1_serve_23 (fun H locs hw => ?_)
      refine bx_top (y := 0) (rfl) ?_
      refine bz_ne (tgt := 31) S dX1_serve_26 (by decide) (fun c26 => ?_) (fun c26 => ?_)
      · exact absurd c26 (by decide)
      · refine lv_iconst (v := 0) S.1 S.2.1 dX1_serve_29 (by decide) ?_
        exact hret hw dX1_serve_30 (rfl) (congrArg (wM cZ cI a 1) (rfl))
    · exact (hb.elim c5 c15).elim

theorem inX1_tick : ∀ w ∈ u_ws RX1 TX1 19, w ∈ wsX1_tick := fun _ h => List.mem_cons_of_mem _ (List.mem_append_right _ h)
theorem flX1_tick_121 : Cond.fieldLink RX1 121 "StandbyPairModel" "time" "I" ∈ wsX1_tick := by decide +kernel
theorem flX1_tick_53 : Cond.fieldLink RX1 53 "StandbyPairModel" "gaps" "[I" ∈ wsX1_tick := by decide +kernel
set_option maxHeartbeats 4000000 in
set_option maxRecDepth 100000 in
theorem kX1_tick (l : Launch) (D : va_G) (cZ cI : ClassId) (a : Nat → Nat) (th : Int32) (σ : sC) {nt : Nat} (hn : nt < 100) (h1 : ¬ nI nt < 1) (h2 : ¬ 50 < nI nt) (hI : I1 σ) : MI l yX1_tick wsX1_tick ({ frames := 7, cells := 0, slots := 0, locals := 157 } : Room) D (tyZ cZ cI) [.ref (a 0), .int (nI nt)] (wM cZ cI a th σ) ((tickF σ nt) 17 0) (wM cZ cI a 0 (tickF σ nt)) := by
  refine MI.of (cc := cX1_tick) (maxL := 5) (ty := .int) (by decide) rfl (rfl) ⟨rfl, rfl⟩ (Nat.le_of_ble_eq_true rfl) ?_
  intro p e s m args below meth c A Q S hK hret ls hl hw
  replace hl : lv_has ls 5 [(0, .ref (a 0)), (1, .int (nI nt))] := hl
  replace S : CallFix p m c cX1_tick 5 s args wsX1_tick RX1 := S
  have hin := inX1_tick
  refine lv_aload_n S.1 S.2.1 dX1_tick_0 rfl (lv_at hl 0 rfl) ?_
  refine lv_iload_n S.1 S.2.1 dX1_tick_1 rfl (lv_at hl 1 rfl) ?_
  refine lv_iconst (v := 1) S.1 S.2.1 dX1_tick_2 (by decide) ?_
  refine lv_bipush (v := 50) S.1 S.2.1 dX1_tick_3 (by decide) ?_
  refine bc_si (As := [.int (nI nt), .int 1, .int 50]) (rest := [.ref (a 0)]) S hK hw (kX1_in l D _ (nI nt) 1 50) (va_cwS 3 S.2.2.2.2 gX1_tick_X1_in rfl rfl rfl (by decide +kernel) ⟨Nat.le_of_ble_eq_true rfl, Nat.le_of_ble_eq_true rfl⟩) rfl hl.1 rfl (Nat.le_of_ble_eq_true rfl) (Nat.zero_le _) (Nat.zero_le _) dX1_tick_5 (fun H locs hw => ?_)
  refine bx_top (y := 1) (in_1 h1 h2) ?_
  refine bz_eq (tgt := 15) S dX1_tick_8 (by decide) (fun c8 => ?_) (fun c8 => ?_)
  · exact absurd c8 (by decide)
  · refine lv_iconst (v := 0) S.1 S.2.1 dX1_tick_11 (by decide) ?_
    refine lv_goto (tgt := 16) S.1 S.2.1 dX1_tick_12 (by decide) ?_
    refine bc_vi (As := [.int 0]) (rest := []) S hK hw (kX1_goesWell l D cZ cI a th σ 0) (cwV 1 S.2.2.2.2 gX1_tick_X1_goesWell rfl rfl rfl (by decide +kernel) ⟨Nat.le_of_ble_eq_true rfl, Nat.le_of_ble_eq_true rfl⟩) (q0 := 0) rfl rfl rfl hl.1 rfl (Nat.le_of_ble_eq_true rfl) (Nat.zero_le _) (Nat.zero_le _) dX1_tick_16 (fun H locs hw => ?_)
    refine bx_top (y := 1) (rfl) ?_
    refine bz_ne (tgt := 24) S dX1_tick_19 (by decide) (fun c19 => ?_) (fun c19 => ?_)
    · refine lv_iconst (v := nI 0) S.1 S.2.1 dX1_tick_24 (by decide) ?_
      refine lv_istore_n (lv' := [(2, .int (nI 0)), (0, .ref (a 0)), (1, .int (nI nt))]) S.1 S.2.1 dX1_tick_25 rfl hl (by decide) rfl (fun ls hl => ?_)
      have L26 : ∀ (n i26 : Nat), i26 + n = (3 * nt) → ∀ (H : Heap) (locs : List Loc), Wd D A s.heap (wM cZ cI a 0 (tickK σ i26)) H locs → ∀ ls : Array Slot, lv_has ls 5 [(0, .ref (a 0)), (1, .int (nI nt)), (2, .int (nI i26))] → W p l e ({ frames := 7, cells := 0, slots := 0, locals := 157 } : Room) s m args below meth c H locs 0 0 Q (F0 m 26 ls []) := by
        intro n
        induction n with
        | zero =>
          intro i26 hi H locs hw ls hl
          have e26 : (3 * nt) = i26 := by omega
          subst e26
          refine lv_iload_n S.1 S.2.1 dX1_tick_26 rfl (lv_at hl 2 rfl) ?_
          refine lv_iload_n S.1 S.2.1 dX1_tick_27 rfl (lv_at hl 1 rfl) ?_
          refine lv_iconst (v := 3) S.1 S.2.1 dX1_tick_28 (by decide) ?_
          refine lv_imul S.1 S.2.1 dX1_tick_29 ?_
          refine bx_top (y := nI (3 * nt)) (mt3 hn) ?_
          refine br_ge (tgt := 111) S dX1_tick_30 (by decide) (fun c30 => ?_) (fun c30 => ?_)
          · refine lv_aload_n S.1 S.2.1 dX1_tick_111 rfl (lv_at hl 0 rfl) ?_
            refine lv_dup S.1 S.2.1 dX1_tick_112 rfl ?_
            refine bx_get S hK hin hw.1 0 rfl rfl 18 (by decide) flX1_tick_121 rfl dX1_tick_113 ?_
            refine lv_iload_n S.1 S.2.1 dX1_tick_116 rfl (lv_at hl 1 rfl) ?_
            refine lv_iadd S.1 S.2.1 dX1_tick_117 ?_
            refine bx_put S hK hin tyX1 tyX1_ok nmX1 hw 0 rfl rfl 18 (by decide) flX1_tick_121 rfl (by decide +kernel) (Nat.le_of_ble_eq_true rfl) (wM_time cZ cI a 0 (tickK σ (3 * nt)) (((tickK σ (3 * nt)) 17 0) + (nI nt))) dX1_tick_118 (fun H locs hw => ?_)
            refine lv_aload_n S.1 S.2.1 dX1_tick_121 rfl (lv_at hl 0 rfl) ?_
            refine bx_get S hK hin hw.1 0 rfl rfl 18 (by decide) flX1_tick_121 rfl dX1_tick_122 ?_
            exact hret hw dX1_tick_125 (congrFun (congrFun (tick_f σ nt) 17) 0) (congrArg (wM cZ cI a 0) (tick_f σ nt))
          · exact absurd c30 Int32.lt_irrefl
        | succ n ih_26 =>
          intro i26 hi H locs hw ls hl
          have hi26 : i26 < (3 * nt) := by omega
          refine lv_iload_n S.1 S.2.1 dX1_tick_26 rfl (lv_at hl 2 rfl) ?_
          refine lv_iload_n S.1 S.2.1 dX1_tick_27 rfl (lv_at hl 1 rfl) ?_
          refine lv_iconst (v := 3) S.1 S.2.1 dX1_tick_28 (by decide) ?_
          refine lv_imul S.1 S.2.1 dX1_tick_29 ?_
          refine bx_top (y := nI (3 * nt)) (mt3 hn) ?_
          refine br_ge (tgt := 111) S dX1_tick_30 (by decide) (fun c30 => ?_) (fun c30 => ?_)
          · exact absurd c30 (not_not_intro (nI_lt hi26 (by omega)))
          · obtain ⟨g, hg, eg⟩ : ∃ g, g < 3 ∧ i26 % 3 = g := ⟨_, Nat.mod_lt _ (by decide), rfl⟩
            refine lv_iload_n S.1 S.2.1 dX1_tick_33 rfl (lv_at hl 2 rfl) ?_
            refine lv_iconst (v := 3) S.1 S.2.1 dX1_tick_34 (by decide) ?_
            refine lv_irem S.1 S.2.1 dX1_tick_35 (by decide) ?_
            refine bx_top (y := nI g) ((md3k (by omega)).trans (congrArg nI eg)) ?_
            refine lv_istore_n (lv' := [(3, .int (nI g)), (0, .ref (a 0)), (1, .int (nI nt)), (2, .int (nI i26))]) S.1 S.2.1 dX1_tick_36 rfl hl (by decide) rfl (fun ls hl => ?_)
            refine lv_iload_n S.1 S.2.1 dX1_tick_37 rfl (lv_at hl 0 rfl) ?_
            refine bx_top (y := nI (3 * 0 + g)) (congrArg nI (by omega)) ?_
            refine lv_istore (lv' := [(4, .int (nI (3 * 0 + g))), (3, .int (nI g)), (0, .ref (a 0)), (1, .int (nI nt)), (2, .int (nI i26))]) S.1 S.2.1 dX1_tick_38 hl (by decide) rfl (fun ls hl => ?_)
            have L40 : ∀ (n i40 : Nat), i40 + n = 4 → ∀ (H : Heap) (locs : List Loc), Wd D A s.heap (wM cZ cI a 0 (itF (turnM g) (tickK σ i26) i40)) H locs → ∀ ls : Array Slot, lv_has ls 5 [(0, .ref (a 0)), (1, .int (nI nt)), (2, .int (nI i26)), (3, .int (nI g)), (4, .int (nI (3 * i40 + g)))] → W p l e ({ frames := 7, cells := 0, slots := 0, locals := 157 } : Room) s m args below meth c H locs 0 0 Q (F0 m 40 ls []) := by
              intro n
              induction n with
              | zero =>
                intro i40 hi H locs hw ls hl
                obtain rfl : i40 = 4 := by omega
                refine lv_iload S.1 S.2.1 dX1_tick_40 (lv_at hl 4 rfl) ?_
                refine lv_bipush (v := nI 12) S.1 S.2.1 dX1_tick_42 (by decide) ?_
                refine br_ge (tgt := 60) S dX1_tick_44 (by decide) (fun c44 => ?_) (fun c44 => ?_)
                · refine lv_iload_n S.1 S.2.1 dX1_tick_60 rfl (lv_at hl 3 rfl) ?_
                  refine bx_top (y := nI (3 * 0 + g)) (congrArg nI (by omega)) ?_
                  refine lv_istore (lv' := [(4, .int (nI (3 * 0 + g))), (0, .ref (a 0)), (1, .int (nI nt)), (2, .int (nI i26)), (3, .int (nI g))]) S.1 S.2.1 dX1_tick_61 hl (by decide) rfl (fun ls hl => ?_)
                  have L63 : ∀ (n i63 : Nat), i63 + n = 4 → ∀ (H : Heap) (locs : List Loc), Wd D A s.heap (wM cZ cI a 0 (itF (turnB g) (itF (turnM g) (tickK σ i26) 4) i63)) H locs → ∀ ls : Array Slot, lv_has ls 5 [(0, .ref (a 0)), (1, .int (nI nt)), (2, .int (nI i26)), (3, .int (nI g)), (4, .int (nI (3 * i63 + g)))] → W p l e ({ frames := 7, cells := 0, slots := 0, locals := 157 } : Room) s m args below meth c H locs 0 0 Q (F0 m 63 ls []) := by
                    intro n
                    induction n with
                    | zero =>
                      intro i63 hi H locs hw ls hl
                      obtain rfl : i63 = 4 := by omega
                      refine lv_iload S.1 S.2.1 dX1_tick_63 (lv_at hl 4 rfl) ?_
                      refine lv_bipush (v := nI 12) S.1 S.2.1 dX1_tick_65 (by decide) ?_
                      refine br_ge (tgt := 83) S dX1_tick_67 (by decide) (fun c67 => ?_) (fun c67 => ?_)
                      · refine lv_aload_n S.1 S.2.1 dX1_tick_83 rfl (lv_at hl 0 rfl) ?_
                        refine bx_get S hK hin hw.1 0 rfl rfl 15 (by decide) flX1_tick_53 rfl dX1_tick_84 ?_
                        refine lv_iload_n S.1 S.2.1 dX1_tick_87 rfl (lv_at hl 3 rfl) ?_
                        refine lv_dup2_11 S.1 S.2.1 dX1_tick_88 rfl rfl ?_
                        refine bx_iald (v := (itF (turnB g) (itF (turnM g) (tickK σ i26) 4) 4) 7 g) S hK hw.1 15 1 rfl rfl (by omega) (by decide) rfl dX1_tick_89 ?_
                        refine lv_aload_n S.1 S.2.1 dX1_tick_90 rfl (lv_at hl 0 rfl) ?_
                        refine lv_iload_n S.1 S.2.1 dX1_tick_91 rfl (lv_at hl 3 rfl) ?_
                        refine bc_vi (As := [.int (nI g)]) (rest := [.int ((itF (turnB g) (itF (turnM g) (tickK σ i26) 4) 4) 7 g), .int (nI g), .ref (a 15)]) S hK hw (kX1_hasMaster l D cZ cI a 0 (itF (turnB g) (itF (turnM g) (tickK σ i26) 4) 4) (g := g) (by omega)) (cwV 1 S.2.2.2.2 gX1_tick_X1_hasMaster rfl rfl rfl (by decide +kernel) ⟨Nat.le_of_ble_eq_true rfl, Nat.le_of_ble_eq_true rfl⟩) (q0 := 0) rfl rfl rfl hl.1 rfl (Nat.le_of_ble_eq_true rfl) (Nat.zero_le _) (Nat.zero_le _) dX1_tick_92 (fun H locs hw => ?_)
                        refine bz_eq (tgt := 102) S dX1_tick_95 (by decide) (fun c95 => ?_) (fun c95 => ?_)
                        · refine lv_iconst (v := 1) S.1 S.2.1 dX1_tick_102 (by decide) ?_
                          refine lv_iadd S.1 S.2.1 dX1_tick_103 ?_
                          refine bx_iast S hK hw 15 1 rfl rfl (by omega) (by decide) (wM_s15 cZ cI a 0 (itF (turnB g) (itF (turnM g) (tickK σ i26) 4) 4) g (((itF (turnB g) (itF (turnM g) (tickK σ i26) 4) 4) 7 g) + 1)) dX1_tick_104 (fun H locs hw => ?_)
                          replace hw := Wd.cast (congrArg (wM cZ cI a 0) (show up (itF (turnB g) (itF (turnM g) (tickK σ i26) 4) 4) 7 g (((itF (turnB g) (itF (turnM g) (tickK σ i26) 4) 4) 7 g) + 1) = gapF (itF (turnB g) (itF (turnM g) (tickK σ i26) 4) 4) g from gap_m1 _ g c95)) hw
                          refine lv_iinc (v := nI (i26 + 1)) (lv' := [(2, .int (nI (i26 + 1))), (0, .ref (a 0)), (1, .int (nI nt)), (3, .int (nI g)), (4, .int (nI (3 * 4 + g)))]) S.1 S.2.1 dX1_tick_105 hl (k := 2) rfl (nI_1 i26) (by decide) rfl (fun ls hl => ?_)
                          refine lv_goto (tgt := 26) S.1 S.2.1 dX1_tick_108 (by decide) ?_
                          exact ih_26 (i26 + 1) (by omega) _ _ (Wd.cast (congrArg (wM cZ cI a 0) (tick_k σ eg)) hw) _ (lv_sub hl [1, 2, 0] rfl)
                        · refine lv_iconst (v := 0) S.1 S.2.1 dX1_tick_98 (by decide) ?_
                          refine lv_goto (tgt := 103) S.1 S.2.1 dX1_tick_99 (by decide) ?_
                          refine lv_iadd S.1 S.2.1 dX1_tick_103 ?_
                          refine bx_iast S hK hw 15 1 rfl rfl (by omega) (by decide) (wM_s15 cZ cI a 0 (itF (turnB g) (itF (turnM g) (tickK σ i26) 4) 4) g (((itF (turnB g) (itF (turnM g) (tickK σ i26) 4) 4) 7 g) + 0)) dX1_tick_104 (fun H locs hw => ?_)
                          replace hw := Wd.cast (congrArg (wM cZ cI a 0) (show up (itF (turnB g) (itF (turnM g) (tickK σ i26) 4) 4) 7 g (((itF (turnB g) (itF (turnM g) (tickK σ i26) 4) 4) 7 g) + 0) = gapF (itF (turnB g) (itF (turnM g) (tickK σ i26) 4) 4) g from gap_m0 _ g c95)) hw
                          refine lv_iinc (v := nI (i26 + 1)) (lv' := [(2, .int (nI (i26 + 1))), (0, .ref (a 0)), (1, .int (nI nt)), (3, .int (nI g)), (4, .int (nI (3 * 4 + g)))]) S.1 S.2.1 dX1_tick_105 hl (k := 2) rfl (nI_1 i26) (by decide) rfl (fun ls hl => ?_)
                          refine lv_goto (tgt := 26) S.1 S.2.1 dX1_tick_108 (by decide) ?_
                          exact ih_26 (i26 + 1) (by omega) _ _ (Wd.cast (congrArg (wM cZ cI a 0) (tick_k σ eg)) hw) _ (lv_sub hl [1, 2, 0] rfl)
                      · exact absurd c67 (ge12 (by omega))
                    | succ n ih_63 =>
                      intro i63 hi H locs hw ls hl
                      have hi63 : i63 < 4 := by omega
                      refine lv_iload S.1 S.2.1 dX1_tick_63 (lv_at hl 4 rfl) ?_
                      refine lv_bipush (v := nI 12) S.1 S.2.1 dX1_tick_65 (by decide) ?_
                      refine br_ge (tgt := 83) S dX1_tick_67 (by decide) (fun c67 => ?_) (fun c67 => ?_)
                      · exact absurd c67 (not_not_intro (lt12 (by omega) (by omega)))
                      · refine lv_aload_n S.1 S.2.1 dX1_tick_70 rfl (lv_at hl 0 rfl) ?_
                        refine lv_iload S.1 S.2.1 dX1_tick_71 (lv_at hl 4 rfl) ?_
                        refine lv_iconst (v := 1) S.1 S.2.1 dX1_tick_73 (by decide) ?_
                        have hA := I1_it (fun i τ h => I1_turnB g i h) (I1_it (fun i τ h => I1_turnM g i h) (I1_tickK hI i26) 4) i63
                        refine bc_vv (As := [.int (nI (3 * i63 + g)), .int 1]) (rest := []) S hK hw (kX1_turnB l D cZ cI a 0 (itF (turnB g) (itF (turnM g) (tickK σ i26) 4) i63) (r := i63) (g := g) (by omega) (by omega) hA) (cwV 2 S.2.2.2.2 gX1_tick_X1_turn rfl rfl rfl (by decide +kernel) ⟨Nat.le_of_ble_eq_true rfl, Nat.le_of_ble_eq_true rfl⟩) (q0 := 0) rfl rfl rfl hl.1 rfl (Nat.le_of_ble_eq_true rfl) (Nat.zero_le _) (Nat.zero_le _) dX1_tick_74 (fun H locs hw => ?_)
                        refine lv_iinc (v := nI (3 * (i63 + 1) + g)) (lv' := [(4, .int (nI (3 * (i63 + 1) + g))), (0, .ref (a 0)), (1, .int (nI nt)), (2, .int (nI i26)), (3, .int (nI g))]) S.1 S.2.1 dX1_tick_77 hl (k := 4) rfl (st3 (by omega) hg) (by decide) rfl (fun ls hl => ?_)
                        refine lv_goto (tgt := 63) S.1 S.2.1 dX1_tick_80 (by decide) ?_
                        exact ih_63 (i63 + 1) (by omega) _ _ (Wd.cast (congrArg (wM cZ cI a 0) ((it_s _ _ _).symm)) hw) _ (lv_sub hl [1, 2, 3, 4, 0] rfl)
                  exact L63 (4 - 0) 0 (by omega) _ _ (Wd.cast (congrArg (wM cZ cI a 0) ((it_0 _ _).symm)) hw) _ (lv_sub hl [1, 2, 3, 4, 0] rfl)
                · exact absurd c44 (ge12 (by omega))
              | succ n ih_40 =>
                intro i40 hi H locs hw ls hl
                have hi40 : i40 < 4 := by omega
                refine lv_iload S.1 S.2.1 dX1_tick_40 (lv_at hl 4 rfl) ?_
                refine lv_bipush (v := nI 12) S.1 S.2.1 dX1_tick_42 (by decide) ?_
                refine br_ge (tgt := 60) S dX1_tick_44 (by decide) (fun c44 => ?_) (fun c44 => ?_)
                · exact absurd c44 (not_not_intro (lt12 (by omega) (by omega)))
                · refine lv_aload_n S.1 S.2.1 dX1_tick_47 rfl (lv_at hl 0 rfl) ?_
                  refine lv_iload S.1 S.2.1 dX1_tick_48 (lv_at hl 4 rfl) ?_
                  refine lv_iconst (v := 2) S.1 S.2.1 dX1_tick_50 (by decide) ?_
                  have hA := I1_it (fun i τ h => I1_turnM g i h) (I1_tickK hI i26) i40
                  refine bc_vv (As := [.int (nI (3 * i40 + g)), .int 2]) (rest := []) S hK hw (kX1_turnM l D cZ cI a 0 (itF (turnM g) (tickK σ i26) i40) (r := i40) (g := g) (by omega) (by omega) hA) (cwV 2 S.2.2.2.2 gX1_tick_X1_turn rfl rfl rfl (by decide +kernel) ⟨Nat.le_of_ble_eq_true rfl, Nat.le_of_ble_eq_true rfl⟩) (q0 := 0) rfl rfl rfl hl.1 rfl (Nat.le_of_ble_eq_true rfl) (Nat.zero_le _) (Nat.zero_le _) dX1_tick_51 (fun H locs hw => ?_)
                  refine lv_iinc (v := nI (3 * (i40 + 1) + g)) (lv' := [(4, .int (nI (3 * (i40 + 1) + g))), (0, .ref (a 0)), (1, .int (nI nt)), (2, .int (nI i26)), (3, .int (nI g))]) S.1 S.2.1 dX1_tick_54 hl (k := 4) rfl (st3 (by omega) hg) (by decide) rfl (fun ls hl => ?_)
                  refine lv_goto (tgt := 40) S.1 S.2.1 dX1_tick_57 (by decide) ?_
                  exact ih_40 (i40 + 1) (by omega) _ _ (Wd.cast (congrArg (wM cZ cI a 0) ((it_s _ _ _).symm)) hw) _ (lv_sub hl [1, 2, 3, 4, 0] rfl)
            exact L40 (4 - 0) 0 (by omega) _ _ (Wd.cast (congrArg (wM cZ cI a 0) ((it_0 _ _).symm)) hw) _ (lv_sub hl [2, 3, 4, 1, 0] rfl)
      exact L26 ((3 * nt) - 0) 0 (by omega) _ _ hw _ (lv_sub hl [1, 2, 0] rfl)
    · exact absurd c19 (by decide)

set_option maxHeartbeats 4000000 in
set_option maxRecDepth 100000 in
theorem kX1_tick_bad (l : Launch) (D : va_G) (cZ cI : ClassId) (a : Nat → Nat) (th : Int32) (σ : sC) (v : Int32) (hb : inB v 1 50 = 0) : MI l yX1_tick wsX1_tick ({ frames := 7, cells := 0, slots := 0, locals := 157 } : Room) D (tyZ cZ cI) [.ref (a 0), .int v] (wM cZ cI a th σ) 0 (wM cZ cI a 1 σ) := by
  refine MI.of (cc := cX1_tick) (maxL := 5) (ty := .int) (by decide) rfl (rfl) ⟨rfl, rfl⟩ (Nat.le_of_ble_eq_true rfl) ?_
  intro p e s m args below meth c A Q S hK hret ls hl hw
  replace hl : lv_has ls 5 [(0, .ref (a 0)), (1, .int v)] := hl
  replace S : CallFix p m c cX1_tick 5 s args wsX1_tick RX1 := S
  have hin := inX1_tick
  refine lv_aload_n S.1 S.2.1 dX1_tick_0 rfl (lv_at hl 0 rfl) ?_
  refine lv_iload_n S.1 S.2.1 dX1_tick_1 rfl (lv_at hl 1 rfl) ?_
  refine lv_iconst (v := 1) S.1 S.2.1 dX1_tick_2 (by decide) ?_
  refine lv_bipush (v := 50) S.1 S.2.1 dX1_tick_3 (by decide) ?_
  refine bc_si (As := [.int v, .int 1, .int 50]) (rest := [.ref (a 0)]) S hK hw (kX1_in l D _ v 1 50) (va_cwS 3 S.2.2.2.2 gX1_tick_X1_in rfl rfl rfl (by decide +kernel) ⟨Nat.le_of_ble_eq_true rfl, Nat.le_of_ble_eq_true rfl⟩) rfl hl.1 rfl (Nat.le_of_ble_eq_true rfl) (Nat.zero_le _) (Nat.zero_le _) dX1_tick_5 (fun H locs hw => ?_)
  refine bx_top (y := 0) (hb) ?_
  refine bz_eq (tgt := 15) S dX1_tick_8 (by decide) (fun c8 => ?_) (fun c8 => ?_)
  · refine lv_iconst (v := 1) S.1 S.2.1 dX1_tick_15 (by decide) ?_
    refine bc_vi (As := [.int 1]) (rest := []) S hK hw (kX1_goesWell l D cZ cI a th σ 1) (cwV 1 S.2.2.2.2 gX1_tick_X1_goesWell rfl rfl rfl (by decide +kernel) ⟨Nat.le_of_ble_eq_true rfl, Nat.le_of_ble_eq_true rfl⟩) (q0 := 0) rfl rfl rfl hl.1 rfl (Nat.le_of_ble_eq_true rfl) (Nat.zero_le _) (Nat.zero_le _) dX1_tick_16 (fun H locs hw => ?_)
    refine bx_top (y := 0) (rfl) ?_
    refine bz_ne (tgt := 24) S dX1_tick_19 (by decide) (fun c19 => ?_) (fun c19 => ?_)
    · exact absurd c19 (by decide)
    · refine lv_iconst (v := 0) S.1 S.2.1 dX1_tick_22 (by decide) ?_
      exact hret hw dX1_tick_23 (rfl) (congrArg (wM cZ cI a 1) (rfl))
  · exact absurd c8 (by decide)

theorem inX1_state : ∀ w ∈ u_ws RX1 TX1 19, w ∈ wsX1_state := fun _ h => List.mem_cons_of_mem _ (List.mem_append_right _ h)
theorem flX1_state_35 : Cond.fieldLink RX1 35 "StandbyPairModel" "states" "[I" ∈ wsX1_state := by decide +kernel
set_option maxHeartbeats 4000000 in
set_option maxRecDepth 100000 in
theorem kX1_state (l : Launch) (D : va_G) (cZ cI : ClassId) (a : Nat → Nat) (th : Int32) (σ : sC) {r g : Nat} (hr : r < 4) (hg : g < 3) : MI l yX1_state wsX1_state ({ frames := 3, cells := 0, slots := 0, locals := 63 } : Room) D (tyZ cZ cI) [.ref (a 0), .int (nI r), .int (nI g)] (wM cZ cI a th σ) (σ 10 (4 * g + r)) (wM cZ cI a 0 σ) := by
  refine MI.of (cc := cX1_state) (maxL := 3) (ty := .int) (by decide) rfl (rfl) ⟨rfl, rfl⟩ (Nat.le_of_ble_eq_true rfl) ?_
  intro p e s m args below meth c A Q S hK hret ls hl hw
  replace hl : lv_has ls 3 [(0, .ref (a 0)), (1, .int (nI r)), (2, .int (nI g))] := hl
  replace S : CallFix p m c cX1_state 3 s args wsX1_state RX1 := S
  have hin := inX1_state
  refine lv_aload_n S.1 S.2.1 dX1_state_0 rfl (lv_at hl 0 rfl) ?_
  refine lv_iload_n S.1 S.2.1 dX1_state_1 rfl (lv_at hl 1 rfl) ?_
  refine lv_iload_n S.1 S.2.1 dX1_state_2 rfl (lv_at hl 2 rfl) ?_
  refine bc_si (As := [.int (nI r), .int (nI g)]) (rest := [.ref (a 0)]) S hK hw (kX1_are l D _ (nI r) (nI g)) (va_cwS 2 S.2.2.2.2 gX1_state_X1_are rfl rfl rfl (by decide +kernel) ⟨Nat.le_of_ble_eq_true rfl, Nat.le_of_ble_eq_true rfl⟩) rfl hl.1 rfl (Nat.le_of_ble_eq_true rfl) (Nat.zero_le _) (Nat.zero_le _) dX1_state_3 (fun H locs hw => ?_)
  refine bx_top (y := 1) (are_1 hr hg) ?_
  refine bz_eq (tgt := 13) S dX1_state_6 (by decide) (fun c6 => ?_) (fun c6 => ?_)
  · exact absurd c6 (by decide)
  · refine lv_iconst (v := 0) S.1 S.2.1 dX1_state_9 (by decide) ?_
    refine lv_goto (tgt := 14) S.1 S.2.1 dX1_state_10 (by decide) ?_
    refine bc_vi (As := [.int 0]) (rest := []) S hK hw (kX1_goesWell l D cZ cI a th σ 0) (cwV 1 S.2.2.2.2 gX1_state_X1_goesWell rfl rfl rfl (by decide +kernel) ⟨Nat.le_of_ble_eq_true rfl, Nat.le_of_ble_eq_true rfl⟩) (q0 := 0) rfl rfl rfl hl.1 rfl (Nat.le_of_ble_eq_true rfl) (Nat.zero_le _) (Nat.zero_le _) dX1_state_14 (fun H locs hw => ?_)
    refine bx_top (y := 1) (rfl) ?_
    refine bz_eq (tgt := 33) S dX1_state_17 (by decide) (fun c17 => ?_) (fun c17 => ?_)
    · exact absurd c17 (by decide)
    · refine lv_aload_n S.1 S.2.1 dX1_state_20 rfl (lv_at hl 0 rfl) ?_
      refine bx_get S hK hin hw.1 0 rfl rfl 9 (by decide) flX1_state_35 rfl dX1_state_21 ?_
      refine lv_iconst (v := 3) S.1 S.2.1 dX1_state_24 (by decide) ?_
      refine lv_iload_n S.1 S.2.1 dX1_state_25 rfl (lv_at hl 1 rfl) ?_
      refine lv_imul S.1 S.2.1 dX1_state_26 ?_
      refine lv_iload_n S.1 S.2.1 dX1_state_27 rfl (lv_at hl 2 rfl) ?_
      refine lv_iadd S.1 S.2.1 dX1_state_28 ?_
      refine bx_top (y := nI (3 * r + g)) (ml3 hr hg) ?_
      refine bx_iald (v := σ 10 (4 * g + r)) S hK hw.1 9 1 rfl rfl (by omega) (by decide) (congrArg (σ 10) (pm_at (r := r) (g := g) (by omega) (by omega))) dX1_state_29 ?_
      refine lv_goto (tgt := 34) S.1 S.2.1 dX1_state_30 (by decide) ?_
      exact hret hw dX1_state_34 (rfl) (congrArg (wM cZ cI a 0) (rfl))

set_option maxHeartbeats 4000000 in
set_option maxRecDepth 100000 in
theorem kX1_state_bad (l : Launch) (D : va_G) (cZ cI : ClassId) (a : Nat → Nat) (th : Int32) (σ : sC) (x y : Int32) (hb : arE x y = 0) : MI l yX1_state wsX1_state ({ frames := 3, cells := 0, slots := 0, locals := 63 } : Room) D (tyZ cZ cI) [.ref (a 0), .int x, .int y] (wM cZ cI a th σ) 0 (wM cZ cI a 1 σ) := by
  refine MI.of (cc := cX1_state) (maxL := 3) (ty := .int) (by decide) rfl (rfl) ⟨rfl, rfl⟩ (Nat.le_of_ble_eq_true rfl) ?_
  intro p e s m args below meth c A Q S hK hret ls hl hw
  replace hl : lv_has ls 3 [(0, .ref (a 0)), (1, .int x), (2, .int y)] := hl
  replace S : CallFix p m c cX1_state 3 s args wsX1_state RX1 := S
  have hin := inX1_state
  refine lv_aload_n S.1 S.2.1 dX1_state_0 rfl (lv_at hl 0 rfl) ?_
  refine lv_iload_n S.1 S.2.1 dX1_state_1 rfl (lv_at hl 1 rfl) ?_
  refine lv_iload_n S.1 S.2.1 dX1_state_2 rfl (lv_at hl 2 rfl) ?_
  refine bc_si (As := [.int x, .int y]) (rest := [.ref (a 0)]) S hK hw (kX1_are l D _ x y) (va_cwS 2 S.2.2.2.2 gX1_state_X1_are rfl rfl rfl (by decide +kernel) ⟨Nat.le_of_ble_eq_true rfl, Nat.le_of_ble_eq_true rfl⟩) rfl hl.1 rfl (Nat.le_of_ble_eq_true rfl) (Nat.zero_le _) (Nat.zero_le _) dX1_state_3 (fun H locs hw => ?_)
  refine bx_top (y := 0) (hb) ?_
  refine bz_eq (tgt := 13) S dX1_state_6 (by decide) (fun c6 => ?_) (fun c6 => ?_)
  · refine lv_iconst (v := 1) S.1 S.2.1 dX1_state_13 (by decide) ?_
    refine bc_vi (As := [.int 1]) (rest := []) S hK hw (kX1_goesWell l D cZ cI a th σ 1) (cwV 1 S.2.2.2.2 gX1_state_X1_goesWell rfl rfl rfl (by decide +kernel) ⟨Nat.le_of_ble_eq_true rfl, Nat.le_of_ble_eq_true rfl⟩) (q0 := 0) rfl rfl rfl hl.1 rfl (Nat.le_of_ble_eq_true rfl) (Nat.zero_le _) (Nat.zero_le _) dX1_state_14 (fun H locs hw => ?_)
    refine bx_top (y := 0) (rfl) ?_
    refine bz_eq (tgt := 33) S dX1_state_17 (by decide) (fun c17 => ?_) (fun c17 => ?_)
    · refine lv_iconst (v := 0) S.1 S.2.1 dX1_state_33 (by decide) ?_
      exact hret hw dX1_state_34 (rfl) (congrArg (wM cZ cI a 1) (rfl))
    · exact absurd c17 (by decide)
  · exact absurd c6 (by decide)

theorem inX1_changes : ∀ w ∈ u_ws RX1 TX1 19, w ∈ wsX1_changes := fun _ h => List.mem_cons_of_mem _ (List.mem_append_right _ h)
theorem flX1_changes_50 : Cond.fieldLink RX1 50 "StandbyPairModel" "changes" "[I" ∈ wsX1_changes := by decide +kernel
set_option maxHeartbeats 4000000 in
set_option maxRecDepth 100000 in
theorem kX1_changes (l : Launch) (D : va_G) (cZ cI : ClassId) (a : Nat → Nat) (th : Int32) (σ : sC) {r g : Nat} (hr : r < 4) (hg : g < 3) : MI l yX1_changes wsX1_changes ({ frames := 3, cells := 0, slots := 0, locals := 63 } : Room) D (tyZ cZ cI) [.ref (a 0), .int (nI r), .int (nI g)] (wM cZ cI a th σ) (σ 14 (4 * g + r)) (wM cZ cI a 0 σ) := by
  refine MI.of (cc := cX1_changes) (maxL := 3) (ty := .int) (by decide) rfl (rfl) ⟨rfl, rfl⟩ (Nat.le_of_ble_eq_true rfl) ?_
  intro p e s m args below meth c A Q S hK hret ls hl hw
  replace hl : lv_has ls 3 [(0, .ref (a 0)), (1, .int (nI r)), (2, .int (nI g))] := hl
  replace S : CallFix p m c cX1_changes 3 s args wsX1_changes RX1 := S
  have hin := inX1_changes
  refine lv_aload_n S.1 S.2.1 dX1_changes_0 rfl (lv_at hl 0 rfl) ?_
  refine lv_iload_n S.1 S.2.1 dX1_changes_1 rfl (lv_at hl 1 rfl) ?_
  refine lv_iload_n S.1 S.2.1 dX1_changes_2 rfl (lv_at hl 2 rfl) ?_
  refine bc_si (As := [.int (nI r), .int (nI g)]) (rest := [.ref (a 0)]) S hK hw (kX1_are l D _ (nI r) (nI g)) (va_cwS 2 S.2.2.2.2 gX1_changes_X1_are rfl rfl rfl (by decide +kernel) ⟨Nat.le_of_ble_eq_true rfl, Nat.le_of_ble_eq_true rfl⟩) rfl hl.1 rfl (Nat.le_of_ble_eq_true rfl) (Nat.zero_le _) (Nat.zero_le _) dX1_changes_3 (fun H locs hw => ?_)
  refine bx_top (y := 1) (are_1 hr hg) ?_
  refine bz_eq (tgt := 13) S dX1_changes_6 (by decide) (fun c6 => ?_) (fun c6 => ?_)
  · exact absurd c6 (by decide)
  · refine lv_iconst (v := 0) S.1 S.2.1 dX1_changes_9 (by decide) ?_
    refine lv_goto (tgt := 14) S.1 S.2.1 dX1_changes_10 (by decide) ?_
    refine bc_vi (As := [.int 0]) (rest := []) S hK hw (kX1_goesWell l D cZ cI a th σ 0) (cwV 1 S.2.2.2.2 gX1_changes_X1_goesWell rfl rfl rfl (by decide +kernel) ⟨Nat.le_of_ble_eq_true rfl, Nat.le_of_ble_eq_true rfl⟩) (q0 := 0) rfl rfl rfl hl.1 rfl (Nat.le_of_ble_eq_true rfl) (Nat.zero_le _) (Nat.zero_le _) dX1_changes_14 (fun H locs hw => ?_)
    refine bx_top (y := 1) (rfl) ?_
    refine bz_eq (tgt := 33) S dX1_changes_17 (by decide) (fun c17 => ?_) (fun c17 => ?_)
    · exact absurd c17 (by decide)
    · refine lv_aload_n S.1 S.2.1 dX1_changes_20 rfl (lv_at hl 0 rfl) ?_
      refine bx_get S hK hin hw.1 0 rfl rfl 14 (by decide) flX1_changes_50 rfl dX1_changes_21 ?_
      refine lv_iconst (v := 3) S.1 S.2.1 dX1_changes_24 (by decide) ?_
      refine lv_iload_n S.1 S.2.1 dX1_changes_25 rfl (lv_at hl 1 rfl) ?_
      refine lv_imul S.1 S.2.1 dX1_changes_26 ?_
      refine lv_iload_n S.1 S.2.1 dX1_changes_27 rfl (lv_at hl 2 rfl) ?_
      refine lv_iadd S.1 S.2.1 dX1_changes_28 ?_
      refine bx_top (y := nI (3 * r + g)) (ml3 hr hg) ?_
      refine bx_iald (v := σ 14 (4 * g + r)) S hK hw.1 14 1 rfl rfl (by omega) (by decide) (congrArg (σ 14) (pm_at (r := r) (g := g) (by omega) (by omega))) dX1_changes_29 ?_
      refine lv_goto (tgt := 34) S.1 S.2.1 dX1_changes_30 (by decide) ?_
      exact hret hw dX1_changes_34 (rfl) (congrArg (wM cZ cI a 0) (rfl))

set_option maxHeartbeats 4000000 in
set_option maxRecDepth 100000 in
theorem kX1_changes_bad (l : Launch) (D : va_G) (cZ cI : ClassId) (a : Nat → Nat) (th : Int32) (σ : sC) (x y : Int32) (hb : arE x y = 0) : MI l yX1_changes wsX1_changes ({ frames := 3, cells := 0, slots := 0, locals := 63 } : Room) D (tyZ cZ cI) [.ref (a 0), .int x, .int y] (wM cZ cI a th σ) 0 (wM cZ cI a 1 σ) := by
  refine MI.of (cc := cX1_changes) (maxL := 3) (ty := .int) (by decide) rfl (rfl) ⟨rfl, rfl⟩ (Nat.le_of_ble_eq_true rfl) ?_
  intro p e s m args below meth c A Q S hK hret ls hl hw
  replace hl : lv_has ls 3 [(0, .ref (a 0)), (1, .int x), (2, .int y)] := hl
  replace S : CallFix p m c cX1_changes 3 s args wsX1_changes RX1 := S
  have hin := inX1_changes
  refine lv_aload_n S.1 S.2.1 dX1_changes_0 rfl (lv_at hl 0 rfl) ?_
  refine lv_iload_n S.1 S.2.1 dX1_changes_1 rfl (lv_at hl 1 rfl) ?_
  refine lv_iload_n S.1 S.2.1 dX1_changes_2 rfl (lv_at hl 2 rfl) ?_
  refine bc_si (As := [.int x, .int y]) (rest := [.ref (a 0)]) S hK hw (kX1_are l D _ x y) (va_cwS 2 S.2.2.2.2 gX1_changes_X1_are rfl rfl rfl (by decide +kernel) ⟨Nat.le_of_ble_eq_true rfl, Nat.le_of_ble_eq_true rfl⟩) rfl hl.1 rfl (Nat.le_of_ble_eq_true rfl) (Nat.zero_le _) (Nat.zero_le _) dX1_changes_3 (fun H locs hw => ?_)
  refine bx_top (y := 0) (hb) ?_
  refine bz_eq (tgt := 13) S dX1_changes_6 (by decide) (fun c6 => ?_) (fun c6 => ?_)
  · refine lv_iconst (v := 1) S.1 S.2.1 dX1_changes_13 (by decide) ?_
    refine bc_vi (As := [.int 1]) (rest := []) S hK hw (kX1_goesWell l D cZ cI a th σ 1) (cwV 1 S.2.2.2.2 gX1_changes_X1_goesWell rfl rfl rfl (by decide +kernel) ⟨Nat.le_of_ble_eq_true rfl, Nat.le_of_ble_eq_true rfl⟩) (q0 := 0) rfl rfl rfl hl.1 rfl (Nat.le_of_ble_eq_true rfl) (Nat.zero_le _) (Nat.zero_le _) dX1_changes_14 (fun H locs hw => ?_)
    refine bx_top (y := 0) (rfl) ?_
    refine bz_eq (tgt := 33) S dX1_changes_17 (by decide) (fun c17 => ?_) (fun c17 => ?_)
    · refine lv_iconst (v := 0) S.1 S.2.1 dX1_changes_33 (by decide) ?_
      exact hret hw dX1_changes_34 (rfl) (congrArg (wM cZ cI a 1) (rfl))
    · exact absurd c17 (by decide)
  · exact absurd c6 (by decide)

theorem inX1_known : ∀ w ∈ u_ws RX1 TX1 19, w ∈ wsX1_known := fun _ h => List.mem_cons_of_mem _ (List.mem_append_right _ h)
theorem flX1_known_44 : Cond.fieldLink RX1 44 "StandbyPairModel" "served" "[I" ∈ wsX1_known := by decide +kernel
set_option maxHeartbeats 4000000 in
set_option maxRecDepth 100000 in
theorem kX1_known (l : Launch) (D : va_G) (cZ cI : ClassId) (a : Nat → Nat) (th : Int32) (σ : sC) {r g : Nat} (hr : r < 4) (hg : g < 3) : MI l yX1_known wsX1_known ({ frames := 3, cells := 0, slots := 0, locals := 63 } : Room) D (tyZ cZ cI) [.ref (a 0), .int (nI r), .int (nI g)] (wM cZ cI a th σ) (σ 13 (4 * g + r)) (wM cZ cI a 0 σ) := by
  refine MI.of (cc := cX1_known) (maxL := 3) (ty := .int) (by decide) rfl (rfl) ⟨rfl, rfl⟩ (Nat.le_of_ble_eq_true rfl) ?_
  intro p e s m args below meth c A Q S hK hret ls hl hw
  replace hl : lv_has ls 3 [(0, .ref (a 0)), (1, .int (nI r)), (2, .int (nI g))] := hl
  replace S : CallFix p m c cX1_known 3 s args wsX1_known RX1 := S
  have hin := inX1_known
  refine lv_aload_n S.1 S.2.1 dX1_known_0 rfl (lv_at hl 0 rfl) ?_
  refine lv_iload_n S.1 S.2.1 dX1_known_1 rfl (lv_at hl 1 rfl) ?_
  refine lv_iload_n S.1 S.2.1 dX1_known_2 rfl (lv_at hl 2 rfl) ?_
  refine bc_si (As := [.int (nI r), .int (nI g)]) (rest := [.ref (a 0)]) S hK hw (kX1_are l D _ (nI r) (nI g)) (va_cwS 2 S.2.2.2.2 gX1_known_X1_are rfl rfl rfl (by decide +kernel) ⟨Nat.le_of_ble_eq_true rfl, Nat.le_of_ble_eq_true rfl⟩) rfl hl.1 rfl (Nat.le_of_ble_eq_true rfl) (Nat.zero_le _) (Nat.zero_le _) dX1_known_3 (fun H locs hw => ?_)
  refine bx_top (y := 1) (are_1 hr hg) ?_
  refine bz_eq (tgt := 13) S dX1_known_6 (by decide) (fun c6 => ?_) (fun c6 => ?_)
  · exact absurd c6 (by decide)
  · refine lv_iconst (v := 0) S.1 S.2.1 dX1_known_9 (by decide) ?_
    refine lv_goto (tgt := 14) S.1 S.2.1 dX1_known_10 (by decide) ?_
    refine bc_vi (As := [.int 0]) (rest := []) S hK hw (kX1_goesWell l D cZ cI a th σ 0) (cwV 1 S.2.2.2.2 gX1_known_X1_goesWell rfl rfl rfl (by decide +kernel) ⟨Nat.le_of_ble_eq_true rfl, Nat.le_of_ble_eq_true rfl⟩) (q0 := 0) rfl rfl rfl hl.1 rfl (Nat.le_of_ble_eq_true rfl) (Nat.zero_le _) (Nat.zero_le _) dX1_known_14 (fun H locs hw => ?_)
    refine bx_top (y := 1) (rfl) ?_
    refine bz_eq (tgt := 33) S dX1_known_17 (by decide) (fun c17 => ?_) (fun c17 => ?_)
    · exact absurd c17 (by decide)
    · refine lv_aload_n S.1 S.2.1 dX1_known_20 rfl (lv_at hl 0 rfl) ?_
      refine bx_get S hK hin hw.1 0 rfl rfl 12 (by decide) flX1_known_44 rfl dX1_known_21 ?_
      refine lv_iconst (v := 3) S.1 S.2.1 dX1_known_24 (by decide) ?_
      refine lv_iload_n S.1 S.2.1 dX1_known_25 rfl (lv_at hl 1 rfl) ?_
      refine lv_imul S.1 S.2.1 dX1_known_26 ?_
      refine lv_iload_n S.1 S.2.1 dX1_known_27 rfl (lv_at hl 2 rfl) ?_
      refine lv_iadd S.1 S.2.1 dX1_known_28 ?_
      refine bx_top (y := nI (3 * r + g)) (ml3 hr hg) ?_
      refine bx_iald (v := σ 13 (4 * g + r)) S hK hw.1 12 1 rfl rfl (by omega) (by decide) (congrArg (σ 13) (pm_at (r := r) (g := g) (by omega) (by omega))) dX1_known_29 ?_
      refine lv_goto (tgt := 34) S.1 S.2.1 dX1_known_30 (by decide) ?_
      exact hret hw dX1_known_34 (rfl) (congrArg (wM cZ cI a 0) (rfl))

set_option maxHeartbeats 4000000 in
set_option maxRecDepth 100000 in
theorem kX1_known_bad (l : Launch) (D : va_G) (cZ cI : ClassId) (a : Nat → Nat) (th : Int32) (σ : sC) (x y : Int32) (hb : arE x y = 0) : MI l yX1_known wsX1_known ({ frames := 3, cells := 0, slots := 0, locals := 63 } : Room) D (tyZ cZ cI) [.ref (a 0), .int x, .int y] (wM cZ cI a th σ) 0 (wM cZ cI a 1 σ) := by
  refine MI.of (cc := cX1_known) (maxL := 3) (ty := .int) (by decide) rfl (rfl) ⟨rfl, rfl⟩ (Nat.le_of_ble_eq_true rfl) ?_
  intro p e s m args below meth c A Q S hK hret ls hl hw
  replace hl : lv_has ls 3 [(0, .ref (a 0)), (1, .int x), (2, .int y)] := hl
  replace S : CallFix p m c cX1_known 3 s args wsX1_known RX1 := S
  have hin := inX1_known
  refine lv_aload_n S.1 S.2.1 dX1_known_0 rfl (lv_at hl 0 rfl) ?_
  refine lv_iload_n S.1 S.2.1 dX1_known_1 rfl (lv_at hl 1 rfl) ?_
  refine lv_iload_n S.1 S.2.1 dX1_known_2 rfl (lv_at hl 2 rfl) ?_
  refine bc_si (As := [.int x, .int y]) (rest := [.ref (a 0)]) S hK hw (kX1_are l D _ x y) (va_cwS 2 S.2.2.2.2 gX1_known_X1_are rfl rfl rfl (by decide +kernel) ⟨Nat.le_of_ble_eq_true rfl, Nat.le_of_ble_eq_true rfl⟩) rfl hl.1 rfl (Nat.le_of_ble_eq_true rfl) (Nat.zero_le _) (Nat.zero_le _) dX1_known_3 (fun H locs hw => ?_)
  refine bx_top (y := 0) (hb) ?_
  refine bz_eq (tgt := 13) S dX1_known_6 (by decide) (fun c6 => ?_) (fun c6 => ?_)
  · refine lv_iconst (v := 1) S.1 S.2.1 dX1_known_13 (by decide) ?_
    refine bc_vi (As := [.int 1]) (rest := []) S hK hw (kX1_goesWell l D cZ cI a th σ 1) (cwV 1 S.2.2.2.2 gX1_known_X1_goesWell rfl rfl rfl (by decide +kernel) ⟨Nat.le_of_ble_eq_true rfl, Nat.le_of_ble_eq_true rfl⟩) (q0 := 0) rfl rfl rfl hl.1 rfl (Nat.le_of_ble_eq_true rfl) (Nat.zero_le _) (Nat.zero_le _) dX1_known_14 (fun H locs hw => ?_)
    refine bx_top (y := 0) (rfl) ?_
    refine bz_eq (tgt := 33) S dX1_known_17 (by decide) (fun c17 => ?_) (fun c17 => ?_)
    · refine lv_iconst (v := 0) S.1 S.2.1 dX1_known_33 (by decide) ?_
      exact hret hw dX1_known_34 (rfl) (congrArg (wM cZ cI a 1) (rfl))
    · exact absurd c17 (by decide)
  · exact absurd c6 (by decide)

theorem inX1_priority : ∀ w ∈ u_ws RX1 TX1 19, w ∈ wsX1_priority := fun _ h => List.mem_cons_of_mem _ (List.mem_append_right _ h)
theorem flX1_priority_35 : Cond.fieldLink RX1 35 "StandbyPairModel" "states" "[I" ∈ wsX1_priority := by decide +kernel
set_option maxHeartbeats 4000000 in
set_option maxRecDepth 100000 in
theorem kX1_priority (l : Launch) (D : va_G) (cZ cI : ClassId) (a : Nat → Nat) (th : Int32) (σ : sC) {r g : Nat} (hr : r < 4) (hg : g < 3) : MI l yX1_priority wsX1_priority ({ frames := 3, cells := 0, slots := 0, locals := 63 } : Room) D (tyZ cZ cI) [.ref (a 0), .int (nI r), .int (nI g)] (wM cZ cI a th σ) (prioF σ r g) (wM cZ cI a 0 σ) := by
  refine MI.of (cc := cX1_priority) (maxL := 4) (ty := .int) (by decide) rfl (rfl) ⟨rfl, rfl⟩ (Nat.le_of_ble_eq_true rfl) ?_
  intro p e s m args below meth c A Q S hK hret ls hl hw
  replace hl : lv_has ls 4 [(0, .ref (a 0)), (1, .int (nI r)), (2, .int (nI g))] := hl
  replace S : CallFix p m c cX1_priority 4 s args wsX1_priority RX1 := S
  have hin := inX1_priority
  refine lv_iconst (v := 3) S.1 S.2.1 dX1_priority_0 (by decide) ?_
  refine lv_iload_n S.1 S.2.1 dX1_priority_1 rfl (lv_at hl 1 rfl) ?_
  refine lv_imul S.1 S.2.1 dX1_priority_2 ?_
  refine lv_iload_n S.1 S.2.1 dX1_priority_3 rfl (lv_at hl 2 rfl) ?_
  refine lv_iadd S.1 S.2.1 dX1_priority_4 ?_
  refine bx_top (y := nI (3 * r + g)) (ml3 hr hg) ?_
  refine lv_istore_n (lv' := [(3, .int (nI (3 * r + g))), (0, .ref (a 0)), (1, .int (nI r)), (2, .int (nI g))]) S.1 S.2.1 dX1_priority_5 rfl hl (by decide) rfl (fun ls hl => ?_)
  refine lv_aload_n S.1 S.2.1 dX1_priority_6 rfl (lv_at hl 1 rfl) ?_
  refine lv_iload_n S.1 S.2.1 dX1_priority_7 rfl (lv_at hl 2 rfl) ?_
  refine lv_iload_n S.1 S.2.1 dX1_priority_8 rfl (lv_at hl 3 rfl) ?_
  refine bc_si (As := [.int (nI r), .int (nI g)]) (rest := [.ref (a 0)]) S hK hw (kX1_are l D _ (nI r) (nI g)) (va_cwS 2 S.2.2.2.2 gX1_priority_X1_are rfl rfl rfl (by decide +kernel) ⟨Nat.le_of_ble_eq_true rfl, Nat.le_of_ble_eq_true rfl⟩) rfl hl.1 rfl (Nat.le_of_ble_eq_true rfl) (Nat.zero_le _) (Nat.zero_le _) dX1_priority_9 (fun H locs hw => ?_)
  refine bx_top (y := 1) (are_1 hr hg) ?_
  refine bz_eq (tgt := 19) S dX1_priority_12 (by decide) (fun c12 => ?_) (fun c12 => ?_)
  · exact absurd c12 (by decide)
  · refine lv_iconst (v := 0) S.1 S.2.1 dX1_priority_15 (by decide) ?_
    refine lv_goto (tgt := 20) S.1 S.2.1 dX1_priority_16 (by decide) ?_
    refine bc_vi (As := [.int 0]) (rest := []) S hK hw (kX1_goesWell l D cZ cI a th σ 0) (cwV 1 S.2.2.2.2 gX1_priority_X1_goesWell rfl rfl rfl (by decide +kernel) ⟨Nat.le_of_ble_eq_true rfl, Nat.le_of_ble_eq_true rfl⟩) (q0 := 0) rfl rfl rfl hl.1 rfl (Nat.le_of_ble_eq_true rfl) (Nat.zero_le _) (Nat.zero_le _) dX1_priority_20 (fun H locs hw => ?_)
    refine bx_top (y := 1) (rfl) ?_
    refine bz_eq (tgt := 43) S dX1_priority_23 (by decide) (fun c23 => ?_) (fun c23 => ?_)
    · exact absurd c23 (by decide)
    · refine lv_aload_n S.1 S.2.1 dX1_priority_26 rfl (lv_at hl 1 rfl) ?_
      refine bx_get S hK hin hw.1 0 rfl rfl 9 (by decide) flX1_priority_35 rfl dX1_priority_27 ?_
      refine lv_iload_n S.1 S.2.1 dX1_priority_30 rfl (lv_at hl 0 rfl) ?_
      refine bx_iald (v := σ 10 (4 * g + r)) S hK hw.1 9 1 rfl rfl (by omega) (by decide) (congrArg (σ 10) (pm_at (r := r) (g := g) (by omega) (by omega))) dX1_priority_31 ?_
      refine bz_eq (tgt := 43) S dX1_priority_32 (by decide) (fun c32 => ?_) (fun c32 => ?_)
      · refine lv_iconst (v := 0) S.1 S.2.1 dX1_priority_43 (by decide) ?_
        exact hret hw dX1_priority_44 (by simp only [prioF, eq_true c32, ↓reduceIte]) (congrArg (wM cZ cI a 0) (rfl))
      · refine lv_aload_n S.1 S.2.1 dX1_priority_35 rfl (lv_at hl 1 rfl) ?_
        refine lv_iload_n S.1 S.2.1 dX1_priority_36 rfl (lv_at hl 0 rfl) ?_
        refine bc_vi (As := [.int (nI (3 * r + g))]) (rest := []) S hK hw (kX1_priorityAt l D cZ cI a 0 σ (r := r) (g := g) (by omega) (by omega)) (cwV 1 S.2.2.2.2 gX1_priority_X1_priorityAt rfl rfl rfl (by decide +kernel) ⟨Nat.le_of_ble_eq_true rfl, Nat.le_of_ble_eq_true rfl⟩) (q0 := 0) rfl rfl rfl hl.1 rfl (Nat.le_of_ble_eq_true rfl) (Nat.zero_le _) (Nat.zero_le _) dX1_priority_37 (fun H locs hw => ?_)
        refine lv_goto (tgt := 44) S.1 S.2.1 dX1_priority_40 (by decide) ?_
        exact hret hw dX1_priority_44 (by simp only [prioF, eq_false c32, ↓reduceIte]) (congrArg (wM cZ cI a 0) (rfl))

set_option maxHeartbeats 4000000 in
set_option maxRecDepth 100000 in
theorem kX1_priority_bad (l : Launch) (D : va_G) (cZ cI : ClassId) (a : Nat → Nat) (th : Int32) (σ : sC) (x y : Int32) (hb : arE x y = 0) : MI l yX1_priority wsX1_priority ({ frames := 3, cells := 0, slots := 0, locals := 63 } : Room) D (tyZ cZ cI) [.ref (a 0), .int x, .int y] (wM cZ cI a th σ) 0 (wM cZ cI a 1 σ) := by
  refine MI.of (cc := cX1_priority) (maxL := 4) (ty := .int) (by decide) rfl (rfl) ⟨rfl, rfl⟩ (Nat.le_of_ble_eq_true rfl) ?_
  intro p e s m args below meth c A Q S hK hret ls hl hw
  replace hl : lv_has ls 4 [(0, .ref (a 0)), (1, .int x), (2, .int y)] := hl
  replace S : CallFix p m c cX1_priority 4 s args wsX1_priority RX1 := S
  have hin := inX1_priority
  refine lv_iconst (v := 3) S.1 S.2.1 dX1_priority_0 (by decide) ?_
  refine lv_iload_n S.1 S.2.1 dX1_priority_1 rfl (lv_at hl 1 rfl) ?_
  refine lv_imul S.1 S.2.1 dX1_priority_2 ?_
  refine lv_iload_n S.1 S.2.1 dX1_priority_3 rfl (lv_at hl 2 rfl) ?_
  refine lv_iadd S.1 S.2.1 dX1_priority_4 ?_
  refine lv_istore_n (lv' := [(3, .int ((3 * x) + y)), (0, .ref (a 0)), (1, .int x), (2, .int y)]) S.1 S.2.1 dX1_priority_5 rfl hl (by decide) rfl (fun ls hl => ?_)
  refine lv_aload_n S.1 S.2.1 dX1_priority_6 rfl (lv_at hl 1 rfl) ?_
  refine lv_iload_n S.1 S.2.1 dX1_priority_7 rfl (lv_at hl 2 rfl) ?_
  refine lv_iload_n S.1 S.2.1 dX1_priority_8 rfl (lv_at hl 3 rfl) ?_
  refine bc_si (As := [.int x, .int y]) (rest := [.ref (a 0)]) S hK hw (kX1_are l D _ x y) (va_cwS 2 S.2.2.2.2 gX1_priority_X1_are rfl rfl rfl (by decide +kernel) ⟨Nat.le_of_ble_eq_true rfl, Nat.le_of_ble_eq_true rfl⟩) rfl hl.1 rfl (Nat.le_of_ble_eq_true rfl) (Nat.zero_le _) (Nat.zero_le _) dX1_priority_9 (fun H locs hw => ?_)
  refine bx_top (y := 0) (hb) ?_
  refine bz_eq (tgt := 19) S dX1_priority_12 (by decide) (fun c12 => ?_) (fun c12 => ?_)
  · refine lv_iconst (v := 1) S.1 S.2.1 dX1_priority_19 (by decide) ?_
    refine bc_vi (As := [.int 1]) (rest := []) S hK hw (kX1_goesWell l D cZ cI a th σ 1) (cwV 1 S.2.2.2.2 gX1_priority_X1_goesWell rfl rfl rfl (by decide +kernel) ⟨Nat.le_of_ble_eq_true rfl, Nat.le_of_ble_eq_true rfl⟩) (q0 := 0) rfl rfl rfl hl.1 rfl (Nat.le_of_ble_eq_true rfl) (Nat.zero_le _) (Nat.zero_le _) dX1_priority_20 (fun H locs hw => ?_)
    refine bx_top (y := 0) (rfl) ?_
    refine bz_eq (tgt := 43) S dX1_priority_23 (by decide) (fun c23 => ?_) (fun c23 => ?_)
    · refine lv_iconst (v := 0) S.1 S.2.1 dX1_priority_43 (by decide) ?_
      exact hret hw dX1_priority_44 (rfl) (congrArg (wM cZ cI a 1) (rfl))
    · exact absurd c23 (by decide)
  · exact absurd c12 (by decide)

theorem inX1_timer : ∀ w ∈ u_ws RX1 TX1 19, w ∈ wsX1_timer := fun _ h => List.mem_cons_of_mem _ (List.mem_append_right _ h)
theorem flX1_timer_35 : Cond.fieldLink RX1 35 "StandbyPairModel" "states" "[I" ∈ wsX1_timer := by decide +kernel
theorem flX1_timer_38 : Cond.fieldLink RX1 38 "StandbyPairModel" "timers" "[I" ∈ wsX1_timer := by decide +kernel
set_option maxHeartbeats 4000000 in
set_option maxRecDepth 100000 in
theorem kX1_timer (l : Launch) (D : va_G) (cZ cI : ClassId) (a : Nat → Nat) (th : Int32) (σ : sC) {r g : Nat} (hr : r < 4) (hg : g < 3) (ho : ¬ σ 10 (4 * g + r) = 0) : MI l yX1_timer wsX1_timer ({ frames := 3, cells := 0, slots := 0, locals := 63 } : Room) D (tyZ cZ cI) [.ref (a 0), .int (nI r), .int (nI g)] (wM cZ cI a th σ) (σ 11 (4 * g + r)) (wM cZ cI a 0 σ) := by
  refine MI.of (cc := cX1_timer) (maxL := 5) (ty := .int) (by decide) rfl (rfl) ⟨rfl, rfl⟩ (Nat.le_of_ble_eq_true rfl) ?_
  intro p e s m args below meth c A Q S hK hret ls hl hw
  replace hl : lv_has ls 5 [(0, .ref (a 0)), (1, .int (nI r)), (2, .int (nI g))] := hl
  replace S : CallFix p m c cX1_timer 5 s args wsX1_timer RX1 := S
  have hin := inX1_timer
  refine lv_iconst (v := 3) S.1 S.2.1 dX1_timer_0 (by decide) ?_
  refine lv_iload_n S.1 S.2.1 dX1_timer_1 rfl (lv_at hl 1 rfl) ?_
  refine lv_imul S.1 S.2.1 dX1_timer_2 ?_
  refine lv_iload_n S.1 S.2.1 dX1_timer_3 rfl (lv_at hl 2 rfl) ?_
  refine lv_iadd S.1 S.2.1 dX1_timer_4 ?_
  refine bx_top (y := nI (3 * r + g)) (ml3 hr hg) ?_
  refine lv_istore_n (lv' := [(3, .int (nI (3 * r + g))), (0, .ref (a 0)), (1, .int (nI r)), (2, .int (nI g))]) S.1 S.2.1 dX1_timer_5 rfl hl (by decide) rfl (fun ls hl => ?_)
  refine lv_iload_n S.1 S.2.1 dX1_timer_6 rfl (lv_at hl 2 rfl) ?_
  refine lv_iload_n S.1 S.2.1 dX1_timer_7 rfl (lv_at hl 3 rfl) ?_
  refine bc_si (As := [.int (nI r), .int (nI g)]) (rest := []) S hK hw (kX1_are l D _ (nI r) (nI g)) (va_cwS 2 S.2.2.2.2 gX1_timer_X1_are rfl rfl rfl (by decide +kernel) ⟨Nat.le_of_ble_eq_true rfl, Nat.le_of_ble_eq_true rfl⟩) rfl hl.1 rfl (Nat.le_of_ble_eq_true rfl) (Nat.zero_le _) (Nat.zero_le _) dX1_timer_8 (fun H locs hw => ?_)
  refine bx_top (y := 1) (are_1 hr hg) ?_
  refine lv_istore (lv' := [(4, .int 1), (3, .int (nI (3 * r + g))), (0, .ref (a 0)), (1, .int (nI r)), (2, .int (nI g))]) S.1 S.2.1 dX1_timer_11 hl (by decide) rfl (fun ls hl => ?_)
  refine lv_aload_n S.1 S.2.1 dX1_timer_13 rfl (lv_at hl 2 rfl) ?_
  refine lv_iload S.1 S.2.1 dX1_timer_14 (lv_at hl 0 rfl) ?_
  refine bz_ne (tgt := 23) S dX1_timer_16 (by decide) (fun c16 => ?_) (fun c16 => ?_)
  · refine lv_aload_n S.1 S.2.1 dX1_timer_23 rfl (lv_at hl 2 rfl) ?_
    refine bx_get S hK hin hw.1 0 rfl rfl 9 (by decide) flX1_timer_35 rfl dX1_timer_24 ?_
    refine lv_iload_n S.1 S.2.1 dX1_timer_27 rfl (lv_at hl 1 rfl) ?_
    refine bx_iald (v := σ 10 (4 * g + r)) S hK hw.1 9 1 rfl rfl (by omega) (by decide) (congrArg (σ 10) (pm_at (r := r) (g := g) (by omega) (by omega))) dX1_timer_28 ?_
    refine bz_ne (tgt := 36) S dX1_timer_29 (by decide) (fun c29 => ?_) (fun c29 => ?_)
    · refine lv_iconst (v := 0) S.1 S.2.1 dX1_timer_36 (by decide) ?_
      refine bc_vi (As := [.int 0]) (rest := []) S hK hw (kX1_goesWell l D cZ cI a th σ 0) (cwV 1 S.2.2.2.2 gX1_timer_X1_goesWell rfl rfl rfl (by decide +kernel) ⟨Nat.le_of_ble_eq_true rfl, Nat.le_of_ble_eq_true rfl⟩) (q0 := 0) rfl rfl rfl hl.1 rfl (Nat.le_of_ble_eq_true rfl) (Nat.zero_le _) (Nat.zero_le _) dX1_timer_37 (fun H locs hw => ?_)
      refine bx_top (y := 1) (rfl) ?_
      refine bz_eq (tgt := 52) S dX1_timer_40 (by decide) (fun c40 => ?_) (fun c40 => ?_)
      · exact absurd c40 (by decide)
      · refine lv_aload_n S.1 S.2.1 dX1_timer_43 rfl (lv_at hl 2 rfl) ?_
        refine bx_get S hK hin hw.1 0 rfl rfl 10 (by decide) flX1_timer_38 rfl dX1_timer_44 ?_
        refine lv_iload_n S.1 S.2.1 dX1_timer_47 rfl (lv_at hl 1 rfl) ?_
        refine bx_iald (v := σ 11 (4 * g + r)) S hK hw.1 10 1 rfl rfl (by omega) (by decide) (congrArg (σ 11) (pm_at (r := r) (g := g) (by omega) (by omega))) dX1_timer_48 ?_
        refine lv_goto (tgt := 53) S.1 S.2.1 dX1_timer_49 (by decide) ?_
        exact hret hw dX1_timer_53 (rfl) (congrArg (wM cZ cI a 0) (rfl))
    · exact absurd c29 ho
  · exact absurd c16 (by decide)

set_option maxHeartbeats 4000000 in
set_option maxRecDepth 100000 in
theorem kX1_timer_bad (l : Launch) (D : va_G) (cZ cI : ClassId) (a : Nat → Nat) (th : Int32) (σ : sC) (x y : Int32) (hb : arE x y = 0) : MI l yX1_timer wsX1_timer ({ frames := 3, cells := 0, slots := 0, locals := 63 } : Room) D (tyZ cZ cI) [.ref (a 0), .int x, .int y] (wM cZ cI a th σ) 0 (wM cZ cI a 1 σ) := by
  refine MI.of (cc := cX1_timer) (maxL := 5) (ty := .int) (by decide) rfl (rfl) ⟨rfl, rfl⟩ (Nat.le_of_ble_eq_true rfl) ?_
  intro p e s m args below meth c A Q S hK hret ls hl hw
  replace hl : lv_has ls 5 [(0, .ref (a 0)), (1, .int x), (2, .int y)] := hl
  replace S : CallFix p m c cX1_timer 5 s args wsX1_timer RX1 := S
  have hin := inX1_timer
  refine lv_iconst (v := 3) S.1 S.2.1 dX1_timer_0 (by decide) ?_
  refine lv_iload_n S.1 S.2.1 dX1_timer_1 rfl (lv_at hl 1 rfl) ?_
  refine lv_imul S.1 S.2.1 dX1_timer_2 ?_
  refine lv_iload_n S.1 S.2.1 dX1_timer_3 rfl (lv_at hl 2 rfl) ?_
  refine lv_iadd S.1 S.2.1 dX1_timer_4 ?_
  refine lv_istore_n (lv' := [(3, .int ((3 * x) + y)), (0, .ref (a 0)), (1, .int x), (2, .int y)]) S.1 S.2.1 dX1_timer_5 rfl hl (by decide) rfl (fun ls hl => ?_)
  refine lv_iload_n S.1 S.2.1 dX1_timer_6 rfl (lv_at hl 2 rfl) ?_
  refine lv_iload_n S.1 S.2.1 dX1_timer_7 rfl (lv_at hl 3 rfl) ?_
  refine bc_si (As := [.int x, .int y]) (rest := []) S hK hw (kX1_are l D _ x y) (va_cwS 2 S.2.2.2.2 gX1_timer_X1_are rfl rfl rfl (by decide +kernel) ⟨Nat.le_of_ble_eq_true rfl, Nat.le_of_ble_eq_true rfl⟩) rfl hl.1 rfl (Nat.le_of_ble_eq_true rfl) (Nat.zero_le _) (Nat.zero_le _) dX1_timer_8 (fun H locs hw => ?_)
  refine bx_top (y := 0) (hb) ?_
  refine lv_istore (lv' := [(4, .int 0), (3, .int ((3 * x) + y)), (0, .ref (a 0)), (1, .int x), (2, .int y)]) S.1 S.2.1 dX1_timer_11 hl (by decide) rfl (fun ls hl => ?_)
  refine lv_aload_n S.1 S.2.1 dX1_timer_13 rfl (lv_at hl 2 rfl) ?_
  refine lv_iload S.1 S.2.1 dX1_timer_14 (lv_at hl 0 rfl) ?_
  refine bz_ne (tgt := 23) S dX1_timer_16 (by decide) (fun c16 => ?_) (fun c16 => ?_)
  · exact absurd c16 (by decide)
  · refine lv_iconst (v := 1) S.1 S.2.1 dX1_timer_19 (by decide) ?_
    refine lv_goto (tgt := 37) S.1 S.2.1 dX1_timer_20 (by decide) ?_
    refine bc_vi (As := [.int 1]) (rest := []) S hK hw (kX1_goesWell l D cZ cI a th σ 1) (cwV 1 S.2.2.2.2 gX1_timer_X1_goesWell rfl rfl rfl (by decide +kernel) ⟨Nat.le_of_ble_eq_true rfl, Nat.le_of_ble_eq_true rfl⟩) (q0 := 0) rfl rfl rfl hl.1 rfl (Nat.le_of_ble_eq_true rfl) (Nat.zero_le _) (Nat.zero_le _) dX1_timer_37 (fun H locs hw => ?_)
    refine bx_top (y := 0) (rfl) ?_
    refine bz_eq (tgt := 52) S dX1_timer_40 (by decide) (fun c40 => ?_) (fun c40 => ?_)
    · refine lv_iconst (v := 0) S.1 S.2.1 dX1_timer_52 (by decide) ?_
      exact hret hw dX1_timer_53 (rfl) (congrArg (wM cZ cI a 1) (rfl))
    · exact absurd c40 (by decide)

set_option maxHeartbeats 4000000 in
set_option maxRecDepth 100000 in
theorem kX1_timer_bad2 (l : Launch) (D : va_G) (cZ cI : ClassId) (a : Nat → Nat) (th : Int32) (σ : sC) {r g : Nat} (hr : r < 4) (hg : g < 3) (ho : σ 10 (4 * g + r) = 0) : MI l yX1_timer wsX1_timer ({ frames := 3, cells := 0, slots := 0, locals := 63 } : Room) D (tyZ cZ cI) [.ref (a 0), .int (nI r), .int (nI g)] (wM cZ cI a th σ) 0 (wM cZ cI a 2 σ) := by
  refine MI.of (cc := cX1_timer) (maxL := 5) (ty := .int) (by decide) rfl (rfl) ⟨rfl, rfl⟩ (Nat.le_of_ble_eq_true rfl) ?_
  intro p e s m args below meth c A Q S hK hret ls hl hw
  replace hl : lv_has ls 5 [(0, .ref (a 0)), (1, .int (nI r)), (2, .int (nI g))] := hl
  replace S : CallFix p m c cX1_timer 5 s args wsX1_timer RX1 := S
  have hin := inX1_timer
  refine lv_iconst (v := 3) S.1 S.2.1 dX1_timer_0 (by decide) ?_
  refine lv_iload_n S.1 S.2.1 dX1_timer_1 rfl (lv_at hl 1 rfl) ?_
  refine lv_imul S.1 S.2.1 dX1_timer_2 ?_
  refine lv_iload_n S.1 S.2.1 dX1_timer_3 rfl (lv_at hl 2 rfl) ?_
  refine lv_iadd S.1 S.2.1 dX1_timer_4 ?_
  refine bx_top (y := nI (3 * r + g)) (ml3 hr hg) ?_
  refine lv_istore_n (lv' := [(3, .int (nI (3 * r + g))), (0, .ref (a 0)), (1, .int (nI r)), (2, .int (nI g))]) S.1 S.2.1 dX1_timer_5 rfl hl (by decide) rfl (fun ls hl => ?_)
  refine lv_iload_n S.1 S.2.1 dX1_timer_6 rfl (lv_at hl 2 rfl) ?_
  refine lv_iload_n S.1 S.2.1 dX1_timer_7 rfl (lv_at hl 3 rfl) ?_
  refine bc_si (As := [.int (nI r), .int (nI g)]) (rest := []) S hK hw (kX1_are l D _ (nI r) (nI g)) (va_cwS 2 S.2.2.2.2 gX1_timer_X1_are rfl rfl rfl (by decide +kernel) ⟨Nat.le_of_ble_eq_true rfl, Nat.le_of_ble_eq_true rfl⟩) rfl hl.1 rfl (Nat.le_of_ble_eq_true rfl) (Nat.zero_le _) (Nat.zero_le _) dX1_timer_8 (fun H locs hw => ?_)
  refine bx_top (y := 1) (are_1 hr hg) ?_
  refine lv_istore (lv' := [(4, .int 1), (3, .int (nI (3 * r + g))), (0, .ref (a 0)), (1, .int (nI r)), (2, .int (nI g))]) S.1 S.2.1 dX1_timer_11 hl (by decide) rfl (fun ls hl => ?_)
  refine lv_aload_n S.1 S.2.1 dX1_timer_13 rfl (lv_at hl 2 rfl) ?_
  refine lv_iload S.1 S.2.1 dX1_timer_14 (lv_at hl 0 rfl) ?_
  refine bz_ne (tgt := 23) S dX1_timer_16 (by decide) (fun c16 => ?_) (fun c16 => ?_)
  · refine lv_aload_n S.1 S.2.1 dX1_timer_23 rfl (lv_at hl 2 rfl) ?_
    refine bx_get S hK hin hw.1 0 rfl rfl 9 (by decide) flX1_timer_35 rfl dX1_timer_24 ?_
    refine lv_iload_n S.1 S.2.1 dX1_timer_27 rfl (lv_at hl 1 rfl) ?_
    refine bx_iald (v := σ 10 (4 * g + r)) S hK hw.1 9 1 rfl rfl (by omega) (by decide) (congrArg (σ 10) (pm_at (r := r) (g := g) (by omega) (by omega))) dX1_timer_28 ?_
    refine bz_ne (tgt := 36) S dX1_timer_29 (by decide) (fun c29 => ?_) (fun c29 => ?_)
    · exact absurd c29 (not_not_intro ho)
    · refine lv_iconst (v := 2) S.1 S.2.1 dX1_timer_32 (by decide) ?_
      refine lv_goto (tgt := 37) S.1 S.2.1 dX1_timer_33 (by decide) ?_
      refine bc_vi (As := [.int 2]) (rest := []) S hK hw (kX1_goesWell l D cZ cI a th σ 2) (cwV 1 S.2.2.2.2 gX1_timer_X1_goesWell rfl rfl rfl (by decide +kernel) ⟨Nat.le_of_ble_eq_true rfl, Nat.le_of_ble_eq_true rfl⟩) (q0 := 0) rfl rfl rfl hl.1 rfl (Nat.le_of_ble_eq_true rfl) (Nat.zero_le _) (Nat.zero_le _) dX1_timer_37 (fun H locs hw => ?_)
      refine bx_top (y := 0) (rfl) ?_
      refine bz_eq (tgt := 52) S dX1_timer_40 (by decide) (fun c40 => ?_) (fun c40 => ?_)
      · refine lv_iconst (v := 0) S.1 S.2.1 dX1_timer_52 (by decide) ?_
        exact hret hw dX1_timer_53 (rfl) (congrArg (wM cZ cI a 2) (rfl))
      · exact absurd c40 (by decide)
  · exact absurd c16 (by decide)

theorem inX1_masters : ∀ w ∈ u_ws RX1 TX1 19, w ∈ wsX1_masters := fun _ h => List.mem_cons_of_mem _ (List.mem_append_right _ h)
theorem flX1_masters_35 : Cond.fieldLink RX1 35 "StandbyPairModel" "states" "[I" ∈ wsX1_masters := by decide +kernel
set_option maxHeartbeats 4000000 in
set_option maxRecDepth 100000 in
theorem kX1_masters (l : Launch) (D : va_G) (cZ cI : ClassId) (a : Nat → Nat) (th : Int32) (σ : sC) {g : Nat} (hg : g < 3) : MI l yX1_masters wsX1_masters ({ frames := 2, cells := 0, slots := 0, locals := 42 } : Room) D (tyZ cZ cI) [.ref (a 0), .int (nI g)] (wM cZ cI a th σ) (memW σ 2 g) (wM cZ cI a 0 σ) := by
  refine MI.of (cc := cX1_masters) (maxL := 4) (ty := .int) (by decide) rfl (rfl) ⟨rfl, rfl⟩ (Nat.le_of_ble_eq_true rfl) ?_
  intro p e s m args below meth c A Q S hK hret ls hl hw
  replace hl : lv_has ls 4 [(0, .ref (a 0)), (1, .int (nI g))] := hl
  replace S : CallFix p m c cX1_masters 4 s args wsX1_masters RX1 := S
  have hin := inX1_masters
  refine lv_aload_n S.1 S.2.1 dX1_masters_0 rfl (lv_at hl 0 rfl) ?_
  refine lv_iload_n S.1 S.2.1 dX1_masters_1 rfl (lv_at hl 1 rfl) ?_
  refine bc_si (As := [.int (nI g)]) (rest := [.ref (a 0)]) S hK hw (kX1_isGroup l D _ (nI g)) (va_cwS 1 S.2.2.2.2 gX1_masters_X1_isGroup rfl rfl rfl (by decide +kernel) ⟨Nat.le_of_ble_eq_true rfl, Nat.le_of_ble_eq_true rfl⟩) rfl hl.1 rfl (Nat.le_of_ble_eq_true rfl) (Nat.zero_le _) (Nat.zero_le _) dX1_masters_2 (fun H locs hw => ?_)
  refine bx_top (y := 1) (in_g hg) ?_
  refine bz_eq (tgt := 12) S dX1_masters_5 (by decide) (fun c5 => ?_) (fun c5 => ?_)
  · exact absurd c5 (by decide)
  · refine lv_iconst (v := 0) S.1 S.2.1 dX1_masters_8 (by decide) ?_
    refine lv_goto (tgt := 13) S.1 S.2.1 dX1_masters_9 (by decide) ?_
    refine bc_vi (As := [.int 0]) (rest := []) S hK hw (kX1_goesWell l D cZ cI a th σ 0) (cwV 1 S.2.2.2.2 gX1_masters_X1_goesWell rfl rfl rfl (by decide +kernel) ⟨Nat.le_of_ble_eq_true rfl, Nat.le_of_ble_eq_true rfl⟩) (q0 := 0) rfl rfl rfl hl.1 rfl (Nat.le_of_ble_eq_true rfl) (Nat.zero_le _) (Nat.zero_le _) dX1_masters_13 (fun H locs hw => ?_)
    refine bx_top (y := 1) (rfl) ?_
    refine bz_ne (tgt := 21) S dX1_masters_16 (by decide) (fun c16 => ?_) (fun c16 => ?_)
    · refine lv_iconst (v := 0) S.1 S.2.1 dX1_masters_21 (by decide) ?_
      refine lv_istore_n (lv' := [(2, .int 0), (0, .ref (a 0)), (1, .int (nI g))]) S.1 S.2.1 dX1_masters_22 rfl hl (by decide) rfl (fun ls hl => ?_)
      refine lv_iconst (v := nI 0) S.1 S.2.1 dX1_masters_23 (by decide) ?_
      refine lv_istore_n (lv' := [(3, .int (nI 0)), (2, .int 0), (0, .ref (a 0)), (1, .int (nI g))]) S.1 S.2.1 dX1_masters_24 rfl hl (by decide) rfl (fun ls hl => ?_)
      have L25 : ∀ (n i25 : Nat), i25 + n = 4 → ∀ (H : Heap) (locs : List Loc), Wd D A s.heap (wM cZ cI a 0 σ) H locs → ∀ ls : Array Slot, lv_has ls 4 [(0, .ref (a 0)), (1, .int (nI g)), (2, .int (itF (memS σ 2 g) 0 i25)), (3, .int (nI i25))] → W p l e ({ frames := 2, cells := 0, slots := 0, locals := 42 } : Room) s m args below meth c H locs 0 0 Q (F0 m 25 ls []) := by
        intro n
        induction n with
        | zero =>
          intro i25 hi H locs hw ls hl
          obtain rfl : i25 = 4 := by omega
          refine lv_iload_n S.1 S.2.1 dX1_masters_25 rfl (lv_at hl 3 rfl) ?_
          refine lv_iconst (v := nI 4) S.1 S.2.1 dX1_masters_26 (by decide) ?_
          refine br_ge (tgt := 60) S dX1_masters_27 (by decide) (fun c27 => ?_) (fun c27 => ?_)
          · refine lv_iload_n S.1 S.2.1 dX1_masters_60 rfl (lv_at hl 2 rfl) ?_
            exact hret hw dX1_masters_61 (rfl) (congrArg (wM cZ cI a 0) (rfl))
          · exact absurd c27 (nlt_nI (by decide))
        | succ n ih_25 =>
          intro i25 hi H locs hw ls hl
          have hi25 : i25 < 4 := by omega
          refine lv_iload_n S.1 S.2.1 dX1_masters_25 rfl (lv_at hl 3 rfl) ?_
          refine lv_iconst (v := nI 4) S.1 S.2.1 dX1_masters_26 (by decide) ?_
          refine br_ge (tgt := 60) S dX1_masters_27 (by decide) (fun c27 => ?_) (fun c27 => ?_)
          · exact absurd c27 (not_not_intro (lt_nI hi25 (by decide)))
          · refine lv_iload_n S.1 S.2.1 dX1_masters_30 rfl (lv_at hl 2 rfl) ?_
            refine lv_aload_n S.1 S.2.1 dX1_masters_31 rfl (lv_at hl 0 rfl) ?_
            refine bx_get S hK hin hw.1 0 rfl rfl 9 (by decide) flX1_masters_35 rfl dX1_masters_32 ?_
            refine lv_iconst (v := 3) S.1 S.2.1 dX1_masters_35 (by decide) ?_
            refine lv_iload_n S.1 S.2.1 dX1_masters_36 rfl (lv_at hl 3 rfl) ?_
            refine lv_imul S.1 S.2.1 dX1_masters_37 ?_
            refine lv_iload_n S.1 S.2.1 dX1_masters_38 rfl (lv_at hl 1 rfl) ?_
            refine lv_iadd S.1 S.2.1 dX1_masters_39 ?_
            refine bx_top (y := nI (3 * i25 + g)) (ml3 (by omega) hg) ?_
            refine bx_iald (v := σ 10 (4 * g + i25)) S hK hw.1 9 1 rfl rfl (by omega) (by decide) (congrArg (σ 10) (pm_at (r := i25) (g := g) (by omega) (by omega))) dX1_masters_40 ?_
            refine lv_iconst (v := 2) S.1 S.2.1 dX1_masters_41 (by decide) ?_
            refine br_ne (tgt := 51) S dX1_masters_42 (by decide) (fun c42 => ?_) (fun c42 => ?_)
            · refine lv_iconst (v := 0) S.1 S.2.1 dX1_masters_51 (by decide) ?_
              refine lv_iadd S.1 S.2.1 dX1_masters_52 ?_
              refine lv_istore_n (lv' := [(2, .int ((itF (memS σ 2 g) 0 i25) + 0)), (0, .ref (a 0)), (1, .int (nI g)), (3, .int (nI i25))]) S.1 S.2.1 dX1_masters_53 rfl hl (by decide) rfl (fun ls hl => ?_)
              refine lv_iinc (v := nI (i25 + 1)) (lv' := [(3, .int (nI (i25 + 1))), (2, .int ((itF (memS σ 2 g) 0 i25) + 0)), (0, .ref (a 0)), (1, .int (nI g))]) S.1 S.2.1 dX1_masters_54 hl (k := 3) rfl (nI_1 i25) (by decide) rfl (fun ls hl => ?_)
              refine lv_goto (tgt := 25) S.1 S.2.1 dX1_masters_57 (by decide) ?_
              have ea : itF (memS σ 2 g) 0 (i25 + 1) = (itF (memS σ 2 g) 0 i25) + 0 := by simp only [itF, memS, eq_true c27, eq_false c42, ↓reduceIte, Int32.add_zero]
              exact ih_25 (i25 + 1) (by omega) _ _ hw _ (by rw [ea]; exact lv_sub hl [2, 3, 1, 0] rfl)
            · refine lv_iconst (v := (1 : Int32)) S.1 S.2.1 dX1_masters_45 (by decide) ?_
              refine lv_iload_n S.1 S.2.1 dX1_masters_46 rfl (lv_at hl 3 rfl) ?_
              refine lv_ishl S.1 S.2.1 dX1_masters_47 ?_
              refine lv_goto (tgt := 52) S.1 S.2.1 dX1_masters_48 (by decide) ?_
              refine lv_iadd S.1 S.2.1 dX1_masters_52 ?_
              refine lv_istore_n (lv' := [(2, .int ((itF (memS σ 2 g) 0 i25) + ((1 : Int32) <<< ((nI i25) &&& 31)))), (0, .ref (a 0)), (1, .int (nI g)), (3, .int (nI i25))]) S.1 S.2.1 dX1_masters_53 rfl hl (by decide) rfl (fun ls hl => ?_)
              refine lv_iinc (v := nI (i25 + 1)) (lv' := [(3, .int (nI (i25 + 1))), (2, .int ((itF (memS σ 2 g) 0 i25) + ((1 : Int32) <<< ((nI i25) &&& 31)))), (0, .ref (a 0)), (1, .int (nI g))]) S.1 S.2.1 dX1_masters_54 hl (k := 3) rfl (nI_1 i25) (by decide) rfl (fun ls hl => ?_)
              refine lv_goto (tgt := 25) S.1 S.2.1 dX1_masters_57 (by decide) ?_
              have ea : itF (memS σ 2 g) 0 (i25 + 1) = (itF (memS σ 2 g) 0 i25) + ((1 : Int32) <<< ((nI i25) &&& 31)) := by simp only [itF, memS, eq_true c27, eq_true c42, ↓reduceIte, Int32.add_zero]
              exact ih_25 (i25 + 1) (by omega) _ _ hw _ (by rw [ea]; exact lv_sub hl [2, 3, 1, 0] rfl)
      exact L25 (4 - 0) 0 (by omega) _ _ hw _ (lv_sub hl [2, 3, 1, 0] rfl)
    · exact absurd c16 (by decide)

set_option maxHeartbeats 4000000 in
set_option maxRecDepth 100000 in
theorem kX1_masters_bad (l : Launch) (D : va_G) (cZ cI : ClassId) (a : Nat → Nat) (th : Int32) (σ : sC) (x : Int32) (hb : inB x 0 2 = 0) : MI l yX1_masters wsX1_masters ({ frames := 2, cells := 0, slots := 0, locals := 42 } : Room) D (tyZ cZ cI) [.ref (a 0), .int x] (wM cZ cI a th σ) 0 (wM cZ cI a 1 σ) := by
  refine MI.of (cc := cX1_masters) (maxL := 4) (ty := .int) (by decide) rfl (rfl) ⟨rfl, rfl⟩ (Nat.le_of_ble_eq_true rfl) ?_
  intro p e s m args below meth c A Q S hK hret ls hl hw
  replace hl : lv_has ls 4 [(0, .ref (a 0)), (1, .int x)] := hl
  replace S : CallFix p m c cX1_masters 4 s args wsX1_masters RX1 := S
  have hin := inX1_masters
  refine lv_aload_n S.1 S.2.1 dX1_masters_0 rfl (lv_at hl 0 rfl) ?_
  refine lv_iload_n S.1 S.2.1 dX1_masters_1 rfl (lv_at hl 1 rfl) ?_
  refine bc_si (As := [.int x]) (rest := [.ref (a 0)]) S hK hw (kX1_isGroup l D _ x) (va_cwS 1 S.2.2.2.2 gX1_masters_X1_isGroup rfl rfl rfl (by decide +kernel) ⟨Nat.le_of_ble_eq_true rfl, Nat.le_of_ble_eq_true rfl⟩) rfl hl.1 rfl (Nat.le_of_ble_eq_true rfl) (Nat.zero_le _) (Nat.zero_le _) dX1_masters_2 (fun H locs hw => ?_)
  refine bx_top (y := 0) (hb) ?_
  refine bz_eq (tgt := 12) S dX1_masters_5 (by decide) (fun c5 => ?_) (fun c5 => ?_)
  · refine lv_iconst (v := 1) S.1 S.2.1 dX1_masters_12 (by decide) ?_
    refine bc_vi (As := [.int 1]) (rest := []) S hK hw (kX1_goesWell l D cZ cI a th σ 1) (cwV 1 S.2.2.2.2 gX1_masters_X1_goesWell rfl rfl rfl (by decide +kernel) ⟨Nat.le_of_ble_eq_true rfl, Nat.le_of_ble_eq_true rfl⟩) (q0 := 0) rfl rfl rfl hl.1 rfl (Nat.le_of_ble_eq_true rfl) (Nat.zero_le _) (Nat.zero_le _) dX1_masters_13 (fun H locs hw => ?_)
    refine bx_top (y := 0) (rfl) ?_
    refine bz_ne (tgt := 21) S dX1_masters_16 (by decide) (fun c16 => ?_) (fun c16 => ?_)
    · exact absurd c16 (by decide)
    · refine lv_iconst (v := 0) S.1 S.2.1 dX1_masters_19 (by decide) ?_
      exact hret hw dX1_masters_20 (rfl) (congrArg (wM cZ cI a 1) (rfl))
  · exact absurd c5 (by decide)

theorem inX1_gaps : ∀ w ∈ u_ws RX1 TX1 19, w ∈ wsX1_gaps := fun _ h => List.mem_cons_of_mem _ (List.mem_append_right _ h)
theorem flX1_gaps_53 : Cond.fieldLink RX1 53 "StandbyPairModel" "gaps" "[I" ∈ wsX1_gaps := by decide +kernel
set_option maxHeartbeats 4000000 in
set_option maxRecDepth 100000 in
theorem kX1_gaps (l : Launch) (D : va_G) (cZ cI : ClassId) (a : Nat → Nat) (th : Int32) (σ : sC) {g : Nat} (hg : g < 3) : MI l yX1_gaps wsX1_gaps ({ frames := 2, cells := 0, slots := 0, locals := 42 } : Room) D (tyZ cZ cI) [.ref (a 0), .int (nI g)] (wM cZ cI a th σ) (σ 7 g) (wM cZ cI a 0 σ) := by
  refine MI.of (cc := cX1_gaps) (maxL := 2) (ty := .int) (by decide) rfl (rfl) ⟨rfl, rfl⟩ (Nat.le_of_ble_eq_true rfl) ?_
  intro p e s m args below meth c A Q S hK hret ls hl hw
  replace hl : lv_has ls 2 [(0, .ref (a 0)), (1, .int (nI g))] := hl
  replace S : CallFix p m c cX1_gaps 2 s args wsX1_gaps RX1 := S
  have hin := inX1_gaps
  refine lv_aload_n S.1 S.2.1 dX1_gaps_0 rfl (lv_at hl 0 rfl) ?_
  refine lv_iload_n S.1 S.2.1 dX1_gaps_1 rfl (lv_at hl 1 rfl) ?_
  refine bc_si (As := [.int (nI g)]) (rest := [.ref (a 0)]) S hK hw (kX1_isGroup l D _ (nI g)) (va_cwS 1 S.2.2.2.2 gX1_gaps_X1_isGroup rfl rfl rfl (by decide +kernel) ⟨Nat.le_of_ble_eq_true rfl, Nat.le_of_ble_eq_true rfl⟩) rfl hl.1 rfl (Nat.le_of_ble_eq_true rfl) (Nat.zero_le _) (Nat.zero_le _) dX1_gaps_2 (fun H locs hw => ?_)
  refine bx_top (y := 1) (in_g hg) ?_
  refine bz_eq (tgt := 12) S dX1_gaps_5 (by decide) (fun c5 => ?_) (fun c5 => ?_)
  · exact absurd c5 (by decide)
  · refine lv_iconst (v := 0) S.1 S.2.1 dX1_gaps_8 (by decide) ?_
    refine lv_goto (tgt := 13) S.1 S.2.1 dX1_gaps_9 (by decide) ?_
    refine bc_vi (As := [.int 0]) (rest := []) S hK hw (kX1_goesWell l D cZ cI a th σ 0) (cwV 1 S.2.2.2.2 gX1_gaps_X1_goesWell rfl rfl rfl (by decide +kernel) ⟨Nat.le_of_ble_eq_true rfl, Nat.le_of_ble_eq_true rfl⟩) (q0 := 0) rfl rfl rfl hl.1 rfl (Nat.le_of_ble_eq_true rfl) (Nat.zero_le _) (Nat.zero_le _) dX1_gaps_13 (fun H locs hw => ?_)
    refine bx_top (y := 1) (rfl) ?_
    refine bz_eq (tgt := 28) S dX1_gaps_16 (by decide) (fun c16 => ?_) (fun c16 => ?_)
    · exact absurd c16 (by decide)
    · refine lv_aload_n S.1 S.2.1 dX1_gaps_19 rfl (lv_at hl 0 rfl) ?_
      refine bx_get S hK hin hw.1 0 rfl rfl 15 (by decide) flX1_gaps_53 rfl dX1_gaps_20 ?_
      refine lv_iload_n S.1 S.2.1 dX1_gaps_23 rfl (lv_at hl 1 rfl) ?_
      refine bx_iald (v := σ 7 g) S hK hw.1 15 1 rfl rfl (by omega) (by decide) rfl dX1_gaps_24 ?_
      refine lv_goto (tgt := 29) S.1 S.2.1 dX1_gaps_25 (by decide) ?_
      exact hret hw dX1_gaps_29 (rfl) (congrArg (wM cZ cI a 0) (rfl))

set_option maxHeartbeats 4000000 in
set_option maxRecDepth 100000 in
theorem kX1_gaps_bad (l : Launch) (D : va_G) (cZ cI : ClassId) (a : Nat → Nat) (th : Int32) (σ : sC) (x : Int32) (hb : inB x 0 2 = 0) : MI l yX1_gaps wsX1_gaps ({ frames := 2, cells := 0, slots := 0, locals := 42 } : Room) D (tyZ cZ cI) [.ref (a 0), .int x] (wM cZ cI a th σ) 0 (wM cZ cI a 1 σ) := by
  refine MI.of (cc := cX1_gaps) (maxL := 2) (ty := .int) (by decide) rfl (rfl) ⟨rfl, rfl⟩ (Nat.le_of_ble_eq_true rfl) ?_
  intro p e s m args below meth c A Q S hK hret ls hl hw
  replace hl : lv_has ls 2 [(0, .ref (a 0)), (1, .int x)] := hl
  replace S : CallFix p m c cX1_gaps 2 s args wsX1_gaps RX1 := S
  have hin := inX1_gaps
  refine lv_aload_n S.1 S.2.1 dX1_gaps_0 rfl (lv_at hl 0 rfl) ?_
  refine lv_iload_n S.1 S.2.1 dX1_gaps_1 rfl (lv_at hl 1 rfl) ?_
  refine bc_si (As := [.int x]) (rest := [.ref (a 0)]) S hK hw (kX1_isGroup l D _ x) (va_cwS 1 S.2.2.2.2 gX1_gaps_X1_isGroup rfl rfl rfl (by decide +kernel) ⟨Nat.le_of_ble_eq_true rfl, Nat.le_of_ble_eq_true rfl⟩) rfl hl.1 rfl (Nat.le_of_ble_eq_true rfl) (Nat.zero_le _) (Nat.zero_le _) dX1_gaps_2 (fun H locs hw => ?_)
  refine bx_top (y := 0) (hb) ?_
  refine bz_eq (tgt := 12) S dX1_gaps_5 (by decide) (fun c5 => ?_) (fun c5 => ?_)
  · refine lv_iconst (v := 1) S.1 S.2.1 dX1_gaps_12 (by decide) ?_
    refine bc_vi (As := [.int 1]) (rest := []) S hK hw (kX1_goesWell l D cZ cI a th σ 1) (cwV 1 S.2.2.2.2 gX1_gaps_X1_goesWell rfl rfl rfl (by decide +kernel) ⟨Nat.le_of_ble_eq_true rfl, Nat.le_of_ble_eq_true rfl⟩) (q0 := 0) rfl rfl rfl hl.1 rfl (Nat.le_of_ble_eq_true rfl) (Nat.zero_le _) (Nat.zero_le _) dX1_gaps_13 (fun H locs hw => ?_)
    refine bx_top (y := 0) (rfl) ?_
    refine bz_eq (tgt := 28) S dX1_gaps_16 (by decide) (fun c16 => ?_) (fun c16 => ?_)
    · refine lv_iconst (v := 0) S.1 S.2.1 dX1_gaps_28 (by decide) ?_
      exact hret hw dX1_gaps_29 (rfl) (congrArg (wM cZ cI a 1) (rfl))
    · exact absurd c16 (by decide)
  · exact absurd c5 (by decide)

theorem inX1_sent : ∀ w ∈ u_ws RX1 TX1 19, w ∈ wsX1_sent := fun _ h => List.mem_cons_of_mem _ (List.mem_append_right _ h)
theorem flX1_sent_56 : Cond.fieldLink RX1 56 "StandbyPairModel" "sent" "[I" ∈ wsX1_sent := by decide +kernel
set_option maxHeartbeats 4000000 in
set_option maxRecDepth 100000 in
theorem kX1_sent (l : Launch) (D : va_G) (cZ cI : ClassId) (a : Nat → Nat) (th : Int32) (σ : sC) {g : Nat} (hg : g < 3) : MI l yX1_sent wsX1_sent ({ frames := 2, cells := 0, slots := 0, locals := 42 } : Room) D (tyZ cZ cI) [.ref (a 0), .int (nI g)] (wM cZ cI a th σ) (σ 8 g) (wM cZ cI a 0 σ) := by
  refine MI.of (cc := cX1_sent) (maxL := 2) (ty := .int) (by decide) rfl (rfl) ⟨rfl, rfl⟩ (Nat.le_of_ble_eq_true rfl) ?_
  intro p e s m args below meth c A Q S hK hret ls hl hw
  replace hl : lv_has ls 2 [(0, .ref (a 0)), (1, .int (nI g))] := hl
  replace S : CallFix p m c cX1_sent 2 s args wsX1_sent RX1 := S
  have hin := inX1_sent
  refine lv_aload_n S.1 S.2.1 dX1_sent_0 rfl (lv_at hl 0 rfl) ?_
  refine lv_iload_n S.1 S.2.1 dX1_sent_1 rfl (lv_at hl 1 rfl) ?_
  refine bc_si (As := [.int (nI g)]) (rest := [.ref (a 0)]) S hK hw (kX1_isGroup l D _ (nI g)) (va_cwS 1 S.2.2.2.2 gX1_sent_X1_isGroup rfl rfl rfl (by decide +kernel) ⟨Nat.le_of_ble_eq_true rfl, Nat.le_of_ble_eq_true rfl⟩) rfl hl.1 rfl (Nat.le_of_ble_eq_true rfl) (Nat.zero_le _) (Nat.zero_le _) dX1_sent_2 (fun H locs hw => ?_)
  refine bx_top (y := 1) (in_g hg) ?_
  refine bz_eq (tgt := 12) S dX1_sent_5 (by decide) (fun c5 => ?_) (fun c5 => ?_)
  · exact absurd c5 (by decide)
  · refine lv_iconst (v := 0) S.1 S.2.1 dX1_sent_8 (by decide) ?_
    refine lv_goto (tgt := 13) S.1 S.2.1 dX1_sent_9 (by decide) ?_
    refine bc_vi (As := [.int 0]) (rest := []) S hK hw (kX1_goesWell l D cZ cI a th σ 0) (cwV 1 S.2.2.2.2 gX1_sent_X1_goesWell rfl rfl rfl (by decide +kernel) ⟨Nat.le_of_ble_eq_true rfl, Nat.le_of_ble_eq_true rfl⟩) (q0 := 0) rfl rfl rfl hl.1 rfl (Nat.le_of_ble_eq_true rfl) (Nat.zero_le _) (Nat.zero_le _) dX1_sent_13 (fun H locs hw => ?_)
    refine bx_top (y := 1) (rfl) ?_
    refine bz_eq (tgt := 28) S dX1_sent_16 (by decide) (fun c16 => ?_) (fun c16 => ?_)
    · exact absurd c16 (by decide)
    · refine lv_aload_n S.1 S.2.1 dX1_sent_19 rfl (lv_at hl 0 rfl) ?_
      refine bx_get S hK hin hw.1 0 rfl rfl 16 (by decide) flX1_sent_56 rfl dX1_sent_20 ?_
      refine lv_iload_n S.1 S.2.1 dX1_sent_23 rfl (lv_at hl 1 rfl) ?_
      refine bx_iald (v := σ 8 g) S hK hw.1 16 1 rfl rfl (by omega) (by decide) rfl dX1_sent_24 ?_
      refine lv_goto (tgt := 29) S.1 S.2.1 dX1_sent_25 (by decide) ?_
      exact hret hw dX1_sent_29 (rfl) (congrArg (wM cZ cI a 0) (rfl))

set_option maxHeartbeats 4000000 in
set_option maxRecDepth 100000 in
theorem kX1_sent_bad (l : Launch) (D : va_G) (cZ cI : ClassId) (a : Nat → Nat) (th : Int32) (σ : sC) (x : Int32) (hb : inB x 0 2 = 0) : MI l yX1_sent wsX1_sent ({ frames := 2, cells := 0, slots := 0, locals := 42 } : Room) D (tyZ cZ cI) [.ref (a 0), .int x] (wM cZ cI a th σ) 0 (wM cZ cI a 1 σ) := by
  refine MI.of (cc := cX1_sent) (maxL := 2) (ty := .int) (by decide) rfl (rfl) ⟨rfl, rfl⟩ (Nat.le_of_ble_eq_true rfl) ?_
  intro p e s m args below meth c A Q S hK hret ls hl hw
  replace hl : lv_has ls 2 [(0, .ref (a 0)), (1, .int x)] := hl
  replace S : CallFix p m c cX1_sent 2 s args wsX1_sent RX1 := S
  have hin := inX1_sent
  refine lv_aload_n S.1 S.2.1 dX1_sent_0 rfl (lv_at hl 0 rfl) ?_
  refine lv_iload_n S.1 S.2.1 dX1_sent_1 rfl (lv_at hl 1 rfl) ?_
  refine bc_si (As := [.int x]) (rest := [.ref (a 0)]) S hK hw (kX1_isGroup l D _ x) (va_cwS 1 S.2.2.2.2 gX1_sent_X1_isGroup rfl rfl rfl (by decide +kernel) ⟨Nat.le_of_ble_eq_true rfl, Nat.le_of_ble_eq_true rfl⟩) rfl hl.1 rfl (Nat.le_of_ble_eq_true rfl) (Nat.zero_le _) (Nat.zero_le _) dX1_sent_2 (fun H locs hw => ?_)
  refine bx_top (y := 0) (hb) ?_
  refine bz_eq (tgt := 12) S dX1_sent_5 (by decide) (fun c5 => ?_) (fun c5 => ?_)
  · refine lv_iconst (v := 1) S.1 S.2.1 dX1_sent_12 (by decide) ?_
    refine bc_vi (As := [.int 1]) (rest := []) S hK hw (kX1_goesWell l D cZ cI a th σ 1) (cwV 1 S.2.2.2.2 gX1_sent_X1_goesWell rfl rfl rfl (by decide +kernel) ⟨Nat.le_of_ble_eq_true rfl, Nat.le_of_ble_eq_true rfl⟩) (q0 := 0) rfl rfl rfl hl.1 rfl (Nat.le_of_ble_eq_true rfl) (Nat.zero_le _) (Nat.zero_le _) dX1_sent_13 (fun H locs hw => ?_)
    refine bx_top (y := 0) (rfl) ?_
    refine bz_eq (tgt := 28) S dX1_sent_16 (by decide) (fun c16 => ?_) (fun c16 => ?_)
    · refine lv_iconst (v := 0) S.1 S.2.1 dX1_sent_28 (by decide) ?_
      exact hret hw dX1_sent_29 (rfl) (congrArg (wM cZ cI a 1) (rfl))
    · exact absurd c16 (by decide)
  · exact absurd c5 (by decide)

theorem inX1_repairs : ∀ w ∈ u_ws RX1 TX1 19, w ∈ wsX1_repairs := fun _ h => List.mem_cons_of_mem _ (List.mem_append_right _ h)
theorem flX1_repairs_59 : Cond.fieldLink RX1 59 "StandbyPairModel" "thrown" "I" ∈ wsX1_repairs := by decide +kernel
theorem flX1_repairs_81 : Cond.fieldLink RX1 81 "StandbyPairModel" "repairs" "I" ∈ wsX1_repairs := by decide +kernel
set_option maxHeartbeats 4000000 in
set_option maxRecDepth 100000 in
theorem kX1_repairs (l : Launch) (D : va_G) (cZ cI : ClassId) (a : Nat → Nat) (th : Int32) (σ : sC)  : MI l yX1_repairs wsX1_repairs ({ frames := 0, cells := 0, slots := 0, locals := 0 } : Room) D (tyZ cZ cI) [.ref (a 0)] (wM cZ cI a th σ) (σ 16 0) (wM cZ cI a 0 σ) := by
  refine MI.of (cc := cX1_repairs) (maxL := 1) (ty := .int) (by decide) rfl (rfl) ⟨rfl, rfl⟩ (Nat.le_of_ble_eq_true rfl) ?_
  intro p e s m args below meth c A Q S hK hret ls hl hw
  replace hl : lv_has ls 1 [(0, .ref (a 0))] := hl
  replace S : CallFix p m c cX1_repairs 1 s args wsX1_repairs RX1 := S
  have hin := inX1_repairs
  refine lv_aload_n S.1 S.2.1 dX1_repairs_0 rfl (lv_at hl 0 rfl) ?_
  refine lv_iconst (v := 0) S.1 S.2.1 dX1_repairs_1 (by decide) ?_
  refine bx_put S hK hin tyX1 tyX1_ok nmX1 hw 0 rfl rfl 0 (by decide) flX1_repairs_59 rfl (by decide +kernel) (Nat.le_of_ble_eq_true rfl) (wM_th cZ cI a th σ 0) dX1_repairs_2 (fun H locs hw => ?_)
  refine lv_aload_n S.1 S.2.1 dX1_repairs_5 rfl (lv_at hl 0 rfl) ?_
  refine bx_get S hK hin hw.1 0 rfl rfl 17 (by decide) flX1_repairs_81 rfl dX1_repairs_6 ?_
  exact hret hw dX1_repairs_9 (rfl) (congrArg (wM cZ cI a 0) (rfl))

theorem inX1_isSettled : ∀ w ∈ u_ws RX1 TX1 19, w ∈ wsX1_isSettled := fun _ h => List.mem_cons_of_mem _ (List.mem_append_right _ h)
theorem flX1_isSettled_35 : Cond.fieldLink RX1 35 "StandbyPairModel" "states" "[I" ∈ wsX1_isSettled := by decide +kernel
theorem flX1_isSettled_23 : Cond.fieldLink RX1 23 "StandbyPairModel" "isCut" "[Z" ∈ wsX1_isSettled := by decide +kernel
set_option maxHeartbeats 4000000 in
set_option maxRecDepth 100000 in
theorem kX1_isSettled (l : Launch) (D : va_G) (cZ cI : ClassId) (a : Nat → Nat) (th : Int32) (σ : sC) {g : Nat} (hg : g < 3) : MI l yX1_isSettled wsX1_isSettled ({ frames := 2, cells := 0, slots := 0, locals := 42 } : Room) D (tyZ cZ cI) [.ref (a 0), .int (nI g)] (wM cZ cI a th σ) (setlM σ g) (wM cZ cI a 0 σ) := by
  refine MI.of (cc := cX1_isSettled) (maxL := 7) (ty := .boolean) (by decide) rfl (nar_z (setlM_z σ g)) ⟨rfl, rfl⟩ (Nat.le_of_ble_eq_true rfl) ?_
  intro p e s m args below meth c A Q S hK hret ls hl hw
  replace hl : lv_has ls 7 [(0, .ref (a 0)), (1, .int (nI g))] := hl
  replace S : CallFix p m c cX1_isSettled 7 s args wsX1_isSettled RX1 := S
  have hin := inX1_isSettled
  refine lv_aload_n S.1 S.2.1 dX1_isSettled_0 rfl (lv_at hl 0 rfl) ?_
  refine lv_iload_n S.1 S.2.1 dX1_isSettled_1 rfl (lv_at hl 1 rfl) ?_
  refine bc_si (As := [.int (nI g)]) (rest := [.ref (a 0)]) S hK hw (kX1_isGroup l D _ (nI g)) (va_cwS 1 S.2.2.2.2 gX1_isSettled_X1_isGroup rfl rfl rfl (by decide +kernel) ⟨Nat.le_of_ble_eq_true rfl, Nat.le_of_ble_eq_true rfl⟩) rfl hl.1 rfl (Nat.le_of_ble_eq_true rfl) (Nat.zero_le _) (Nat.zero_le _) dX1_isSettled_2 (fun H locs hw => ?_)
  refine bx_top (y := 1) (in_g hg) ?_
  refine bz_eq (tgt := 12) S dX1_isSettled_5 (by decide) (fun c5 => ?_) (fun c5 => ?_)
  · exact absurd c5 (by decide)
  · refine lv_iconst (v := 0) S.1 S.2.1 dX1_isSettled_8 (by decide) ?_
    refine lv_goto (tgt := 13) S.1 S.2.1 dX1_isSettled_9 (by decide) ?_
    refine bc_vi (As := [.int 0]) (rest := []) S hK hw (kX1_goesWell l D cZ cI a th σ 0) (cwV 1 S.2.2.2.2 gX1_isSettled_X1_goesWell rfl rfl rfl (by decide +kernel) ⟨Nat.le_of_ble_eq_true rfl, Nat.le_of_ble_eq_true rfl⟩) (q0 := 0) rfl rfl rfl hl.1 rfl (Nat.le_of_ble_eq_true rfl) (Nat.zero_le _) (Nat.zero_le _) dX1_isSettled_13 (fun H locs hw => ?_)
    refine bx_top (y := 1) (rfl) ?_
    refine bz_ne (tgt := 21) S dX1_isSettled_16 (by decide) (fun c16 => ?_) (fun c16 => ?_)
    · refine lv_iconst (v := 0) S.1 S.2.1 dX1_isSettled_21 (by decide) ?_
      refine lv_istore_n (lv' := [(2, .int 0), (0, .ref (a 0)), (1, .int (nI g))]) S.1 S.2.1 dX1_isSettled_22 rfl hl (by decide) rfl (fun ls hl => ?_)
      refine lv_iconst (v := 1) S.1 S.2.1 dX1_isSettled_23 (by decide) ?_
      refine lv_istore_n (lv' := [(3, .int 1), (2, .int 0), (0, .ref (a 0)), (1, .int (nI g))]) S.1 S.2.1 dX1_isSettled_24 rfl hl (by decide) rfl (fun ls hl => ?_)
      refine lv_iload_n S.1 S.2.1 dX1_isSettled_25 rfl (lv_at hl 3 rfl) ?_
      refine bx_top (y := nI (3 * 0 + g)) (congrArg nI (by omega)) ?_
      refine lv_istore (lv' := [(4, .int (nI (3 * 0 + g))), (3, .int 1), (2, .int 0), (0, .ref (a 0)), (1, .int (nI g))]) S.1 S.2.1 dX1_isSettled_26 hl (by decide) rfl (fun ls hl => ?_)
      have L28 : ∀ (n i28 : Nat), i28 + n = 4 → ∀ (H : Heap) (locs : List Loc), Wd D A s.heap (wM cZ cI a 0 σ) H locs → ∀ ls : Array Slot, lv_has ls 7 [(0, .ref (a 0)), (1, .int (nI g)), (2, .int (itF (opS σ g) 0 i28)), (3, .int (itF (okR σ g) 1 i28)), (4, .int (nI (3 * i28 + g)))] → W p l e ({ frames := 2, cells := 0, slots := 0, locals := 42 } : Room) s m args below meth c H locs 0 0 Q (F0 m 28 ls []) := by
        intro n
        induction n with
        | zero =>
          intro i28 hi H locs hw ls hl
          obtain rfl : i28 = 4 := by omega
          refine lv_iload S.1 S.2.1 dX1_isSettled_28 (lv_at hl 4 rfl) ?_
          refine lv_bipush (v := nI 12) S.1 S.2.1 dX1_isSettled_30 (by decide) ?_
          refine br_ge (tgt := 140) S dX1_isSettled_32 (by decide) (fun c32 => ?_) (fun c32 => ?_)
          · refine lv_iload_n S.1 S.2.1 dX1_isSettled_140 rfl (lv_at hl 3 rfl) ?_
            refine bz_eq (tgt := 160) S dX1_isSettled_141 (by decide) (fun c141 => ?_) (fun c141 => ?_)
            · refine lv_iconst (v := 0) S.1 S.2.1 dX1_isSettled_160 (by decide) ?_
              exact hret hw dX1_isSettled_161 (by simp only [setlM, eq_false c32, eq_true c141, ↓reduceIte]) (congrArg (wM cZ cI a 0) (rfl))
            · refine lv_iload_n S.1 S.2.1 dX1_isSettled_144 rfl (lv_at hl 2 rfl) ?_
              refine bz_eq (tgt := 156) S dX1_isSettled_145 (by decide) (fun c145 => ?_) (fun c145 => ?_)
              · refine lv_iconst (v := 1) S.1 S.2.1 dX1_isSettled_156 (by decide) ?_
                refine lv_goto (tgt := 161) S.1 S.2.1 dX1_isSettled_157 (by decide) ?_
                exact hret hw dX1_isSettled_161 (by simp only [setlM, eq_false c32, eq_false c141, eq_true c145, ↓reduceIte]) (congrArg (wM cZ cI a 0) (rfl))
              · refine lv_aload_n S.1 S.2.1 dX1_isSettled_148 rfl (lv_at hl 0 rfl) ?_
                refine lv_iload_n S.1 S.2.1 dX1_isSettled_149 rfl (lv_at hl 1 rfl) ?_
                refine bc_vi (As := [.int (nI g)]) (rest := []) S hK hw (kX1_hasMaster l D cZ cI a 0 σ (g := g) (by omega)) (cwV 1 S.2.2.2.2 gX1_isSettled_X1_hasMaster rfl rfl rfl (by decide +kernel) ⟨Nat.le_of_ble_eq_true rfl, Nat.le_of_ble_eq_true rfl⟩) (q0 := 0) rfl rfl rfl hl.1 rfl (Nat.le_of_ble_eq_true rfl) (Nat.zero_le _) (Nat.zero_le _) dX1_isSettled_150 (fun H locs hw => ?_)
                refine bz_eq (tgt := 160) S dX1_isSettled_153 (by decide) (fun c153 => ?_) (fun c153 => ?_)
                · refine lv_iconst (v := 0) S.1 S.2.1 dX1_isSettled_160 (by decide) ?_
                  exact hret hw dX1_isSettled_161 (by simp only [setlM, eq_false c32, eq_false c141, eq_false c145, eq_true c153, ↓reduceIte]) (congrArg (wM cZ cI a 0) (rfl))
                · refine lv_iconst (v := 1) S.1 S.2.1 dX1_isSettled_156 (by decide) ?_
                  refine lv_goto (tgt := 161) S.1 S.2.1 dX1_isSettled_157 (by decide) ?_
                  exact hret hw dX1_isSettled_161 (by simp only [setlM, eq_false c32, eq_false c141, eq_false c145, eq_false c153, ↓reduceIte]) (congrArg (wM cZ cI a 0) (rfl))
          · exact absurd c32 (ge12 (by omega))
        | succ n ih_28 =>
          intro i28 hi H locs hw ls hl
          have hi28 : i28 < 4 := by omega
          refine lv_iload S.1 S.2.1 dX1_isSettled_28 (lv_at hl 4 rfl) ?_
          refine lv_bipush (v := nI 12) S.1 S.2.1 dX1_isSettled_30 (by decide) ?_
          refine br_ge (tgt := 140) S dX1_isSettled_32 (by decide) (fun c32 => ?_) (fun c32 => ?_)
          · exact absurd c32 (not_not_intro (lt12 (by omega) (by omega)))
          · have J55 : ∀ (H : Heap) (locs : List Loc), Wd D A s.heap (wM cZ cI a 0 σ) H locs → (True) → ∀ ls : Array Slot, lv_has ls 7 [(0, .ref (a 0)), (1, .int (nI g)), (2, .int (itF (opS σ g) 0 (i28 + 1))), (3, .int (itF (okR σ g) 1 i28)), (4, .int (nI (3 * i28 + g)))] → W p l e ({ frames := 2, cells := 0, slots := 0, locals := 42 } : Room) s m args below meth c H locs 0 0 Q (F0 m 55 ls []) := by
              intro H locs hw hj ls hl
              refine lv_iload_n S.1 S.2.1 dX1_isSettled_55 rfl (lv_at hl 1 rfl) ?_
              refine bx_top (y := nI (3 * 0 + g)) (congrArg nI (by omega)) ?_
              refine lv_istore (lv' := [(5, .int (nI (3 * 0 + g))), (0, .ref (a 0)), (1, .int (nI g)), (2, .int (itF (opS σ g) 0 (i28 + 1))), (3, .int (itF (okR σ g) 1 i28)), (4, .int (nI (3 * i28 + g)))]) S.1 S.2.1 dX1_isSettled_56 hl (by decide) rfl (fun ls hl => ?_)
              have L58 : ∀ (n i58 : Nat), i58 + n = i28 → ∀ (H : Heap) (locs : List Loc), Wd D A s.heap (wM cZ cI a 0 σ) H locs → ∀ ls : Array Slot, lv_has ls 7 [(0, .ref (a 0)), (1, .int (nI g)), (2, .int (itF (opS σ g) 0 (i28 + 1))), (3, .int (itF (okS σ g i28) (itF (okR σ g) 1 i28) i58)), (4, .int (nI (3 * i28 + g))), (5, .int (nI (3 * i58 + g)))] → W p l e ({ frames := 2, cells := 0, slots := 0, locals := 42 } : Room) s m args below meth c H locs 0 0 Q (F0 m 58 ls []) := by
                intro n
                induction n with
                | zero =>
                  intro i58 hi H locs hw ls hl
                  have e58 : i28 = i58 := by omega
                  subst e58
                  refine lv_iload S.1 S.2.1 dX1_isSettled_58 (lv_at hl 5 rfl) ?_
                  refine lv_iload S.1 S.2.1 dX1_isSettled_60 (lv_at hl 4 rfl) ?_
                  refine br_ge (tgt := 134) S dX1_isSettled_62 (by decide) (fun c62 => ?_) (fun c62 => ?_)
                  · refine lv_iinc (v := nI (3 * (i28 + 1) + g)) (lv' := [(4, .int (nI (3 * (i28 + 1) + g))), (0, .ref (a 0)), (1, .int (nI g)), (2, .int (itF (opS σ g) 0 (i28 + 1))), (3, .int (itF (okS σ g i28) (itF (okR σ g) 1 i28) i28)), (5, .int (nI (3 * i28 + g)))]) S.1 S.2.1 dX1_isSettled_134 hl (k := 4) rfl (st3 (by omega) hg) (by decide) rfl (fun ls hl => ?_)
                    refine lv_goto (tgt := 28) S.1 S.2.1 dX1_isSettled_137 (by decide) ?_
                    have ea : itF (okR σ g) 1 (i28 + 1) = itF (okS σ g i28) (itF (okR σ g) 1 i28) i28 := by simp only [itF, okR]
                    exact ih_28 (i28 + 1) (by omega) _ _ hw _ (by rw [ea]; exact lv_sub hl [1, 2, 3, 4, 0] rfl)
                  · exact absurd c62 Int32.lt_irrefl
                | succ n ih_58 =>
                  intro i58 hi H locs hw ls hl
                  have hi58 : i58 < i28 := by omega
                  refine lv_iload S.1 S.2.1 dX1_isSettled_58 (lv_at hl 5 rfl) ?_
                  refine lv_iload S.1 S.2.1 dX1_isSettled_60 (lv_at hl 4 rfl) ?_
                  refine br_ge (tgt := 134) S dX1_isSettled_62 (by decide) (fun c62 => ?_) (fun c62 => ?_)
                  · exact absurd c62 (not_not_intro (nI_lt (by omega) (by omega)))
                  · refine lv_aload_n S.1 S.2.1 dX1_isSettled_65 rfl (lv_at hl 0 rfl) ?_
                    refine bx_get S hK hin hw.1 0 rfl rfl 9 (by decide) flX1_isSettled_35 rfl dX1_isSettled_66 ?_
                    refine lv_iload S.1 S.2.1 dX1_isSettled_69 (lv_at hl 4 rfl) ?_
                    refine bx_iald (v := σ 10 (4 * g + i28)) S hK hw.1 9 1 rfl rfl (by omega) (by decide) (congrArg (σ 10) (pm_at (r := i28) (g := g) (by omega) (by omega))) dX1_isSettled_71 ?_
                    refine lv_iconst (v := 2) S.1 S.2.1 dX1_isSettled_72 (by decide) ?_
                    refine br_ne (tgt := 91) S dX1_isSettled_73 (by decide) (fun c73 => ?_) (fun c73 => ?_)
                    · refine lv_iconst (v := 0) S.1 S.2.1 dX1_isSettled_91 (by decide) ?_
                      refine lv_istore (lv' := [(6, .int 0), (0, .ref (a 0)), (1, .int (nI g)), (2, .int (itF (opS σ g) 0 (i28 + 1))), (3, .int (itF (okS σ g i28) (itF (okR σ g) 1 i28) i58)), (4, .int (nI (3 * i28 + g))), (5, .int (nI (3 * i58 + g)))]) S.1 S.2.1 dX1_isSettled_92 hl (by decide) rfl (fun ls hl => ?_)
                      refine lv_iload_n S.1 S.2.1 dX1_isSettled_94 rfl (lv_at hl 4 rfl) ?_
                      refine bz_eq (tgt := 126) S dX1_isSettled_95 (by decide) (fun c95 => ?_) (fun c95 => ?_)
                      · refine lv_iconst (v := 0) S.1 S.2.1 dX1_isSettled_126 (by decide) ?_
                        refine lv_istore_n (lv' := [(3, .int 0), (6, .int 0), (0, .ref (a 0)), (1, .int (nI g)), (2, .int (itF (opS σ g) 0 (i28 + 1))), (4, .int (nI (3 * i28 + g))), (5, .int (nI (3 * i58 + g)))]) S.1 S.2.1 dX1_isSettled_127 rfl hl (by decide) rfl (fun ls hl => ?_)
                        refine lv_iinc (v := nI (3 * (i58 + 1) + g)) (lv' := [(5, .int (nI (3 * (i58 + 1) + g))), (3, .int 0), (6, .int 0), (0, .ref (a 0)), (1, .int (nI g)), (2, .int (itF (opS σ g) 0 (i28 + 1))), (4, .int (nI (3 * i28 + g)))]) S.1 S.2.1 dX1_isSettled_128 hl (k := 6) rfl (st3 (by omega) hg) (by decide) rfl (fun ls hl => ?_)
                        refine lv_goto (tgt := 58) S.1 S.2.1 dX1_isSettled_131 (by decide) ?_
                        have ea : itF (okS σ g i28) (itF (okR σ g) 1 i28) (i58 + 1) = 0 := by simp only [itF, okS, eq_true c62, eq_false c73, eq_true c95, ↓reduceIte]
                        exact ih_58 (i58 + 1) (by omega) _ _ hw _ (by rw [ea]; exact lv_sub hl [3, 4, 5, 1, 6, 0] rfl)
                      · refine lv_iload S.1 S.2.1 dX1_isSettled_98 (lv_at hl 0 rfl) ?_
                        refine bz_eq (tgt := 122) S dX1_isSettled_100 (by decide) (fun c100 => ?_) (fun c100 => ?_)
                        · refine lv_iconst (v := 1) S.1 S.2.1 dX1_isSettled_122 (by decide) ?_
                          refine lv_goto (tgt := 127) S.1 S.2.1 dX1_isSettled_123 (by decide) ?_
                          refine lv_istore_n (lv' := [(3, .int 1), (6, .int 0), (0, .ref (a 0)), (1, .int (nI g)), (2, .int (itF (opS σ g) 0 (i28 + 1))), (4, .int (nI (3 * i28 + g))), (5, .int (nI (3 * i58 + g)))]) S.1 S.2.1 dX1_isSettled_127 rfl hl (by decide) rfl (fun ls hl => ?_)
                          refine lv_iinc (v := nI (3 * (i58 + 1) + g)) (lv' := [(5, .int (nI (3 * (i58 + 1) + g))), (3, .int 1), (6, .int 0), (0, .ref (a 0)), (1, .int (nI g)), (2, .int (itF (opS σ g) 0 (i28 + 1))), (4, .int (nI (3 * i28 + g)))]) S.1 S.2.1 dX1_isSettled_128 hl (k := 6) rfl (st3 (by omega) hg) (by decide) rfl (fun ls hl => ?_)
                          refine lv_goto (tgt := 58) S.1 S.2.1 dX1_isSettled_131 (by decide) ?_
                          have ea : itF (okS σ g i28) (itF (okR σ g) 1 i28) (i58 + 1) = 1 := by simp only [itF, okS, eq_true c62, eq_false c73, eq_false c95, ↓reduceIte]
                          exact ih_58 (i58 + 1) (by omega) _ _ hw _ (by rw [ea]; exact lv_sub hl [3, 4, 5, 1, 6, 0] rfl)
                        · exact absurd c100 (by decide)
                    · refine lv_aload_n S.1 S.2.1 dX1_isSettled_76 rfl (lv_at hl 0 rfl) ?_
                      refine bx_get S hK hin hw.1 0 rfl rfl 9 (by decide) flX1_isSettled_35 rfl dX1_isSettled_77 ?_
                      refine lv_iload S.1 S.2.1 dX1_isSettled_80 (lv_at hl 5 rfl) ?_
                      refine bx_iald (v := σ 10 (4 * g + i58)) S hK hw.1 9 1 rfl rfl (by omega) (by decide) (congrArg (σ 10) (pm_at (r := i58) (g := g) (by omega) (by omega))) dX1_isSettled_82 ?_
                      refine lv_iconst (v := 2) S.1 S.2.1 dX1_isSettled_83 (by decide) ?_
                      refine br_ne (tgt := 91) S dX1_isSettled_84 (by decide) (fun c84 => ?_) (fun c84 => ?_)
                      · refine lv_iconst (v := 0) S.1 S.2.1 dX1_isSettled_91 (by decide) ?_
                        refine lv_istore (lv' := [(6, .int 0), (0, .ref (a 0)), (1, .int (nI g)), (2, .int (itF (opS σ g) 0 (i28 + 1))), (3, .int (itF (okS σ g i28) (itF (okR σ g) 1 i28) i58)), (4, .int (nI (3 * i28 + g))), (5, .int (nI (3 * i58 + g)))]) S.1 S.2.1 dX1_isSettled_92 hl (by decide) rfl (fun ls hl => ?_)
                        refine lv_iload_n S.1 S.2.1 dX1_isSettled_94 rfl (lv_at hl 4 rfl) ?_
                        refine bz_eq (tgt := 126) S dX1_isSettled_95 (by decide) (fun c95 => ?_) (fun c95 => ?_)
                        · refine lv_iconst (v := 0) S.1 S.2.1 dX1_isSettled_126 (by decide) ?_
                          refine lv_istore_n (lv' := [(3, .int 0), (6, .int 0), (0, .ref (a 0)), (1, .int (nI g)), (2, .int (itF (opS σ g) 0 (i28 + 1))), (4, .int (nI (3 * i28 + g))), (5, .int (nI (3 * i58 + g)))]) S.1 S.2.1 dX1_isSettled_127 rfl hl (by decide) rfl (fun ls hl => ?_)
                          refine lv_iinc (v := nI (3 * (i58 + 1) + g)) (lv' := [(5, .int (nI (3 * (i58 + 1) + g))), (3, .int 0), (6, .int 0), (0, .ref (a 0)), (1, .int (nI g)), (2, .int (itF (opS σ g) 0 (i28 + 1))), (4, .int (nI (3 * i28 + g)))]) S.1 S.2.1 dX1_isSettled_128 hl (k := 6) rfl (st3 (by omega) hg) (by decide) rfl (fun ls hl => ?_)
                          refine lv_goto (tgt := 58) S.1 S.2.1 dX1_isSettled_131 (by decide) ?_
                          have ea : itF (okS σ g i28) (itF (okR σ g) 1 i28) (i58 + 1) = 0 := by simp only [itF, okS, eq_true c62, eq_true c73, eq_false c84, eq_true c95, ↓reduceIte]
                          exact ih_58 (i58 + 1) (by omega) _ _ hw _ (by rw [ea]; exact lv_sub hl [3, 4, 5, 1, 6, 0] rfl)
                        · refine lv_iload S.1 S.2.1 dX1_isSettled_98 (lv_at hl 0 rfl) ?_
                          refine bz_eq (tgt := 122) S dX1_isSettled_100 (by decide) (fun c100 => ?_) (fun c100 => ?_)
                          · refine lv_iconst (v := 1) S.1 S.2.1 dX1_isSettled_122 (by decide) ?_
                            refine lv_goto (tgt := 127) S.1 S.2.1 dX1_isSettled_123 (by decide) ?_
                            refine lv_istore_n (lv' := [(3, .int 1), (6, .int 0), (0, .ref (a 0)), (1, .int (nI g)), (2, .int (itF (opS σ g) 0 (i28 + 1))), (4, .int (nI (3 * i28 + g))), (5, .int (nI (3 * i58 + g)))]) S.1 S.2.1 dX1_isSettled_127 rfl hl (by decide) rfl (fun ls hl => ?_)
                            refine lv_iinc (v := nI (3 * (i58 + 1) + g)) (lv' := [(5, .int (nI (3 * (i58 + 1) + g))), (3, .int 1), (6, .int 0), (0, .ref (a 0)), (1, .int (nI g)), (2, .int (itF (opS σ g) 0 (i28 + 1))), (4, .int (nI (3 * i28 + g)))]) S.1 S.2.1 dX1_isSettled_128 hl (k := 6) rfl (st3 (by omega) hg) (by decide) rfl (fun ls hl => ?_)
                            refine lv_goto (tgt := 58) S.1 S.2.1 dX1_isSettled_131 (by decide) ?_
                            have ea : itF (okS σ g i28) (itF (okR σ g) 1 i28) (i58 + 1) = 1 := by simp only [itF, okS, eq_true c62, eq_true c73, eq_false c84, eq_false c95, ↓reduceIte]
                            exact ih_58 (i58 + 1) (by omega) _ _ hw _ (by rw [ea]; exact lv_sub hl [3, 4, 5, 1, 6, 0] rfl)
                          · exact absurd c100 (by decide)
                      · refine lv_iconst (v := 1) S.1 S.2.1 dX1_isSettled_87 (by decide) ?_
                        refine lv_goto (tgt := 92) S.1 S.2.1 dX1_isSettled_88 (by decide) ?_
                        refine lv_istore (lv' := [(6, .int 1), (0, .ref (a 0)), (1, .int (nI g)), (2, .int (itF (opS σ g) 0 (i28 + 1))), (3, .int (itF (okS σ g i28) (itF (okR σ g) 1 i28) i58)), (4, .int (nI (3 * i28 + g))), (5, .int (nI (3 * i58 + g)))]) S.1 S.2.1 dX1_isSettled_92 hl (by decide) rfl (fun ls hl => ?_)
                        refine lv_iload_n S.1 S.2.1 dX1_isSettled_94 rfl (lv_at hl 4 rfl) ?_
                        refine bz_eq (tgt := 126) S dX1_isSettled_95 (by decide) (fun c95 => ?_) (fun c95 => ?_)
                        · refine lv_iconst (v := 0) S.1 S.2.1 dX1_isSettled_126 (by decide) ?_
                          refine lv_istore_n (lv' := [(3, .int 0), (6, .int 1), (0, .ref (a 0)), (1, .int (nI g)), (2, .int (itF (opS σ g) 0 (i28 + 1))), (4, .int (nI (3 * i28 + g))), (5, .int (nI (3 * i58 + g)))]) S.1 S.2.1 dX1_isSettled_127 rfl hl (by decide) rfl (fun ls hl => ?_)
                          refine lv_iinc (v := nI (3 * (i58 + 1) + g)) (lv' := [(5, .int (nI (3 * (i58 + 1) + g))), (3, .int 0), (6, .int 1), (0, .ref (a 0)), (1, .int (nI g)), (2, .int (itF (opS σ g) 0 (i28 + 1))), (4, .int (nI (3 * i28 + g)))]) S.1 S.2.1 dX1_isSettled_128 hl (k := 6) rfl (st3 (by omega) hg) (by decide) rfl (fun ls hl => ?_)
                          refine lv_goto (tgt := 58) S.1 S.2.1 dX1_isSettled_131 (by decide) ?_
                          have ea : itF (okS σ g i28) (itF (okR σ g) 1 i28) (i58 + 1) = 0 := by simp only [itF, okS, eq_true c62, eq_true c73, eq_true c84, eq_true c95, ↓reduceIte]
                          exact ih_58 (i58 + 1) (by omega) _ _ hw _ (by rw [ea]; exact lv_sub hl [3, 4, 5, 1, 6, 0] rfl)
                        · refine lv_iload S.1 S.2.1 dX1_isSettled_98 (lv_at hl 0 rfl) ?_
                          refine bz_eq (tgt := 122) S dX1_isSettled_100 (by decide) (fun c100 => ?_) (fun c100 => ?_)
                          · exact absurd c100 (by decide)
                          · refine lv_aload_n S.1 S.2.1 dX1_isSettled_103 rfl (lv_at hl 1 rfl) ?_
                            refine bx_get S hK hin hw.1 0 rfl rfl 5 (by decide) flX1_isSettled_23 rfl dX1_isSettled_104 ?_
                            refine lv_iconst (v := 4) S.1 S.2.1 dX1_isSettled_107 (by decide) ?_
                            refine lv_iload S.1 S.2.1 dX1_isSettled_108 (lv_at hl 5 rfl) ?_
                            refine lv_iconst (v := 3) S.1 S.2.1 dX1_isSettled_110 (by decide) ?_
                            refine lv_idiv S.1 S.2.1 dX1_isSettled_111 (by decide) ?_
                            refine bx_top (y := nI i28) (dv3 (by omega) hg) ?_
                            refine lv_imul S.1 S.2.1 dX1_isSettled_112 ?_
                            refine lv_iload S.1 S.2.1 dX1_isSettled_113 (lv_at hl 6 rfl) ?_
                            refine lv_iconst (v := 3) S.1 S.2.1 dX1_isSettled_115 (by decide) ?_
                            refine lv_idiv S.1 S.2.1 dX1_isSettled_116 (by decide) ?_
                            refine bx_top (y := nI i58) (dv3 (by omega) hg) ?_
                            refine lv_iadd S.1 S.2.1 dX1_isSettled_117 ?_
                            refine bx_top (y := nI (4 * i28 + i58)) (ml4 (by omega) (by omega)) ?_
                            refine bx_zald (v := flip (σ 1 (4 * i28 + i58))) S hK hw.1 5 0 rfl rfl (by omega) (by decide) rfl dX1_isSettled_118 ?_
                            refine bz_eq (tgt := 126) S dX1_isSettled_119 (by decide) (fun c119 => ?_) (fun c119 => ?_)
                            · refine lv_iconst (v := 0) S.1 S.2.1 dX1_isSettled_126 (by decide) ?_
                              refine lv_istore_n (lv' := [(3, .int 0), (6, .int 1), (0, .ref (a 0)), (1, .int (nI g)), (2, .int (itF (opS σ g) 0 (i28 + 1))), (4, .int (nI (3 * i28 + g))), (5, .int (nI (3 * i58 + g)))]) S.1 S.2.1 dX1_isSettled_127 rfl hl (by decide) rfl (fun ls hl => ?_)
                              refine lv_iinc (v := nI (3 * (i58 + 1) + g)) (lv' := [(5, .int (nI (3 * (i58 + 1) + g))), (3, .int 0), (6, .int 1), (0, .ref (a 0)), (1, .int (nI g)), (2, .int (itF (opS σ g) 0 (i28 + 1))), (4, .int (nI (3 * i28 + g)))]) S.1 S.2.1 dX1_isSettled_128 hl (k := 6) rfl (st3 (by omega) hg) (by decide) rfl (fun ls hl => ?_)
                              refine lv_goto (tgt := 58) S.1 S.2.1 dX1_isSettled_131 (by decide) ?_
                              have ea : itF (okS σ g i28) (itF (okR σ g) 1 i28) (i58 + 1) = 0 := by simp only [itF, okS, eq_true c62, eq_true c73, eq_true c84, eq_false c95, eq_true c119, ↓reduceIte]
                              exact ih_58 (i58 + 1) (by omega) _ _ hw _ (by rw [ea]; exact lv_sub hl [3, 4, 5, 1, 6, 0] rfl)
                            · refine lv_iconst (v := 1) S.1 S.2.1 dX1_isSettled_122 (by decide) ?_
                              refine lv_goto (tgt := 127) S.1 S.2.1 dX1_isSettled_123 (by decide) ?_
                              refine lv_istore_n (lv' := [(3, .int 1), (6, .int 1), (0, .ref (a 0)), (1, .int (nI g)), (2, .int (itF (opS σ g) 0 (i28 + 1))), (4, .int (nI (3 * i28 + g))), (5, .int (nI (3 * i58 + g)))]) S.1 S.2.1 dX1_isSettled_127 rfl hl (by decide) rfl (fun ls hl => ?_)
                              refine lv_iinc (v := nI (3 * (i58 + 1) + g)) (lv' := [(5, .int (nI (3 * (i58 + 1) + g))), (3, .int 1), (6, .int 1), (0, .ref (a 0)), (1, .int (nI g)), (2, .int (itF (opS σ g) 0 (i28 + 1))), (4, .int (nI (3 * i28 + g)))]) S.1 S.2.1 dX1_isSettled_128 hl (k := 6) rfl (st3 (by omega) hg) (by decide) rfl (fun ls hl => ?_)
                              refine lv_goto (tgt := 58) S.1 S.2.1 dX1_isSettled_131 (by decide) ?_
                              have ea : itF (okS σ g i28) (itF (okR σ g) 1 i28) (i58 + 1) = 1 := by simp only [itF, okS, eq_true c62, eq_true c73, eq_true c84, eq_false c95, eq_false c119, ↓reduceIte]
                              exact ih_58 (i58 + 1) (by omega) _ _ hw _ (by rw [ea]; exact lv_sub hl [3, 4, 5, 1, 6, 0] rfl)
              exact L58 (i28 - 0) 0 (by omega) _ _ hw _ (lv_sub hl [1, 2, 3, 4, 5, 0] rfl)
            refine lv_iload_n S.1 S.2.1 dX1_isSettled_35 rfl (lv_at hl 2 rfl) ?_
            refine bz_ne (tgt := 49) S dX1_isSettled_36 (by decide) (fun c36 => ?_) (fun c36 => ?_)
            · refine lv_iconst (v := 1) S.1 S.2.1 dX1_isSettled_49 (by decide) ?_
              refine lv_goto (tgt := 54) S.1 S.2.1 dX1_isSettled_50 (by decide) ?_
              refine lv_istore_n (lv' := [(2, .int 1), (0, .ref (a 0)), (1, .int (nI g)), (3, .int (itF (okR σ g) 1 i28)), (4, .int (nI (3 * i28 + g)))]) S.1 S.2.1 dX1_isSettled_54 rfl hl (by decide) rfl (fun ls hl => ?_)
              have ea : itF (opS σ g) 0 (i28 + 1) = 1 := by simp only [itF, opS, eq_true c32, eq_false c36, ↓reduceIte]
              exact J55 _ _ hw (trivial) _ (by rw [ea]; exact lv_sub hl [1, 2, 0, 3, 4] rfl)
            · refine lv_aload_n S.1 S.2.1 dX1_isSettled_39 rfl (lv_at hl 0 rfl) ?_
              refine bx_get S hK hin hw.1 0 rfl rfl 9 (by decide) flX1_isSettled_35 rfl dX1_isSettled_40 ?_
              refine lv_iload S.1 S.2.1 dX1_isSettled_43 (lv_at hl 4 rfl) ?_
              refine bx_iald (v := σ 10 (4 * g + i28)) S hK hw.1 9 1 rfl rfl (by omega) (by decide) (congrArg (σ 10) (pm_at (r := i28) (g := g) (by omega) (by omega))) dX1_isSettled_45 ?_
              refine bz_eq (tgt := 53) S dX1_isSettled_46 (by decide) (fun c46 => ?_) (fun c46 => ?_)
              · refine lv_iconst (v := 0) S.1 S.2.1 dX1_isSettled_53 (by decide) ?_
                refine lv_istore_n (lv' := [(2, .int 0), (0, .ref (a 0)), (1, .int (nI g)), (3, .int (itF (okR σ g) 1 i28)), (4, .int (nI (3 * i28 + g)))]) S.1 S.2.1 dX1_isSettled_54 rfl hl (by decide) rfl (fun ls hl => ?_)
                have ea : itF (opS σ g) 0 (i28 + 1) = 0 := by simp only [itF, opS, eq_true c32, eq_true c36, eq_true c46, ↓reduceIte]
                exact J55 _ _ hw (trivial) _ (by rw [ea]; exact lv_sub hl [1, 2, 0, 3, 4] rfl)
              · refine lv_iconst (v := 1) S.1 S.2.1 dX1_isSettled_49 (by decide) ?_
                refine lv_goto (tgt := 54) S.1 S.2.1 dX1_isSettled_50 (by decide) ?_
                refine lv_istore_n (lv' := [(2, .int 1), (0, .ref (a 0)), (1, .int (nI g)), (3, .int (itF (okR σ g) 1 i28)), (4, .int (nI (3 * i28 + g)))]) S.1 S.2.1 dX1_isSettled_54 rfl hl (by decide) rfl (fun ls hl => ?_)
                have ea : itF (opS σ g) 0 (i28 + 1) = 1 := by simp only [itF, opS, eq_true c32, eq_true c36, eq_false c46, ↓reduceIte]
                exact J55 _ _ hw (trivial) _ (by rw [ea]; exact lv_sub hl [1, 2, 0, 3, 4] rfl)
      exact L28 (4 - 0) 0 (by omega) _ _ hw _ (lv_sub hl [3, 4, 2, 1, 0] rfl)
    · exact absurd c16 (by decide)

set_option maxHeartbeats 4000000 in
set_option maxRecDepth 100000 in
theorem kX1_isSettled_bad (l : Launch) (D : va_G) (cZ cI : ClassId) (a : Nat → Nat) (th : Int32) (σ : sC) (x : Int32) (hb : inB x 0 2 = 0) : MI l yX1_isSettled wsX1_isSettled ({ frames := 2, cells := 0, slots := 0, locals := 42 } : Room) D (tyZ cZ cI) [.ref (a 0), .int x] (wM cZ cI a th σ) 0 (wM cZ cI a 1 σ) := by
  refine MI.of (cc := cX1_isSettled) (maxL := 7) (ty := .boolean) (by decide) rfl (rfl) ⟨rfl, rfl⟩ (Nat.le_of_ble_eq_true rfl) ?_
  intro p e s m args below meth c A Q S hK hret ls hl hw
  replace hl : lv_has ls 7 [(0, .ref (a 0)), (1, .int x)] := hl
  replace S : CallFix p m c cX1_isSettled 7 s args wsX1_isSettled RX1 := S
  have hin := inX1_isSettled
  refine lv_aload_n S.1 S.2.1 dX1_isSettled_0 rfl (lv_at hl 0 rfl) ?_
  refine lv_iload_n S.1 S.2.1 dX1_isSettled_1 rfl (lv_at hl 1 rfl) ?_
  refine bc_si (As := [.int x]) (rest := [.ref (a 0)]) S hK hw (kX1_isGroup l D _ x) (va_cwS 1 S.2.2.2.2 gX1_isSettled_X1_isGroup rfl rfl rfl (by decide +kernel) ⟨Nat.le_of_ble_eq_true rfl, Nat.le_of_ble_eq_true rfl⟩) rfl hl.1 rfl (Nat.le_of_ble_eq_true rfl) (Nat.zero_le _) (Nat.zero_le _) dX1_isSettled_2 (fun H locs hw => ?_)
  refine bx_top (y := 0) (hb) ?_
  refine bz_eq (tgt := 12) S dX1_isSettled_5 (by decide) (fun c5 => ?_) (fun c5 => ?_)
  · refine lv_iconst (v := 1) S.1 S.2.1 dX1_isSettled_12 (by decide) ?_
    refine bc_vi (As := [.int 1]) (rest := []) S hK hw (kX1_goesWell l D cZ cI a th σ 1) (cwV 1 S.2.2.2.2 gX1_isSettled_X1_goesWell rfl rfl rfl (by decide +kernel) ⟨Nat.le_of_ble_eq_true rfl, Nat.le_of_ble_eq_true rfl⟩) (q0 := 0) rfl rfl rfl hl.1 rfl (Nat.le_of_ble_eq_true rfl) (Nat.zero_le _) (Nat.zero_le _) dX1_isSettled_13 (fun H locs hw => ?_)
    refine bx_top (y := 0) (rfl) ?_
    refine bz_ne (tgt := 21) S dX1_isSettled_16 (by decide) (fun c16 => ?_) (fun c16 => ?_)
    · exact absurd c16 (by decide)
    · refine lv_iconst (v := 0) S.1 S.2.1 dX1_isSettled_19 (by decide) ?_
      exact hret hw dX1_isSettled_20 (rfl) (congrArg (wM cZ cI a 1) (rfl))
  · exact absurd c5 (by decide)
