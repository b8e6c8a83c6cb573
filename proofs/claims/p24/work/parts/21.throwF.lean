theorem chk4 {x : Int32} (h1 : ¬ x < 0) (h2 : x < nI 4) (hb : inB x 0 3 = 0) : False := by
  obtain ⟨j, hj2, rfl⟩ := nI_of h1
  have hj : j < 4 := Classical.byContradiction fun q => (nI_nlt (Nat.not_lt.mp q) (by omega)) h2
  exact absurd ((in_r hj).symm.trans hb) (by decide)
theorem chk3 {x : Int32} (h1 : ¬ x < 0) (h2 : x < nI 3) (hb : inB x 0 2 = 0) : False := by
  obtain ⟨j, hj2, rfl⟩ := nI_of h1
  have hj : j < 3 := Classical.byContradiction fun q => (nI_nlt (Nat.not_lt.mp q) (by omega)) h2
  exact absurd ((in_g hj).symm.trans hb) (by decide)
theorem chk2 {x : Int32} (h1 : ¬ x < 0) (h2 : x < nI 2) (hb : inB x 0 1 = 0) : False := by
  obtain ⟨j, hj2, rfl⟩ := nI_of h1
  have hj : j < 2 := Classical.byContradiction fun q => (nI_nlt (Nat.not_lt.mp q) (by omega)) h2
  exact absurd ((in_k hj).symm.trans hb) (by decide)
set_option maxHeartbeats 4000000 in
set_option maxRecDepth 100000 in
theorem tX0_checkRouter (l : Launch) (hfl : l.stackTraces = false) (D : va_G) (tys : List (ClassId × FieldType)) (x : Int32) (hb : inB x 0 3 = 0) : MT l yX0_checkRouter wsX0_checkRouter ({ frames := 6, cells := 1, slots := 6, locals := 82 } : Room) D tys [.int x] [] eIA := by
  refine MT.of (cc := cX0_checkRouter) (maxL := 1) (ret := none) (by decide) rfl (Nat.le_of_ble_eq_true rfl) ?_
  intro p e s m args below meth c S hK hZ hlk hx ls hl hw
  replace hl : lv_has ls 1 [(0, .int x)] := hl
  replace S : CallFix p m c cX0_checkRouter 1 s args wsX0_checkRouter RX0 := S
  have hm1 : Cond.classLink RX0 87 eIA ∈ wsX0_checkRouter := by decide +kernel
  have hm2 : Cond.initialized eIA ∈ wsX0_checkRouter := by decide +kernel
  have hm3 : ∀ w ∈ (vx_atS RX0 91 eIA ["java/lang/RuntimeException", "java/lang/Exception"]).filter goodWord, w ∈ wsX0_checkRouter := fun _ h => List.mem_cons_of_mem _ (List.mem_append_right _ h)
  refine lv_iload_n S.1 S.2.1 dX0_checkRouter_0 rfl (lv_at hl 0 rfl) ?_
  refine bz_lt (tgt := 9) S dX0_checkRouter_1 (by decide) (fun c1 => ?_) (fun c1 => ?_)
  · exact bt_own (E := eIA) (k := 0) S hfl hZ hlk hx hw hl.1 rfl (by decide +kernel) hm1 hm2 hm3 ng_IA ot_IA dX0_checkRouter_9 dX0_checkRouter_12 dX0_checkRouter_13 dX0_checkRouter_15 dX0_checkRouter_18 (by decide) (by decide) (by decide) (by decide)
  · refine lv_iload_n S.1 S.2.1 dX0_checkRouter_4 rfl (lv_at hl 0 rfl) ?_
    refine lv_iconst (v := nI 4) S.1 S.2.1 dX0_checkRouter_5 (by decide) ?_
    refine br_lt (tgt := 19) S dX0_checkRouter_6 (by decide) (fun c6 => ?_) (fun c6 => ?_)
    · exact (chk4 c1 c6 hb).elim
    · exact bt_own (E := eIA) (k := 0) S hfl hZ hlk hx hw hl.1 rfl (by decide +kernel) hm1 hm2 hm3 ng_IA ot_IA dX0_checkRouter_9 dX0_checkRouter_12 dX0_checkRouter_13 dX0_checkRouter_15 dX0_checkRouter_18 (by decide) (by decide) (by decide) (by decide)
set_option maxHeartbeats 4000000 in
set_option maxRecDepth 100000 in
theorem tX0_die_1 (l : Launch) (hfl : l.stackTraces = false) (D : va_G) (cZ cI : ClassId) (a : Nat → Nat) (σ : sC) (x : Int32) (hb : inB x 0 3 = 0) : MT l yX0_die wsX0_die ({ frames := 7, cells := 1, slots := 6, locals := 110 } : Room) D (tyZ cZ cI) [.ref (a 0), .int x] (wX cZ cI a σ) eIA := by
  refine MT.of (cc := cX0_die) (maxL := 5) (ret := (some .int)) (by decide) rfl (Nat.le_of_ble_eq_true rfl) ?_
  intro p e s m args below meth c S hK hZ hlk hx ls hl hw
  replace hl : lv_has ls 5 [(0, .ref (a 0)), (1, .int x)] := hl
  replace S : CallFix p m c cX0_die 5 s args wsX0_die RX0 := S
  have hin := inX0_die
  refine lv_iload_n S.1 S.2.1 dX0_die_0 rfl (lv_at hl 1 rfl) ?_
  exact bt_sx (As := [.int x]) (rest := []) S hK hZ hlk hx hw (tX0_checkRouter l hfl D _ x hb) (va_cwS 1 S.2.2.2.2 gX0_die_X0_checkRouter rfl rfl rfl (by decide +kernel) ⟨Nat.le_of_ble_eq_true rfl, Nat.le_of_ble_eq_true rfl⟩) rfl hl.1 rfl (Nat.le_of_ble_eq_true rfl) (by decide) (by decide) dX0_die_1
theorem tflX0_timer_41 : Cond.fieldLink RX0 41 "StandbyPair" "roles" "[I" ∈ wsX0_timer := by decide +kernel
set_option maxHeartbeats 4000000 in
set_option maxRecDepth 100000 in
theorem tX0_timer_s (l : Launch) (hfl : l.stackTraces = false) (D : va_G) (cZ cI : ClassId) (a : Nat → Nat) (σ : sC) {r g : Nat} (hr : r < 4) (hg : g < 3) (ho : σ 10 (4 * g + r) = 0) : MT l yX0_timer wsX0_timer ({ frames := 7, cells := 1, slots := 6, locals := 110 } : Room) D (tyZ cZ cI) [.ref (a 0), .int (nI r), .int (nI g)] (wX cZ cI a σ) eIS := by
  refine MT.of (cc := cX0_timer) (maxL := 3) (ret := (some .int)) (by decide) rfl (Nat.le_of_ble_eq_true rfl) ?_
  intro p e s m args below meth c S hK hZ hlk hx ls hl hw
  replace hl : lv_has ls 3 [(0, .ref (a 0)), (1, .int (nI r)), (2, .int (nI g))] := hl
  replace S : CallFix p m c cX0_timer 3 s args wsX0_timer RX0 := S
  have hin := inX0_timer
  have hm1 : Cond.classLink RX0 94 eIS ∈ wsX0_timer := by decide +kernel
  have hm2 : Cond.initialized eIS ∈ wsX0_timer := by decide +kernel
  have hm3 : ∀ w ∈ (vx_atS RX0 98 eIS ["java/lang/RuntimeException", "java/lang/Exception"]).filter goodWord, w ∈ wsX0_timer := fun _ h => List.mem_cons_of_mem _ (List.mem_append_left _ (List.mem_append_right _ h))
  refine lv_iload_n S.1 S.2.1 dX0_timer_0 rfl (lv_at hl 1 rfl) ?_
  refine bt_sv (As := [.int (nI r)]) (rest := []) S hK hw (kX0_checkRouter l D _ (r := r) (by omega)) (va_cwS 1 S.2.2.2.2 gX0_timer_X0_checkRouter rfl rfl rfl (by decide +kernel) ⟨Nat.le_of_ble_eq_true rfl, Nat.le_of_ble_eq_true rfl⟩) rfl hl.1 rfl (Nat.le_of_ble_eq_true rfl) (Nat.zero_le _) (Nat.zero_le _) dX0_timer_1 (fun H locs hw => ?_)
  refine lv_iload_n S.1 S.2.1 dX0_timer_4 rfl (lv_at hl 2 rfl) ?_
  refine bt_sv (As := [.int (nI g)]) (rest := []) S hK hw (kX0_checkGroup l D _ (g := g) (by omega)) (va_cwS 1 S.2.2.2.2 gX0_timer_X0_checkGroup rfl rfl rfl (by decide +kernel) ⟨Nat.le_of_ble_eq_true rfl, Nat.le_of_ble_eq_true rfl⟩) rfl hl.1 rfl (Nat.le_of_ble_eq_true rfl) (Nat.zero_le _) (Nat.zero_le _) dX0_timer_5 (fun H locs hw => ?_)
  refine lv_aload_n S.1 S.2.1 dX0_timer_8 rfl (lv_at hl 0 rfl) ?_
  refine bx_get S hK hin hw.1 0 rfl rfl 10 (by decide) tflX0_timer_41 rfl dX0_timer_9 ?_
  refine lv_iload_n S.1 S.2.1 dX0_timer_12 rfl (lv_at hl 1 rfl) ?_
  refine lv_iload_n S.1 S.2.1 dX0_timer_13 rfl (lv_at hl 2 rfl) ?_
  refine bt_si (As := [.int (nI r), .int (nI g)]) (rest := [.ref (a 11)]) S hK hw (kX0_placeOf l D _ (r := r) (g := g) (by omega) (by omega)) (va_cwS 2 S.2.2.2.2 gX0_timer_X0_placeOf rfl rfl rfl (by decide +kernel) ⟨Nat.le_of_ble_eq_true rfl, Nat.le_of_ble_eq_true rfl⟩) rfl hl.1 rfl (Nat.le_of_ble_eq_true rfl) (Nat.zero_le _) (Nat.zero_le _) dX0_timer_14 (fun H locs hw => ?_)
  refine bx_iald (v := σ 10 (4 * g + r)) S hK hw.1 11 1 rfl rfl (by omega) (by decide) rfl dX0_timer_17 ?_
  refine bz_ne (tgt := 31) S dX0_timer_18 (by decide) (fun c18 => ?_) (fun c18 => ?_)
  · exact absurd c18 (not_not_intro ho)
  · exact bt_own (E := eIS) (k := 8) S hfl hZ hlk hx hw hl.1 rfl (by decide +kernel) hm1 hm2 hm3 ng_IS ot_IS dX0_timer_21 dX0_timer_24 dX0_timer_25 dX0_timer_27 dX0_timer_30 (by decide) (by decide) (by decide) (by decide)
