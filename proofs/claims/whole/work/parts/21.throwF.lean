theorem chk4 {x : Int32} (h1 : ¬ x < 0) (h2 : x < nI 4) (hb : inB x 0 3 = 0) : False := by
  obtain ⟨j, hj2, rfl⟩ := nI_of h1
  have hj : j < 4 := Classical.byContradiction fun q => (nI_nlt (Nat.not_lt.mp q) (by omega)) h2
  exact absurd ((in_r hj).symm.trans hb) (by decide)
theorem chk3 {x : Int32} (h1 : ¬ x < 0) (h2 : x < nI 3) (hb : inB x 0 2 = 0) : False := by
  obtain ⟨j, hj2, rfl⟩ := nI_of h1
  have hj : j < 3 := Classical.byContradiction fun q => (nI_nlt (Nat.not_lt.mp q) (by omega)) h2
  exact absurd ((in_g hj).symm.trans hb) (by decide)
theorem chk2 {x : Int32} (h1 : ¬ x < 0) (h2 : x < nI 2) (hb : inB x 0 1 = 0) : False := by
  obtain ⟨j, hj2, rfl⟩ := nI_of h1
  have hj : j < 2 := Classical.byContradiction fun q => (nI_nlt (Nat.not_lt.mp q) (by omega)) h2
  exact absurd ((in_k hj).symm.trans hb) (by decide)
theorem in_n {v lo hi : Int32} (h : ¬ inB v lo hi = 0) : ¬ v < lo ∧ ¬ hi < v := by
  constructor
  · intro q; apply h; unfold inB; rw [if_pos q]
  · intro q; apply h; unfold inB
    split
    · rfl
    · rfl
theorem in_rx {x : Int32} (h : ¬ inB x 0 3 = 0) : ∃ r : Nat, r < 4 ∧ x = nI r := by
  obtain ⟨h1, h2⟩ := in_n h
  obtain ⟨j, hj, e⟩ := nI_of2 (n := 3) (by decide +kernel : (3 : Int32).toInt = ((3 : Nat) : Int)) h1 (Int32.not_lt.mp h2)
  exact ⟨j, by omega, e⟩
theorem in_gx {x : Int32} (h : ¬ inB x 0 2 = 0) : ∃ r : Nat, r < 3 ∧ x = nI r := by
  obtain ⟨h1, h2⟩ := in_n h
  obtain ⟨j, hj, e⟩ := nI_of2 (n := 2) (by decide +kernel : (2 : Int32).toInt = ((2 : Nat) : Int)) h1 (Int32.not_lt.mp h2)
  exact ⟨j, by omega, e⟩
theorem in_kx {x : Int32} (h : ¬ inB x 0 1 = 0) : ∃ r : Nat, r < 2 ∧ x = nI r := by
  obtain ⟨h1, h2⟩ := in_n h
  obtain ⟨j, hj, e⟩ := nI_of2 (n := 1) (by decide +kernel : (1 : Int32).toInt = ((1 : Nat) : Int)) h1 (Int32.not_lt.mp h2)
  exact ⟨j, by omega, e⟩

set_option maxHeartbeats 4000000 in
set_option maxRecDepth 100000 in
theorem tX0_checkRouter (l : Launch) (hfl : l.stackTraces = false) (D : va_G) (tys : List (ClassId × FieldType)) (x : Int32) (hb : inB x 0 3 = 0) : MT l yX0_checkRouter wsX0_checkRouter ({ frames := 6, cells := 1, slots := 6, locals := 82 } : Room) D tys [.int x] [] eIA := by
  refine MT.of (cc := cX0_checkRouter) (maxL := 1) (ret := none) (by decide) rfl (Nat.le_of_ble_eq_true rfl) ?_
  intro p e s m args below meth c S hK hZ hlk hx ls hl hw
  replace hl : lv_has ls 1 [(0, .int x)] := hl
  replace S : CallFix p m c cX0_checkRouter 1 s args wsX0_checkRouter RX0 := S
  have hm1 : Cond.classLink RX0 87 eIA ∈ wsX0_checkRouter := by decide +kernel
  have hm2 : Cond.initialized eIA ∈ wsX0_checkRouter := by decide +kernel
  have hm3 : ∀ w ∈ (vx_atS RX0 91 eIA ["java/lang/RuntimeException", "java/lang/Exception"]).filter goodWord, w ∈ wsX0_checkRouter := fun _ h => List.mem_cons_of_mem _ (List.mem_append_right _ h)
  refine lv_iload_n S.1 S.2.1 dX0_checkRouter_0 rfl (lv_at hl 0 rfl) ?_
  refine bz_lt (tgt := 9) S dX0_checkRouter_1 (by decide) (fun c1 => ?_) (fun c1 => ?_)
  · exact bt_own (E := eIA) (k := 0) S hfl hZ hlk hx hw hl.1 rfl (by decide +kernel) hm1 hm2 hm3 ng_IA ot_IA dX0_checkRouter_9 dX0_checkRouter_12 dX0_checkRouter_13 dX0_checkRouter_15 dX0_checkRouter_18 (by decide) (by decide) (by decide) (by decide)
  · refine lv_iload_n S.1 S.2.1 dX0_checkRouter_4 rfl (lv_at hl 0 rfl) ?_
    refine lv_iconst (v := nI 4) S.1 S.2.1 dX0_checkRouter_5 (by decide) ?_
    refine br_lt (tgt := 19) S dX0_checkRouter_6 (by decide) (fun c6 => ?_) (fun c6 => ?_)
    · exact (chk4 c1 c6 hb).elim
    · exact bt_own (E := eIA) (k := 0) S hfl hZ hlk hx hw hl.1 rfl (by decide +kernel) hm1 hm2 hm3 ng_IA ot_IA dX0_checkRouter_9 dX0_checkRouter_12 dX0_checkRouter_13 dX0_checkRouter_15 dX0_checkRouter_18 (by decide) (by decide) (by decide) (by decide)

set_option maxHeartbeats 4000000 in
set_option maxRecDepth 100000 in
theorem tX0_checkGroup (l : Launch) (hfl : l.stackTraces = false) (D : va_G) (tys : List (ClassId × FieldType)) (x : Int32) (hb : inB x 0 2 = 0) : MT l yX0_checkGroup wsX0_checkGroup ({ frames := 6, cells := 1, slots := 6, locals := 82 } : Room) D tys [.int x] [] eIA := by
  refine MT.of (cc := cX0_checkGroup) (maxL := 1) (ret := none) (by decide) rfl (Nat.le_of_ble_eq_true rfl) ?_
  intro p e s m args below meth c S hK hZ hlk hx ls hl hw
  replace hl : lv_has ls 1 [(0, .int x)] := hl
  replace S : CallFix p m c cX0_checkGroup 1 s args wsX0_checkGroup RX0 := S
  have hm1 : Cond.classLink RX0 87 eIA ∈ wsX0_checkGroup := by decide +kernel
  have hm2 : Cond.initialized eIA ∈ wsX0_checkGroup := by decide +kernel
  have hm3 : ∀ w ∈ (vx_atS RX0 91 eIA ["java/lang/RuntimeException", "java/lang/Exception"]).filter goodWord, w ∈ wsX0_checkGroup := fun _ h => List.mem_cons_of_mem _ (List.mem_append_right _ h)
  refine lv_iload_n S.1 S.2.1 dX0_checkGroup_0 rfl (lv_at hl 0 rfl) ?_
  refine bz_lt (tgt := 9) S dX0_checkGroup_1 (by decide) (fun c1 => ?_) (fun c1 => ?_)
  · exact bt_own (E := eIA) (k := 1) S hfl hZ hlk hx hw hl.1 rfl (by decide +kernel) hm1 hm2 hm3 ng_IA ot_IA dX0_checkGroup_9 dX0_checkGroup_12 dX0_checkGroup_13 dX0_checkGroup_15 dX0_checkGroup_18 (by decide) (by decide) (by decide) (by decide)
  · refine lv_iload_n S.1 S.2.1 dX0_checkGroup_4 rfl (lv_at hl 0 rfl) ?_
    refine lv_iconst (v := nI 3) S.1 S.2.1 dX0_checkGroup_5 (by decide) ?_
    refine br_lt (tgt := 19) S dX0_checkGroup_6 (by decide) (fun c6 => ?_) (fun c6 => ?_)
    · exact (chk3 c1 c6 hb).elim
    · exact bt_own (E := eIA) (k := 1) S hfl hZ hlk hx hw hl.1 rfl (by decide +kernel) hm1 hm2 hm3 ng_IA ot_IA dX0_checkGroup_9 dX0_checkGroup_12 dX0_checkGroup_13 dX0_checkGroup_15 dX0_checkGroup_18 (by decide) (by decide) (by decide) (by decide)

set_option maxHeartbeats 4000000 in
set_option maxRecDepth 100000 in
theorem tX0_checkLink (l : Launch) (hfl : l.stackTraces = false) (D : va_G) (tys : List (ClassId × FieldType)) (x : Int32) (hb : inB x 0 1 = 0) : MT l yX0_checkLink wsX0_checkLink ({ frames := 6, cells := 1, slots := 6, locals := 82 } : Room) D tys [.int x] [] eIA := by
  refine MT.of (cc := cX0_checkLink) (maxL := 1) (ret := none) (by decide) rfl (Nat.le_of_ble_eq_true rfl) ?_
  intro p e s m args below meth c S hK hZ hlk hx ls hl hw
  replace hl : lv_has ls 1 [(0, .int x)] := hl
  replace S : CallFix p m c cX0_checkLink 1 s args wsX0_checkLink RX0 := S
  have hm1 : Cond.classLink RX0 87 eIA ∈ wsX0_checkLink := by decide +kernel
  have hm2 : Cond.initialized eIA ∈ wsX0_checkLink := by decide +kernel
  have hm3 : ∀ w ∈ (vx_atS RX0 91 eIA ["java/lang/RuntimeException", "java/lang/Exception"]).filter goodWord, w ∈ wsX0_checkLink := fun _ h => List.mem_cons_of_mem _ (List.mem_append_right _ h)
  refine lv_iload_n S.1 S.2.1 dX0_checkLink_0 rfl (lv_at hl 0 rfl) ?_
  refine bz_lt (tgt := 9) S dX0_checkLink_1 (by decide) (fun c1 => ?_) (fun c1 => ?_)
  · exact bt_own (E := eIA) (k := 2) S hfl hZ hlk hx hw hl.1 rfl (by decide +kernel) hm1 hm2 hm3 ng_IA ot_IA dX0_checkLink_9 dX0_checkLink_12 dX0_checkLink_13 dX0_checkLink_15 dX0_checkLink_18 (by decide) (by decide) (by decide) (by decide)
  · refine lv_iload_n S.1 S.2.1 dX0_checkLink_4 rfl (lv_at hl 0 rfl) ?_
    refine lv_iconst (v := nI 2) S.1 S.2.1 dX0_checkLink_5 (by decide) ?_
    refine br_lt (tgt := 19) S dX0_checkLink_6 (by decide) (fun c6 => ?_) (fun c6 => ?_)
    · exact (chk2 c1 c6 hb).elim
    · exact bt_own (E := eIA) (k := 2) S hfl hZ hlk hx hw hl.1 rfl (by decide +kernel) hm1 hm2 hm3 ng_IA ot_IA dX0_checkLink_9 dX0_checkLink_12 dX0_checkLink_13 dX0_checkLink_15 dX0_checkLink_18 (by decide) (by decide) (by decide) (by decide)

set_option maxHeartbeats 4000000 in
set_option maxRecDepth 100000 in
theorem tX0_checkRange (l : Launch) (hfl : l.stackTraces = false) (D : va_G) (tys : List (ClassId × FieldType)) (v lo hi : Int32) (hb : inB v lo hi = 0) : MT l yX0_checkRange wsX0_checkRange ({ frames := 6, cells := 1, slots := 6, locals := 82 } : Room) D tys [.int v, .int lo, .int hi] [] eIA := by
  refine MT.of (cc := cX0_checkRange) (maxL := 3) (ret := none) (by decide) rfl (Nat.le_of_ble_eq_true rfl) ?_
  intro p e s m args below meth c S hK hZ hlk hx ls hl hw
  replace hl : lv_has ls 3 [(0, .int v), (1, .int lo), (2, .int hi)] := hl
  replace S : CallFix p m c cX0_checkRange 3 s args wsX0_checkRange RX0 := S
  have hm1 : Cond.classLink RX0 87 eIA ∈ wsX0_checkRange := by decide +kernel
  have hm2 : Cond.initialized eIA ∈ wsX0_checkRange := by decide +kernel
  have hm3 : ∀ w ∈ (vx_atS RX0 91 eIA ["java/lang/RuntimeException", "java/lang/Exception"]).filter goodWord, w ∈ wsX0_checkRange := fun _ h => List.mem_cons_of_mem _ (List.mem_append_right _ h)
  refine lv_iload_n S.1 S.2.1 dX0_checkRange_0 rfl (lv_at hl 0 rfl) ?_
  refine lv_iload_n S.1 S.2.1 dX0_checkRange_1 rfl (lv_at hl 1 rfl) ?_
  refine br_lt (tgt := 10) S dX0_checkRange_2 (by decide) (fun c2 => ?_) (fun c2 => ?_)
  · exact bt_own (E := eIA) (k := 3) S hfl hZ hlk hx hw hl.1 rfl (by decide +kernel) hm1 hm2 hm3 ng_IA ot_IA dX0_checkRange_10 dX0_checkRange_13 dX0_checkRange_14 dX0_checkRange_16 dX0_checkRange_19 (by decide) (by decide) (by decide) (by decide)
  · refine lv_iload_n S.1 S.2.1 dX0_checkRange_5 rfl (lv_at hl 0 rfl) ?_
    refine lv_iload_n S.1 S.2.1 dX0_checkRange_6 rfl (lv_at hl 2 rfl) ?_
    refine br_le (tgt := 20) S dX0_checkRange_7 (by decide) (fun c7 => ?_) (fun c7 => ?_)
    · exact absurd ((in_1 c2 c7).symm.trans hb) (by decide)
    · exact bt_own (E := eIA) (k := 3) S hfl hZ hlk hx hw hl.1 rfl (by decide +kernel) hm1 hm2 hm3 ng_IA ot_IA dX0_checkRange_10 dX0_checkRange_13 dX0_checkRange_14 dX0_checkRange_16 dX0_checkRange_19 (by decide) (by decide) (by decide) (by decide)

set_option maxHeartbeats 4000000 in
set_option maxRecDepth 100000 in
theorem tX0_setPriority_1 (l : Launch) (hfl : l.stackTraces = false) (D : va_G) (cZ cI : ClassId) (a : Nat → Nat) (σ : sC) (x : Int32) (y : Int32) (v : Int32) (hb : inB x 0 3 = 0) : MT l yX0_setPriority wsX0_setPriority ({ frames := 7, cells := 1, slots := 6, locals := 110 } : Room) D (tyZ cZ cI) [.ref (a 0), .int x, .int y, .int v] (wX cZ cI a σ) eIA := by
  refine MT.of (cc := cX0_setPriority) (maxL := 6) (ret := (some .int)) (by decide) rfl (Nat.le_of_ble_eq_true rfl) ?_
  intro p e s m args below meth c S hK hZ hlk hx ls hl hw
  replace hl : lv_has ls 6 [(0, .ref (a 0)), (1, .int x), (2, .int y), (3, .int v)] := hl
  replace S : CallFix p m c cX0_setPriority 6 s args wsX0_setPriority RX0 := S
  have hin := inX0_setPriority
  refine lv_iload_n S.1 S.2.1 dX0_setPriority_0 rfl (lv_at hl 1 rfl) ?_
  exact bt_sx (As := [.int x]) (rest := []) S hK hZ hlk hx hw (tX0_checkRouter l hfl D _ x hb) (va_cwS 1 S.2.2.2.2 gX0_setPriority_X0_checkRouter rfl rfl rfl (by decide +kernel) ⟨Nat.le_of_ble_eq_true rfl, Nat.le_of_ble_eq_true rfl⟩) rfl hl.1 rfl (Nat.le_of_ble_eq_true rfl) (by decide) (by decide) dX0_setPriority_1

set_option maxHeartbeats 4000000 in
set_option maxRecDepth 100000 in
theorem tX0_setPriority_2 (l : Launch) (hfl : l.stackTraces = false) (D : va_G) (cZ cI : ClassId) (a : Nat → Nat) (σ : sC) {r : Nat} (hr : r < 4) (y : Int32) (v : Int32) (hb : inB y 0 2 = 0) : MT l yX0_setPriority wsX0_setPriority ({ frames := 7, cells := 1, slots := 6, locals := 110 } : Room) D (tyZ cZ cI) [.ref (a 0), .int (nI r), .int y, .int v] (wX cZ cI a σ) eIA := by
  refine MT.of (cc := cX0_setPriority) (maxL := 6) (ret := (some .int)) (by decide) rfl (Nat.le_of_ble_eq_true rfl) ?_
  intro p e s m args below meth c S hK hZ hlk hx ls hl hw
  replace hl : lv_has ls 6 [(0, .ref (a 0)), (1, .int (nI r)), (2, .int y), (3, .int v)] := hl
  replace S : CallFix p m c cX0_setPriority 6 s args wsX0_setPriority RX0 := S
  have hin := inX0_setPriority
  refine lv_iload_n S.1 S.2.1 dX0_setPriority_0 rfl (lv_at hl 1 rfl) ?_
  refine bt_sv (As := [.int (nI r)]) (rest := []) S hK hw (kX0_checkRouter l D _ (r := r) (by omega)) (va_cwS 1 S.2.2.2.2 gX0_setPriority_X0_checkRouter rfl rfl rfl (by decide +kernel) ⟨Nat.le_of_ble_eq_true rfl, Nat.le_of_ble_eq_true rfl⟩) rfl hl.1 rfl (Nat.le_of_ble_eq_true rfl) (Nat.zero_le _) (Nat.zero_le _) dX0_setPriority_1 (fun H locs hw => ?_)
  refine lv_iload_n S.1 S.2.1 dX0_setPriority_4 rfl (lv_at hl 2 rfl) ?_
  exact bt_sx (As := [.int y]) (rest := []) S hK hZ hlk hx hw (tX0_checkGroup l hfl D _ y hb) (va_cwS 1 S.2.2.2.2 gX0_setPriority_X0_checkGroup rfl rfl rfl (by decide +kernel) ⟨Nat.le_of_ble_eq_true rfl, Nat.le_of_ble_eq_true rfl⟩) rfl hl.1 rfl (Nat.le_of_ble_eq_true rfl) (by decide) (by decide) dX0_setPriority_5

set_option maxHeartbeats 4000000 in
set_option maxRecDepth 100000 in
theorem tX0_setPriority_3 (l : Launch) (hfl : l.stackTraces = false) (D : va_G) (cZ cI : ClassId) (a : Nat → Nat) (σ : sC) {r : Nat} (hr : r < 4) {g : Nat} (hg : g < 3) (v : Int32) (hb : inB v 0 254 = 0) : MT l yX0_setPriority wsX0_setPriority ({ frames := 7, cells := 1, slots := 6, locals := 110 } : Room) D (tyZ cZ cI) [.ref (a 0), .int (nI r), .int (nI g), .int v] (wX cZ cI a σ) eIA := by
  refine MT.of (cc := cX0_setPriority) (maxL := 6) (ret := (some .int)) (by decide) rfl (Nat.le_of_ble_eq_true rfl) ?_
  intro p e s m args below meth c S hK hZ hlk hx ls hl hw
  replace hl : lv_has ls 6 [(0, .ref (a 0)), (1, .int (nI r)), (2, .int (nI g)), (3, .int v)] := hl
  replace S : CallFix p m c cX0_setPriority 6 s args wsX0_setPriority RX0 := S
  have hin := inX0_setPriority
  refine lv_iload_n S.1 S.2.1 dX0_setPriority_0 rfl (lv_at hl 1 rfl) ?_
  refine bt_sv (As := [.int (nI r)]) (rest := []) S hK hw (kX0_checkRouter l D _ (r := r) (by omega)) (va_cwS 1 S.2.2.2.2 gX0_setPriority_X0_checkRouter rfl rfl rfl (by decide +kernel) ⟨Nat.le_of_ble_eq_true rfl, Nat.le_of_ble_eq_true rfl⟩) rfl hl.1 rfl (Nat.le_of_ble_eq_true rfl) (Nat.zero_le _) (Nat.zero_le _) dX0_setPriority_1 (fun H locs hw => ?_)
  refine lv_iload_n S.1 S.2.1 dX0_setPriority_4 rfl (lv_at hl 2 rfl) ?_
  refine bt_sv (As := [.int (nI g)]) (rest := []) S hK hw (kX0_checkGroup l D _ (g := g) (by omega)) (va_cwS 1 S.2.2.2.2 gX0_setPriority_X0_checkGroup rfl rfl rfl (by decide +kernel) ⟨Nat.le_of_ble_eq_true rfl, Nat.le_of_ble_eq_true rfl⟩) rfl hl.1 rfl (Nat.le_of_ble_eq_true rfl) (Nat.zero_le _) (Nat.zero_le _) dX0_setPriority_5 (fun H locs hw => ?_)
  refine lv_iload_n S.1 S.2.1 dX0_setPriority_8 rfl (lv_at hl 3 rfl) ?_
  refine lv_iconst (v := 0) S.1 S.2.1 dX0_setPriority_9 (by decide) ?_
  refine lv_sipush (v := 254) S.1 S.2.1 dX0_setPriority_10 (by decide) ?_
  exact bt_sx (As := [.int v, .int 0, .int 254]) (rest := []) S hK hZ hlk hx hw (tX0_checkRange l hfl D _ v 0 254 hb) (va_cwS 3 S.2.2.2.2 gX0_setPriority_X0_checkRange rfl rfl rfl (by decide +kernel) ⟨Nat.le_of_ble_eq_true rfl, Nat.le_of_ble_eq_true rfl⟩) rfl hl.1 rfl (Nat.le_of_ble_eq_true rfl) (by decide) (by decide) dX0_setPriority_13

set_option maxHeartbeats 4000000 in
set_option maxRecDepth 100000 in
theorem tX0_track_1 (l : Launch) (hfl : l.stackTraces = false) (D : va_G) (cZ cI : ClassId) (a : Nat → Nat) (σ : sC) (x : Int32) (y : Int32) (v : Int32) (hb : inB x 0 3 = 0) : MT l yX0_track wsX0_track ({ frames := 7, cells := 1, slots := 6, locals := 110 } : Room) D (tyZ cZ cI) [.ref (a 0), .int x, .int y, .int v] (wX cZ cI a σ) eIA := by
  refine MT.of (cc := cX0_track) (maxL := 6) (ret := (some .int)) (by decide) rfl (Nat.le_of_ble_eq_true rfl) ?_
  intro p e s m args below meth c S hK hZ hlk hx ls hl hw
  replace hl : lv_has ls 6 [(0, .ref (a 0)), (1, .int x), (2, .int y), (3, .int v)] := hl
  replace S : CallFix p m c cX0_track 6 s args wsX0_track RX0 := S
  have hin := inX0_track
  refine lv_iload_n S.1 S.2.1 dX0_track_0 rfl (lv_at hl 1 rfl) ?_
  exact bt_sx (As := [.int x]) (rest := []) S hK hZ hlk hx hw (tX0_checkRouter l hfl D _ x hb) (va_cwS 1 S.2.2.2.2 gX0_track_X0_checkRouter rfl rfl rfl (by decide +kernel) ⟨Nat.le_of_ble_eq_true rfl, Nat.le_of_ble_eq_true rfl⟩) rfl hl.1 rfl (Nat.le_of_ble_eq_true rfl) (by decide) (by decide) dX0_track_1

set_option maxHeartbeats 4000000 in
set_option maxRecDepth 100000 in
theorem tX0_track_2 (l : Launch) (hfl : l.stackTraces = false) (D : va_G) (cZ cI : ClassId) (a : Nat → Nat) (σ : sC) {r : Nat} (hr : r < 4) (y : Int32) (v : Int32) (hb : inB y 0 1 = 0) : MT l yX0_track wsX0_track ({ frames := 7, cells := 1, slots := 6, locals := 110 } : Room) D (tyZ cZ cI) [.ref (a 0), .int (nI r), .int y, .int v] (wX cZ cI a σ) eIA := by
  refine MT.of (cc := cX0_track) (maxL := 6) (ret := (some .int)) (by decide) rfl (Nat.le_of_ble_eq_true rfl) ?_
  intro p e s m args below meth c S hK hZ hlk hx ls hl hw
  replace hl : lv_has ls 6 [(0, .ref (a 0)), (1, .int (nI r)), (2, .int y), (3, .int v)] := hl
  replace S : CallFix p m c cX0_track 6 s args wsX0_track RX0 := S
  have hin := inX0_track
  refine lv_iload_n S.1 S.2.1 dX0_track_0 rfl (lv_at hl 1 rfl) ?_
  refine bt_sv (As := [.int (nI r)]) (rest := []) S hK hw (kX0_checkRouter l D _ (r := r) (by omega)) (va_cwS 1 S.2.2.2.2 gX0_track_X0_checkRouter rfl rfl rfl (by decide +kernel) ⟨Nat.le_of_ble_eq_true rfl, Nat.le_of_ble_eq_true rfl⟩) rfl hl.1 rfl (Nat.le_of_ble_eq_true rfl) (Nat.zero_le _) (Nat.zero_le _) dX0_track_1 (fun H locs hw => ?_)
  refine lv_iload_n S.1 S.2.1 dX0_track_4 rfl (lv_at hl 2 rfl) ?_
  exact bt_sx (As := [.int y]) (rest := []) S hK hZ hlk hx hw (tX0_checkLink l hfl D _ y hb) (va_cwS 1 S.2.2.2.2 gX0_track_X0_checkLink rfl rfl rfl (by decide +kernel) ⟨Nat.le_of_ble_eq_true rfl, Nat.le_of_ble_eq_true rfl⟩) rfl hl.1 rfl (Nat.le_of_ble_eq_true rfl) (by decide) (by decide) dX0_track_5

set_option maxHeartbeats 4000000 in
set_option maxRecDepth 100000 in
theorem tX0_track_3 (l : Launch) (hfl : l.stackTraces = false) (D : va_G) (cZ cI : ClassId) (a : Nat → Nat) (σ : sC) {r : Nat} (hr : r < 4) {k : Nat} (hk : k < 2) (v : Int32) (hb : inB v 0 100 = 0) : MT l yX0_track wsX0_track ({ frames := 7, cells := 1, slots := 6, locals := 110 } : Room) D (tyZ cZ cI) [.ref (a 0), .int (nI r), .int (nI k), .int v] (wX cZ cI a σ) eIA := by
  refine MT.of (cc := cX0_track) (maxL := 6) (ret := (some .int)) (by decide) rfl (Nat.le_of_ble_eq_true rfl) ?_
  intro p e s m args below meth c S hK hZ hlk hx ls hl hw
  replace hl : lv_has ls 6 [(0, .ref (a 0)), (1, .int (nI r)), (2, .int (nI k)), (3, .int v)] := hl
  replace S : CallFix p m c cX0_track 6 s args wsX0_track RX0 := S
  have hin := inX0_track
  refine lv_iload_n S.1 S.2.1 dX0_track_0 rfl (lv_at hl 1 rfl) ?_
  refine bt_sv (As := [.int (nI r)]) (rest := []) S hK hw (kX0_checkRouter l D _ (r := r) (by omega)) (va_cwS 1 S.2.2.2.2 gX0_track_X0_checkRouter rfl rfl rfl (by decide +kernel) ⟨Nat.le_of_ble_eq_true rfl, Nat.le_of_ble_eq_true rfl⟩) rfl hl.1 rfl (Nat.le_of_ble_eq_true rfl) (Nat.zero_le _) (Nat.zero_le _) dX0_track_1 (fun H locs hw => ?_)
  refine lv_iload_n S.1 S.2.1 dX0_track_4 rfl (lv_at hl 2 rfl) ?_
  refine bt_sv (As := [.int (nI k)]) (rest := []) S hK hw (kX0_checkLink l D _ (k := k) (by omega)) (va_cwS 1 S.2.2.2.2 gX0_track_X0_checkLink rfl rfl rfl (by decide +kernel) ⟨Nat.le_of_ble_eq_true rfl, Nat.le_of_ble_eq_true rfl⟩) rfl hl.1 rfl (Nat.le_of_ble_eq_true rfl) (Nat.zero_le _) (Nat.zero_le _) dX0_track_5 (fun H locs hw => ?_)
  refine lv_iload_n S.1 S.2.1 dX0_track_8 rfl (lv_at hl 3 rfl) ?_
  refine lv_iconst (v := 0) S.1 S.2.1 dX0_track_9 (by decide) ?_
  refine lv_bipush (v := 100) S.1 S.2.1 dX0_track_10 (by decide) ?_
  exact bt_sx (As := [.int v, .int 0, .int 100]) (rest := []) S hK hZ hlk hx hw (tX0_checkRange l hfl D _ v 0 100 hb) (va_cwS 3 S.2.2.2.2 gX0_track_X0_checkRange rfl rfl rfl (by decide +kernel) ⟨Nat.le_of_ble_eq_true rfl, Nat.le_of_ble_eq_true rfl⟩) rfl hl.1 rfl (Nat.le_of_ble_eq_true rfl) (by decide) (by decide) dX0_track_12

set_option maxHeartbeats 4000000 in
set_option maxRecDepth 100000 in
theorem tX0_setLink_1 (l : Launch) (hfl : l.stackTraces = false) (D : va_G) (cZ cI : ClassId) (a : Nat → Nat) (σ : sC) (x : Int32) (y : Int32) (b : Int32) (hb : inB x 0 3 = 0) : MT l yX0_setLink wsX0_setLink ({ frames := 7, cells := 1, slots := 6, locals := 110 } : Room) D (tyZ cZ cI) [.ref (a 0), .int x, .int y, .int b] (wX cZ cI a σ) eIA := by
  refine MT.of (cc := cX0_setLink) (maxL := 6) (ret := (some .boolean)) (by decide) rfl (Nat.le_of_ble_eq_true rfl) ?_
  intro p e s m args below meth c S hK hZ hlk hx ls hl hw
  replace hl : lv_has ls 6 [(0, .ref (a 0)), (1, .int x), (2, .int y), (3, .int b)] := hl
  replace S : CallFix p m c cX0_setLink 6 s args wsX0_setLink RX0 := S
  have hin := inX0_setLink
  refine lv_iload_n S.1 S.2.1 dX0_setLink_0 rfl (lv_at hl 1 rfl) ?_
  exact bt_sx (As := [.int x]) (rest := []) S hK hZ hlk hx hw (tX0_checkRouter l hfl D _ x hb) (va_cwS 1 S.2.2.2.2 gX0_setLink_X0_checkRouter rfl rfl rfl (by decide +kernel) ⟨Nat.le_of_ble_eq_true rfl, Nat.le_of_ble_eq_true rfl⟩) rfl hl.1 rfl (Nat.le_of_ble_eq_true rfl) (by decide) (by decide) dX0_setLink_1

set_option maxHeartbeats 4000000 in
set_option maxRecDepth 100000 in
theorem tX0_setLink_2 (l : Launch) (hfl : l.stackTraces = false) (D : va_G) (cZ cI : ClassId) (a : Nat → Nat) (σ : sC) {r : Nat} (hr : r < 4) (y : Int32) (b : Int32) (hb : inB y 0 1 = 0) : MT l yX0_setLink wsX0_setLink ({ frames := 7, cells := 1, slots := 6, locals := 110 } : Room) D (tyZ cZ cI) [.ref (a 0), .int (nI r), .int y, .int b] (wX cZ cI a σ) eIA := by
  refine MT.of (cc := cX0_setLink) (maxL := 6) (ret := (some .boolean)) (by decide) rfl (Nat.le_of_ble_eq_true rfl) ?_
  intro p e s m args below meth c S hK hZ hlk hx ls hl hw
  replace hl : lv_has ls 6 [(0, .ref (a 0)), (1, .int (nI r)), (2, .int y), (3, .int b)] := hl
  replace S : CallFix p m c cX0_setLink 6 s args wsX0_setLink RX0 := S
  have hin := inX0_setLink
  refine lv_iload_n S.1 S.2.1 dX0_setLink_0 rfl (lv_at hl 1 rfl) ?_
  refine bt_sv (As := [.int (nI r)]) (rest := []) S hK hw (kX0_checkRouter l D _ (r := r) (by omega)) (va_cwS 1 S.2.2.2.2 gX0_setLink_X0_checkRouter rfl rfl rfl (by decide +kernel) ⟨Nat.le_of_ble_eq_true rfl, Nat.le_of_ble_eq_true rfl⟩) rfl hl.1 rfl (Nat.le_of_ble_eq_true rfl) (Nat.zero_le _) (Nat.zero_le _) dX0_setLink_1 (fun H locs hw => ?_)
  refine lv_iload_n S.1 S.2.1 dX0_setLink_4 rfl (lv_at hl 2 rfl) ?_
  exact bt_sx (As := [.int y]) (rest := []) S hK hZ hlk hx hw (tX0_checkLink l hfl D _ y hb) (va_cwS 1 S.2.2.2.2 gX0_setLink_X0_checkLink rfl rfl rfl (by decide +kernel) ⟨Nat.le_of_ble_eq_true rfl, Nat.le_of_ble_eq_true rfl⟩) rfl hl.1 rfl (Nat.le_of_ble_eq_true rfl) (by decide) (by decide) dX0_setLink_5

set_option maxHeartbeats 4000000 in
set_option maxRecDepth 100000 in
theorem tX0_setPeriod_1 (l : Launch) (hfl : l.stackTraces = false) (D : va_G) (cZ cI : ClassId) (a : Nat → Nat) (σ : sC) (x : Int32) (v : Int32) (hb : inB x 0 2 = 0) : MT l yX0_setPeriod wsX0_setPeriod ({ frames := 7, cells := 1, slots := 6, locals := 110 } : Room) D (tyZ cZ cI) [.ref (a 0), .int x, .int v] (wX cZ cI a σ) eIA := by
  refine MT.of (cc := cX0_setPeriod) (maxL := 4) (ret := (some .int)) (by decide) rfl (Nat.le_of_ble_eq_true rfl) ?_
  intro p e s m args below meth c S hK hZ hlk hx ls hl hw
  replace hl : lv_has ls 4 [(0, .ref (a 0)), (1, .int x), (2, .int v)] := hl
  replace S : CallFix p m c cX0_setPeriod 4 s args wsX0_setPeriod RX0 := S
  have hin := inX0_setPeriod
  refine lv_iload_n S.1 S.2.1 dX0_setPeriod_0 rfl (lv_at hl 1 rfl) ?_
  exact bt_sx (As := [.int x]) (rest := []) S hK hZ hlk hx hw (tX0_checkGroup l hfl D _ x hb) (va_cwS 1 S.2.2.2.2 gX0_setPeriod_X0_checkGroup rfl rfl rfl (by decide +kernel) ⟨Nat.le_of_ble_eq_true rfl, Nat.le_of_ble_eq_true rfl⟩) rfl hl.1 rfl (Nat.le_of_ble_eq_true rfl) (by decide) (by decide) dX0_setPeriod_1

set_option maxHeartbeats 4000000 in
set_option maxRecDepth 100000 in
theorem tX0_setPeriod_2 (l : Launch) (hfl : l.stackTraces = false) (D : va_G) (cZ cI : ClassId) (a : Nat → Nat) (σ : sC) {g : Nat} (hg : g < 3) (v : Int32) (hb : inB v 1 10 = 0) : MT l yX0_setPeriod wsX0_setPeriod ({ frames := 7, cells := 1, slots := 6, locals := 110 } : Room) D (tyZ cZ cI) [.ref (a 0), .int (nI g), .int v] (wX cZ cI a σ) eIA := by
  refine MT.of (cc := cX0_setPeriod) (maxL := 4) (ret := (some .int)) (by decide) rfl (Nat.le_of_ble_eq_true rfl) ?_
  intro p e s m args below meth c S hK hZ hlk hx ls hl hw
  replace hl : lv_has ls 4 [(0, .ref (a 0)), (1, .int (nI g)), (2, .int v)] := hl
  replace S : CallFix p m c cX0_setPeriod 4 s args wsX0_setPeriod RX0 := S
  have hin := inX0_setPeriod
  refine lv_iload_n S.1 S.2.1 dX0_setPeriod_0 rfl (lv_at hl 1 rfl) ?_
  refine bt_sv (As := [.int (nI g)]) (rest := []) S hK hw (kX0_checkGroup l D _ (g := g) (by omega)) (va_cwS 1 S.2.2.2.2 gX0_setPeriod_X0_checkGroup rfl rfl rfl (by decide +kernel) ⟨Nat.le_of_ble_eq_true rfl, Nat.le_of_ble_eq_true rfl⟩) rfl hl.1 rfl (Nat.le_of_ble_eq_true rfl) (Nat.zero_le _) (Nat.zero_le _) dX0_setPeriod_1 (fun H locs hw => ?_)
  refine lv_iload_n S.1 S.2.1 dX0_setPeriod_4 rfl (lv_at hl 2 rfl) ?_
  refine lv_iconst (v := 1) S.1 S.2.1 dX0_setPeriod_5 (by decide) ?_
  refine lv_bipush (v := 10) S.1 S.2.1 dX0_setPeriod_6 (by decide) ?_
  exact bt_sx (As := [.int v, .int 1, .int 10]) (rest := []) S hK hZ hlk hx hw (tX0_checkRange l hfl D _ v 1 10 hb) (va_cwS 3 S.2.2.2.2 gX0_setPeriod_X0_checkRange rfl rfl rfl (by decide +kernel) ⟨Nat.le_of_ble_eq_true rfl, Nat.le_of_ble_eq_true rfl⟩) rfl hl.1 rfl (Nat.le_of_ble_eq_true rfl) (by decide) (by decide) dX0_setPeriod_8

set_option maxHeartbeats 4000000 in
set_option maxRecDepth 100000 in
theorem tX0_setPreemption_1 (l : Launch) (hfl : l.stackTraces = false) (D : va_G) (cZ cI : ClassId) (a : Nat → Nat) (σ : sC) (x : Int32) (b : Int32) (v : Int32) (hb : inB x 0 2 = 0) : MT l yX0_setPreemption wsX0_setPreemption ({ frames := 7, cells := 1, slots := 6, locals := 110 } : Room) D (tyZ cZ cI) [.ref (a 0), .int x, .int b, .int v] (wX cZ cI a σ) eIA := by
  refine MT.of (cc := cX0_setPreemption) (maxL := 4) (ret := none) (by decide) rfl (Nat.le_of_ble_eq_true rfl) ?_
  intro p e s m args below meth c S hK hZ hlk hx ls hl hw
  replace hl : lv_has ls 4 [(0, .ref (a 0)), (1, .int x), (2, .int b), (3, .int v)] := hl
  replace S : CallFix p m c cX0_setPreemption 4 s args wsX0_setPreemption RX0 := S
  have hin := inX0_setPreemption
  refine lv_iload_n S.1 S.2.1 dX0_setPreemption_0 rfl (lv_at hl 1 rfl) ?_
  exact bt_sx (As := [.int x]) (rest := []) S hK hZ hlk hx hw (tX0_checkGroup l hfl D _ x hb) (va_cwS 1 S.2.2.2.2 gX0_setPreemption_X0_checkGroup rfl rfl rfl (by decide +kernel) ⟨Nat.le_of_ble_eq_true rfl, Nat.le_of_ble_eq_true rfl⟩) rfl hl.1 rfl (Nat.le_of_ble_eq_true rfl) (by decide) (by decide) dX0_setPreemption_1

set_option maxHeartbeats 4000000 in
set_option maxRecDepth 100000 in
theorem tX0_setPreemption_2 (l : Launch) (hfl : l.stackTraces = false) (D : va_G) (cZ cI : ClassId) (a : Nat → Nat) (σ : sC) {g : Nat} (hg : g < 3) (b : Int32) (v : Int32) (hb : inB v 0 10 = 0) : MT l yX0_setPreemption wsX0_setPreemption ({ frames := 7, cells := 1, slots := 6, locals := 110 } : Room) D (tyZ cZ cI) [.ref (a 0), .int (nI g), .int b, .int v] (wX cZ cI a σ) eIA := by
  refine MT.of (cc := cX0_setPreemption) (maxL := 4) (ret := none) (by decide) rfl (Nat.le_of_ble_eq_true rfl) ?_
  intro p e s m args below meth c S hK hZ hlk hx ls hl hw
  replace hl : lv_has ls 4 [(0, .ref (a 0)), (1, .int (nI g)), (2, .int b), (3, .int v)] := hl
  replace S : CallFix p m c cX0_setPreemption 4 s args wsX0_setPreemption RX0 := S
  have hin := inX0_setPreemption
  refine lv_iload_n S.1 S.2.1 dX0_setPreemption_0 rfl (lv_at hl 1 rfl) ?_
  refine bt_sv (As := [.int (nI g)]) (rest := []) S hK hw (kX0_checkGroup l D _ (g := g) (by omega)) (va_cwS 1 S.2.2.2.2 gX0_setPreemption_X0_checkGroup rfl rfl rfl (by decide +kernel) ⟨Nat.le_of_ble_eq_true rfl, Nat.le_of_ble_eq_true rfl⟩) rfl hl.1 rfl (Nat.le_of_ble_eq_true rfl) (Nat.zero_le _) (Nat.zero_le _) dX0_setPreemption_1 (fun H locs hw => ?_)
  refine lv_iload_n S.1 S.2.1 dX0_setPreemption_4 rfl (lv_at hl 3 rfl) ?_
  refine lv_iconst (v := 0) S.1 S.2.1 dX0_setPreemption_5 (by decide) ?_
  refine lv_bipush (v := 10) S.1 S.2.1 dX0_setPreemption_6 (by decide) ?_
  exact bt_sx (As := [.int v, .int 0, .int 10]) (rest := []) S hK hZ hlk hx hw (tX0_checkRange l hfl D _ v 0 10 hb) (va_cwS 3 S.2.2.2.2 gX0_setPreemption_X0_checkRange rfl rfl rfl (by decide +kernel) ⟨Nat.le_of_ble_eq_true rfl, Nat.le_of_ble_eq_true rfl⟩) rfl hl.1 rfl (Nat.le_of_ble_eq_true rfl) (by decide) (by decide) dX0_setPreemption_8

set_option maxHeartbeats 4000000 in
set_option maxRecDepth 100000 in
theorem tX0_die_1 (l : Launch) (hfl : l.stackTraces = false) (D : va_G) (cZ cI : ClassId) (a : Nat → Nat) (σ : sC) (x : Int32) (hb : inB x 0 3 = 0) : MT l yX0_die wsX0_die ({ frames := 7, cells := 1, slots := 6, locals := 110 } : Room) D (tyZ cZ cI) [.ref (a 0), .int x] (wX cZ cI a σ) eIA := by
  refine MT.of (cc := cX0_die) (maxL := 5) (ret := (some .int)) (by decide) rfl (Nat.le_of_ble_eq_true rfl) ?_
  intro p e s m args below meth c S hK hZ hlk hx ls hl hw
  replace hl : lv_has ls 5 [(0, .ref (a 0)), (1, .int x)] := hl
  replace S : CallFix p m c cX0_die 5 s args wsX0_die RX0 := S
  have hin := inX0_die
  refine lv_iload_n S.1 S.2.1 dX0_die_0 rfl (lv_at hl 1 rfl) ?_
  exact bt_sx (As := [.int x]) (rest := []) S hK hZ hlk hx hw (tX0_checkRouter l hfl D _ x hb) (va_cwS 1 S.2.2.2.2 gX0_die_X0_checkRouter rfl rfl rfl (by decide +kernel) ⟨Nat.le_of_ble_eq_true rfl, Nat.le_of_ble_eq_true rfl⟩) rfl hl.1 rfl (Nat.le_of_ble_eq_true rfl) (by decide) (by decide) dX0_die_1

set_option maxHeartbeats 4000000 in
set_option maxRecDepth 100000 in
theorem tX0_live_1 (l : Launch) (hfl : l.stackTraces = false) (D : va_G) (cZ cI : ClassId) (a : Nat → Nat) (σ : sC) (x : Int32) (hb : inB x 0 3 = 0) : MT l yX0_live wsX0_live ({ frames := 7, cells := 1, slots := 6, locals := 110 } : Room) D (tyZ cZ cI) [.ref (a 0), .int x] (wX cZ cI a σ) eIA := by
  refine MT.of (cc := cX0_live) (maxL := 4) (ret := (some .int)) (by decide) rfl (Nat.le_of_ble_eq_true rfl) ?_
  intro p e s m args below meth c S hK hZ hlk hx ls hl hw
  replace hl : lv_has ls 4 [(0, .ref (a 0)), (1, .int x)] := hl
  replace S : CallFix p m c cX0_live 4 s args wsX0_live RX0 := S
  have hin := inX0_live
  refine lv_iload_n S.1 S.2.1 dX0_live_0 rfl (lv_at hl 1 rfl) ?_
  exact bt_sx (As := [.int x]) (rest := []) S hK hZ hlk hx hw (tX0_checkRouter l hfl D _ x hb) (va_cwS 1 S.2.2.2.2 gX0_live_X0_checkRouter rfl rfl rfl (by decide +kernel) ⟨Nat.le_of_ble_eq_true rfl, Nat.le_of_ble_eq_true rfl⟩) rfl hl.1 rfl (Nat.le_of_ble_eq_true rfl) (by decide) (by decide) dX0_live_1

set_option maxHeartbeats 4000000 in
set_option maxRecDepth 100000 in
theorem tX0_handOver_1 (l : Launch) (hfl : l.stackTraces = false) (D : va_G) (cZ cI : ClassId) (a : Nat → Nat) (σ : sC) (x : Int32) (y : Int32) (hb : inB x 0 3 = 0) : MT l yX0_handOver wsX0_handOver ({ frames := 7, cells := 1, slots := 6, locals := 110 } : Room) D (tyZ cZ cI) [.ref (a 0), .int x, .int y] (wX cZ cI a σ) eIA := by
  refine MT.of (cc := cX0_handOver) (maxL := 3) (ret := none) (by decide) rfl (Nat.le_of_ble_eq_true rfl) ?_
  intro p e s m args below meth c S hK hZ hlk hx ls hl hw
  replace hl : lv_has ls 3 [(0, .ref (a 0)), (1, .int x), (2, .int y)] := hl
  replace S : CallFix p m c cX0_handOver 3 s args wsX0_handOver RX0 := S
  have hin := inX0_handOver
  refine lv_iload_n S.1 S.2.1 dX0_handOver_0 rfl (lv_at hl 1 rfl) ?_
  exact bt_sx (As := [.int x]) (rest := []) S hK hZ hlk hx hw (tX0_checkRouter l hfl D _ x hb) (va_cwS 1 S.2.2.2.2 gX0_handOver_X0_checkRouter rfl rfl rfl (by decide +kernel) ⟨Nat.le_of_ble_eq_true rfl, Nat.le_of_ble_eq_true rfl⟩) rfl hl.1 rfl (Nat.le_of_ble_eq_true rfl) (by decide) (by decide) dX0_handOver_1

set_option maxHeartbeats 4000000 in
set_option maxRecDepth 100000 in
theorem tX0_handOver_2 (l : Launch) (hfl : l.stackTraces = false) (D : va_G) (cZ cI : ClassId) (a : Nat → Nat) (σ : sC) {r : Nat} (hr : r < 4) (y : Int32) (hb : inB y 0 2 = 0) : MT l yX0_handOver wsX0_handOver ({ frames := 7, cells := 1, slots := 6, locals := 110 } : Room) D (tyZ cZ cI) [.ref (a 0), .int (nI r), .int y] (wX cZ cI a σ) eIA := by
  refine MT.of (cc := cX0_handOver) (maxL := 3) (ret := none) (by decide) rfl (Nat.le_of_ble_eq_true rfl) ?_
  intro p e s m args below meth c S hK hZ hlk hx ls hl hw
  replace hl : lv_has ls 3 [(0, .ref (a 0)), (1, .int (nI r)), (2, .int y)] := hl
  replace S : CallFix p m c cX0_handOver 3 s args wsX0_handOver RX0 := S
  have hin := inX0_handOver
  refine lv_iload_n S.1 S.2.1 dX0_handOver_0 rfl (lv_at hl 1 rfl) ?_
  refine bt_sv (As := [.int (nI r)]) (rest := []) S hK hw (kX0_checkRouter l D _ (r := r) (by omega)) (va_cwS 1 S.2.2.2.2 gX0_handOver_X0_checkRouter rfl rfl rfl (by decide +kernel) ⟨Nat.le_of_ble_eq_true rfl, Nat.le_of_ble_eq_true rfl⟩) rfl hl.1 rfl (Nat.le_of_ble_eq_true rfl) (Nat.zero_le _) (Nat.zero_le _) dX0_handOver_1 (fun H locs hw => ?_)
  refine lv_iload_n S.1 S.2.1 dX0_handOver_4 rfl (lv_at hl 2 rfl) ?_
  exact bt_sx (As := [.int y]) (rest := []) S hK hZ hlk hx hw (tX0_checkGroup l hfl D _ y hb) (va_cwS 1 S.2.2.2.2 gX0_handOver_X0_checkGroup rfl rfl rfl (by decide +kernel) ⟨Nat.le_of_ble_eq_true rfl, Nat.le_of_ble_eq_true rfl⟩) rfl hl.1 rfl (Nat.le_of_ble_eq_true rfl) (by decide) (by decide) dX0_handOver_5

set_option maxHeartbeats 4000000 in
set_option maxRecDepth 100000 in
theorem tX0_serve_1 (l : Launch) (hfl : l.stackTraces = false) (D : va_G) (cZ cI : ClassId) (a : Nat → Nat) (σ : sC) (x : Int32) (v : Int32) (hb : inB x 0 2 = 0) : MT l yX0_serve wsX0_serve ({ frames := 7, cells := 1, slots := 6, locals := 110 } : Room) D (tyZ cZ cI) [.ref (a 0), .int x, .int v] (wX cZ cI a σ) eIA := by
  refine MT.of (cc := cX0_serve) (maxL := 6) (ret := (some .int)) (by decide) rfl (Nat.le_of_ble_eq_true rfl) ?_
  intro p e s m args below meth c S hK hZ hlk hx ls hl hw
  replace hl : lv_has ls 6 [(0, .ref (a 0)), (1, .int x), (2, .int v)] := hl
  replace S : CallFix p m c cX0_serve 6 s args wsX0_serve RX0 := S
  have hin := inX0_serve
  refine lv_iload_n S.1 S.2.1 dX0_serve_0 rfl (lv_at hl 1 rfl) ?_
  exact bt_sx (As := [.int x]) (rest := []) S hK hZ hlk hx hw (tX0_checkGroup l hfl D _ x hb) (va_cwS 1 S.2.2.2.2 gX0_serve_X0_checkGroup rfl rfl rfl (by decide +kernel) ⟨Nat.le_of_ble_eq_true rfl, Nat.le_of_ble_eq_true rfl⟩) rfl hl.1 rfl (Nat.le_of_ble_eq_true rfl) (by decide) (by decide) dX0_serve_1

set_option maxHeartbeats 4000000 in
set_option maxRecDepth 100000 in
theorem tX0_serve_2 (l : Launch) (hfl : l.stackTraces = false) (D : va_G) (cZ cI : ClassId) (a : Nat → Nat) (σ : sC) {g : Nat} (hg : g < 3) (v : Int32) (hb : inB v 1 100 = 0) : MT l yX0_serve wsX0_serve ({ frames := 7, cells := 1, slots := 6, locals := 110 } : Room) D (tyZ cZ cI) [.ref (a 0), .int (nI g), .int v] (wX cZ cI a σ) eIA := by
  refine MT.of (cc := cX0_serve) (maxL := 6) (ret := (some .int)) (by decide) rfl (Nat.le_of_ble_eq_true rfl) ?_
  intro p e s m args below meth c S hK hZ hlk hx ls hl hw
  replace hl : lv_has ls 6 [(0, .ref (a 0)), (1, .int (nI g)), (2, .int v)] := hl
  replace S : CallFix p m c cX0_serve 6 s args wsX0_serve RX0 := S
  have hin := inX0_serve
  refine lv_iload_n S.1 S.2.1 dX0_serve_0 rfl (lv_at hl 1 rfl) ?_
  refine bt_sv (As := [.int (nI g)]) (rest := []) S hK hw (kX0_checkGroup l D _ (g := g) (by omega)) (va_cwS 1 S.2.2.2.2 gX0_serve_X0_checkGroup rfl rfl rfl (by decide +kernel) ⟨Nat.le_of_ble_eq_true rfl, Nat.le_of_ble_eq_true rfl⟩) rfl hl.1 rfl (Nat.le_of_ble_eq_true rfl) (Nat.zero_le _) (Nat.zero_le _) dX0_serve_1 (fun H locs hw => ?_)
  refine lv_iload_n S.1 S.2.1 dX0_serve_4 rfl (lv_at hl 2 rfl) ?_
  refine lv_iconst (v := 1) S.1 S.2.1 dX0_serve_5 (by decide) ?_
  refine lv_bipush (v := 100) S.1 S.2.1 dX0_serve_6 (by decide) ?_
  exact bt_sx (As := [.int v, .int 1, .int 100]) (rest := []) S hK hZ hlk hx hw (tX0_checkRange l hfl D _ v 1 100 hb) (va_cwS 3 S.2.2.2.2 gX0_serve_X0_checkRange rfl rfl rfl (by decide +kernel) ⟨Nat.le_of_ble_eq_true rfl, Nat.le_of_ble_eq_true rfl⟩) rfl hl.1 rfl (Nat.le_of_ble_eq_true rfl) (by decide) (by decide) dX0_serve_8

set_option maxHeartbeats 4000000 in
set_option maxRecDepth 100000 in
theorem tX0_tick_1 (l : Launch) (hfl : l.stackTraces = false) (D : va_G) (cZ cI : ClassId) (a : Nat → Nat) (σ : sC) (v : Int32) (hb : inB v 1 50 = 0) : MT l yX0_tick wsX0_tick ({ frames := 7, cells := 1, slots := 6, locals := 110 } : Room) D (tyZ cZ cI) [.ref (a 0), .int v] (wX cZ cI a σ) eIA := by
  refine MT.of (cc := cX0_tick) (maxL := 4) (ret := (some .int)) (by decide) rfl (Nat.le_of_ble_eq_true rfl) ?_
  intro p e s m args below meth c S hK hZ hlk hx ls hl hw
  replace hl : lv_has ls 4 [(0, .ref (a 0)), (1, .int v)] := hl
  replace S : CallFix p m c cX0_tick 4 s args wsX0_tick RX0 := S
  have hin := inX0_tick
  refine lv_iload_n S.1 S.2.1 dX0_tick_0 rfl (lv_at hl 1 rfl) ?_
  refine lv_iconst (v := 1) S.1 S.2.1 dX0_tick_1 (by decide) ?_
  refine lv_bipush (v := 50) S.1 S.2.1 dX0_tick_2 (by decide) ?_
  exact bt_sx (As := [.int v, .int 1, .int 50]) (rest := []) S hK hZ hlk hx hw (tX0_checkRange l hfl D _ v 1 50 hb) (va_cwS 3 S.2.2.2.2 gX0_tick_X0_checkRange rfl rfl rfl (by decide +kernel) ⟨Nat.le_of_ble_eq_true rfl, Nat.le_of_ble_eq_true rfl⟩) rfl hl.1 rfl (Nat.le_of_ble_eq_true rfl) (by decide) (by decide) dX0_tick_4

set_option maxHeartbeats 4000000 in
set_option maxRecDepth 100000 in
theorem tX0_state_1 (l : Launch) (hfl : l.stackTraces = false) (D : va_G) (cZ cI : ClassId) (a : Nat → Nat) (σ : sC) (x : Int32) (y : Int32) (hb : inB x 0 3 = 0) : MT l yX0_state wsX0_state ({ frames := 7, cells := 1, slots := 6, locals := 110 } : Room) D (tyZ cZ cI) [.ref (a 0), .int x, .int y] (wX cZ cI a σ) eIA := by
  refine MT.of (cc := cX0_state) (maxL := 3) (ret := (some .int)) (by decide) rfl (Nat.le_of_ble_eq_true rfl) ?_
  intro p e s m args below meth c S hK hZ hlk hx ls hl hw
  replace hl : lv_has ls 3 [(0, .ref (a 0)), (1, .int x), (2, .int y)] := hl
  replace S : CallFix p m c cX0_state 3 s args wsX0_state RX0 := S
  have hin := inX0_state
  refine lv_iload_n S.1 S.2.1 dX0_state_0 rfl (lv_at hl 1 rfl) ?_
  exact bt_sx (As := [.int x]) (rest := []) S hK hZ hlk hx hw (tX0_checkRouter l hfl D _ x hb) (va_cwS 1 S.2.2.2.2 gX0_state_X0_checkRouter rfl rfl rfl (by decide +kernel) ⟨Nat.le_of_ble_eq_true rfl, Nat.le_of_ble_eq_true rfl⟩) rfl hl.1 rfl (Nat.le_of_ble_eq_true rfl) (by decide) (by decide) dX0_state_1

set_option maxHeartbeats 4000000 in
set_option maxRecDepth 100000 in
theorem tX0_state_2 (l : Launch) (hfl : l.stackTraces = false) (D : va_G) (cZ cI : ClassId) (a : Nat → Nat) (σ : sC) {r : Nat} (hr : r < 4) (y : Int32) (hb : inB y 0 2 = 0) : MT l yX0_state wsX0_state ({ frames := 7, cells := 1, slots := 6, locals := 110 } : Room) D (tyZ cZ cI) [.ref (a 0), .int (nI r), .int y] (wX cZ cI a σ) eIA := by
  refine MT.of (cc := cX0_state) (maxL := 3) (ret := (some .int)) (by decide) rfl (Nat.le_of_ble_eq_true rfl) ?_
  intro p e s m args below meth c S hK hZ hlk hx ls hl hw
  replace hl : lv_has ls 3 [(0, .ref (a 0)), (1, .int (nI r)), (2, .int y)] := hl
  replace S : CallFix p m c cX0_state 3 s args wsX0_state RX0 := S
  have hin := inX0_state
  refine lv_iload_n S.1 S.2.1 dX0_state_0 rfl (lv_at hl 1 rfl) ?_
  refine bt_sv (As := [.int (nI r)]) (rest := []) S hK hw (kX0_checkRouter l D _ (r := r) (by omega)) (va_cwS 1 S.2.2.2.2 gX0_state_X0_checkRouter rfl rfl rfl (by decide +kernel) ⟨Nat.le_of_ble_eq_true rfl, Nat.le_of_ble_eq_true rfl⟩) rfl hl.1 rfl (Nat.le_of_ble_eq_true rfl) (Nat.zero_le _) (Nat.zero_le _) dX0_state_1 (fun H locs hw => ?_)
  refine lv_iload_n S.1 S.2.1 dX0_state_4 rfl (lv_at hl 2 rfl) ?_
  exact bt_sx (As := [.int y]) (rest := []) S hK hZ hlk hx hw (tX0_checkGroup l hfl D _ y hb) (va_cwS 1 S.2.2.2.2 gX0_state_X0_checkGroup rfl rfl rfl (by decide +kernel) ⟨Nat.le_of_ble_eq_true rfl, Nat.le_of_ble_eq_true rfl⟩) rfl hl.1 rfl (Nat.le_of_ble_eq_true rfl) (by decide) (by decide) dX0_state_5

set_option maxHeartbeats 4000000 in
set_option maxRecDepth 100000 in
theorem tX0_priority_1 (l : Launch) (hfl : l.stackTraces = false) (D : va_G) (cZ cI : ClassId) (a : Nat → Nat) (σ : sC) (x : Int32) (y : Int32) (hb : inB x 0 3 = 0) : MT l yX0_priority wsX0_priority ({ frames := 7, cells := 1, slots := 6, locals := 110 } : Room) D (tyZ cZ cI) [.ref (a 0), .int x, .int y] (wX cZ cI a σ) eIA := by
  refine MT.of (cc := cX0_priority) (maxL := 3) (ret := (some .int)) (by decide) rfl (Nat.le_of_ble_eq_true rfl) ?_
  intro p e s m args below meth c S hK hZ hlk hx ls hl hw
  replace hl : lv_has ls 3 [(0, .ref (a 0)), (1, .int x), (2, .int y)] := hl
  replace S : CallFix p m c cX0_priority 3 s args wsX0_priority RX0 := S
  have hin := inX0_priority
  refine lv_iload_n S.1 S.2.1 dX0_priority_0 rfl (lv_at hl 1 rfl) ?_
  exact bt_sx (As := [.int x]) (rest := []) S hK hZ hlk hx hw (tX0_checkRouter l hfl D _ x hb) (va_cwS 1 S.2.2.2.2 gX0_priority_X0_checkRouter rfl rfl rfl (by decide +kernel) ⟨Nat.le_of_ble_eq_true rfl, Nat.le_of_ble_eq_true rfl⟩) rfl hl.1 rfl (Nat.le_of_ble_eq_true rfl) (by decide) (by decide) dX0_priority_1

set_option maxHeartbeats 4000000 in
set_option maxRecDepth 100000 in
theorem tX0_priority_2 (l : Launch) (hfl : l.stackTraces = false) (D : va_G) (cZ cI : ClassId) (a : Nat → Nat) (σ : sC) {r : Nat} (hr : r < 4) (y : Int32) (hb : inB y 0 2 = 0) : MT l yX0_priority wsX0_priority ({ frames := 7, cells := 1, slots := 6, locals := 110 } : Room) D (tyZ cZ cI) [.ref (a 0), .int (nI r), .int y] (wX cZ cI a σ) eIA := by
  refine MT.of (cc := cX0_priority) (maxL := 3) (ret := (some .int)) (by decide) rfl (Nat.le_of_ble_eq_true rfl) ?_
  intro p e s m args below meth c S hK hZ hlk hx ls hl hw
  replace hl : lv_has ls 3 [(0, .ref (a 0)), (1, .int (nI r)), (2, .int y)] := hl
  replace S : CallFix p m c cX0_priority 3 s args wsX0_priority RX0 := S
  have hin := inX0_priority
  refine lv_iload_n S.1 S.2.1 dX0_priority_0 rfl (lv_at hl 1 rfl) ?_
  refine bt_sv (As := [.int (nI r)]) (rest := []) S hK hw (kX0_checkRouter l D _ (r := r) (by omega)) (va_cwS 1 S.2.2.2.2 gX0_priority_X0_checkRouter rfl rfl rfl (by decide +kernel) ⟨Nat.le_of_ble_eq_true rfl, Nat.le_of_ble_eq_true rfl⟩) rfl hl.1 rfl (Nat.le_of_ble_eq_true rfl) (Nat.zero_le _) (Nat.zero_le _) dX0_priority_1 (fun H locs hw => ?_)
  refine lv_iload_n S.1 S.2.1 dX0_priority_4 rfl (lv_at hl 2 rfl) ?_
  exact bt_sx (As := [.int y]) (rest := []) S hK hZ hlk hx hw (tX0_checkGroup l hfl D _ y hb) (va_cwS 1 S.2.2.2.2 gX0_priority_X0_checkGroup rfl rfl rfl (by decide +kernel) ⟨Nat.le_of_ble_eq_true rfl, Nat.le_of_ble_eq_true rfl⟩) rfl hl.1 rfl (Nat.le_of_ble_eq_true rfl) (by decide) (by decide) dX0_priority_5

set_option maxHeartbeats 4000000 in
set_option maxRecDepth 100000 in
theorem tX0_timer_1 (l : Launch) (hfl : l.stackTraces = false) (D : va_G) (cZ cI : ClassId) (a : Nat → Nat) (σ : sC) (x : Int32) (y : Int32) (hb : inB x 0 3 = 0) : MT l yX0_timer wsX0_timer ({ frames := 7, cells := 1, slots := 6, locals := 110 } : Room) D (tyZ cZ cI) [.ref (a 0), .int x, .int y] (wX cZ cI a σ) eIA := by
  refine MT.of (cc := cX0_timer) (maxL := 3) (ret := (some .int)) (by decide) rfl (Nat.le_of_ble_eq_true rfl) ?_
  intro p e s m args below meth c S hK hZ hlk hx ls hl hw
  replace hl : lv_has ls 3 [(0, .ref (a 0)), (1, .int x), (2, .int y)] := hl
  replace S : CallFix p m c cX0_timer 3 s args wsX0_timer RX0 := S
  have hin := inX0_timer
  refine lv_iload_n S.1 S.2.1 dX0_timer_0 rfl (lv_at hl 1 rfl) ?_
  exact bt_sx (As := [.int x]) (rest := []) S hK hZ hlk hx hw (tX0_checkRouter l hfl D _ x hb) (va_cwS 1 S.2.2.2.2 gX0_timer_X0_checkRouter rfl rfl rfl (by decide +kernel) ⟨Nat.le_of_ble_eq_true rfl, Nat.le_of_ble_eq_true rfl⟩) rfl hl.1 rfl (Nat.le_of_ble_eq_true rfl) (by decide) (by decide) dX0_timer_1

set_option maxHeartbeats 4000000 in
set_option maxRecDepth 100000 in
theorem tX0_timer_2 (l : Launch) (hfl : l.stackTraces = false) (D : va_G) (cZ cI : ClassId) (a : Nat → Nat) (σ : sC) {r : Nat} (hr : r < 4) (y : Int32) (hb : inB y 0 2 = 0) : MT l yX0_timer wsX0_timer ({ frames := 7, cells := 1, slots := 6, locals := 110 } : Room) D (tyZ cZ cI) [.ref (a 0), .int (nI r), .int y] (wX cZ cI a σ) eIA := by
  refine MT.of (cc := cX0_timer) (maxL := 3) (ret := (some .int)) (by decide) rfl (Nat.le_of_ble_eq_true rfl) ?_
  intro p e s m args below meth c S hK hZ hlk hx ls hl hw
  replace hl : lv_has ls 3 [(0, .ref (a 0)), (1, .int (nI r)), (2, .int y)] := hl
  replace S : CallFix p m c cX0_timer 3 s args wsX0_timer RX0 := S
  have hin := inX0_timer
  refine lv_iload_n S.1 S.2.1 dX0_timer_0 rfl (lv_at hl 1 rfl) ?_
  refine bt_sv (As := [.int (nI r)]) (rest := []) S hK hw (kX0_checkRouter l D _ (r := r) (by omega)) (va_cwS 1 S.2.2.2.2 gX0_timer_X0_checkRouter rfl rfl rfl (by decide +kernel) ⟨Nat.le_of_ble_eq_true rfl, Nat.le_of_ble_eq_true rfl⟩) rfl hl.1 rfl (Nat.le_of_ble_eq_true rfl) (Nat.zero_le _) (Nat.zero_le _) dX0_timer_1 (fun H locs hw => ?_)
  refine lv_iload_n S.1 S.2.1 dX0_timer_4 rfl (lv_at hl 2 rfl) ?_
  exact bt_sx (As := [.int y]) (rest := []) S hK hZ hlk hx hw (tX0_checkGroup l hfl D _ y hb) (va_cwS 1 S.2.2.2.2 gX0_timer_X0_checkGroup rfl rfl rfl (by decide +kernel) ⟨Nat.le_of_ble_eq_true rfl, Nat.le_of_ble_eq_true rfl⟩) rfl hl.1 rfl (Nat.le_of_ble_eq_true rfl) (by decide) (by decide) dX0_timer_5

set_option maxHeartbeats 4000000 in
set_option maxRecDepth 100000 in
theorem tX0_masters_1 (l : Launch) (hfl : l.stackTraces = false) (D : va_G) (cZ cI : ClassId) (a : Nat → Nat) (σ : sC) (x : Int32) (hb : inB x 0 2 = 0) : MT l yX0_masters wsX0_masters ({ frames := 7, cells := 1, slots := 6, locals := 110 } : Room) D (tyZ cZ cI) [.ref (a 0), .int x] (wX cZ cI a σ) eIA := by
  refine MT.of (cc := cX0_masters) (maxL := 2) (ret := (some .int)) (by decide) rfl (Nat.le_of_ble_eq_true rfl) ?_
  intro p e s m args below meth c S hK hZ hlk hx ls hl hw
  replace hl : lv_has ls 2 [(0, .ref (a 0)), (1, .int x)] := hl
  replace S : CallFix p m c cX0_masters 2 s args wsX0_masters RX0 := S
  have hin := inX0_masters
  refine lv_iload_n S.1 S.2.1 dX0_masters_0 rfl (lv_at hl 1 rfl) ?_
  exact bt_sx (As := [.int x]) (rest := []) S hK hZ hlk hx hw (tX0_checkGroup l hfl D _ x hb) (va_cwS 1 S.2.2.2.2 gX0_masters_X0_checkGroup rfl rfl rfl (by decide +kernel) ⟨Nat.le_of_ble_eq_true rfl, Nat.le_of_ble_eq_true rfl⟩) rfl hl.1 rfl (Nat.le_of_ble_eq_true rfl) (by decide) (by decide) dX0_masters_1

set_option maxHeartbeats 4000000 in
set_option maxRecDepth 100000 in
theorem tX0_changes_1 (l : Launch) (hfl : l.stackTraces = false) (D : va_G) (cZ cI : ClassId) (a : Nat → Nat) (σ : sC) (x : Int32) (y : Int32) (hb : inB x 0 3 = 0) : MT l yX0_changes wsX0_changes ({ frames := 7, cells := 1, slots := 6, locals := 110 } : Room) D (tyZ cZ cI) [.ref (a 0), .int x, .int y] (wX cZ cI a σ) eIA := by
  refine MT.of (cc := cX0_changes) (maxL := 3) (ret := (some .int)) (by decide) rfl (Nat.le_of_ble_eq_true rfl) ?_
  intro p e s m args below meth c S hK hZ hlk hx ls hl hw
  replace hl : lv_has ls 3 [(0, .ref (a 0)), (1, .int x), (2, .int y)] := hl
  replace S : CallFix p m c cX0_changes 3 s args wsX0_changes RX0 := S
  have hin := inX0_changes
  refine lv_iload_n S.1 S.2.1 dX0_changes_0 rfl (lv_at hl 1 rfl) ?_
  exact bt_sx (As := [.int x]) (rest := []) S hK hZ hlk hx hw (tX0_checkRouter l hfl D _ x hb) (va_cwS 1 S.2.2.2.2 gX0_changes_X0_checkRouter rfl rfl rfl (by decide +kernel) ⟨Nat.le_of_ble_eq_true rfl, Nat.le_of_ble_eq_true rfl⟩) rfl hl.1 rfl (Nat.le_of_ble_eq_true rfl) (by decide) (by decide) dX0_changes_1

set_option maxHeartbeats 4000000 in
set_option maxRecDepth 100000 in
theorem tX0_changes_2 (l : Launch) (hfl : l.stackTraces = false) (D : va_G) (cZ cI : ClassId) (a : Nat → Nat) (σ : sC) {r : Nat} (hr : r < 4) (y : Int32) (hb : inB y 0 2 = 0) : MT l yX0_changes wsX0_changes ({ frames := 7, cells := 1, slots := 6, locals := 110 } : Room) D (tyZ cZ cI) [.ref (a 0), .int (nI r), .int y] (wX cZ cI a σ) eIA := by
  refine MT.of (cc := cX0_changes) (maxL := 3) (ret := (some .int)) (by decide) rfl (Nat.le_of_ble_eq_true rfl) ?_
  intro p e s m args below meth c S hK hZ hlk hx ls hl hw
  replace hl : lv_has ls 3 [(0, .ref (a 0)), (1, .int (nI r)), (2, .int y)] := hl
  replace S : CallFix p m c cX0_changes 3 s args wsX0_changes RX0 := S
  have hin := inX0_changes
  refine lv_iload_n S.1 S.2.1 dX0_changes_0 rfl (lv_at hl 1 rfl) ?_
  refine bt_sv (As := [.int (nI r)]) (rest := []) S hK hw (kX0_checkRouter l D _ (r := r) (by omega)) (va_cwS 1 S.2.2.2.2 gX0_changes_X0_checkRouter rfl rfl rfl (by decide +kernel) ⟨Nat.le_of_ble_eq_true rfl, Nat.le_of_ble_eq_true rfl⟩) rfl hl.1 rfl (Nat.le_of_ble_eq_true rfl) (Nat.zero_le _) (Nat.zero_le _) dX0_changes_1 (fun H locs hw => ?_)
  refine lv_iload_n S.1 S.2.1 dX0_changes_4 rfl (lv_at hl 2 rfl) ?_
  exact bt_sx (As := [.int y]) (rest := []) S hK hZ hlk hx hw (tX0_checkGroup l hfl D _ y hb) (va_cwS 1 S.2.2.2.2 gX0_changes_X0_checkGroup rfl rfl rfl (by decide +kernel) ⟨Nat.le_of_ble_eq_true rfl, Nat.le_of_ble_eq_true rfl⟩) rfl hl.1 rfl (Nat.le_of_ble_eq_true rfl) (by decide) (by decide) dX0_changes_5

set_option maxHeartbeats 4000000 in
set_option maxRecDepth 100000 in
theorem tX0_gaps_1 (l : Launch) (hfl : l.stackTraces = false) (D : va_G) (cZ cI : ClassId) (a : Nat → Nat) (σ : sC) (x : Int32) (hb : inB x 0 2 = 0) : MT l yX0_gaps wsX0_gaps ({ frames := 7, cells := 1, slots := 6, locals := 110 } : Room) D (tyZ cZ cI) [.ref (a 0), .int x] (wX cZ cI a σ) eIA := by
  refine MT.of (cc := cX0_gaps) (maxL := 2) (ret := (some .int)) (by decide) rfl (Nat.le_of_ble_eq_true rfl) ?_
  intro p e s m args below meth c S hK hZ hlk hx ls hl hw
  replace hl : lv_has ls 2 [(0, .ref (a 0)), (1, .int x)] := hl
  replace S : CallFix p m c cX0_gaps 2 s args wsX0_gaps RX0 := S
  have hin := inX0_gaps
  refine lv_iload_n S.1 S.2.1 dX0_gaps_0 rfl (lv_at hl 1 rfl) ?_
  exact bt_sx (As := [.int x]) (rest := []) S hK hZ hlk hx hw (tX0_checkGroup l hfl D _ x hb) (va_cwS 1 S.2.2.2.2 gX0_gaps_X0_checkGroup rfl rfl rfl (by decide +kernel) ⟨Nat.le_of_ble_eq_true rfl, Nat.le_of_ble_eq_true rfl⟩) rfl hl.1 rfl (Nat.le_of_ble_eq_true rfl) (by decide) (by decide) dX0_gaps_1

set_option maxHeartbeats 4000000 in
set_option maxRecDepth 100000 in
theorem tX0_sent_1 (l : Launch) (hfl : l.stackTraces = false) (D : va_G) (cZ cI : ClassId) (a : Nat → Nat) (σ : sC) (x : Int32) (hb : inB x 0 2 = 0) : MT l yX0_sent wsX0_sent ({ frames := 7, cells := 1, slots := 6, locals := 110 } : Room) D (tyZ cZ cI) [.ref (a 0), .int x] (wX cZ cI a σ) eIA := by
  refine MT.of (cc := cX0_sent) (maxL := 2) (ret := (some .int)) (by decide) rfl (Nat.le_of_ble_eq_true rfl) ?_
  intro p e s m args below meth c S hK hZ hlk hx ls hl hw
  replace hl : lv_has ls 2 [(0, .ref (a 0)), (1, .int x)] := hl
  replace S : CallFix p m c cX0_sent 2 s args wsX0_sent RX0 := S
  have hin := inX0_sent
  refine lv_iload_n S.1 S.2.1 dX0_sent_0 rfl (lv_at hl 1 rfl) ?_
  exact bt_sx (As := [.int x]) (rest := []) S hK hZ hlk hx hw (tX0_checkGroup l hfl D _ x hb) (va_cwS 1 S.2.2.2.2 gX0_sent_X0_checkGroup rfl rfl rfl (by decide +kernel) ⟨Nat.le_of_ble_eq_true rfl, Nat.le_of_ble_eq_true rfl⟩) rfl hl.1 rfl (Nat.le_of_ble_eq_true rfl) (by decide) (by decide) dX0_sent_1

set_option maxHeartbeats 4000000 in
set_option maxRecDepth 100000 in
theorem tX0_known_1 (l : Launch) (hfl : l.stackTraces = false) (D : va_G) (cZ cI : ClassId) (a : Nat → Nat) (σ : sC) (x : Int32) (y : Int32) (hb : inB x 0 3 = 0) : MT l yX0_known wsX0_known ({ frames := 7, cells := 1, slots := 6, locals := 110 } : Room) D (tyZ cZ cI) [.ref (a 0), .int x, .int y] (wX cZ cI a σ) eIA := by
  refine MT.of (cc := cX0_known) (maxL := 3) (ret := (some .int)) (by decide) rfl (Nat.le_of_ble_eq_true rfl) ?_
  intro p e s m args below meth c S hK hZ hlk hx ls hl hw
  replace hl : lv_has ls 3 [(0, .ref (a 0)), (1, .int x), (2, .int y)] := hl
  replace S : CallFix p m c cX0_known 3 s args wsX0_known RX0 := S
  have hin := inX0_known
  refine lv_iload_n S.1 S.2.1 dX0_known_0 rfl (lv_at hl 1 rfl) ?_
  exact bt_sx (As := [.int x]) (rest := []) S hK hZ hlk hx hw (tX0_checkRouter l hfl D _ x hb) (va_cwS 1 S.2.2.2.2 gX0_known_X0_checkRouter rfl rfl rfl (by decide +kernel) ⟨Nat.le_of_ble_eq_true rfl, Nat.le_of_ble_eq_true rfl⟩) rfl hl.1 rfl (Nat.le_of_ble_eq_true rfl) (by decide) (by decide) dX0_known_1

set_option maxHeartbeats 4000000 in
set_option maxRecDepth 100000 in
theorem tX0_known_2 (l : Launch) (hfl : l.stackTraces = false) (D : va_G) (cZ cI : ClassId) (a : Nat → Nat) (σ : sC) {r : Nat} (hr : r < 4) (y : Int32) (hb : inB y 0 2 = 0) : MT l yX0_known wsX0_known ({ frames := 7, cells := 1, slots := 6, locals := 110 } : Room) D (tyZ cZ cI) [.ref (a 0), .int (nI r), .int y] (wX cZ cI a σ) eIA := by
  refine MT.of (cc := cX0_known) (maxL := 3) (ret := (some .int)) (by decide) rfl (Nat.le_of_ble_eq_true rfl) ?_
  intro p e s m args below meth c S hK hZ hlk hx ls hl hw
  replace hl : lv_has ls 3 [(0, .ref (a 0)), (1, .int (nI r)), (2, .int y)] := hl
  replace S : CallFix p m c cX0_known 3 s args wsX0_known RX0 := S
  have hin := inX0_known
  refine lv_iload_n S.1 S.2.1 dX0_known_0 rfl (lv_at hl 1 rfl) ?_
  refine bt_sv (As := [.int (nI r)]) (rest := []) S hK hw (kX0_checkRouter l D _ (r := r) (by omega)) (va_cwS 1 S.2.2.2.2 gX0_known_X0_checkRouter rfl rfl rfl (by decide +kernel) ⟨Nat.le_of_ble_eq_true rfl, Nat.le_of_ble_eq_true rfl⟩) rfl hl.1 rfl (Nat.le_of_ble_eq_true rfl) (Nat.zero_le _) (Nat.zero_le _) dX0_known_1 (fun H locs hw => ?_)
  refine lv_iload_n S.1 S.2.1 dX0_known_4 rfl (lv_at hl 2 rfl) ?_
  exact bt_sx (As := [.int y]) (rest := []) S hK hZ hlk hx hw (tX0_checkGroup l hfl D _ y hb) (va_cwS 1 S.2.2.2.2 gX0_known_X0_checkGroup rfl rfl rfl (by decide +kernel) ⟨Nat.le_of_ble_eq_true rfl, Nat.le_of_ble_eq_true rfl⟩) rfl hl.1 rfl (Nat.le_of_ble_eq_true rfl) (by decide) (by decide) dX0_known_5

set_option maxHeartbeats 4000000 in
set_option maxRecDepth 100000 in
theorem tX0_isSettled_1 (l : Launch) (hfl : l.stackTraces = false) (D : va_G) (cZ cI : ClassId) (a : Nat → Nat) (σ : sC) (x : Int32) (hb : inB x 0 2 = 0) : MT l yX0_isSettled wsX0_isSettled ({ frames := 7, cells := 1, slots := 6, locals := 110 } : Room) D (tyZ cZ cI) [.ref (a 0), .int x] (wX cZ cI a σ) eIA := by
  refine MT.of (cc := cX0_isSettled) (maxL := 2) (ret := (some .boolean)) (by decide) rfl (Nat.le_of_ble_eq_true rfl) ?_
  intro p e s m args below meth c S hK hZ hlk hx ls hl hw
  replace hl : lv_has ls 2 [(0, .ref (a 0)), (1, .int x)] := hl
  replace S : CallFix p m c cX0_isSettled 2 s args wsX0_isSettled RX0 := S
  have hin := inX0_isSettled
  refine lv_iload_n S.1 S.2.1 dX0_isSettled_0 rfl (lv_at hl 1 rfl) ?_
  exact bt_sx (As := [.int x]) (rest := []) S hK hZ hlk hx hw (tX0_checkGroup l hfl D _ x hb) (va_cwS 1 S.2.2.2.2 gX0_isSettled_X0_checkGroup rfl rfl rfl (by decide +kernel) ⟨Nat.le_of_ble_eq_true rfl, Nat.le_of_ble_eq_true rfl⟩) rfl hl.1 rfl (Nat.le_of_ble_eq_true rfl) (by decide) (by decide) dX0_isSettled_1

set_option maxHeartbeats 4000000 in
set_option maxRecDepth 100000 in
theorem tX0_join_1 (l : Launch) (hfl : l.stackTraces = false) (D : va_G) (cZ cI : ClassId) (a : Nat → Nat) (σ : sC) (x y b : Int32) (hb : inB x 0 3 = 0) : MT l yX0_join wsX0_join ({ frames := 7, cells := 1, slots := 6, locals := 110 } : Room) D (tyZ cZ cI) [.ref (a 0), .int x, .int y, .int b] (wX cZ cI a σ) eIA := by
  refine MT.of (cc := cX0_join) (maxL := 5) (ret := (some .boolean)) (by decide) rfl (Nat.le_of_ble_eq_true rfl) ?_
  intro p e s m args below meth c S hK hZ hlk hx ls hl hw
  replace hl : lv_has ls 5 [(0, .ref (a 0)), (1, .int x), (2, .int y), (3, .int b)] := hl
  replace S : CallFix p m c cX0_join 5 s args wsX0_join RX0 := S
  have hin := inX0_join
  have hm1 : Cond.classLink RX0 87 eIA ∈ wsX0_join := by decide +kernel
  have hm2 : Cond.initialized eIA ∈ wsX0_join := by decide +kernel
  have hm3 : ∀ w ∈ (vx_atS RX0 91 eIA ["java/lang/RuntimeException", "java/lang/Exception"]).filter goodWord, w ∈ wsX0_join := fun _ h => List.mem_cons_of_mem _ (List.mem_append_right _ h)
  refine lv_iload_n S.1 S.2.1 dX0_join_0 rfl (lv_at hl 1 rfl) ?_
  exact bt_sx (As := [.int x]) (rest := []) S hK hZ hlk hx hw (tX0_checkRouter l hfl D _ x hb) (va_cwS 1 S.2.2.2.2 gX0_join_X0_checkRouter rfl rfl rfl (by decide +kernel) ⟨Nat.le_of_ble_eq_true rfl, Nat.le_of_ble_eq_true rfl⟩) rfl hl.1 rfl (Nat.le_of_ble_eq_true rfl) (by decide) (by decide) dX0_join_1

set_option maxHeartbeats 4000000 in
set_option maxRecDepth 100000 in
theorem tX0_join_2 (l : Launch) (hfl : l.stackTraces = false) (D : va_G) (cZ cI : ClassId) (a : Nat → Nat) (σ : sC) {r : Nat} (hr : r < 4) (y b : Int32) (hb : inB y 0 3 = 0) : MT l yX0_join wsX0_join ({ frames := 7, cells := 1, slots := 6, locals := 110 } : Room) D (tyZ cZ cI) [.ref (a 0), .int (nI r), .int y, .int b] (wX cZ cI a σ) eIA := by
  refine MT.of (cc := cX0_join) (maxL := 5) (ret := (some .boolean)) (by decide) rfl (Nat.le_of_ble_eq_true rfl) ?_
  intro p e s m args below meth c S hK hZ hlk hx ls hl hw
  replace hl : lv_has ls 5 [(0, .ref (a 0)), (1, .int (nI r)), (2, .int y), (3, .int b)] := hl
  replace S : CallFix p m c cX0_join 5 s args wsX0_join RX0 := S
  have hin := inX0_join
  have hm1 : Cond.classLink RX0 87 eIA ∈ wsX0_join := by decide +kernel
  have hm2 : Cond.initialized eIA ∈ wsX0_join := by decide +kernel
  have hm3 : ∀ w ∈ (vx_atS RX0 91 eIA ["java/lang/RuntimeException", "java/lang/Exception"]).filter goodWord, w ∈ wsX0_join := fun _ h => List.mem_cons_of_mem _ (List.mem_append_right _ h)
  refine lv_iload_n S.1 S.2.1 dX0_join_0 rfl (lv_at hl 1 rfl) ?_
  refine bt_sv (As := [.int (nI r)]) (rest := []) S hK hw (kX0_checkRouter l D _ (r := r) (by omega)) (va_cwS 1 S.2.2.2.2 gX0_join_X0_checkRouter rfl rfl rfl (by decide +kernel) ⟨Nat.le_of_ble_eq_true rfl, Nat.le_of_ble_eq_true rfl⟩) rfl hl.1 rfl (Nat.le_of_ble_eq_true rfl) (Nat.zero_le _) (Nat.zero_le _) dX0_join_1 (fun H locs hw => ?_)
  refine lv_iload_n S.1 S.2.1 dX0_join_4 rfl (lv_at hl 2 rfl) ?_
  exact bt_sx (As := [.int y]) (rest := []) S hK hZ hlk hx hw (tX0_checkRouter l hfl D _ y hb) (va_cwS 1 S.2.2.2.2 gX0_join_X0_checkRouter rfl rfl rfl (by decide +kernel) ⟨Nat.le_of_ble_eq_true rfl, Nat.le_of_ble_eq_true rfl⟩) rfl hl.1 rfl (Nat.le_of_ble_eq_true rfl) (by decide) (by decide) dX0_join_5

set_option maxHeartbeats 4000000 in
set_option maxRecDepth 100000 in
theorem tX0_join_3 (l : Launch) (hfl : l.stackTraces = false) (D : va_G) (cZ cI : ClassId) (a : Nat → Nat) (σ : sC) {r : Nat} (hr : r < 4) (b : Int32) : MT l yX0_join wsX0_join ({ frames := 7, cells := 1, slots := 6, locals := 110 } : Room) D (tyZ cZ cI) [.ref (a 0), .int (nI r), .int (nI r), .int b] (wX cZ cI a σ) eIA := by
  refine MT.of (cc := cX0_join) (maxL := 5) (ret := (some .boolean)) (by decide) rfl (Nat.le_of_ble_eq_true rfl) ?_
  intro p e s m args below meth c S hK hZ hlk hx ls hl hw
  replace hl : lv_has ls 5 [(0, .ref (a 0)), (1, .int (nI r)), (2, .int (nI r)), (3, .int b)] := hl
  replace S : CallFix p m c cX0_join 5 s args wsX0_join RX0 := S
  have hin := inX0_join
  have hm1 : Cond.classLink RX0 87 eIA ∈ wsX0_join := by decide +kernel
  have hm2 : Cond.initialized eIA ∈ wsX0_join := by decide +kernel
  have hm3 : ∀ w ∈ (vx_atS RX0 91 eIA ["java/lang/RuntimeException", "java/lang/Exception"]).filter goodWord, w ∈ wsX0_join := fun _ h => List.mem_cons_of_mem _ (List.mem_append_right _ h)
  refine lv_iload_n S.1 S.2.1 dX0_join_0 rfl (lv_at hl 1 rfl) ?_
  refine bt_sv (As := [.int (nI r)]) (rest := []) S hK hw (kX0_checkRouter l D _ (r := r) (by omega)) (va_cwS 1 S.2.2.2.2 gX0_join_X0_checkRouter rfl rfl rfl (by decide +kernel) ⟨Nat.le_of_ble_eq_true rfl, Nat.le_of_ble_eq_true rfl⟩) rfl hl.1 rfl (Nat.le_of_ble_eq_true rfl) (Nat.zero_le _) (Nat.zero_le _) dX0_join_1 (fun H locs hw => ?_)
  refine lv_iload_n S.1 S.2.1 dX0_join_4 rfl (lv_at hl 2 rfl) ?_
  refine bt_sv (As := [.int (nI r)]) (rest := []) S hK hw (kX0_checkRouter l D _ (r := r) (by omega)) (va_cwS 1 S.2.2.2.2 gX0_join_X0_checkRouter rfl rfl rfl (by decide +kernel) ⟨Nat.le_of_ble_eq_true rfl, Nat.le_of_ble_eq_true rfl⟩) rfl hl.1 rfl (Nat.le_of_ble_eq_true rfl) (Nat.zero_le _) (Nat.zero_le _) dX0_join_5 (fun H locs hw => ?_)
  refine lv_iload_n S.1 S.2.1 dX0_join_8 rfl (lv_at hl 1 rfl) ?_
  refine lv_iload_n S.1 S.2.1 dX0_join_9 rfl (lv_at hl 2 rfl) ?_
  refine br_ne (tgt := 23) S dX0_join_10 (by decide) (fun c10 => ?_) (fun c10 => ?_)
  · exact (c10 rfl).elim
  · exact bt_own (E := eIA) (k := 4) S hfl hZ hlk hx hw hl.1 rfl (by decide +kernel) hm1 hm2 hm3 ng_IA ot_IA dX0_join_13 dX0_join_16 dX0_join_17 dX0_join_19 dX0_join_22 (by decide) (by decide) (by decide) (by decide)

theorem tflX0_die_9 : Cond.fieldLink RX0 9 "StandbyPair" "alive" "[Z" ∈ wsX0_die := by decide +kernel
set_option maxHeartbeats 4000000 in
set_option maxRecDepth 100000 in
theorem tX0_die_s (l : Launch) (hfl : l.stackTraces = false) (D : va_G) (cZ cI : ClassId) (a : Nat → Nat) (σ : sC) {r : Nat} (hr : r < 4) (ha : σ 0 r = 0) : MT l yX0_die wsX0_die ({ frames := 7, cells := 1, slots := 6, locals := 110 } : Room) D (tyZ cZ cI) [.ref (a 0), .int (nI r)] (wX cZ cI a σ) eIS := by
  refine MT.of (cc := cX0_die) (maxL := 5) (ret := (some .int)) (by decide) rfl (Nat.le_of_ble_eq_true rfl) ?_
  intro p e s m args below meth c S hK hZ hlk hx ls hl hw
  replace hl : lv_has ls 5 [(0, .ref (a 0)), (1, .int (nI r))] := hl
  replace S : CallFix p m c cX0_die 5 s args wsX0_die RX0 := S
  have hin := inX0_die
  have hm1 : Cond.classLink RX0 94 eIS ∈ wsX0_die := by decide +kernel
  have hm2 : Cond.initialized eIS ∈ wsX0_die := by decide +kernel
  have hm3 : ∀ w ∈ (vx_atS RX0 98 eIS ["java/lang/RuntimeException", "java/lang/Exception"]).filter goodWord, w ∈ wsX0_die := fun _ h => List.mem_cons_of_mem _ (List.mem_append_left _ (List.mem_append_right _ h))
  refine lv_iload_n S.1 S.2.1 dX0_die_0 rfl (lv_at hl 1 rfl) ?_
  refine bt_sv (As := [.int (nI r)]) (rest := []) S hK hw (kX0_checkRouter l D _ (r := r) (by omega)) (va_cwS 1 S.2.2.2.2 gX0_die_X0_checkRouter rfl rfl rfl (by decide +kernel) ⟨Nat.le_of_ble_eq_true rfl, Nat.le_of_ble_eq_true rfl⟩) rfl hl.1 rfl (Nat.le_of_ble_eq_true rfl) (Nat.zero_le _) (Nat.zero_le _) dX0_die_1 (fun H locs hw => ?_)
  refine lv_aload_n S.1 S.2.1 dX0_die_4 rfl (lv_at hl 0 rfl) ?_
  refine bx_get S hK hin hw.1 0 rfl rfl 0 (by decide) tflX0_die_9 rfl dX0_die_5 ?_
  refine lv_iload_n S.1 S.2.1 dX0_die_8 rfl (lv_at hl 1 rfl) ?_
  refine bx_zald (v := σ 0 r) S hK hw.1 1 0 rfl rfl (by omega) (by decide) rfl dX0_die_9 ?_
  refine bz_ne (tgt := 23) S dX0_die_10 (by decide) (fun c10 => ?_) (fun c10 => ?_)
  · exact absurd c10 (not_not_intro ha)
  · exact bt_own (E := eIS) (k := 5) S hfl hZ hlk hx hw hl.1 rfl (by decide +kernel) hm1 hm2 hm3 ng_IS ot_IS dX0_die_13 dX0_die_16 dX0_die_17 dX0_die_19 dX0_die_22 (by decide) (by decide) (by decide) (by decide)

theorem tflX0_live_9 : Cond.fieldLink RX0 9 "StandbyPair" "alive" "[Z" ∈ wsX0_live := by decide +kernel
set_option maxHeartbeats 4000000 in
set_option maxRecDepth 100000 in
theorem tX0_live_s (l : Launch) (hfl : l.stackTraces = false) (D : va_G) (cZ cI : ClassId) (a : Nat → Nat) (σ : sC) {r : Nat} (hr : r < 4) (ha : ¬ σ 0 r = 0) : MT l yX0_live wsX0_live ({ frames := 7, cells := 1, slots := 6, locals := 110 } : Room) D (tyZ cZ cI) [.ref (a 0), .int (nI r)] (wX cZ cI a σ) eIS := by
  refine MT.of (cc := cX0_live) (maxL := 4) (ret := (some .int)) (by decide) rfl (Nat.le_of_ble_eq_true rfl) ?_
  intro p e s m args below meth c S hK hZ hlk hx ls hl hw
  replace hl : lv_has ls 4 [(0, .ref (a 0)), (1, .int (nI r))] := hl
  replace S : CallFix p m c cX0_live 4 s args wsX0_live RX0 := S
  have hin := inX0_live
  have hm1 : Cond.classLink RX0 94 eIS ∈ wsX0_live := by decide +kernel
  have hm2 : Cond.initialized eIS ∈ wsX0_live := by decide +kernel
  have hm3 : ∀ w ∈ (vx_atS RX0 98 eIS ["java/lang/RuntimeException", "java/lang/Exception"]).filter goodWord, w ∈ wsX0_live := fun _ h => List.mem_cons_of_mem _ (List.mem_append_left _ (List.mem_append_right _ h))
  refine lv_iload_n S.1 S.2.1 dX0_live_0 rfl (lv_at hl 1 rfl) ?_
  refine bt_sv (As := [.int (nI r)]) (rest := []) S hK hw (kX0_checkRouter l D _ (r := r) (by omega)) (va_cwS 1 S.2.2.2.2 gX0_live_X0_checkRouter rfl rfl rfl (by decide +kernel) ⟨Nat.le_of_ble_eq_true rfl, Nat.le_of_ble_eq_true rfl⟩) rfl hl.1 rfl (Nat.le_of_ble_eq_true rfl) (Nat.zero_le _) (Nat.zero_le _) dX0_live_1 (fun H locs hw => ?_)
  refine lv_aload_n S.1 S.2.1 dX0_live_4 rfl (lv_at hl 0 rfl) ?_
  refine bx_get S hK hin hw.1 0 rfl rfl 0 (by decide) tflX0_live_9 rfl dX0_live_5 ?_
  refine lv_iload_n S.1 S.2.1 dX0_live_8 rfl (lv_at hl 1 rfl) ?_
  refine bx_zald (v := σ 0 r) S hK hw.1 1 0 rfl rfl (by omega) (by decide) rfl dX0_live_9 ?_
  refine bz_eq (tgt := 23) S dX0_live_10 (by decide) (fun c10 => ?_) (fun c10 => ?_)
  · exact absurd c10 ha
  · exact bt_own (E := eIS) (k := 6) S hfl hZ hlk hx hw hl.1 rfl (by decide +kernel) hm1 hm2 hm3 ng_IS ot_IS dX0_live_13 dX0_live_16 dX0_live_17 dX0_live_19 dX0_live_22 (by decide) (by decide) (by decide) (by decide)

theorem tflX0_handOver_41 : Cond.fieldLink RX0 41 "StandbyPair" "roles" "[I" ∈ wsX0_handOver := by decide +kernel
set_option maxHeartbeats 4000000 in
set_option maxRecDepth 100000 in
theorem tX0_handOver_s (l : Launch) (hfl : l.stackTraces = false) (D : va_G) (cZ cI : ClassId) (a : Nat → Nat) (σ : sC) {r g : Nat} (hr : r < 4) (hg : g < 3) (hm : ¬ σ 10 (4 * g + r) = 2) : MT l yX0_handOver wsX0_handOver ({ frames := 7, cells := 1, slots := 6, locals := 110 } : Room) D (tyZ cZ cI) [.ref (a 0), .int (nI r), .int (nI g)] (wX cZ cI a σ) eIS := by
  refine MT.of (cc := cX0_handOver) (maxL := 3) (ret := none) (by decide) rfl (Nat.le_of_ble_eq_true rfl) ?_
  intro p e s m args below meth c S hK hZ hlk hx ls hl hw
  replace hl : lv_has ls 3 [(0, .ref (a 0)), (1, .int (nI r)), (2, .int (nI g))] := hl
  replace S : CallFix p m c cX0_handOver 3 s args wsX0_handOver RX0 := S
  have hin := inX0_handOver
  have hm1 : Cond.classLink RX0 94 eIS ∈ wsX0_handOver := by decide +kernel
  have hm2 : Cond.initialized eIS ∈ wsX0_handOver := by decide +kernel
  have hm3 : ∀ w ∈ (vx_atS RX0 98 eIS ["java/lang/RuntimeException", "java/lang/Exception"]).filter goodWord, w ∈ wsX0_handOver := fun _ h => List.mem_cons_of_mem _ (List.mem_append_left _ (List.mem_append_right _ h))
  refine lv_iload_n S.1 S.2.1 dX0_handOver_0 rfl (lv_at hl 1 rfl) ?_
  refine bt_sv (As := [.int (nI r)]) (rest := []) S hK hw (kX0_checkRouter l D _ (r := r) (by omega)) (va_cwS 1 S.2.2.2.2 gX0_handOver_X0_checkRouter rfl rfl rfl (by decide +kernel) ⟨Nat.le_of_ble_eq_true rfl, Nat.le_of_ble_eq_true rfl⟩) rfl hl.1 rfl (Nat.le_of_ble_eq_true rfl) (Nat.zero_le _) (Nat.zero_le _) dX0_handOver_1 (fun H locs hw => ?_)
  refine lv_iload_n S.1 S.2.1 dX0_handOver_4 rfl (lv_at hl 2 rfl) ?_
  refine bt_sv (As := [.int (nI g)]) (rest := []) S hK hw (kX0_checkGroup l D _ (g := g) (by omega)) (va_cwS 1 S.2.2.2.2 gX0_handOver_X0_checkGroup rfl rfl rfl (by decide +kernel) ⟨Nat.le_of_ble_eq_true rfl, Nat.le_of_ble_eq_true rfl⟩) rfl hl.1 rfl (Nat.le_of_ble_eq_true rfl) (Nat.zero_le _) (Nat.zero_le _) dX0_handOver_5 (fun H locs hw => ?_)
  refine lv_aload_n S.1 S.2.1 dX0_handOver_8 rfl (lv_at hl 0 rfl) ?_
  refine bx_get S hK hin hw.1 0 rfl rfl 10 (by decide) tflX0_handOver_41 rfl dX0_handOver_9 ?_
  refine lv_iload_n S.1 S.2.1 dX0_handOver_12 rfl (lv_at hl 1 rfl) ?_
  refine lv_iload_n S.1 S.2.1 dX0_handOver_13 rfl (lv_at hl 2 rfl) ?_
  refine bt_si (As := [.int (nI r), .int (nI g)]) (rest := [.ref (a 11)]) S hK hw (kX0_placeOf l D _ (r := r) (g := g) (by omega) (by omega)) (va_cwS 2 S.2.2.2.2 gX0_handOver_X0_placeOf rfl rfl rfl (by decide +kernel) ⟨Nat.le_of_ble_eq_true rfl, Nat.le_of_ble_eq_true rfl⟩) rfl hl.1 rfl (Nat.le_of_ble_eq_true rfl) (Nat.zero_le _) (Nat.zero_le _) dX0_handOver_14 (fun H locs hw => ?_)
  refine bx_iald (v := σ 10 (4 * g + r)) S hK hw.1 11 1 rfl rfl (by omega) (by decide) rfl dX0_handOver_17 ?_
  refine lv_iconst (v := 2) S.1 S.2.1 dX0_handOver_18 (by decide) ?_
  refine br_eq (tgt := 32) S dX0_handOver_19 (by decide) (fun c19 => ?_) (fun c19 => ?_)
  · exact absurd c19 hm
  · exact bt_own (E := eIS) (k := 7) S hfl hZ hlk hx hw hl.1 rfl (by decide +kernel) hm1 hm2 hm3 ng_IS ot_IS dX0_handOver_22 dX0_handOver_25 dX0_handOver_26 dX0_handOver_28 dX0_handOver_31 (by decide) (by decide) (by decide) (by decide)

theorem tflX0_timer_41 : Cond.fieldLink RX0 41 "StandbyPair" "roles" "[I" ∈ wsX0_timer := by decide +kernel
set_option maxHeartbeats 4000000 in
set_option maxRecDepth 100000 in
theorem tX0_timer_s (l : Launch) (hfl : l.stackTraces = false) (D : va_G) (cZ cI : ClassId) (a : Nat → Nat) (σ : sC) {r g : Nat} (hr : r < 4) (hg : g < 3) (ho : σ 10 (4 * g + r) = 0) : MT l yX0_timer wsX0_timer ({ frames := 7, cells := 1, slots := 6, locals := 110 } : Room) D (tyZ cZ cI) [.ref (a 0), .int (nI r), .int (nI g)] (wX cZ cI a σ) eIS := by
  refine MT.of (cc := cX0_timer) (maxL := 3) (ret := (some .int)) (by decide) rfl (Nat.le_of_ble_eq_true rfl) ?_
  intro p e s m args below meth c S hK hZ hlk hx ls hl hw
  replace hl : lv_has ls 3 [(0, .ref (a 0)), (1, .int (nI r)), (2, .int (nI g))] := hl
  replace S : CallFix p m c cX0_timer 3 s args wsX0_timer RX0 := S
  have hin := inX0_timer
  have hm1 : Cond.classLink RX0 94 eIS ∈ wsX0_timer := by decide +kernel
  have hm2 : Cond.initialized eIS ∈ wsX0_timer := by decide +kernel
  have hm3 : ∀ w ∈ (vx_atS RX0 98 eIS ["java/lang/RuntimeException", "java/lang/Exception"]).filter goodWord, w ∈ wsX0_timer := fun _ h => List.mem_cons_of_mem _ (List.mem_append_left _ (List.mem_append_right _ h))
  refine lv_iload_n S.1 S.2.1 dX0_timer_0 rfl (lv_at hl 1 rfl) ?_
  refine bt_sv (As := [.int (nI r)]) (rest := []) S hK hw (kX0_checkRouter l D _ (r := r) (by omega)) (va_cwS 1 S.2.2.2.2 gX0_timer_X0_checkRouter rfl rfl rfl (by decide +kernel) ⟨Nat.le_of_ble_eq_true rfl, Nat.le_of_ble_eq_true rfl⟩) rfl hl.1 rfl (Nat.le_of_ble_eq_true rfl) (Nat.zero_le _) (Nat.zero_le _) dX0_timer_1 (fun H locs hw => ?_)
  refine lv_iload_n S.1 S.2.1 dX0_timer_4 rfl (lv_at hl 2 rfl) ?_
  refine bt_sv (As := [.int (nI g)]) (rest := []) S hK hw (kX0_checkGroup l D _ (g := g) (by omega)) (va_cwS 1 S.2.2.2.2 gX0_timer_X0_checkGroup rfl rfl rfl (by decide +kernel) ⟨Nat.le_of_ble_eq_true rfl, Nat.le_of_ble_eq_true rfl⟩) rfl hl.1 rfl (Nat.le_of_ble_eq_true rfl) (Nat.zero_le _) (Nat.zero_le _) dX0_timer_5 (fun H locs hw => ?_)
  refine lv_aload_n S.1 S.2.1 dX0_timer_8 rfl (lv_at hl 0 rfl) ?_
  refine bx_get S hK hin hw.1 0 rfl rfl 10 (by decide) tflX0_timer_41 rfl dX0_timer_9 ?_
  refine lv_iload_n S.1 S.2.1 dX0_timer_12 rfl (lv_at hl 1 rfl) ?_
  refine lv_iload_n S.1 S.2.1 dX0_timer_13 rfl (lv_at hl 2 rfl) ?_
  refine bt_si (As := [.int (nI r), .int (nI g)]) (rest := [.ref (a 11)]) S hK hw (kX0_placeOf l D _ (r := r) (g := g) (by omega) (by omega)) (va_cwS 2 S.2.2.2.2 gX0_timer_X0_placeOf rfl rfl rfl (by decide +kernel) ⟨Nat.le_of_ble_eq_true rfl, Nat.le_of_ble_eq_true rfl⟩) rfl hl.1 rfl (Nat.le_of_ble_eq_true rfl) (Nat.zero_le _) (Nat.zero_le _) dX0_timer_14 (fun H locs hw => ?_)
  refine bx_iald (v := σ 10 (4 * g + r)) S hK hw.1 11 1 rfl rfl (by omega) (by decide) rfl dX0_timer_17 ?_
  refine bz_ne (tgt := 31) S dX0_timer_18 (by decide) (fun c18 => ?_) (fun c18 => ?_)
  · exact absurd c18 (not_not_intro ho)
  · exact bt_own (E := eIS) (k := 8) S hfl hZ hlk hx hw hl.1 rfl (by decide +kernel) hm1 hm2 hm3 ng_IS ot_IS dX0_timer_21 dX0_timer_24 dX0_timer_25 dX0_timer_27 dX0_timer_30 (by decide) (by decide) (by decide) (by decide)

theorem tX0_setPriority_b (l : Launch) (hfl : l.stackTraces = false) (D : va_G) (cZ cI : ClassId) (a : Nat → Nat) (σ : sC) (x y v : Int32) (hb : arE x y = 0 ∨ inB v 0 254 = 0) : MT l yX0_setPriority wsX0_setPriority ({ frames := 7, cells := 1, slots := 6, locals := 110 } : Room) D (tyZ cZ cI) [.ref (a 0), .int x, .int y, .int v] (wX cZ cI a σ) eIA := by
  by_cases q : inB x 0 3 = 0
  · exact tX0_setPriority_1 l hfl D cZ cI a σ x y v q
  · obtain ⟨r, hr, rfl⟩ := in_rx q
    by_cases q2 : inB y 0 2 = 0
    · exact tX0_setPriority_2 l hfl D cZ cI a σ hr y v q2
    · obtain ⟨g, hg, rfl⟩ := in_gx q2
      exact tX0_setPriority_3 l hfl D cZ cI a σ hr hg v (hb.resolve_left (fun h => absurd ((are_1 hr hg).symm.trans h) (by decide)))

theorem tX0_track_b (l : Launch) (hfl : l.stackTraces = false) (D : va_G) (cZ cI : ClassId) (a : Nat → Nat) (σ : sC) (x y v : Int32) (hb : lkE x y = 0 ∨ inB v 0 100 = 0) : MT l yX0_track wsX0_track ({ frames := 7, cells := 1, slots := 6, locals := 110 } : Room) D (tyZ cZ cI) [.ref (a 0), .int x, .int y, .int v] (wX cZ cI a σ) eIA := by
  by_cases q : inB x 0 3 = 0
  · exact tX0_track_1 l hfl D cZ cI a σ x y v q
  · obtain ⟨r, hr, rfl⟩ := in_rx q
    by_cases q2 : inB y 0 1 = 0
    · exact tX0_track_2 l hfl D cZ cI a σ hr y v q2
    · obtain ⟨g, hg, rfl⟩ := in_kx q2
      exact tX0_track_3 l hfl D cZ cI a σ hr hg v (hb.resolve_left (fun h => absurd ((lk_1 hr hg).symm.trans h) (by decide)))

theorem tX0_setLink_b (l : Launch) (hfl : l.stackTraces = false) (D : va_G) (cZ cI : ClassId) (a : Nat → Nat) (σ : sC) (x y b : Int32) (hb : lkE x y = 0) : MT l yX0_setLink wsX0_setLink ({ frames := 7, cells := 1, slots := 6, locals := 110 } : Room) D (tyZ cZ cI) [.ref (a 0), .int x, .int y, .int b] (wX cZ cI a σ) eIA := by
  by_cases q : inB x 0 3 = 0
  · exact tX0_setLink_1 l hfl D cZ cI a σ x y b q
  · obtain ⟨r, hr, rfl⟩ := in_rx q
    by_cases q2 : inB y 0 1 = 0
    · exact tX0_setLink_2 l hfl D cZ cI a σ hr y b q2
    · obtain ⟨g, hg, rfl⟩ := in_kx q2
      exact absurd ((lk_1 hr hg).symm.trans hb) (by decide)

theorem tX0_handOver_b (l : Launch) (hfl : l.stackTraces = false) (D : va_G) (cZ cI : ClassId) (a : Nat → Nat) (σ : sC) (x y : Int32) (hb : arE x y = 0) : MT l yX0_handOver wsX0_handOver ({ frames := 7, cells := 1, slots := 6, locals := 110 } : Room) D (tyZ cZ cI) [.ref (a 0), .int x, .int y] (wX cZ cI a σ) eIA := by
  by_cases q : inB x 0 3 = 0
  · exact tX0_handOver_1 l hfl D cZ cI a σ x y q
  · obtain ⟨r, hr, rfl⟩ := in_rx q
    by_cases q2 : inB y 0 2 = 0
    · exact tX0_handOver_2 l hfl D cZ cI a σ hr y q2
    · obtain ⟨g, hg, rfl⟩ := in_gx q2
      exact absurd ((are_1 hr hg).symm.trans hb) (by decide)

theorem tX0_state_b (l : Launch) (hfl : l.stackTraces = false) (D : va_G) (cZ cI : ClassId) (a : Nat → Nat) (σ : sC) (x y : Int32) (hb : arE x y = 0) : MT l yX0_state wsX0_state ({ frames := 7, cells := 1, slots := 6, locals := 110 } : Room) D (tyZ cZ cI) [.ref (a 0), .int x, .int y] (wX cZ cI a σ) eIA := by
  by_cases q : inB x 0 3 = 0
  · exact tX0_state_1 l hfl D cZ cI a σ x y q
  · obtain ⟨r, hr, rfl⟩ := in_rx q
    by_cases q2 : inB y 0 2 = 0
    · exact tX0_state_2 l hfl D cZ cI a σ hr y q2
    · obtain ⟨g, hg, rfl⟩ := in_gx q2
      exact absurd ((are_1 hr hg).symm.trans hb) (by decide)

theorem tX0_priority_b (l : Launch) (hfl : l.stackTraces = false) (D : va_G) (cZ cI : ClassId) (a : Nat → Nat) (σ : sC) (x y : Int32) (hb : arE x y = 0) : MT l yX0_priority wsX0_priority ({ frames := 7, cells := 1, slots := 6, locals := 110 } : Room) D (tyZ cZ cI) [.ref (a 0), .int x, .int y] (wX cZ cI a σ) eIA := by
  by_cases q : inB x 0 3 = 0
  · exact tX0_priority_1 l hfl D cZ cI a σ x y q
  · obtain ⟨r, hr, rfl⟩ := in_rx q
    by_cases q2 : inB y 0 2 = 0
    · exact tX0_priority_2 l hfl D cZ cI a σ hr y q2
    · obtain ⟨g, hg, rfl⟩ := in_gx q2
      exact absurd ((are_1 hr hg).symm.trans hb) (by decide)

theorem tX0_timer_b (l : Launch) (hfl : l.stackTraces = false) (D : va_G) (cZ cI : ClassId) (a : Nat → Nat) (σ : sC) (x y : Int32) (hb : arE x y = 0) : MT l yX0_timer wsX0_timer ({ frames := 7, cells := 1, slots := 6, locals := 110 } : Room) D (tyZ cZ cI) [.ref (a 0), .int x, .int y] (wX cZ cI a σ) eIA := by
  by_cases q : inB x 0 3 = 0
  · exact tX0_timer_1 l hfl D cZ cI a σ x y q
  · obtain ⟨r, hr, rfl⟩ := in_rx q
    by_cases q2 : inB y 0 2 = 0
    · exact tX0_timer_2 l hfl D cZ cI a σ hr y q2
    · obtain ⟨g, hg, rfl⟩ := in_gx q2
      exact absurd ((are_1 hr hg).symm.trans hb) (by decide)

theorem tX0_changes_b (l : Launch) (hfl : l.stackTraces = false) (D : va_G) (cZ cI : ClassId) (a : Nat → Nat) (σ : sC) (x y : Int32) (hb : arE x y = 0) : MT l yX0_changes wsX0_changes ({ frames := 7, cells := 1, slots := 6, locals := 110 } : Room) D (tyZ cZ cI) [.ref (a 0), .int x, .int y] (wX cZ cI a σ) eIA := by
  by_cases q : inB x 0 3 = 0
  · exact tX0_changes_1 l hfl D cZ cI a σ x y q
  · obtain ⟨r, hr, rfl⟩ := in_rx q
    by_cases q2 : inB y 0 2 = 0
    · exact tX0_changes_2 l hfl D cZ cI a σ hr y q2
    · obtain ⟨g, hg, rfl⟩ := in_gx q2
      exact absurd ((are_1 hr hg).symm.trans hb) (by decide)

theorem tX0_known_b (l : Launch) (hfl : l.stackTraces = false) (D : va_G) (cZ cI : ClassId) (a : Nat → Nat) (σ : sC) (x y : Int32) (hb : arE x y = 0) : MT l yX0_known wsX0_known ({ frames := 7, cells := 1, slots := 6, locals := 110 } : Room) D (tyZ cZ cI) [.ref (a 0), .int x, .int y] (wX cZ cI a σ) eIA := by
  by_cases q : inB x 0 3 = 0
  · exact tX0_known_1 l hfl D cZ cI a σ x y q
  · obtain ⟨r, hr, rfl⟩ := in_rx q
    by_cases q2 : inB y 0 2 = 0
    · exact tX0_known_2 l hfl D cZ cI a σ hr y q2
    · obtain ⟨g, hg, rfl⟩ := in_gx q2
      exact absurd ((are_1 hr hg).symm.trans hb) (by decide)

theorem tX0_setPeriod_b (l : Launch) (hfl : l.stackTraces = false) (D : va_G) (cZ cI : ClassId) (a : Nat → Nat) (σ : sC) (x v : Int32) (hb : inB x 0 2 = 0 ∨ inB v 1 10 = 0) : MT l yX0_setPeriod wsX0_setPeriod ({ frames := 7, cells := 1, slots := 6, locals := 110 } : Room) D (tyZ cZ cI) [.ref (a 0), .int x, .int v] (wX cZ cI a σ) eIA := by
  by_cases q : inB x 0 2 = 0
  · exact tX0_setPeriod_1 l hfl D cZ cI a σ x v q
  · obtain ⟨g, hg, rfl⟩ := in_gx q
    exact tX0_setPeriod_2 l hfl D cZ cI a σ hg v (hb.resolve_left q)

theorem tX0_serve_b (l : Launch) (hfl : l.stackTraces = false) (D : va_G) (cZ cI : ClassId) (a : Nat → Nat) (σ : sC) (x v : Int32) (hb : inB x 0 2 = 0 ∨ inB v 1 100 = 0) : MT l yX0_serve wsX0_serve ({ frames := 7, cells := 1, slots := 6, locals := 110 } : Room) D (tyZ cZ cI) [.ref (a 0), .int x, .int v] (wX cZ cI a σ) eIA := by
  by_cases q : inB x 0 2 = 0
  · exact tX0_serve_1 l hfl D cZ cI a σ x v q
  · obtain ⟨g, hg, rfl⟩ := in_gx q
    exact tX0_serve_2 l hfl D cZ cI a σ hg v (hb.resolve_left q)

theorem tX0_setPreemption_b (l : Launch) (hfl : l.stackTraces = false) (D : va_G) (cZ cI : ClassId) (a : Nat → Nat) (σ : sC) (x b v : Int32) (hb : inB x 0 2 = 0 ∨ inB v 0 10 = 0) : MT l yX0_setPreemption wsX0_setPreemption ({ frames := 7, cells := 1, slots := 6, locals := 110 } : Room) D (tyZ cZ cI) [.ref (a 0), .int x, .int b, .int v] (wX cZ cI a σ) eIA := by
  by_cases q : inB x 0 2 = 0
  · exact tX0_setPreemption_1 l hfl D cZ cI a σ x b v q
  · obtain ⟨g, hg, rfl⟩ := in_gx q
    exact tX0_setPreemption_2 l hfl D cZ cI a σ hg b v (hb.resolve_left q)

theorem tX0_join_b (l : Launch) (hfl : l.stackTraces = false) (D : va_G) (cZ cI : ClassId) (a : Nat → Nat) (σ : sC) (x y b : Int32) (hb : inB x 0 3 = 0 ∨ inB y 0 3 = 0 ∨ x = y) : MT l yX0_join wsX0_join ({ frames := 7, cells := 1, slots := 6, locals := 110 } : Room) D (tyZ cZ cI) [.ref (a 0), .int x, .int y, .int b] (wX cZ cI a σ) eIA := by
  by_cases q : inB x 0 3 = 0
  · exact tX0_join_1 l hfl D cZ cI a σ x y b q
  · obtain ⟨r, hr, rfl⟩ := in_rx q
    by_cases q2 : inB y 0 3 = 0
    · exact tX0_join_2 l hfl D cZ cI a σ hr y b q2
    · have e := (hb.resolve_left q).resolve_left q2
      subst e
      exact tX0_join_3 l hfl D cZ cI a σ hr b
