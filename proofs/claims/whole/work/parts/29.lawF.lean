set_option maxHeartbeats 4000000 in
set_option maxRecDepth 100000 in
theorem law_tick (l : Launch) (hfl : l.stackTraces = false) {p : Program} {e : Env} {s : State} {m : MethodId} {below : List Frame} {meth : Method} {c : Code} {D : va_G} {cZ cI cJ : ClassId} {a b2 : Nat → Nat} {o bs L : Nat} {xs : Nat → Int32} (S : CallFix p m c cL_law 7 s #[Value.ref bs] wsL_law RL) (hK : va_K D vwCl (tyJ cZ cI cJ) s) (hZ : ZT (fun q => s.heap.size ≤ q) s s.heap) (hX : va_X bs L xs s s.heap) (hbl : bs < s.heap.size) (hL : L ≤ 2048) {Q : State → Prop} {i c0 d0 : Nat} (hi : i + 4 ≤ L) (hc0 : c0 + 1 ≤ 1068) (hd0 : d0 + 6 ≤ 8554) (σ : sC) (fo : Nat → Int64) (th : Int32) (hI : Inv σ) (K : ∀ (σ' : sC) (fo' : Nat → Int64) (th' : Int32), Inv σ' → ∀ (H : Heap) (locs : List Loc), Wd D (fun q => s.heap.size ≤ q) s.heap ((wX cZ cI a σ' ++ wO cJ o fo') ++ wM cZ cI b2 th' σ') H locs → ∀ ls : Array Slot, lv_has ls 7 [(0, .ref bs), (1, .ref (a 0)), (2, .ref (b2 0)), (3, .ref o), (4, .int (nI i))] → W p l e room_1 s m #[Value.ref bs] below meth c H locs (c0 + 1) (d0 + 6) Q (F0 m 1514 ls [])) : ∀ (H : Heap) (locs : List Loc), Wd D (fun q => s.heap.size ≤ q) s.heap ((wX cZ cI a σ ++ wO cJ o fo) ++ wM cZ cI b2 th σ) H locs → ∀ ls : Array Slot, lv_has ls 7 [(0, .ref bs), (1, .ref (a 0)), (2, .ref (b2 0)), (3, .ref o), (4, .int (nI i))] → W p l e room_1 s m #[Value.ref bs] below meth c H locs c0 d0 Q (F0 m 874 ls []) := by
  intro H locs hw ls hl
  have hcl0 : c0 ≤ room_1.cells := (show c0 ≤ 1068 by omega)
  have hsl0 : d0 ≤ room_1.slots := (show d0 ≤ 8554 by omega)
  have hcl1 : c0 + 1 ≤ room_1.cells := hc0
  have hsl1 : d0 + 6 ≤ room_1.slots := hd0
  by_cases hb : inB (xs (i + 1)) 1 50 = 0
  · refine lv_aload_n S.1 S.2.1 dL_law_874 rfl (lv_at hl 1 rfl) ?_
    refine lv_aload_n S.1 S.2.1 dL_law_875 rfl (lv_at hl 0 rfl) ?_
    refine lv_iload S.1 S.2.1 dL_law_876 (lv_at hl 4 rfl) ?_
    refine lv_iconst (v := nI 1) S.1 S.2.1 dL_law_878 (by decide) ?_
    refine lv_iadd S.1 S.2.1 dL_law_879 ?_
    refine bx_top (y := nI (i + 1)) (nI_add i 1) ?_
    refine bl_sld S hX hbl hL hw (by omega) dL_law_880 ?_
    refine lv_aload_n S.1 S.2.1 dL_law_881 rfl (lv_at hl 3 rfl) ?_
    refine bl_sb (As := [.ref (a 0), .int (xs (i + 1)), .ref o]) (rest := []) S hK hZ hw (kL_tick_IA l D cZ cI cJ a σ o fo (xs (i + 1)) (tX0_tick_1 l hfl D cZ cI a σ (xs (i + 1)) hb)) (vx_cwSW 3 S.2.2.2.2 gL_law_L_tick rfl rfl rfl (by decide +kernel) ⟨Nat.le_of_ble_eq_true rfl, Nat.le_of_ble_eq_true rfl⟩) rfl hl.1 rfl (Nat.le_of_ble_eq_true rfl) hcl1 hsl1 dL_law_882 (fun H locs hw => ?_)
    refine lv_istore (lv' := [(5, .int 1), (0, .ref bs), (1, .ref (a 0)), (2, .ref (b2 0)), (3, .ref o), (4, .int (nI i))]) S.1 S.2.1 dL_law_885 hl (by decide) rfl (fun ls hl => ?_)
    refine lv_aload_n S.1 S.2.1 dL_law_887 rfl (lv_at hl 3 rfl) ?_
    refine lv_aload_n S.1 S.2.1 dL_law_888 rfl (lv_at hl 1 rfl) ?_
    refine lv_iload S.1 S.2.1 dL_law_889 (lv_at hl 5 rfl) ?_
    refine lv_iconst (v := nI 1) S.1 S.2.1 dL_law_891 (by decide) ?_
    refine lv_iadd S.1 S.2.1 dL_law_892 ?_
    refine bx_top (y := nI (i + 1)) (nI_add i 1) ?_
    refine bl_sld S hX hbl hL hw (by omega) dL_law_893 ?_
    refine bm_vi (As := [.int (xs (i + 1))]) (rest := []) S (tyJ_Z hK) hw (kX1_tick_bad l D cZ cI b2 th σ (xs (i + 1)) hb) (cwV 1 S.2.2.2.2 gL_law_X1_tick rfl rfl rfl (by decide +kernel) ⟨Nat.le_of_ble_eq_true rfl, Nat.le_of_ble_eq_true rfl⟩) (q0 := 0) rfl rfl rfl hl.1 rfl (Nat.le_of_ble_eq_true rfl) hcl1 hsl1 dL_law_894 (fun H locs hw => ?_)
    refine lv_istore (lv' := [(6, .int 0), (5, .int 1), (0, .ref bs), (1, .ref (a 0)), (2, .ref (b2 0)), (3, .ref o), (4, .int (nI i))]) S.1 S.2.1 dL_law_897 hl (by decide) rfl (fun ls hl => ?_)
    refine lv_aload_n S.1 S.2.1 dL_law_899 rfl (lv_at hl 4 rfl) ?_
    refine bm_vi (As := []) (rest := []) S (tyJ_Z hK) hw (kX1_thrown l D cZ cI b2 1 σ) (cwV 0 S.2.2.2.2 gL_law_X1_thrown rfl rfl rfl (by decide +kernel) ⟨Nat.le_of_ble_eq_true rfl, Nat.le_of_ble_eq_true rfl⟩) (q0 := 0) rfl rfl rfl hl.1 rfl (Nat.le_of_ble_eq_true rfl) hcl1 hsl1 dL_law_900 (fun H locs hw => ?_)
    refine lv_iload S.1 S.2.1 dL_law_903 (lv_at hl 1 rfl) ?_
    refine br_eq (tgt := 910) S dL_law_905 (by decide) (fun c9 => ?_) (fun c9 => ?_)
    · refine lv_iload S.1 S.2.1 dL_law_910 (lv_at hl 1 rfl) ?_
      refine bz_ne (tgt := 927) S dL_law_912 (by decide) (fun c9 => ?_) (fun c9 => ?_)
      · refine lv_goto (tgt := 1514) S.1 S.2.1 dL_law_927 (by decide) ?_
        exact K σ fo 1 hI _ _ hw _ (lv_sub hl [2, 3, 4, 5, 6] rfl)
      · exact absurd c9 (by decide)
    · exact absurd c9 (by decide)
  · obtain ⟨nt, hn, ex, h1, h2⟩ := tk_x hb
    refine lv_aload_n S.1 S.2.1 dL_law_874 rfl (lv_at hl 1 rfl) ?_
    refine lv_aload_n S.1 S.2.1 dL_law_875 rfl (lv_at hl 0 rfl) ?_
    refine lv_iload S.1 S.2.1 dL_law_876 (lv_at hl 4 rfl) ?_
    refine lv_iconst (v := nI 1) S.1 S.2.1 dL_law_878 (by decide) ?_
    refine lv_iadd S.1 S.2.1 dL_law_879 ?_
    refine bx_top (y := nI (i + 1)) (nI_add i 1) ?_
    refine bl_sld S hX hbl hL hw (by omega) dL_law_880 ?_
    refine bx_top (y := nI nt) ex ?_
    refine lv_aload_n S.1 S.2.1 dL_law_881 rfl (lv_at hl 3 rfl) ?_
    refine bl_si (As := [.ref (a 0), .int (nI nt), .ref o]) (rest := []) S hK hw (kL_tick l D cZ cI cJ a σ o fo (nt := nt) hn h1 h2) (vx_cwSW 3 S.2.2.2.2 gL_law_L_tick rfl rfl rfl (by decide +kernel) ⟨Nat.le_of_ble_eq_true rfl, Nat.le_of_ble_eq_true rfl⟩) rfl hl.1 rfl (Nat.le_of_ble_eq_true rfl) hcl0 hsl0 dL_law_882 (fun H locs hw => ?_)
    refine lv_istore (lv' := [(5, .int 0), (0, .ref bs), (1, .ref (a 0)), (2, .ref (b2 0)), (3, .ref o), (4, .int (nI i))]) S.1 S.2.1 dL_law_885 hl (by decide) rfl (fun ls hl => ?_)
    refine lv_aload_n S.1 S.2.1 dL_law_887 rfl (lv_at hl 3 rfl) ?_
    refine lv_aload_n S.1 S.2.1 dL_law_888 rfl (lv_at hl 1 rfl) ?_
    refine lv_iload S.1 S.2.1 dL_law_889 (lv_at hl 5 rfl) ?_
    refine lv_iconst (v := nI 1) S.1 S.2.1 dL_law_891 (by decide) ?_
    refine lv_iadd S.1 S.2.1 dL_law_892 ?_
    refine bx_top (y := nI (i + 1)) (nI_add i 1) ?_
    refine bl_sld S hX hbl hL hw (by omega) dL_law_893 ?_
    refine bx_top (y := nI nt) ex ?_
    refine bm_vi (As := [.int (nI nt)]) (rest := []) S (tyJ_Z hK) hw (kX1_tick l D cZ cI b2 th σ (nt := nt) hn h1 h2 hI.1) (cwV 1 S.2.2.2.2 gL_law_X1_tick rfl rfl rfl (by decide +kernel) ⟨Nat.le_of_ble_eq_true rfl, Nat.le_of_ble_eq_true rfl⟩) (q0 := 0) rfl rfl rfl hl.1 rfl (Nat.le_of_ble_eq_true rfl) hcl0 hsl0 dL_law_894 (fun H locs hw => ?_)
    refine lv_istore (lv' := [(6, .int ((tickF σ nt) 17 0)), (5, .int 0), (0, .ref bs), (1, .ref (a 0)), (2, .ref (b2 0)), (3, .ref o), (4, .int (nI i))]) S.1 S.2.1 dL_law_897 hl (by decide) rfl (fun ls hl => ?_)
    refine lv_aload_n S.1 S.2.1 dL_law_899 rfl (lv_at hl 4 rfl) ?_
    refine bm_vi (As := []) (rest := []) S (tyJ_Z hK) hw (kX1_thrown l D cZ cI b2 0 (tickF σ nt)) (cwV 0 S.2.2.2.2 gL_law_X1_thrown rfl rfl rfl (by decide +kernel) ⟨Nat.le_of_ble_eq_true rfl, Nat.le_of_ble_eq_true rfl⟩) (q0 := 0) rfl rfl rfl hl.1 rfl (Nat.le_of_ble_eq_true rfl) hcl0 hsl0 dL_law_900 (fun H locs hw => ?_)
    refine lv_iload S.1 S.2.1 dL_law_903 (lv_at hl 1 rfl) ?_
    refine br_eq (tgt := 910) S dL_law_905 (by decide) (fun c9 => ?_) (fun c9 => ?_)
    · refine lv_iload S.1 S.2.1 dL_law_910 (lv_at hl 1 rfl) ?_
      refine bz_ne (tgt := 927) S dL_law_912 (by decide) (fun c9 => ?_) (fun c9 => ?_)
      · exact absurd c9 (by decide)
      · refine lv_aload_n S.1 S.2.1 dL_law_915 rfl (lv_at hl 5 rfl) ?_
        refine lv_iconst (v := nI 0) S.1 S.2.1 dL_law_916 (by decide) ?_
        refine bl_lald (v := ((tickF σ nt) 17 0).toInt64) S hK hw.1 17 2 rfl rfl (by decide) (by decide) rfl dL_law_917 ?_
        refine lv_iload S.1 S.2.1 dL_law_918 (lv_at hl 0 rfl) ?_
        refine lv_i2l (v := ((tickF σ nt) 17 0).toInt64) S.1 S.2.1 dL_law_920 rfl ?_
        refine bl_lcmp S rfl dL_law_921 ?_
        refine bz_eq (tgt := 927) S dL_law_922 (by decide) (fun c9 => ?_) (fun c9 => ?_)
        · refine lv_goto (tgt := 1514) S.1 S.2.1 dL_law_927 (by decide) ?_
          refine W.widen (k := c0 + 1) (n := d0 + 6) (by omega) (by omega) ?_
          exact K (tickF σ nt) (vp_updL fo 0 (((tickF σ nt) 17 0).toInt64)) 0 (inv_tick hI nt) _ _ hw _ (lv_sub hl [2, 3, 4, 5, 6] rfl)
        · exact absurd c9 (by decide)
    · exact absurd c9 (by decide)

set_option maxHeartbeats 4000000 in
set_option maxRecDepth 100000 in
theorem law_state (l : Launch) (hfl : l.stackTraces = false) {p : Program} {e : Env} {s : State} {m : MethodId} {below : List Frame} {meth : Method} {c : Code} {D : va_G} {cZ cI cJ : ClassId} {a b2 : Nat → Nat} {o bs L : Nat} {xs : Nat → Int32} (S : CallFix p m c cL_law 7 s #[Value.ref bs] wsL_law RL) (hK : va_K D vwCl (tyJ cZ cI cJ) s) (hZ : ZT (fun q => s.heap.size ≤ q) s s.heap) (hX : va_X bs L xs s s.heap) (hbl : bs < s.heap.size) (hL : L ≤ 2048) {Q : State → Prop} {i c0 d0 : Nat} (hi : i + 4 ≤ L) (hc0 : c0 + 1 ≤ 1068) (hd0 : d0 + 6 ≤ 8554) (σ : sC) (fo : Nat → Int64) (th : Int32) (hI : Inv σ) (K : ∀ (σ' : sC) (fo' : Nat → Int64) (th' : Int32), Inv σ' → ∀ (H : Heap) (locs : List Loc), Wd D (fun q => s.heap.size ≤ q) s.heap ((wX cZ cI a σ' ++ wO cJ o fo') ++ wM cZ cI b2 th' σ') H locs → ∀ ls : Array Slot, lv_has ls 7 [(0, .ref bs), (1, .ref (a 0)), (2, .ref (b2 0)), (3, .ref o), (4, .int (nI i))] → W p l e room_1 s m #[Value.ref bs] below meth c H locs (c0 + 1) (d0 + 6) Q (F0 m 1514 ls [])) : ∀ (H : Heap) (locs : List Loc), Wd D (fun q => s.heap.size ≤ q) s.heap ((wX cZ cI a σ ++ wO cJ o fo) ++ wM cZ cI b2 th σ) H locs → ∀ ls : Array Slot, lv_has ls 7 [(0, .ref bs), (1, .ref (a 0)), (2, .ref (b2 0)), (3, .ref o), (4, .int (nI i))] → W p l e room_1 s m #[Value.ref bs] below meth c H locs c0 d0 Q (F0 m 930 ls []) := by
  intro H locs hw ls hl
  have hcl0 : c0 ≤ room_1.cells := (show c0 ≤ 1068 by omega)
  have hsl0 : d0 ≤ room_1.slots := (show d0 ≤ 8554 by omega)
  have hcl1 : c0 + 1 ≤ room_1.cells := hc0
  have hsl1 : d0 + 6 ≤ room_1.slots := hd0
  by_cases hb : arE (xs (i + 1)) (xs (i + 2)) = 0
  · refine lv_aload_n S.1 S.2.1 dL_law_930 rfl (lv_at hl 1 rfl) ?_
    refine lv_aload_n S.1 S.2.1 dL_law_931 rfl (lv_at hl 0 rfl) ?_
    refine lv_iload S.1 S.2.1 dL_law_932 (lv_at hl 4 rfl) ?_
    refine lv_iconst (v := nI 1) S.1 S.2.1 dL_law_934 (by decide) ?_
    refine lv_iadd S.1 S.2.1 dL_law_935 ?_
    refine bx_top (y := nI (i + 1)) (nI_add i 1) ?_
    refine bl_sld S hX hbl hL hw (by omega) dL_law_936 ?_
    refine lv_aload_n S.1 S.2.1 dL_law_937 rfl (lv_at hl 0 rfl) ?_
    refine lv_iload S.1 S.2.1 dL_law_938 (lv_at hl 4 rfl) ?_
    refine lv_iconst (v := nI 2) S.1 S.2.1 dL_law_940 (by decide) ?_
    refine lv_iadd S.1 S.2.1 dL_law_941 ?_
    refine bx_top (y := nI (i + 2)) (nI_add i 2) ?_
    refine bl_sld S hX hbl hL hw (by omega) dL_law_942 ?_
    refine lv_aload_n S.1 S.2.1 dL_law_943 rfl (lv_at hl 3 rfl) ?_
    refine bl_sb (As := [.ref (a 0), .int (xs (i + 1)), .int (xs (i + 2)), .ref o]) (rest := []) S hK hZ hw (kL_state_IA l D cZ cI cJ a σ o fo (xs (i + 1)) (xs (i + 2)) (tX0_state_b l hfl D cZ cI a σ (xs (i + 1)) (xs (i + 2)) hb)) (vx_cwSW 4 S.2.2.2.2 gL_law_L_state rfl rfl rfl (by decide +kernel) ⟨Nat.le_of_ble_eq_true rfl, Nat.le_of_ble_eq_true rfl⟩) rfl hl.1 rfl (Nat.le_of_ble_eq_true rfl) hcl1 hsl1 dL_law_944 (fun H locs hw => ?_)
    refine lv_istore (lv' := [(5, .int 1), (0, .ref bs), (1, .ref (a 0)), (2, .ref (b2 0)), (3, .ref o), (4, .int (nI i))]) S.1 S.2.1 dL_law_947 hl (by decide) rfl (fun ls hl => ?_)
    refine lv_aload_n S.1 S.2.1 dL_law_949 rfl (lv_at hl 3 rfl) ?_
    refine lv_aload_n S.1 S.2.1 dL_law_950 rfl (lv_at hl 1 rfl) ?_
    refine lv_iload S.1 S.2.1 dL_law_951 (lv_at hl 5 rfl) ?_
    refine lv_iconst (v := nI 1) S.1 S.2.1 dL_law_953 (by decide) ?_
    refine lv_iadd S.1 S.2.1 dL_law_954 ?_
    refine bx_top (y := nI (i + 1)) (nI_add i 1) ?_
    refine bl_sld S hX hbl hL hw (by omega) dL_law_955 ?_
    refine lv_aload_n S.1 S.2.1 dL_law_956 rfl (lv_at hl 1 rfl) ?_
    refine lv_iload S.1 S.2.1 dL_law_957 (lv_at hl 5 rfl) ?_
    refine lv_iconst (v := nI 2) S.1 S.2.1 dL_law_959 (by decide) ?_
    refine lv_iadd S.1 S.2.1 dL_law_960 ?_
    refine bx_top (y := nI (i + 2)) (nI_add i 2) ?_
    refine bl_sld S hX hbl hL hw (by omega) dL_law_961 ?_
    refine bm_vi (As := [.int (xs (i + 1)), .int (xs (i + 2))]) (rest := []) S (tyJ_Z hK) hw (kX1_state_bad l D cZ cI b2 th σ (xs (i + 1)) (xs (i + 2)) hb) (cwV 2 S.2.2.2.2 gL_law_X1_state rfl rfl rfl (by decide +kernel) ⟨Nat.le_of_ble_eq_true rfl, Nat.le_of_ble_eq_true rfl⟩) (q0 := 0) rfl rfl rfl hl.1 rfl (Nat.le_of_ble_eq_true rfl) hcl1 hsl1 dL_law_962 (fun H locs hw => ?_)
    refine lv_istore (lv' := [(6, .int 0), (5, .int 1), (0, .ref bs), (1, .ref (a 0)), (2, .ref (b2 0)), (3, .ref o), (4, .int (nI i))]) S.1 S.2.1 dL_law_965 hl (by decide) rfl (fun ls hl => ?_)
    refine lv_aload_n S.1 S.2.1 dL_law_967 rfl (lv_at hl 4 rfl) ?_
    refine bm_vi (As := []) (rest := []) S (tyJ_Z hK) hw (kX1_thrown l D cZ cI b2 1 σ) (cwV 0 S.2.2.2.2 gL_law_X1_thrown rfl rfl rfl (by decide +kernel) ⟨Nat.le_of_ble_eq_true rfl, Nat.le_of_ble_eq_true rfl⟩) (q0 := 0) rfl rfl rfl hl.1 rfl (Nat.le_of_ble_eq_true rfl) hcl1 hsl1 dL_law_968 (fun H locs hw => ?_)
    refine lv_iload S.1 S.2.1 dL_law_971 (lv_at hl 1 rfl) ?_
    refine br_eq (tgt := 978) S dL_law_973 (by decide) (fun c9 => ?_) (fun c9 => ?_)
    · refine lv_iload S.1 S.2.1 dL_law_978 (lv_at hl 1 rfl) ?_
      refine bz_ne (tgt := 995) S dL_law_980 (by decide) (fun c9 => ?_) (fun c9 => ?_)
      · refine lv_goto (tgt := 1514) S.1 S.2.1 dL_law_995 (by decide) ?_
        exact K σ fo 1 hI _ _ hw _ (lv_sub hl [2, 3, 4, 5, 6] rfl)
      · exact absurd c9 (by decide)
    · exact absurd c9 (by decide)
  · obtain ⟨r, g, hr, hg, ex, ey⟩ := are_x hb
    refine lv_aload_n S.1 S.2.1 dL_law_930 rfl (lv_at hl 1 rfl) ?_
    refine lv_aload_n S.1 S.2.1 dL_law_931 rfl (lv_at hl 0 rfl) ?_
    refine lv_iload S.1 S.2.1 dL_law_932 (lv_at hl 4 rfl) ?_
    refine lv_iconst (v := nI 1) S.1 S.2.1 dL_law_934 (by decide) ?_
    refine lv_iadd S.1 S.2.1 dL_law_935 ?_
    refine bx_top (y := nI (i + 1)) (nI_add i 1) ?_
    refine bl_sld S hX hbl hL hw (by omega) dL_law_936 ?_
    refine bx_top (y := nI r) ex ?_
    refine lv_aload_n S.1 S.2.1 dL_law_937 rfl (lv_at hl 0 rfl) ?_
    refine lv_iload S.1 S.2.1 dL_law_938 (lv_at hl 4 rfl) ?_
    refine lv_iconst (v := nI 2) S.1 S.2.1 dL_law_940 (by decide) ?_
    refine lv_iadd S.1 S.2.1 dL_law_941 ?_
    refine bx_top (y := nI (i + 2)) (nI_add i 2) ?_
    refine bl_sld S hX hbl hL hw (by omega) dL_law_942 ?_
    refine bx_top (y := nI g) ey ?_
    refine lv_aload_n S.1 S.2.1 dL_law_943 rfl (lv_at hl 3 rfl) ?_
    refine bl_si (As := [.ref (a 0), .int (nI r), .int (nI g), .ref o]) (rest := []) S hK hw (kL_state l D cZ cI cJ a σ o fo (r := r) (g := g) hr hg) (vx_cwSW 4 S.2.2.2.2 gL_law_L_state rfl rfl rfl (by decide +kernel) ⟨Nat.le_of_ble_eq_true rfl, Nat.le_of_ble_eq_true rfl⟩) rfl hl.1 rfl (Nat.le_of_ble_eq_true rfl) hcl0 hsl0 dL_law_944 (fun H locs hw => ?_)
    refine lv_istore (lv' := [(5, .int 0), (0, .ref bs), (1, .ref (a 0)), (2, .ref (b2 0)), (3, .ref o), (4, .int (nI i))]) S.1 S.2.1 dL_law_947 hl (by decide) rfl (fun ls hl => ?_)
    refine lv_aload_n S.1 S.2.1 dL_law_949 rfl (lv_at hl 3 rfl) ?_
    refine lv_aload_n S.1 S.2.1 dL_law_950 rfl (lv_at hl 1 rfl) ?_
    refine lv_iload S.1 S.2.1 dL_law_951 (lv_at hl 5 rfl) ?_
    refine lv_iconst (v := nI 1) S.1 S.2.1 dL_law_953 (by decide) ?_
    refine lv_iadd S.1 S.2.1 dL_law_954 ?_
    refine bx_top (y := nI (i + 1)) (nI_add i 1) ?_
    refine bl_sld S hX hbl hL hw (by omega) dL_law_955 ?_
    refine bx_top (y := nI r) ex ?_
    refine lv_aload_n S.1 S.2.1 dL_law_956 rfl (lv_at hl 1 rfl) ?_
    refine lv_iload S.1 S.2.1 dL_law_957 (lv_at hl 5 rfl) ?_
    refine lv_iconst (v := nI 2) S.1 S.2.1 dL_law_959 (by decide) ?_
    refine lv_iadd S.1 S.2.1 dL_law_960 ?_
    refine bx_top (y := nI (i + 2)) (nI_add i 2) ?_
    refine bl_sld S hX hbl hL hw (by omega) dL_law_961 ?_
    refine bx_top (y := nI g) ey ?_
    refine bm_vi (As := [.int (nI r), .int (nI g)]) (rest := []) S (tyJ_Z hK) hw (kX1_state l D cZ cI b2 th σ (r := r) (g := g) hr hg) (cwV 2 S.2.2.2.2 gL_law_X1_state rfl rfl rfl (by decide +kernel) ⟨Nat.le_of_ble_eq_true rfl, Nat.le_of_ble_eq_true rfl⟩) (q0 := 0) rfl rfl rfl hl.1 rfl (Nat.le_of_ble_eq_true rfl) hcl0 hsl0 dL_law_962 (fun H locs hw => ?_)
    refine lv_istore (lv' := [(6, .int (σ 10 (4 * g + r))), (5, .int 0), (0, .ref bs), (1, .ref (a 0)), (2, .ref (b2 0)), (3, .ref o), (4, .int (nI i))]) S.1 S.2.1 dL_law_965 hl (by decide) rfl (fun ls hl => ?_)
    refine lv_aload_n S.1 S.2.1 dL_law_967 rfl (lv_at hl 4 rfl) ?_
    refine bm_vi (As := []) (rest := []) S (tyJ_Z hK) hw (kX1_thrown l D cZ cI b2 0 σ) (cwV 0 S.2.2.2.2 gL_law_X1_thrown rfl rfl rfl (by decide +kernel) ⟨Nat.le_of_ble_eq_true rfl, Nat.le_of_ble_eq_true rfl⟩) (q0 := 0) rfl rfl rfl hl.1 rfl (Nat.le_of_ble_eq_true rfl) hcl0 hsl0 dL_law_968 (fun H locs hw => ?_)
    refine lv_iload S.1 S.2.1 dL_law_971 (lv_at hl 1 rfl) ?_
    refine br_eq (tgt := 978) S dL_law_973 (by decide) (fun c9 => ?_) (fun c9 => ?_)
    · refine lv_iload S.1 S.2.1 dL_law_978 (lv_at hl 1 rfl) ?_
      refine bz_ne (tgt := 995) S dL_law_980 (by decide) (fun c9 => ?_) (fun c9 => ?_)
      · exact absurd c9 (by decide)
      · refine lv_aload_n S.1 S.2.1 dL_law_983 rfl (lv_at hl 5 rfl) ?_
        refine lv_iconst (v := nI 0) S.1 S.2.1 dL_law_984 (by decide) ?_
        refine bl_lald (v := (σ 10 (4 * g + r)).toInt64) S hK hw.1 17 2 rfl rfl (by decide) (by decide) rfl dL_law_985 ?_
        refine lv_iload S.1 S.2.1 dL_law_986 (lv_at hl 0 rfl) ?_
        refine lv_i2l (v := (σ 10 (4 * g + r)).toInt64) S.1 S.2.1 dL_law_988 rfl ?_
        refine bl_lcmp S rfl dL_law_989 ?_
        refine bz_eq (tgt := 995) S dL_law_990 (by decide) (fun c9 => ?_) (fun c9 => ?_)
        · refine lv_goto (tgt := 1514) S.1 S.2.1 dL_law_995 (by decide) ?_
          refine W.widen (k := c0 + 1) (n := d0 + 6) (by omega) (by omega) ?_
          exact K σ (vp_updL fo 0 ((σ 10 (4 * g + r)).toInt64)) 0 hI _ _ hw _ (lv_sub hl [2, 3, 4, 5, 6] rfl)
        · exact absurd c9 (by decide)
    · exact absurd c9 (by decide)

set_option maxHeartbeats 4000000 in
set_option maxRecDepth 100000 in
theorem law_priority (l : Launch) (hfl : l.stackTraces = false) {p : Program} {e : Env} {s : State} {m : MethodId} {below : List Frame} {meth : Method} {c : Code} {D : va_G} {cZ cI cJ : ClassId} {a b2 : Nat → Nat} {o bs L : Nat} {xs : Nat → Int32} (S : CallFix p m c cL_law 7 s #[Value.ref bs] wsL_law RL) (hK : va_K D vwCl (tyJ cZ cI cJ) s) (hZ : ZT (fun q => s.heap.size ≤ q) s s.heap) (hX : va_X bs L xs s s.heap) (hbl : bs < s.heap.size) (hL : L ≤ 2048) {Q : State → Prop} {i c0 d0 : Nat} (hi : i + 4 ≤ L) (hc0 : c0 + 1 ≤ 1068) (hd0 : d0 + 6 ≤ 8554) (σ : sC) (fo : Nat → Int64) (th : Int32) (hI : Inv σ) (K : ∀ (σ' : sC) (fo' : Nat → Int64) (th' : Int32), Inv σ' → ∀ (H : Heap) (locs : List Loc), Wd D (fun q => s.heap.size ≤ q) s.heap ((wX cZ cI a σ' ++ wO cJ o fo') ++ wM cZ cI b2 th' σ') H locs → ∀ ls : Array Slot, lv_has ls 7 [(0, .ref bs), (1, .ref (a 0)), (2, .ref (b2 0)), (3, .ref o), (4, .int (nI i))] → W p l e room_1 s m #[Value.ref bs] below meth c H locs (c0 + 1) (d0 + 6) Q (F0 m 1514 ls [])) : ∀ (H : Heap) (locs : List Loc), Wd D (fun q => s.heap.size ≤ q) s.heap ((wX cZ cI a σ ++ wO cJ o fo) ++ wM cZ cI b2 th σ) H locs → ∀ ls : Array Slot, lv_has ls 7 [(0, .ref bs), (1, .ref (a 0)), (2, .ref (b2 0)), (3, .ref o), (4, .int (nI i))] → W p l e room_1 s m #[Value.ref bs] below meth c H locs c0 d0 Q (F0 m 998 ls []) := by
  intro H locs hw ls hl
  have hcl0 : c0 ≤ room_1.cells := (show c0 ≤ 1068 by omega)
  have hsl0 : d0 ≤ room_1.slots := (show d0 ≤ 8554 by omega)
  have hcl1 : c0 + 1 ≤ room_1.cells := hc0
  have hsl1 : d0 + 6 ≤ room_1.slots := hd0
  by_cases hb : arE (xs (i + 1)) (xs (i + 2)) = 0
  · refine lv_aload_n S.1 S.2.1 dL_law_998 rfl (lv_at hl 1 rfl) ?_
    refine lv_aload_n S.1 S.2.1 dL_law_999 rfl (lv_at hl 0 rfl) ?_
    refine lv_iload S.1 S.2.1 dL_law_1000 (lv_at hl 4 rfl) ?_
    refine lv_iconst (v := nI 1) S.1 S.2.1 dL_law_1002 (by decide) ?_
    refine lv_iadd S.1 S.2.1 dL_law_1003 ?_
    refine bx_top (y := nI (i + 1)) (nI_add i 1) ?_
    refine bl_sld S hX hbl hL hw (by omega) dL_law_1004 ?_
    refine lv_aload_n S.1 S.2.1 dL_law_1005 rfl (lv_at hl 0 rfl) ?_
    refine lv_iload S.1 S.2.1 dL_law_1006 (lv_at hl 4 rfl) ?_
    refine lv_iconst (v := nI 2) S.1 S.2.1 dL_law_1008 (by decide) ?_
    refine lv_iadd S.1 S.2.1 dL_law_1009 ?_
    refine bx_top (y := nI (i + 2)) (nI_add i 2) ?_
    refine bl_sld S hX hbl hL hw (by omega) dL_law_1010 ?_
    refine lv_aload_n S.1 S.2.1 dL_law_1011 rfl (lv_at hl 3 rfl) ?_
    refine bl_sb (As := [.ref (a 0), .int (xs (i + 1)), .int (xs (i + 2)), .ref o]) (rest := []) S hK hZ hw (kL_priority_IA l D cZ cI cJ a σ o fo (xs (i + 1)) (xs (i + 2)) (tX0_priority_b l hfl D cZ cI a σ (xs (i + 1)) (xs (i + 2)) hb)) (vx_cwSW 4 S.2.2.2.2 gL_law_L_priority rfl rfl rfl (by decide +kernel) ⟨Nat.le_of_ble_eq_true rfl, Nat.le_of_ble_eq_true rfl⟩) rfl hl.1 rfl (Nat.le_of_ble_eq_true rfl) hcl1 hsl1 dL_law_1012 (fun H locs hw => ?_)
    refine lv_istore (lv' := [(5, .int 1), (0, .ref bs), (1, .ref (a 0)), (2, .ref (b2 0)), (3, .ref o), (4, .int (nI i))]) S.1 S.2.1 dL_law_1015 hl (by decide) rfl (fun ls hl => ?_)
    refine lv_aload_n S.1 S.2.1 dL_law_1017 rfl (lv_at hl 3 rfl) ?_
    refine lv_aload_n S.1 S.2.1 dL_law_1018 rfl (lv_at hl 1 rfl) ?_
    refine lv_iload S.1 S.2.1 dL_law_1019 (lv_at hl 5 rfl) ?_
    refine lv_iconst (v := nI 1) S.1 S.2.1 dL_law_1021 (by decide) ?_
    refine lv_iadd S.1 S.2.1 dL_law_1022 ?_
    refine bx_top (y := nI (i + 1)) (nI_add i 1) ?_
    refine bl_sld S hX hbl hL hw (by omega) dL_law_1023 ?_
    refine lv_aload_n S.1 S.2.1 dL_law_1024 rfl (lv_at hl 1 rfl) ?_
    refine lv_iload S.1 S.2.1 dL_law_1025 (lv_at hl 5 rfl) ?_
    refine lv_iconst (v := nI 2) S.1 S.2.1 dL_law_1027 (by decide) ?_
    refine lv_iadd S.1 S.2.1 dL_law_1028 ?_
    refine bx_top (y := nI (i + 2)) (nI_add i 2) ?_
    refine bl_sld S hX hbl hL hw (by omega) dL_law_1029 ?_
    refine bm_vi (As := [.int (xs (i + 1)), .int (xs (i + 2))]) (rest := []) S (tyJ_Z hK) hw (kX1_priority_bad l D cZ cI b2 th σ (xs (i + 1)) (xs (i + 2)) hb) (cwV 2 S.2.2.2.2 gL_law_X1_priority rfl rfl rfl (by decide +kernel) ⟨Nat.le_of_ble_eq_true rfl, Nat.le_of_ble_eq_true rfl⟩) (q0 := 0) rfl rfl rfl hl.1 rfl (Nat.le_of_ble_eq_true rfl) hcl1 hsl1 dL_law_1030 (fun H locs hw => ?_)
    refine lv_istore (lv' := [(6, .int 0), (5, .int 1), (0, .ref bs), (1, .ref (a 0)), (2, .ref (b2 0)), (3, .ref o), (4, .int (nI i))]) S.1 S.2.1 dL_law_1033 hl (by decide) rfl (fun ls hl => ?_)
    refine lv_aload_n S.1 S.2.1 dL_law_1035 rfl (lv_at hl 4 rfl) ?_
    refine bm_vi (As := []) (rest := []) S (tyJ_Z hK) hw (kX1_thrown l D cZ cI b2 1 σ) (cwV 0 S.2.2.2.2 gL_law_X1_thrown rfl rfl rfl (by decide +kernel) ⟨Nat.le_of_ble_eq_true rfl, Nat.le_of_ble_eq_true rfl⟩) (q0 := 0) rfl rfl rfl hl.1 rfl (Nat.le_of_ble_eq_true rfl) hcl1 hsl1 dL_law_1036 (fun H locs hw => ?_)
    refine lv_iload S.1 S.2.1 dL_law_1039 (lv_at hl 1 rfl) ?_
    refine br_eq (tgt := 1046) S dL_law_1041 (by decide) (fun c9 => ?_) (fun c9 => ?_)
    · refine lv_iload S.1 S.2.1 dL_law_1046 (lv_at hl 1 rfl) ?_
      refine bz_ne (tgt := 1063) S dL_law_1048 (by decide) (fun c9 => ?_) (fun c9 => ?_)
      · refine lv_goto (tgt := 1514) S.1 S.2.1 dL_law_1063 (by decide) ?_
        exact K σ fo 1 hI _ _ hw _ (lv_sub hl [2, 3, 4, 5, 6] rfl)
      · exact absurd c9 (by decide)
    · exact absurd c9 (by decide)
  · obtain ⟨r, g, hr, hg, ex, ey⟩ := are_x hb
    refine lv_aload_n S.1 S.2.1 dL_law_998 rfl (lv_at hl 1 rfl) ?_
    refine lv_aload_n S.1 S.2.1 dL_law_999 rfl (lv_at hl 0 rfl) ?_
    refine lv_iload S.1 S.2.1 dL_law_1000 (lv_at hl 4 rfl) ?_
    refine lv_iconst (v := nI 1) S.1 S.2.1 dL_law_1002 (by decide) ?_
    refine lv_iadd S.1 S.2.1 dL_law_1003 ?_
    refine bx_top (y := nI (i + 1)) (nI_add i 1) ?_
    refine bl_sld S hX hbl hL hw (by omega) dL_law_1004 ?_
    refine bx_top (y := nI r) ex ?_
    refine lv_aload_n S.1 S.2.1 dL_law_1005 rfl (lv_at hl 0 rfl) ?_
    refine lv_iload S.1 S.2.1 dL_law_1006 (lv_at hl 4 rfl) ?_
    refine lv_iconst (v := nI 2) S.1 S.2.1 dL_law_1008 (by decide) ?_
    refine lv_iadd S.1 S.2.1 dL_law_1009 ?_
    refine bx_top (y := nI (i + 2)) (nI_add i 2) ?_
    refine bl_sld S hX hbl hL hw (by omega) dL_law_1010 ?_
    refine bx_top (y := nI g) ey ?_
    refine lv_aload_n S.1 S.2.1 dL_law_1011 rfl (lv_at hl 3 rfl) ?_
    refine bl_si (As := [.ref (a 0), .int (nI r), .int (nI g), .ref o]) (rest := []) S hK hw (kL_priority l D cZ cI cJ a σ o fo (r := r) (g := g) hr hg) (vx_cwSW 4 S.2.2.2.2 gL_law_L_priority rfl rfl rfl (by decide +kernel) ⟨Nat.le_of_ble_eq_true rfl, Nat.le_of_ble_eq_true rfl⟩) rfl hl.1 rfl (Nat.le_of_ble_eq_true rfl) hcl0 hsl0 dL_law_1012 (fun H locs hw => ?_)
    refine lv_istore (lv' := [(5, .int 0), (0, .ref bs), (1, .ref (a 0)), (2, .ref (b2 0)), (3, .ref o), (4, .int (nI i))]) S.1 S.2.1 dL_law_1015 hl (by decide) rfl (fun ls hl => ?_)
    refine lv_aload_n S.1 S.2.1 dL_law_1017 rfl (lv_at hl 3 rfl) ?_
    refine lv_aload_n S.1 S.2.1 dL_law_1018 rfl (lv_at hl 1 rfl) ?_
    refine lv_iload S.1 S.2.1 dL_law_1019 (lv_at hl 5 rfl) ?_
    refine lv_iconst (v := nI 1) S.1 S.2.1 dL_law_1021 (by decide) ?_
    refine lv_iadd S.1 S.2.1 dL_law_1022 ?_
    refine bx_top (y := nI (i + 1)) (nI_add i 1) ?_
    refine bl_sld S hX hbl hL hw (by omega) dL_law_1023 ?_
    refine bx_top (y := nI r) ex ?_
    refine lv_aload_n S.1 S.2.1 dL_law_1024 rfl (lv_at hl 1 rfl) ?_
    refine lv_iload S.1 S.2.1 dL_law_1025 (lv_at hl 5 rfl) ?_
    refine lv_iconst (v := nI 2) S.1 S.2.1 dL_law_1027 (by decide) ?_
    refine lv_iadd S.1 S.2.1 dL_law_1028 ?_
    refine bx_top (y := nI (i + 2)) (nI_add i 2) ?_
    refine bl_sld S hX hbl hL hw (by omega) dL_law_1029 ?_
    refine bx_top (y := nI g) ey ?_
    refine bm_vi (As := [.int (nI r), .int (nI g)]) (rest := []) S (tyJ_Z hK) hw (kX1_priority l D cZ cI b2 th σ (r := r) (g := g) hr hg) (cwV 2 S.2.2.2.2 gL_law_X1_priority rfl rfl rfl (by decide +kernel) ⟨Nat.le_of_ble_eq_true rfl, Nat.le_of_ble_eq_true rfl⟩) (q0 := 0) rfl rfl rfl hl.1 rfl (Nat.le_of_ble_eq_true rfl) hcl0 hsl0 dL_law_1030 (fun H locs hw => ?_)
    refine lv_istore (lv' := [(6, .int (prioF σ r g)), (5, .int 0), (0, .ref bs), (1, .ref (a 0)), (2, .ref (b2 0)), (3, .ref o), (4, .int (nI i))]) S.1 S.2.1 dL_law_1033 hl (by decide) rfl (fun ls hl => ?_)
    refine lv_aload_n S.1 S.2.1 dL_law_1035 rfl (lv_at hl 4 rfl) ?_
    refine bm_vi (As := []) (rest := []) S (tyJ_Z hK) hw (kX1_thrown l D cZ cI b2 0 σ) (cwV 0 S.2.2.2.2 gL_law_X1_thrown rfl rfl rfl (by decide +kernel) ⟨Nat.le_of_ble_eq_true rfl, Nat.le_of_ble_eq_true rfl⟩) (q0 := 0) rfl rfl rfl hl.1 rfl (Nat.le_of_ble_eq_true rfl) hcl0 hsl0 dL_law_1036 (fun H locs hw => ?_)
    refine lv_iload S.1 S.2.1 dL_law_1039 (lv_at hl 1 rfl) ?_
    refine br_eq (tgt := 1046) S dL_law_1041 (by decide) (fun c9 => ?_) (fun c9 => ?_)
    · refine lv_iload S.1 S.2.1 dL_law_1046 (lv_at hl 1 rfl) ?_
      refine bz_ne (tgt := 1063) S dL_law_1048 (by decide) (fun c9 => ?_) (fun c9 => ?_)
      · exact absurd c9 (by decide)
      · refine lv_aload_n S.1 S.2.1 dL_law_1051 rfl (lv_at hl 5 rfl) ?_
        refine lv_iconst (v := nI 0) S.1 S.2.1 dL_law_1052 (by decide) ?_
        refine bl_lald (v := (prioF σ r g).toInt64) S hK hw.1 17 2 rfl rfl (by decide) (by decide) rfl dL_law_1053 ?_
        refine lv_iload S.1 S.2.1 dL_law_1054 (lv_at hl 0 rfl) ?_
        refine lv_i2l (v := (prioF σ r g).toInt64) S.1 S.2.1 dL_law_1056 rfl ?_
        refine bl_lcmp S rfl dL_law_1057 ?_
        refine bz_eq (tgt := 1063) S dL_law_1058 (by decide) (fun c9 => ?_) (fun c9 => ?_)
        · refine lv_goto (tgt := 1514) S.1 S.2.1 dL_law_1063 (by decide) ?_
          refine W.widen (k := c0 + 1) (n := d0 + 6) (by omega) (by omega) ?_
          exact K σ (vp_updL fo 0 ((prioF σ r g).toInt64)) 0 hI _ _ hw _ (lv_sub hl [2, 3, 4, 5, 6] rfl)
        · exact absurd c9 (by decide)
    · exact absurd c9 (by decide)

set_option maxHeartbeats 4000000 in
set_option maxRecDepth 100000 in
theorem law_timer (l : Launch) (hfl : l.stackTraces = false) {p : Program} {e : Env} {s : State} {m : MethodId} {below : List Frame} {meth : Method} {c : Code} {D : va_G} {cZ cI cJ : ClassId} {a b2 : Nat → Nat} {o bs L : Nat} {xs : Nat → Int32} (S : CallFix p m c cL_law 7 s #[Value.ref bs] wsL_law RL) (hK : va_K D vwCl (tyJ cZ cI cJ) s) (hZ : ZT (fun q => s.heap.size ≤ q) s s.heap) (hX : va_X bs L xs s s.heap) (hbl : bs < s.heap.size) (hL : L ≤ 2048) {Q : State → Prop} {i c0 d0 : Nat} (hi : i + 4 ≤ L) (hc0 : c0 + 1 ≤ 1068) (hd0 : d0 + 6 ≤ 8554) (σ : sC) (fo : Nat → Int64) (th : Int32) (hI : Inv σ) (K : ∀ (σ' : sC) (fo' : Nat → Int64) (th' : Int32), Inv σ' → ∀ (H : Heap) (locs : List Loc), Wd D (fun q => s.heap.size ≤ q) s.heap ((wX cZ cI a σ' ++ wO cJ o fo') ++ wM cZ cI b2 th' σ') H locs → ∀ ls : Array Slot, lv_has ls 7 [(0, .ref bs), (1, .ref (a 0)), (2, .ref (b2 0)), (3, .ref o), (4, .int (nI i))] → W p l e room_1 s m #[Value.ref bs] below meth c H locs (c0 + 1) (d0 + 6) Q (F0 m 1514 ls [])) : ∀ (H : Heap) (locs : List Loc), Wd D (fun q => s.heap.size ≤ q) s.heap ((wX cZ cI a σ ++ wO cJ o fo) ++ wM cZ cI b2 th σ) H locs → ∀ ls : Array Slot, lv_has ls 7 [(0, .ref bs), (1, .ref (a 0)), (2, .ref (b2 0)), (3, .ref o), (4, .int (nI i))] → W p l e room_1 s m #[Value.ref bs] below meth c H locs c0 d0 Q (F0 m 1066 ls []) := by
  intro H locs hw ls hl
  have hcl0 : c0 ≤ room_1.cells := (show c0 ≤ 1068 by omega)
  have hsl0 : d0 ≤ room_1.slots := (show d0 ≤ 8554 by omega)
  have hcl1 : c0 + 1 ≤ room_1.cells := hc0
  have hsl1 : d0 + 6 ≤ room_1.slots := hd0
  by_cases hb : arE (xs (i + 1)) (xs (i + 2)) = 0
  · refine lv_aload_n S.1 S.2.1 dL_law_1066 rfl (lv_at hl 1 rfl) ?_
    refine lv_aload_n S.1 S.2.1 dL_law_1067 rfl (lv_at hl 0 rfl) ?_
    refine lv_iload S.1 S.2.1 dL_law_1068 (lv_at hl 4 rfl) ?_
    refine lv_iconst (v := nI 1) S.1 S.2.1 dL_law_1070 (by decide) ?_
    refine lv_iadd S.1 S.2.1 dL_law_1071 ?_
    refine bx_top (y := nI (i + 1)) (nI_add i 1) ?_
    refine bl_sld S hX hbl hL hw (by omega) dL_law_1072 ?_
    refine lv_aload_n S.1 S.2.1 dL_law_1073 rfl (lv_at hl 0 rfl) ?_
    refine lv_iload S.1 S.2.1 dL_law_1074 (lv_at hl 4 rfl) ?_
    refine lv_iconst (v := nI 2) S.1 S.2.1 dL_law_1076 (by decide) ?_
    refine lv_iadd S.1 S.2.1 dL_law_1077 ?_
    refine bx_top (y := nI (i + 2)) (nI_add i 2) ?_
    refine bl_sld S hX hbl hL hw (by omega) dL_law_1078 ?_
    refine lv_aload_n S.1 S.2.1 dL_law_1079 rfl (lv_at hl 3 rfl) ?_
    refine bl_sb (As := [.ref (a 0), .int (xs (i + 1)), .int (xs (i + 2)), .ref o]) (rest := []) S hK hZ hw (kL_timer_IA l D cZ cI cJ a σ o fo (xs (i + 1)) (xs (i + 2)) (tX0_timer_b l hfl D cZ cI a σ (xs (i + 1)) (xs (i + 2)) hb)) (vx_cwSW 4 S.2.2.2.2 gL_law_L_timer rfl rfl rfl (by decide +kernel) ⟨Nat.le_of_ble_eq_true rfl, Nat.le_of_ble_eq_true rfl⟩) rfl hl.1 rfl (Nat.le_of_ble_eq_true rfl) hcl1 hsl1 dL_law_1080 (fun H locs hw => ?_)
    refine lv_istore (lv' := [(5, .int 1), (0, .ref bs), (1, .ref (a 0)), (2, .ref (b2 0)), (3, .ref o), (4, .int (nI i))]) S.1 S.2.1 dL_law_1083 hl (by decide) rfl (fun ls hl => ?_)
    refine lv_aload_n S.1 S.2.1 dL_law_1085 rfl (lv_at hl 3 rfl) ?_
    refine lv_aload_n S.1 S.2.1 dL_law_1086 rfl (lv_at hl 1 rfl) ?_
    refine lv_iload S.1 S.2.1 dL_law_1087 (lv_at hl 5 rfl) ?_
    refine lv_iconst (v := nI 1) S.1 S.2.1 dL_law_1089 (by decide) ?_
    refine lv_iadd S.1 S.2.1 dL_law_1090 ?_
    refine bx_top (y := nI (i + 1)) (nI_add i 1) ?_
    refine bl_sld S hX hbl hL hw (by omega) dL_law_1091 ?_
    refine lv_aload_n S.1 S.2.1 dL_law_1092 rfl (lv_at hl 1 rfl) ?_
    refine lv_iload S.1 S.2.1 dL_law_1093 (lv_at hl 5 rfl) ?_
    refine lv_iconst (v := nI 2) S.1 S.2.1 dL_law_1095 (by decide) ?_
    refine lv_iadd S.1 S.2.1 dL_law_1096 ?_
    refine bx_top (y := nI (i + 2)) (nI_add i 2) ?_
    refine bl_sld S hX hbl hL hw (by omega) dL_law_1097 ?_
    refine bm_vi (As := [.int (xs (i + 1)), .int (xs (i + 2))]) (rest := []) S (tyJ_Z hK) hw (kX1_timer_bad l D cZ cI b2 th σ (xs (i + 1)) (xs (i + 2)) hb) (cwV 2 S.2.2.2.2 gL_law_X1_timer rfl rfl rfl (by decide +kernel) ⟨Nat.le_of_ble_eq_true rfl, Nat.le_of_ble_eq_true rfl⟩) (q0 := 0) rfl rfl rfl hl.1 rfl (Nat.le_of_ble_eq_true rfl) hcl1 hsl1 dL_law_1098 (fun H locs hw => ?_)
    refine lv_istore (lv' := [(6, .int 0), (5, .int 1), (0, .ref bs), (1, .ref (a 0)), (2, .ref (b2 0)), (3, .ref o), (4, .int (nI i))]) S.1 S.2.1 dL_law_1101 hl (by decide) rfl (fun ls hl => ?_)
    refine lv_aload_n S.1 S.2.1 dL_law_1103 rfl (lv_at hl 4 rfl) ?_
    refine bm_vi (As := []) (rest := []) S (tyJ_Z hK) hw (kX1_thrown l D cZ cI b2 1 σ) (cwV 0 S.2.2.2.2 gL_law_X1_thrown rfl rfl rfl (by decide +kernel) ⟨Nat.le_of_ble_eq_true rfl, Nat.le_of_ble_eq_true rfl⟩) (q0 := 0) rfl rfl rfl hl.1 rfl (Nat.le_of_ble_eq_true rfl) hcl1 hsl1 dL_law_1104 (fun H locs hw => ?_)
    refine lv_iload S.1 S.2.1 dL_law_1107 (lv_at hl 1 rfl) ?_
    refine br_eq (tgt := 1114) S dL_law_1109 (by decide) (fun c9 => ?_) (fun c9 => ?_)
    · refine lv_iload S.1 S.2.1 dL_law_1114 (lv_at hl 1 rfl) ?_
      refine bz_ne (tgt := 1131) S dL_law_1116 (by decide) (fun c9 => ?_) (fun c9 => ?_)
      · refine lv_goto (tgt := 1514) S.1 S.2.1 dL_law_1131 (by decide) ?_
        exact K σ fo 1 hI _ _ hw _ (lv_sub hl [2, 3, 4, 5, 6] rfl)
      · exact absurd c9 (by decide)
    · exact absurd c9 (by decide)
  · obtain ⟨r, g, hr, hg, ex, ey⟩ := are_x hb
    by_cases hm : σ 10 (4 * g + r) = 0
    · refine lv_aload_n S.1 S.2.1 dL_law_1066 rfl (lv_at hl 1 rfl) ?_
      refine lv_aload_n S.1 S.2.1 dL_law_1067 rfl (lv_at hl 0 rfl) ?_
      refine lv_iload S.1 S.2.1 dL_law_1068 (lv_at hl 4 rfl) ?_
      refine lv_iconst (v := nI 1) S.1 S.2.1 dL_law_1070 (by decide) ?_
      refine lv_iadd S.1 S.2.1 dL_law_1071 ?_
      refine bx_top (y := nI (i + 1)) (nI_add i 1) ?_
      refine bl_sld S hX hbl hL hw (by omega) dL_law_1072 ?_
      refine bx_top (y := nI r) ex ?_
      refine lv_aload_n S.1 S.2.1 dL_law_1073 rfl (lv_at hl 0 rfl) ?_
      refine lv_iload S.1 S.2.1 dL_law_1074 (lv_at hl 4 rfl) ?_
      refine lv_iconst (v := nI 2) S.1 S.2.1 dL_law_1076 (by decide) ?_
      refine lv_iadd S.1 S.2.1 dL_law_1077 ?_
      refine bx_top (y := nI (i + 2)) (nI_add i 2) ?_
      refine bl_sld S hX hbl hL hw (by omega) dL_law_1078 ?_
      refine bx_top (y := nI g) ey ?_
      refine lv_aload_n S.1 S.2.1 dL_law_1079 rfl (lv_at hl 3 rfl) ?_
      refine bl_sb (As := [.ref (a 0), .int (nI r), .int (nI g), .ref o]) (rest := []) S hK hZ hw (kL_timer_IS l D cZ cI cJ a σ o fo (nI r) (nI g) (tX0_timer_s l hfl D cZ cI a σ (r := r) (g := g) hr hg hm)) (vx_cwSW 4 S.2.2.2.2 gL_law_L_timer rfl rfl rfl (by decide +kernel) ⟨Nat.le_of_ble_eq_true rfl, Nat.le_of_ble_eq_true rfl⟩) rfl hl.1 rfl (Nat.le_of_ble_eq_true rfl) hcl1 hsl1 dL_law_1080 (fun H locs hw => ?_)
      refine lv_istore (lv' := [(5, .int 2), (0, .ref bs), (1, .ref (a 0)), (2, .ref (b2 0)), (3, .ref o), (4, .int (nI i))]) S.1 S.2.1 dL_law_1083 hl (by decide) rfl (fun ls hl => ?_)
      refine lv_aload_n S.1 S.2.1 dL_law_1085 rfl (lv_at hl 3 rfl) ?_
      refine lv_aload_n S.1 S.2.1 dL_law_1086 rfl (lv_at hl 1 rfl) ?_
      refine lv_iload S.1 S.2.1 dL_law_1087 (lv_at hl 5 rfl) ?_
      refine lv_iconst (v := nI 1) S.1 S.2.1 dL_law_1089 (by decide) ?_
      refine lv_iadd S.1 S.2.1 dL_law_1090 ?_
      refine bx_top (y := nI (i + 1)) (nI_add i 1) ?_
      refine bl_sld S hX hbl hL hw (by omega) dL_law_1091 ?_
      refine bx_top (y := nI r) ex ?_
      refine lv_aload_n S.1 S.2.1 dL_law_1092 rfl (lv_at hl 1 rfl) ?_
      refine lv_iload S.1 S.2.1 dL_law_1093 (lv_at hl 5 rfl) ?_
      refine lv_iconst (v := nI 2) S.1 S.2.1 dL_law_1095 (by decide) ?_
      refine lv_iadd S.1 S.2.1 dL_law_1096 ?_
      refine bx_top (y := nI (i + 2)) (nI_add i 2) ?_
      refine bl_sld S hX hbl hL hw (by omega) dL_law_1097 ?_
      refine bx_top (y := nI g) ey ?_
      refine bm_vi (As := [.int (nI r), .int (nI g)]) (rest := []) S (tyJ_Z hK) hw (kX1_timer_bad2 l D cZ cI b2 th σ (r := r) (g := g) hr hg hm) (cwV 2 S.2.2.2.2 gL_law_X1_timer rfl rfl rfl (by decide +kernel) ⟨Nat.le_of_ble_eq_true rfl, Nat.le_of_ble_eq_true rfl⟩) (q0 := 0) rfl rfl rfl hl.1 rfl (Nat.le_of_ble_eq_true rfl) hcl1 hsl1 dL_law_1098 (fun H locs hw => ?_)
      refine lv_istore (lv' := [(6, .int 0), (5, .int 2), (0, .ref bs), (1, .ref (a 0)), (2, .ref (b2 0)), (3, .ref o), (4, .int (nI i))]) S.1 S.2.1 dL_law_1101 hl (by decide) rfl (fun ls hl => ?_)
      refine lv_aload_n S.1 S.2.1 dL_law_1103 rfl (lv_at hl 4 rfl) ?_
      refine bm_vi (As := []) (rest := []) S (tyJ_Z hK) hw (kX1_thrown l D cZ cI b2 2 σ) (cwV 0 S.2.2.2.2 gL_law_X1_thrown rfl rfl rfl (by decide +kernel) ⟨Nat.le_of_ble_eq_true rfl, Nat.le_of_ble_eq_true rfl⟩) (q0 := 0) rfl rfl rfl hl.1 rfl (Nat.le_of_ble_eq_true rfl) hcl1 hsl1 dL_law_1104 (fun H locs hw => ?_)
      refine lv_iload S.1 S.2.1 dL_law_1107 (lv_at hl 1 rfl) ?_
      refine br_eq (tgt := 1114) S dL_law_1109 (by decide) (fun c9 => ?_) (fun c9 => ?_)
      · refine lv_iload S.1 S.2.1 dL_law_1114 (lv_at hl 1 rfl) ?_
        refine bz_ne (tgt := 1131) S dL_law_1116 (by decide) (fun c9 => ?_) (fun c9 => ?_)
        · refine lv_goto (tgt := 1514) S.1 S.2.1 dL_law_1131 (by decide) ?_
          exact K σ fo 2 hI _ _ hw _ (lv_sub hl [2, 3, 4, 5, 6] rfl)
        · exact absurd c9 (by decide)
      · exact absurd c9 (by decide)
    · refine lv_aload_n S.1 S.2.1 dL_law_1066 rfl (lv_at hl 1 rfl) ?_
      refine lv_aload_n S.1 S.2.1 dL_law_1067 rfl (lv_at hl 0 rfl) ?_
      refine lv_iload S.1 S.2.1 dL_law_1068 (lv_at hl 4 rfl) ?_
      refine lv_iconst (v := nI 1) S.1 S.2.1 dL_law_1070 (by decide) ?_
      refine lv_iadd S.1 S.2.1 dL_law_1071 ?_
      refine bx_top (y := nI (i + 1)) (nI_add i 1) ?_
      refine bl_sld S hX hbl hL hw (by omega) dL_law_1072 ?_
      refine bx_top (y := nI r) ex ?_
      refine lv_aload_n S.1 S.2.1 dL_law_1073 rfl (lv_at hl 0 rfl) ?_
      refine lv_iload S.1 S.2.1 dL_law_1074 (lv_at hl 4 rfl) ?_
      refine lv_iconst (v := nI 2) S.1 S.2.1 dL_law_1076 (by decide) ?_
      refine lv_iadd S.1 S.2.1 dL_law_1077 ?_
      refine bx_top (y := nI (i + 2)) (nI_add i 2) ?_
      refine bl_sld S hX hbl hL hw (by omega) dL_law_1078 ?_
      refine bx_top (y := nI g) ey ?_
      refine lv_aload_n S.1 S.2.1 dL_law_1079 rfl (lv_at hl 3 rfl) ?_
      refine bl_si (As := [.ref (a 0), .int (nI r), .int (nI g), .ref o]) (rest := []) S hK hw (kL_timer l D cZ cI cJ a σ o fo (r := r) (g := g) hr hg hm) (vx_cwSW 4 S.2.2.2.2 gL_law_L_timer rfl rfl rfl (by decide +kernel) ⟨Nat.le_of_ble_eq_true rfl, Nat.le_of_ble_eq_true rfl⟩) rfl hl.1 rfl (Nat.le_of_ble_eq_true rfl) hcl0 hsl0 dL_law_1080 (fun H locs hw => ?_)
      refine lv_istore (lv' := [(5, .int 0), (0, .ref bs), (1, .ref (a 0)), (2, .ref (b2 0)), (3, .ref o), (4, .int (nI i))]) S.1 S.2.1 dL_law_1083 hl (by decide) rfl (fun ls hl => ?_)
      refine lv_aload_n S.1 S.2.1 dL_law_1085 rfl (lv_at hl 3 rfl) ?_
      refine lv_aload_n S.1 S.2.1 dL_law_1086 rfl (lv_at hl 1 rfl) ?_
      refine lv_iload S.1 S.2.1 dL_law_1087 (lv_at hl 5 rfl) ?_
      refine lv_iconst (v := nI 1) S.1 S.2.1 dL_law_1089 (by decide) ?_
      refine lv_iadd S.1 S.2.1 dL_law_1090 ?_
      refine bx_top (y := nI (i + 1)) (nI_add i 1) ?_
      refine bl_sld S hX hbl hL hw (by omega) dL_law_1091 ?_
      refine bx_top (y := nI r) ex ?_
      refine lv_aload_n S.1 S.2.1 dL_law_1092 rfl (lv_at hl 1 rfl) ?_
      refine lv_iload S.1 S.2.1 dL_law_1093 (lv_at hl 5 rfl) ?_
      refine lv_iconst (v := nI 2) S.1 S.2.1 dL_law_1095 (by decide) ?_
      refine lv_iadd S.1 S.2.1 dL_law_1096 ?_
      refine bx_top (y := nI (i + 2)) (nI_add i 2) ?_
      refine bl_sld S hX hbl hL hw (by omega) dL_law_1097 ?_
      refine bx_top (y := nI g) ey ?_
      refine bm_vi (As := [.int (nI r), .int (nI g)]) (rest := []) S (tyJ_Z hK) hw (kX1_timer l D cZ cI b2 th σ (r := r) (g := g) hr hg hm) (cwV 2 S.2.2.2.2 gL_law_X1_timer rfl rfl rfl (by decide +kernel) ⟨Nat.le_of_ble_eq_true rfl, Nat.le_of_ble_eq_true rfl⟩) (q0 := 0) rfl rfl rfl hl.1 rfl (Nat.le_of_ble_eq_true rfl) hcl0 hsl0 dL_law_1098 (fun H locs hw => ?_)
      refine lv_istore (lv' := [(6, .int (σ 11 (4 * g + r))), (5, .int 0), (0, .ref bs), (1, .ref (a 0)), (2, .ref (b2 0)), (3, .ref o), (4, .int (nI i))]) S.1 S.2.1 dL_law_1101 hl (by decide) rfl (fun ls hl => ?_)
      refine lv_aload_n S.1 S.2.1 dL_law_1103 rfl (lv_at hl 4 rfl) ?_
      refine bm_vi (As := []) (rest := []) S (tyJ_Z hK) hw (kX1_thrown l D cZ cI b2 0 σ) (cwV 0 S.2.2.2.2 gL_law_X1_thrown rfl rfl rfl (by decide +kernel) ⟨Nat.le_of_ble_eq_true rfl, Nat.le_of_ble_eq_true rfl⟩) (q0 := 0) rfl rfl rfl hl.1 rfl (Nat.le_of_ble_eq_true rfl) hcl0 hsl0 dL_law_1104 (fun H locs hw => ?_)
      refine lv_iload S.1 S.2.1 dL_law_1107 (lv_at hl 1 rfl) ?_
      refine br_eq (tgt := 1114) S dL_law_1109 (by decide) (fun c9 => ?_) (fun c9 => ?_)
      · refine lv_iload S.1 S.2.1 dL_law_1114 (lv_at hl 1 rfl) ?_
        refine bz_ne (tgt := 1131) S dL_law_1116 (by decide) (fun c9 => ?_) (fun c9 => ?_)
        · exact absurd c9 (by decide)
        · refine lv_aload_n S.1 S.2.1 dL_law_1119 rfl (lv_at hl 5 rfl) ?_
          refine lv_iconst (v := nI 0) S.1 S.2.1 dL_law_1120 (by decide) ?_
          refine bl_lald (v := (σ 11 (4 * g + r)).toInt64) S hK hw.1 17 2 rfl rfl (by decide) (by decide) rfl dL_law_1121 ?_
          refine lv_iload S.1 S.2.1 dL_law_1122 (lv_at hl 0 rfl) ?_
          refine lv_i2l (v := (σ 11 (4 * g + r)).toInt64) S.1 S.2.1 dL_law_1124 rfl ?_
          refine bl_lcmp S rfl dL_law_1125 ?_
          refine bz_eq (tgt := 1131) S dL_law_1126 (by decide) (fun c9 => ?_) (fun c9 => ?_)
          · refine lv_goto (tgt := 1514) S.1 S.2.1 dL_law_1131 (by decide) ?_
            refine W.widen (k := c0 + 1) (n := d0 + 6) (by omega) (by omega) ?_
            exact K σ (vp_updL fo 0 ((σ 11 (4 * g + r)).toInt64)) 0 hI _ _ hw _ (lv_sub hl [2, 3, 4, 5, 6] rfl)
          · exact absurd c9 (by decide)
      · exact absurd c9 (by decide)

set_option maxHeartbeats 4000000 in
set_option maxRecDepth 100000 in
theorem law_masters (l : Launch) (hfl : l.stackTraces = false) {p : Program} {e : Env} {s : State} {m : MethodId} {below : List Frame} {meth : Method} {c : Code} {D : va_G} {cZ cI cJ : ClassId} {a b2 : Nat → Nat} {o bs L : Nat} {xs : Nat → Int32} (S : CallFix p m c cL_law 7 s #[Value.ref bs] wsL_law RL) (hK : va_K D vwCl (tyJ cZ cI cJ) s) (hZ : ZT (fun q => s.heap.size ≤ q) s s.heap) (hX : va_X bs L xs s s.heap) (hbl : bs < s.heap.size) (hL : L ≤ 2048) {Q : State → Prop} {i c0 d0 : Nat} (hi : i + 4 ≤ L) (hc0 : c0 + 1 ≤ 1068) (hd0 : d0 + 6 ≤ 8554) (σ : sC) (fo : Nat → Int64) (th : Int32) (hI : Inv σ) (K : ∀ (σ' : sC) (fo' : Nat → Int64) (th' : Int32), Inv σ' → ∀ (H : Heap) (locs : List Loc), Wd D (fun q => s.heap.size ≤ q) s.heap ((wX cZ cI a σ' ++ wO cJ o fo') ++ wM cZ cI b2 th' σ') H locs → ∀ ls : Array Slot, lv_has ls 7 [(0, .ref bs), (1, .ref (a 0)), (2, .ref (b2 0)), (3, .ref o), (4, .int (nI i))] → W p l e room_1 s m #[Value.ref bs] below meth c H locs (c0 + 1) (d0 + 6) Q (F0 m 1514 ls [])) : ∀ (H : Heap) (locs : List Loc), Wd D (fun q => s.heap.size ≤ q) s.heap ((wX cZ cI a σ ++ wO cJ o fo) ++ wM cZ cI b2 th σ) H locs → ∀ ls : Array Slot, lv_has ls 7 [(0, .ref bs), (1, .ref (a 0)), (2, .ref (b2 0)), (3, .ref o), (4, .int (nI i))] → W p l e room_1 s m #[Value.ref bs] below meth c H locs c0 d0 Q (F0 m 1134 ls []) := by
  intro H locs hw ls hl
  have hcl0 : c0 ≤ room_1.cells := (show c0 ≤ 1068 by omega)
  have hsl0 : d0 ≤ room_1.slots := (show d0 ≤ 8554 by omega)
  have hcl1 : c0 + 1 ≤ room_1.cells := hc0
  have hsl1 : d0 + 6 ≤ room_1.slots := hd0
  by_cases hb : inB (xs (i + 1)) 0 2 = 0
  · refine lv_aload_n S.1 S.2.1 dL_law_1134 rfl (lv_at hl 1 rfl) ?_
    refine lv_aload_n S.1 S.2.1 dL_law_1135 rfl (lv_at hl 0 rfl) ?_
    refine lv_iload S.1 S.2.1 dL_law_1136 (lv_at hl 4 rfl) ?_
    refine lv_iconst (v := nI 1) S.1 S.2.1 dL_law_1138 (by decide) ?_
    refine lv_iadd S.1 S.2.1 dL_law_1139 ?_
    refine bx_top (y := nI (i + 1)) (nI_add i 1) ?_
    refine bl_sld S hX hbl hL hw (by omega) dL_law_1140 ?_
    refine lv_aload_n S.1 S.2.1 dL_law_1141 rfl (lv_at hl 3 rfl) ?_
    refine bl_sb (As := [.ref (a 0), .int (xs (i + 1)), .ref o]) (rest := []) S hK hZ hw (kL_masters_IA l D cZ cI cJ a σ o fo (xs (i + 1)) (tX0_masters_1 l hfl D cZ cI a σ (xs (i + 1)) hb)) (vx_cwSW 3 S.2.2.2.2 gL_law_L_masters rfl rfl rfl (by decide +kernel) ⟨Nat.le_of_ble_eq_true rfl, Nat.le_of_ble_eq_true rfl⟩) rfl hl.1 rfl (Nat.le_of_ble_eq_true rfl) hcl1 hsl1 dL_law_1142 (fun H locs hw => ?_)
    refine lv_istore (lv' := [(5, .int 1), (0, .ref bs), (1, .ref (a 0)), (2, .ref (b2 0)), (3, .ref o), (4, .int (nI i))]) S.1 S.2.1 dL_law_1145 hl (by decide) rfl (fun ls hl => ?_)
    refine lv_aload_n S.1 S.2.1 dL_law_1147 rfl (lv_at hl 3 rfl) ?_
    refine lv_aload_n S.1 S.2.1 dL_law_1148 rfl (lv_at hl 1 rfl) ?_
    refine lv_iload S.1 S.2.1 dL_law_1149 (lv_at hl 5 rfl) ?_
    refine lv_iconst (v := nI 1) S.1 S.2.1 dL_law_1151 (by decide) ?_
    refine lv_iadd S.1 S.2.1 dL_law_1152 ?_
    refine bx_top (y := nI (i + 1)) (nI_add i 1) ?_
    refine bl_sld S hX hbl hL hw (by omega) dL_law_1153 ?_
    refine bm_vi (As := [.int (xs (i + 1))]) (rest := []) S (tyJ_Z hK) hw (kX1_masters_bad l D cZ cI b2 th σ (xs (i + 1)) hb) (cwV 1 S.2.2.2.2 gL_law_X1_masters rfl rfl rfl (by decide +kernel) ⟨Nat.le_of_ble_eq_true rfl, Nat.le_of_ble_eq_true rfl⟩) (q0 := 0) rfl rfl rfl hl.1 rfl (Nat.le_of_ble_eq_true rfl) hcl1 hsl1 dL_law_1154 (fun H locs hw => ?_)
    refine lv_istore (lv' := [(6, .int 0), (5, .int 1), (0, .ref bs), (1, .ref (a 0)), (2, .ref (b2 0)), (3, .ref o), (4, .int (nI i))]) S.1 S.2.1 dL_law_1157 hl (by decide) rfl (fun ls hl => ?_)
    refine lv_aload_n S.1 S.2.1 dL_law_1159 rfl (lv_at hl 4 rfl) ?_
    refine bm_vi (As := []) (rest := []) S (tyJ_Z hK) hw (kX1_thrown l D cZ cI b2 1 σ) (cwV 0 S.2.2.2.2 gL_law_X1_thrown rfl rfl rfl (by decide +kernel) ⟨Nat.le_of_ble_eq_true rfl, Nat.le_of_ble_eq_true rfl⟩) (q0 := 0) rfl rfl rfl hl.1 rfl (Nat.le_of_ble_eq_true rfl) hcl1 hsl1 dL_law_1160 (fun H locs hw => ?_)
    refine lv_iload S.1 S.2.1 dL_law_1163 (lv_at hl 1 rfl) ?_
    refine br_eq (tgt := 1170) S dL_law_1165 (by decide) (fun c9 => ?_) (fun c9 => ?_)
    · refine lv_iload S.1 S.2.1 dL_law_1170 (lv_at hl 1 rfl) ?_
      refine bz_ne (tgt := 1187) S dL_law_1172 (by decide) (fun c9 => ?_) (fun c9 => ?_)
      · refine lv_goto (tgt := 1514) S.1 S.2.1 dL_law_1187 (by decide) ?_
        exact K σ fo 1 hI _ _ hw _ (lv_sub hl [2, 3, 4, 5, 6] rfl)
      · exact absurd c9 (by decide)
    · exact absurd c9 (by decide)
  · obtain ⟨g, hg, ex⟩ := in_gx hb
    refine lv_aload_n S.1 S.2.1 dL_law_1134 rfl (lv_at hl 1 rfl) ?_
    refine lv_aload_n S.1 S.2.1 dL_law_1135 rfl (lv_at hl 0 rfl) ?_
    refine lv_iload S.1 S.2.1 dL_law_1136 (lv_at hl 4 rfl) ?_
    refine lv_iconst (v := nI 1) S.1 S.2.1 dL_law_1138 (by decide) ?_
    refine lv_iadd S.1 S.2.1 dL_law_1139 ?_
    refine bx_top (y := nI (i + 1)) (nI_add i 1) ?_
    refine bl_sld S hX hbl hL hw (by omega) dL_law_1140 ?_
    refine bx_top (y := nI g) ex ?_
    refine lv_aload_n S.1 S.2.1 dL_law_1141 rfl (lv_at hl 3 rfl) ?_
    refine bl_si (As := [.ref (a 0), .int (nI g), .ref o]) (rest := []) S hK hw (kL_masters l D cZ cI cJ a σ o fo (g := g) hg) (vx_cwSW 3 S.2.2.2.2 gL_law_L_masters rfl rfl rfl (by decide +kernel) ⟨Nat.le_of_ble_eq_true rfl, Nat.le_of_ble_eq_true rfl⟩) rfl hl.1 rfl (Nat.le_of_ble_eq_true rfl) hcl0 hsl0 dL_law_1142 (fun H locs hw => ?_)
    refine lv_istore (lv' := [(5, .int 0), (0, .ref bs), (1, .ref (a 0)), (2, .ref (b2 0)), (3, .ref o), (4, .int (nI i))]) S.1 S.2.1 dL_law_1145 hl (by decide) rfl (fun ls hl => ?_)
    refine lv_aload_n S.1 S.2.1 dL_law_1147 rfl (lv_at hl 3 rfl) ?_
    refine lv_aload_n S.1 S.2.1 dL_law_1148 rfl (lv_at hl 1 rfl) ?_
    refine lv_iload S.1 S.2.1 dL_law_1149 (lv_at hl 5 rfl) ?_
    refine lv_iconst (v := nI 1) S.1 S.2.1 dL_law_1151 (by decide) ?_
    refine lv_iadd S.1 S.2.1 dL_law_1152 ?_
    refine bx_top (y := nI (i + 1)) (nI_add i 1) ?_
    refine bl_sld S hX hbl hL hw (by omega) dL_law_1153 ?_
    refine bx_top (y := nI g) ex ?_
    refine bm_vi (As := [.int (nI g)]) (rest := []) S (tyJ_Z hK) hw (kX1_masters l D cZ cI b2 th σ (g := g) hg) (cwV 1 S.2.2.2.2 gL_law_X1_masters rfl rfl rfl (by decide +kernel) ⟨Nat.le_of_ble_eq_true rfl, Nat.le_of_ble_eq_true rfl⟩) (q0 := 0) rfl rfl rfl hl.1 rfl (Nat.le_of_ble_eq_true rfl) hcl0 hsl0 dL_law_1154 (fun H locs hw => ?_)
    refine lv_istore (lv' := [(6, .int (memW σ 2 g)), (5, .int 0), (0, .ref bs), (1, .ref (a 0)), (2, .ref (b2 0)), (3, .ref o), (4, .int (nI i))]) S.1 S.2.1 dL_law_1157 hl (by decide) rfl (fun ls hl => ?_)
    refine lv_aload_n S.1 S.2.1 dL_law_1159 rfl (lv_at hl 4 rfl) ?_
    refine bm_vi (As := []) (rest := []) S (tyJ_Z hK) hw (kX1_thrown l D cZ cI b2 0 σ) (cwV 0 S.2.2.2.2 gL_law_X1_thrown rfl rfl rfl (by decide +kernel) ⟨Nat.le_of_ble_eq_true rfl, Nat.le_of_ble_eq_true rfl⟩) (q0 := 0) rfl rfl rfl hl.1 rfl (Nat.le_of_ble_eq_true rfl) hcl0 hsl0 dL_law_1160 (fun H locs hw => ?_)
    refine lv_iload S.1 S.2.1 dL_law_1163 (lv_at hl 1 rfl) ?_
    refine br_eq (tgt := 1170) S dL_law_1165 (by decide) (fun c9 => ?_) (fun c9 => ?_)
    · refine lv_iload S.1 S.2.1 dL_law_1170 (lv_at hl 1 rfl) ?_
      refine bz_ne (tgt := 1187) S dL_law_1172 (by decide) (fun c9 => ?_) (fun c9 => ?_)
      · exact absurd c9 (by decide)
      · refine lv_aload_n S.1 S.2.1 dL_law_1175 rfl (lv_at hl 5 rfl) ?_
        refine lv_iconst (v := nI 0) S.1 S.2.1 dL_law_1176 (by decide) ?_
        refine bl_lald (v := (memW σ 2 g).toInt64) S hK hw.1 17 2 rfl rfl (by decide) (by decide) rfl dL_law_1177 ?_
        refine lv_iload S.1 S.2.1 dL_law_1178 (lv_at hl 0 rfl) ?_
        refine lv_i2l (v := (memW σ 2 g).toInt64) S.1 S.2.1 dL_law_1180 rfl ?_
        refine bl_lcmp S rfl dL_law_1181 ?_
        refine bz_eq (tgt := 1187) S dL_law_1182 (by decide) (fun c9 => ?_) (fun c9 => ?_)
        · refine lv_goto (tgt := 1514) S.1 S.2.1 dL_law_1187 (by decide) ?_
          refine W.widen (k := c0 + 1) (n := d0 + 6) (by omega) (by omega) ?_
          exact K σ (vp_updL fo 0 ((memW σ 2 g).toInt64)) 0 hI _ _ hw _ (lv_sub hl [2, 3, 4, 5, 6] rfl)
        · exact absurd c9 (by decide)
    · exact absurd c9 (by decide)

set_option maxHeartbeats 4000000 in
set_option maxRecDepth 100000 in
theorem law_changes (l : Launch) (hfl : l.stackTraces = false) {p : Program} {e : Env} {s : State} {m : MethodId} {below : List Frame} {meth : Method} {c : Code} {D : va_G} {cZ cI cJ : ClassId} {a b2 : Nat → Nat} {o bs L : Nat} {xs : Nat → Int32} (S : CallFix p m c cL_law 7 s #[Value.ref bs] wsL_law RL) (hK : va_K D vwCl (tyJ cZ cI cJ) s) (hZ : ZT (fun q => s.heap.size ≤ q) s s.heap) (hX : va_X bs L xs s s.heap) (hbl : bs < s.heap.size) (hL : L ≤ 2048) {Q : State → Prop} {i c0 d0 : Nat} (hi : i + 4 ≤ L) (hc0 : c0 + 1 ≤ 1068) (hd0 : d0 + 6 ≤ 8554) (σ : sC) (fo : Nat → Int64) (th : Int32) (hI : Inv σ) (K : ∀ (σ' : sC) (fo' : Nat → Int64) (th' : Int32), Inv σ' → ∀ (H : Heap) (locs : List Loc), Wd D (fun q => s.heap.size ≤ q) s.heap ((wX cZ cI a σ' ++ wO cJ o fo') ++ wM cZ cI b2 th' σ') H locs → ∀ ls : Array Slot, lv_has ls 7 [(0, .ref bs), (1, .ref (a 0)), (2, .ref (b2 0)), (3, .ref o), (4, .int (nI i))] → W p l e room_1 s m #[Value.ref bs] below meth c H locs (c0 + 1) (d0 + 6) Q (F0 m 1514 ls [])) : ∀ (H : Heap) (locs : List Loc), Wd D (fun q => s.heap.size ≤ q) s.heap ((wX cZ cI a σ ++ wO cJ o fo) ++ wM cZ cI b2 th σ) H locs → ∀ ls : Array Slot, lv_has ls 7 [(0, .ref bs), (1, .ref (a 0)), (2, .ref (b2 0)), (3, .ref o), (4, .int (nI i))] → W p l e room_1 s m #[Value.ref bs] below meth c H locs c0 d0 Q (F0 m 1190 ls []) := by
  intro H locs hw ls hl
  have hcl0 : c0 ≤ room_1.cells := (show c0 ≤ 1068 by omega)
  have hsl0 : d0 ≤ room_1.slots := (show d0 ≤ 8554 by omega)
  have hcl1 : c0 + 1 ≤ room_1.cells := hc0
  have hsl1 : d0 + 6 ≤ room_1.slots := hd0
  by_cases hb : arE (xs (i + 1)) (xs (i + 2)) = 0
  · refine lv_aload_n S.1 S.2.1 dL_law_1190 rfl (lv_at hl 1 rfl) ?_
    refine lv_aload_n S.1 S.2.1 dL_law_1191 rfl (lv_at hl 0 rfl) ?_
    refine lv_iload S.1 S.2.1 dL_law_1192 (lv_at hl 4 rfl) ?_
    refine lv_iconst (v := nI 1) S.1 S.2.1 dL_law_1194 (by decide) ?_
    refine lv_iadd S.1 S.2.1 dL_law_1195 ?_
    refine bx_top (y := nI (i + 1)) (nI_add i 1) ?_
    refine bl_sld S hX hbl hL hw (by omega) dL_law_1196 ?_
    refine lv_aload_n S.1 S.2.1 dL_law_1197 rfl (lv_at hl 0 rfl) ?_
    refine lv_iload S.1 S.2.1 dL_law_1198 (lv_at hl 4 rfl) ?_
    refine lv_iconst (v := nI 2) S.1 S.2.1 dL_law_1200 (by decide) ?_
    refine lv_iadd S.1 S.2.1 dL_law_1201 ?_
    refine bx_top (y := nI (i + 2)) (nI_add i 2) ?_
    refine bl_sld S hX hbl hL hw (by omega) dL_law_1202 ?_
    refine lv_aload_n S.1 S.2.1 dL_law_1203 rfl (lv_at hl 3 rfl) ?_
    refine bl_sb (As := [.ref (a 0), .int (xs (i + 1)), .int (xs (i + 2)), .ref o]) (rest := []) S hK hZ hw (kL_changes_IA l D cZ cI cJ a σ o fo (xs (i + 1)) (xs (i + 2)) (tX0_changes_b l hfl D cZ cI a σ (xs (i + 1)) (xs (i + 2)) hb)) (vx_cwSW 4 S.2.2.2.2 gL_law_L_changes rfl rfl rfl (by decide +kernel) ⟨Nat.le_of_ble_eq_true rfl, Nat.le_of_ble_eq_true rfl⟩) rfl hl.1 rfl (Nat.le_of_ble_eq_true rfl) hcl1 hsl1 dL_law_1204 (fun H locs hw => ?_)
    refine lv_istore (lv' := [(5, .int 1), (0, .ref bs), (1, .ref (a 0)), (2, .ref (b2 0)), (3, .ref o), (4, .int (nI i))]) S.1 S.2.1 dL_law_1207 hl (by decide) rfl (fun ls hl => ?_)
    refine lv_aload_n S.1 S.2.1 dL_law_1209 rfl (lv_at hl 3 rfl) ?_
    refine lv_aload_n S.1 S.2.1 dL_law_1210 rfl (lv_at hl 1 rfl) ?_
    refine lv_iload S.1 S.2.1 dL_law_1211 (lv_at hl 5 rfl) ?_
    refine lv_iconst (v := nI 1) S.1 S.2.1 dL_law_1213 (by decide) ?_
    refine lv_iadd S.1 S.2.1 dL_law_1214 ?_
    refine bx_top (y := nI (i + 1)) (nI_add i 1) ?_
    refine bl_sld S hX hbl hL hw (by omega) dL_law_1215 ?_
    refine lv_aload_n S.1 S.2.1 dL_law_1216 rfl (lv_at hl 1 rfl) ?_
    refine lv_iload S.1 S.2.1 dL_law_1217 (lv_at hl 5 rfl) ?_
    refine lv_iconst (v := nI 2) S.1 S.2.1 dL_law_1219 (by decide) ?_
    refine lv_iadd S.1 S.2.1 dL_law_1220 ?_
    refine bx_top (y := nI (i + 2)) (nI_add i 2) ?_
    refine bl_sld S hX hbl hL hw (by omega) dL_law_1221 ?_
    refine bm_vi (As := [.int (xs (i + 1)), .int (xs (i + 2))]) (rest := []) S (tyJ_Z hK) hw (kX1_changes_bad l D cZ cI b2 th σ (xs (i + 1)) (xs (i + 2)) hb) (cwV 2 S.2.2.2.2 gL_law_X1_changes rfl rfl rfl (by decide +kernel) ⟨Nat.le_of_ble_eq_true rfl, Nat.le_of_ble_eq_true rfl⟩) (q0 := 0) rfl rfl rfl hl.1 rfl (Nat.le_of_ble_eq_true rfl) hcl1 hsl1 dL_law_1222 (fun H locs hw => ?_)
    refine lv_istore (lv' := [(6, .int 0), (5, .int 1), (0, .ref bs), (1, .ref (a 0)), (2, .ref (b2 0)), (3, .ref o), (4, .int (nI i))]) S.1 S.2.1 dL_law_1225 hl (by decide) rfl (fun ls hl => ?_)
    refine lv_aload_n S.1 S.2.1 dL_law_1227 rfl (lv_at hl 4 rfl) ?_
    refine bm_vi (As := []) (rest := []) S (tyJ_Z hK) hw (kX1_thrown l D cZ cI b2 1 σ) (cwV 0 S.2.2.2.2 gL_law_X1_thrown rfl rfl rfl (by decide +kernel) ⟨Nat.le_of_ble_eq_true rfl, Nat.le_of_ble_eq_true rfl⟩) (q0 := 0) rfl rfl rfl hl.1 rfl (Nat.le_of_ble_eq_true rfl) hcl1 hsl1 dL_law_1228 (fun H locs hw => ?_)
    refine lv_iload S.1 S.2.1 dL_law_1231 (lv_at hl 1 rfl) ?_
    refine br_eq (tgt := 1238) S dL_law_1233 (by decide) (fun c9 => ?_) (fun c9 => ?_)
    · refine lv_iload S.1 S.2.1 dL_law_1238 (lv_at hl 1 rfl) ?_
      refine bz_ne (tgt := 1255) S dL_law_1240 (by decide) (fun c9 => ?_) (fun c9 => ?_)
      · refine lv_goto (tgt := 1514) S.1 S.2.1 dL_law_1255 (by decide) ?_
        exact K σ fo 1 hI _ _ hw _ (lv_sub hl [2, 3, 4, 5, 6] rfl)
      · exact absurd c9 (by decide)
    · exact absurd c9 (by decide)
  · obtain ⟨r, g, hr, hg, ex, ey⟩ := are_x hb
    refine lv_aload_n S.1 S.2.1 dL_law_1190 rfl (lv_at hl 1 rfl) ?_
    refine lv_aload_n S.1 S.2.1 dL_law_1191 rfl (lv_at hl 0 rfl) ?_
    refine lv_iload S.1 S.2.1 dL_law_1192 (lv_at hl 4 rfl) ?_
    refine lv_iconst (v := nI 1) S.1 S.2.1 dL_law_1194 (by decide) ?_
    refine lv_iadd S.1 S.2.1 dL_law_1195 ?_
    refine bx_top (y := nI (i + 1)) (nI_add i 1) ?_
    refine bl_sld S hX hbl hL hw (by omega) dL_law_1196 ?_
    refine bx_top (y := nI r) ex ?_
    refine lv_aload_n S.1 S.2.1 dL_law_1197 rfl (lv_at hl 0 rfl) ?_
    refine lv_iload S.1 S.2.1 dL_law_1198 (lv_at hl 4 rfl) ?_
    refine lv_iconst (v := nI 2) S.1 S.2.1 dL_law_1200 (by decide) ?_
    refine lv_iadd S.1 S.2.1 dL_law_1201 ?_
    refine bx_top (y := nI (i + 2)) (nI_add i 2) ?_
    refine bl_sld S hX hbl hL hw (by omega) dL_law_1202 ?_
    refine bx_top (y := nI g) ey ?_
    refine lv_aload_n S.1 S.2.1 dL_law_1203 rfl (lv_at hl 3 rfl) ?_
    refine bl_si (As := [.ref (a 0), .int (nI r), .int (nI g), .ref o]) (rest := []) S hK hw (kL_changes l D cZ cI cJ a σ o fo (r := r) (g := g) hr hg) (vx_cwSW 4 S.2.2.2.2 gL_law_L_changes rfl rfl rfl (by decide +kernel) ⟨Nat.le_of_ble_eq_true rfl, Nat.le_of_ble_eq_true rfl⟩) rfl hl.1 rfl (Nat.le_of_ble_eq_true rfl) hcl0 hsl0 dL_law_1204 (fun H locs hw => ?_)
    refine lv_istore (lv' := [(5, .int 0), (0, .ref bs), (1, .ref (a 0)), (2, .ref (b2 0)), (3, .ref o), (4, .int (nI i))]) S.1 S.2.1 dL_law_1207 hl (by decide) rfl (fun ls hl => ?_)
    refine lv_aload_n S.1 S.2.1 dL_law_1209 rfl (lv_at hl 3 rfl) ?_
    refine lv_aload_n S.1 S.2.1 dL_law_1210 rfl (lv_at hl 1 rfl) ?_
    refine lv_iload S.1 S.2.1 dL_law_1211 (lv_at hl 5 rfl) ?_
    refine lv_iconst (v := nI 1) S.1 S.2.1 dL_law_1213 (by decide) ?_
    refine lv_iadd S.1 S.2.1 dL_law_1214 ?_
    refine bx_top (y := nI (i + 1)) (nI_add i 1) ?_
    refine bl_sld S hX hbl hL hw (by omega) dL_law_1215 ?_
    refine bx_top (y := nI r) ex ?_
    refine lv_aload_n S.1 S.2.1 dL_law_1216 rfl (lv_at hl 1 rfl) ?_
    refine lv_iload S.1 S.2.1 dL_law_1217 (lv_at hl 5 rfl) ?_
    refine lv_iconst (v := nI 2) S.1 S.2.1 dL_law_1219 (by decide) ?_
    refine lv_iadd S.1 S.2.1 dL_law_1220 ?_
    refine bx_top (y := nI (i + 2)) (nI_add i 2) ?_
    refine bl_sld S hX hbl hL hw (by omega) dL_law_1221 ?_
    refine bx_top (y := nI g) ey ?_
    refine bm_vi (As := [.int (nI r), .int (nI g)]) (rest := []) S (tyJ_Z hK) hw (kX1_changes l D cZ cI b2 th σ (r := r) (g := g) hr hg) (cwV 2 S.2.2.2.2 gL_law_X1_changes rfl rfl rfl (by decide +kernel) ⟨Nat.le_of_ble_eq_true rfl, Nat.le_of_ble_eq_true rfl⟩) (q0 := 0) rfl rfl rfl hl.1 rfl (Nat.le_of_ble_eq_true rfl) hcl0 hsl0 dL_law_1222 (fun H locs hw => ?_)
    refine lv_istore (lv' := [(6, .int (σ 14 (4 * g + r))), (5, .int 0), (0, .ref bs), (1, .ref (a 0)), (2, .ref (b2 0)), (3, .ref o), (4, .int (nI i))]) S.1 S.2.1 dL_law_1225 hl (by decide) rfl (fun ls hl => ?_)
    refine lv_aload_n S.1 S.2.1 dL_law_1227 rfl (lv_at hl 4 rfl) ?_
    refine bm_vi (As := []) (rest := []) S (tyJ_Z hK) hw (kX1_thrown l D cZ cI b2 0 σ) (cwV 0 S.2.2.2.2 gL_law_X1_thrown rfl rfl rfl (by decide +kernel) ⟨Nat.le_of_ble_eq_true rfl, Nat.le_of_ble_eq_true rfl⟩) (q0 := 0) rfl rfl rfl hl.1 rfl (Nat.le_of_ble_eq_true rfl) hcl0 hsl0 dL_law_1228 (fun H locs hw => ?_)
    refine lv_iload S.1 S.2.1 dL_law_1231 (lv_at hl 1 rfl) ?_
    refine br_eq (tgt := 1238) S dL_law_1233 (by decide) (fun c9 => ?_) (fun c9 => ?_)
    · refine lv_iload S.1 S.2.1 dL_law_1238 (lv_at hl 1 rfl) ?_
      refine bz_ne (tgt := 1255) S dL_law_1240 (by decide) (fun c9 => ?_) (fun c9 => ?_)
      · exact absurd c9 (by decide)
      · refine lv_aload_n S.1 S.2.1 dL_law_1243 rfl (lv_at hl 5 rfl) ?_
        refine lv_iconst (v := nI 0) S.1 S.2.1 dL_law_1244 (by decide) ?_
        refine bl_lald (v := (σ 14 (4 * g + r)).toInt64) S hK hw.1 17 2 rfl rfl (by decide) (by decide) rfl dL_law_1245 ?_
        refine lv_iload S.1 S.2.1 dL_law_1246 (lv_at hl 0 rfl) ?_
        refine lv_i2l (v := (σ 14 (4 * g + r)).toInt64) S.1 S.2.1 dL_law_1248 rfl ?_
        refine bl_lcmp S rfl dL_law_1249 ?_
        refine bz_eq (tgt := 1255) S dL_law_1250 (by decide) (fun c9 => ?_) (fun c9 => ?_)
        · refine lv_goto (tgt := 1514) S.1 S.2.1 dL_law_1255 (by decide) ?_
          refine W.widen (k := c0 + 1) (n := d0 + 6) (by omega) (by omega) ?_
          exact K σ (vp_updL fo 0 ((σ 14 (4 * g + r)).toInt64)) 0 hI _ _ hw _ (lv_sub hl [2, 3, 4, 5, 6] rfl)
        · exact absurd c9 (by decide)
    · exact absurd c9 (by decide)

set_option maxHeartbeats 4000000 in
set_option maxRecDepth 100000 in
theorem law_gaps (l : Launch) (hfl : l.stackTraces = false) {p : Program} {e : Env} {s : State} {m : MethodId} {below : List Frame} {meth : Method} {c : Code} {D : va_G} {cZ cI cJ : ClassId} {a b2 : Nat → Nat} {o bs L : Nat} {xs : Nat → Int32} (S : CallFix p m c cL_law 7 s #[Value.ref bs] wsL_law RL) (hK : va_K D vwCl (tyJ cZ cI cJ) s) (hZ : ZT (fun q => s.heap.size ≤ q) s s.heap) (hX : va_X bs L xs s s.heap) (hbl : bs < s.heap.size) (hL : L ≤ 2048) {Q : State → Prop} {i c0 d0 : Nat} (hi : i + 4 ≤ L) (hc0 : c0 + 1 ≤ 1068) (hd0 : d0 + 6 ≤ 8554) (σ : sC) (fo : Nat → Int64) (th : Int32) (hI : Inv σ) (K : ∀ (σ' : sC) (fo' : Nat → Int64) (th' : Int32), Inv σ' → ∀ (H : Heap) (locs : List Loc), Wd D (fun q => s.heap.size ≤ q) s.heap ((wX cZ cI a σ' ++ wO cJ o fo') ++ wM cZ cI b2 th' σ') H locs → ∀ ls : Array Slot, lv_has ls 7 [(0, .ref bs), (1, .ref (a 0)), (2, .ref (b2 0)), (3, .ref o), (4, .int (nI i))] → W p l e room_1 s m #[Value.ref bs] below meth c H locs (c0 + 1) (d0 + 6) Q (F0 m 1514 ls [])) : ∀ (H : Heap) (locs : List Loc), Wd D (fun q => s.heap.size ≤ q) s.heap ((wX cZ cI a σ ++ wO cJ o fo) ++ wM cZ cI b2 th σ) H locs → ∀ ls : Array Slot, lv_has ls 7 [(0, .ref bs), (1, .ref (a 0)), (2, .ref (b2 0)), (3, .ref o), (4, .int (nI i))] → W p l e room_1 s m #[Value.ref bs] below meth c H locs c0 d0 Q (F0 m 1258 ls []) := by
  intro H locs hw ls hl
  have hcl0 : c0 ≤ room_1.cells := (show c0 ≤ 1068 by omega)
  have hsl0 : d0 ≤ room_1.slots := (show d0 ≤ 8554 by omega)
  have hcl1 : c0 + 1 ≤ room_1.cells := hc0
  have hsl1 : d0 + 6 ≤ room_1.slots := hd0
  by_cases hb : inB (xs (i + 1)) 0 2 = 0
  · refine lv_aload_n S.1 S.2.1 dL_law_1258 rfl (lv_at hl 1 rfl) ?_
    refine lv_aload_n S.1 S.2.1 dL_law_1259 rfl (lv_at hl 0 rfl) ?_
    refine lv_iload S.1 S.2.1 dL_law_1260 (lv_at hl 4 rfl) ?_
    refine lv_iconst (v := nI 1) S.1 S.2.1 dL_law_1262 (by decide) ?_
    refine lv_iadd S.1 S.2.1 dL_law_1263 ?_
    refine bx_top (y := nI (i + 1)) (nI_add i 1) ?_
    refine bl_sld S hX hbl hL hw (by omega) dL_law_1264 ?_
    refine lv_aload_n S.1 S.2.1 dL_law_1265 rfl (lv_at hl 3 rfl) ?_
    refine bl_sb (As := [.ref (a 0), .int (xs (i + 1)), .ref o]) (rest := []) S hK hZ hw (kL_gaps_IA l D cZ cI cJ a σ o fo (xs (i + 1)) (tX0_gaps_1 l hfl D cZ cI a σ (xs (i + 1)) hb)) (vx_cwSW 3 S.2.2.2.2 gL_law_L_gaps rfl rfl rfl (by decide +kernel) ⟨Nat.le_of_ble_eq_true rfl, Nat.le_of_ble_eq_true rfl⟩) rfl hl.1 rfl (Nat.le_of_ble_eq_true rfl) hcl1 hsl1 dL_law_1266 (fun H locs hw => ?_)
    refine lv_istore (lv' := [(5, .int 1), (0, .ref bs), (1, .ref (a 0)), (2, .ref (b2 0)), (3, .ref o), (4, .int (nI i))]) S.1 S.2.1 dL_law_1269 hl (by decide) rfl (fun ls hl => ?_)
    refine lv_aload_n S.1 S.2.1 dL_law_1271 rfl (lv_at hl 3 rfl) ?_
    refine lv_aload_n S.1 S.2.1 dL_law_1272 rfl (lv_at hl 1 rfl) ?_
    refine lv_iload S.1 S.2.1 dL_law_1273 (lv_at hl 5 rfl) ?_
    refine lv_iconst (v := nI 1) S.1 S.2.1 dL_law_1275 (by decide) ?_
    refine lv_iadd S.1 S.2.1 dL_law_1276 ?_
    refine bx_top (y := nI (i + 1)) (nI_add i 1) ?_
    refine bl_sld S hX hbl hL hw (by omega) dL_law_1277 ?_
    refine bm_vi (As := [.int (xs (i + 1))]) (rest := []) S (tyJ_Z hK) hw (kX1_gaps_bad l D cZ cI b2 th σ (xs (i + 1)) hb) (cwV 1 S.2.2.2.2 gL_law_X1_gaps rfl rfl rfl (by decide +kernel) ⟨Nat.le_of_ble_eq_true rfl, Nat.le_of_ble_eq_true rfl⟩) (q0 := 0) rfl rfl rfl hl.1 rfl (Nat.le_of_ble_eq_true rfl) hcl1 hsl1 dL_law_1278 (fun H locs hw => ?_)
    refine lv_istore (lv' := [(6, .int 0), (5, .int 1), (0, .ref bs), (1, .ref (a 0)), (2, .ref (b2 0)), (3, .ref o), (4, .int (nI i))]) S.1 S.2.1 dL_law_1281 hl (by decide) rfl (fun ls hl => ?_)
    refine lv_aload_n S.1 S.2.1 dL_law_1283 rfl (lv_at hl 4 rfl) ?_
    refine bm_vi (As := []) (rest := []) S (tyJ_Z hK) hw (kX1_thrown l D cZ cI b2 1 σ) (cwV 0 S.2.2.2.2 gL_law_X1_thrown rfl rfl rfl (by decide +kernel) ⟨Nat.le_of_ble_eq_true rfl, Nat.le_of_ble_eq_true rfl⟩) (q0 := 0) rfl rfl rfl hl.1 rfl (Nat.le_of_ble_eq_true rfl) hcl1 hsl1 dL_law_1284 (fun H locs hw => ?_)
    refine lv_iload S.1 S.2.1 dL_law_1287 (lv_at hl 1 rfl) ?_
    refine br_eq (tgt := 1294) S dL_law_1289 (by decide) (fun c9 => ?_) (fun c9 => ?_)
    · refine lv_iload S.1 S.2.1 dL_law_1294 (lv_at hl 1 rfl) ?_
      refine bz_ne (tgt := 1311) S dL_law_1296 (by decide) (fun c9 => ?_) (fun c9 => ?_)
      · refine lv_goto (tgt := 1514) S.1 S.2.1 dL_law_1311 (by decide) ?_
        exact K σ fo 1 hI _ _ hw _ (lv_sub hl [2, 3, 4, 5, 6] rfl)
      · exact absurd c9 (by decide)
    · exact absurd c9 (by decide)
  · obtain ⟨g, hg, ex⟩ := in_gx hb
    refine lv_aload_n S.1 S.2.1 dL_law_1258 rfl (lv_at hl 1 rfl) ?_
    refine lv_aload_n S.1 S.2.1 dL_law_1259 rfl (lv_at hl 0 rfl) ?_
    refine lv_iload S.1 S.2.1 dL_law_1260 (lv_at hl 4 rfl) ?_
    refine lv_iconst (v := nI 1) S.1 S.2.1 dL_law_1262 (by decide) ?_
    refine lv_iadd S.1 S.2.1 dL_law_1263 ?_
    refine bx_top (y := nI (i + 1)) (nI_add i 1) ?_
    refine bl_sld S hX hbl hL hw (by omega) dL_law_1264 ?_
    refine bx_top (y := nI g) ex ?_
    refine lv_aload_n S.1 S.2.1 dL_law_1265 rfl (lv_at hl 3 rfl) ?_
    refine bl_si (As := [.ref (a 0), .int (nI g), .ref o]) (rest := []) S hK hw (kL_gaps l D cZ cI cJ a σ o fo (g := g) hg) (vx_cwSW 3 S.2.2.2.2 gL_law_L_gaps rfl rfl rfl (by decide +kernel) ⟨Nat.le_of_ble_eq_true rfl, Nat.le_of_ble_eq_true rfl⟩) rfl hl.1 rfl (Nat.le_of_ble_eq_true rfl) hcl0 hsl0 dL_law_1266 (fun H locs hw => ?_)
    refine lv_istore (lv' := [(5, .int 0), (0, .ref bs), (1, .ref (a 0)), (2, .ref (b2 0)), (3, .ref o), (4, .int (nI i))]) S.1 S.2.1 dL_law_1269 hl (by decide) rfl (fun ls hl => ?_)
    refine lv_aload_n S.1 S.2.1 dL_law_1271 rfl (lv_at hl 3 rfl) ?_
    refine lv_aload_n S.1 S.2.1 dL_law_1272 rfl (lv_at hl 1 rfl) ?_
    refine lv_iload S.1 S.2.1 dL_law_1273 (lv_at hl 5 rfl) ?_
    refine lv_iconst (v := nI 1) S.1 S.2.1 dL_law_1275 (by decide) ?_
    refine lv_iadd S.1 S.2.1 dL_law_1276 ?_
    refine bx_top (y := nI (i + 1)) (nI_add i 1) ?_
    refine bl_sld S hX hbl hL hw (by omega) dL_law_1277 ?_
    refine bx_top (y := nI g) ex ?_
    refine bm_vi (As := [.int (nI g)]) (rest := []) S (tyJ_Z hK) hw (kX1_gaps l D cZ cI b2 th σ (g := g) hg) (cwV 1 S.2.2.2.2 gL_law_X1_gaps rfl rfl rfl (by decide +kernel) ⟨Nat.le_of_ble_eq_true rfl, Nat.le_of_ble_eq_true rfl⟩) (q0 := 0) rfl rfl rfl hl.1 rfl (Nat.le_of_ble_eq_true rfl) hcl0 hsl0 dL_law_1278 (fun H locs hw => ?_)
    refine lv_istore (lv' := [(6, .int (σ 7 g)), (5, .int 0), (0, .ref bs), (1, .ref (a 0)), (2, .ref (b2 0)), (3, .ref o), (4, .int (nI i))]) S.1 S.2.1 dL_law_1281 hl (by decide) rfl (fun ls hl => ?_)
    refine lv_aload_n S.1 S.2.1 dL_law_1283 rfl (lv_at hl 4 rfl) ?_
    refine bm_vi (As := []) (rest := []) S (tyJ_Z hK) hw (kX1_thrown l D cZ cI b2 0 σ) (cwV 0 S.2.2.2.2 gL_law_X1_thrown rfl rfl rfl (by decide +kernel) ⟨Nat.le_of_ble_eq_true rfl, Nat.le_of_ble_eq_true rfl⟩) (q0 := 0) rfl rfl rfl hl.1 rfl (Nat.le_of_ble_eq_true rfl) hcl0 hsl0 dL_law_1284 (fun H locs hw => ?_)
    refine lv_iload S.1 S.2.1 dL_law_1287 (lv_at hl 1 rfl) ?_
    refine br_eq (tgt := 1294) S dL_law_1289 (by decide) (fun c9 => ?_) (fun c9 => ?_)
    · refine lv_iload S.1 S.2.1 dL_law_1294 (lv_at hl 1 rfl) ?_
      refine bz_ne (tgt := 1311) S dL_law_1296 (by decide) (fun c9 => ?_) (fun c9 => ?_)
      · exact absurd c9 (by decide)
      · refine lv_aload_n S.1 S.2.1 dL_law_1299 rfl (lv_at hl 5 rfl) ?_
        refine lv_iconst (v := nI 0) S.1 S.2.1 dL_law_1300 (by decide) ?_
        refine bl_lald (v := (σ 7 g).toInt64) S hK hw.1 17 2 rfl rfl (by decide) (by decide) rfl dL_law_1301 ?_
        refine lv_iload S.1 S.2.1 dL_law_1302 (lv_at hl 0 rfl) ?_
        refine lv_i2l (v := (σ 7 g).toInt64) S.1 S.2.1 dL_law_1304 rfl ?_
        refine bl_lcmp S rfl dL_law_1305 ?_
        refine bz_eq (tgt := 1311) S dL_law_1306 (by decide) (fun c9 => ?_) (fun c9 => ?_)
        · refine lv_goto (tgt := 1514) S.1 S.2.1 dL_law_1311 (by decide) ?_
          refine W.widen (k := c0 + 1) (n := d0 + 6) (by omega) (by omega) ?_
          exact K σ (vp_updL fo 0 ((σ 7 g).toInt64)) 0 hI _ _ hw _ (lv_sub hl [2, 3, 4, 5, 6] rfl)
        · exact absurd c9 (by decide)
    · exact absurd c9 (by decide)

set_option maxHeartbeats 4000000 in
set_option maxRecDepth 100000 in
theorem law_sent (l : Launch) (hfl : l.stackTraces = false) {p : Program} {e : Env} {s : State} {m : MethodId} {below : List Frame} {meth : Method} {c : Code} {D : va_G} {cZ cI cJ : ClassId} {a b2 : Nat → Nat} {o bs L : Nat} {xs : Nat → Int32} (S : CallFix p m c cL_law 7 s #[Value.ref bs] wsL_law RL) (hK : va_K D vwCl (tyJ cZ cI cJ) s) (hZ : ZT (fun q => s.heap.size ≤ q) s s.heap) (hX : va_X bs L xs s s.heap) (hbl : bs < s.heap.size) (hL : L ≤ 2048) {Q : State → Prop} {i c0 d0 : Nat} (hi : i + 4 ≤ L) (hc0 : c0 + 1 ≤ 1068) (hd0 : d0 + 6 ≤ 8554) (σ : sC) (fo : Nat → Int64) (th : Int32) (hI : Inv σ) (K : ∀ (σ' : sC) (fo' : Nat → Int64) (th' : Int32), Inv σ' → ∀ (H : Heap) (locs : List Loc), Wd D (fun q => s.heap.size ≤ q) s.heap ((wX cZ cI a σ' ++ wO cJ o fo') ++ wM cZ cI b2 th' σ') H locs → ∀ ls : Array Slot, lv_has ls 7 [(0, .ref bs), (1, .ref (a 0)), (2, .ref (b2 0)), (3, .ref o), (4, .int (nI i))] → W p l e room_1 s m #[Value.ref bs] below meth c H locs (c0 + 1) (d0 + 6) Q (F0 m 1514 ls [])) : ∀ (H : Heap) (locs : List Loc), Wd D (fun q => s.heap.size ≤ q) s.heap ((wX cZ cI a σ ++ wO cJ o fo) ++ wM cZ cI b2 th σ) H locs → ∀ ls : Array Slot, lv_has ls 7 [(0, .ref bs), (1, .ref (a 0)), (2, .ref (b2 0)), (3, .ref o), (4, .int (nI i))] → W p l e room_1 s m #[Value.ref bs] below meth c H locs c0 d0 Q (F0 m 1314 ls []) := by
  intro H locs hw ls hl
  have hcl0 : c0 ≤ room_1.cells := (show c0 ≤ 1068 by omega)
  have hsl0 : d0 ≤ room_1.slots := (show d0 ≤ 8554 by omega)
  have hcl1 : c0 + 1 ≤ room_1.cells := hc0
  have hsl1 : d0 + 6 ≤ room_1.slots := hd0
  by_cases hb : inB (xs (i + 1)) 0 2 = 0
  · refine lv_aload_n S.1 S.2.1 dL_law_1314 rfl (lv_at hl 1 rfl) ?_
    refine lv_aload_n S.1 S.2.1 dL_law_1315 rfl (lv_at hl 0 rfl) ?_
    refine lv_iload S.1 S.2.1 dL_law_1316 (lv_at hl 4 rfl) ?_
    refine lv_iconst (v := nI 1) S.1 S.2.1 dL_law_1318 (by decide) ?_
    refine lv_iadd S.1 S.2.1 dL_law_1319 ?_
    refine bx_top (y := nI (i + 1)) (nI_add i 1) ?_
    refine bl_sld S hX hbl hL hw (by omega) dL_law_1320 ?_
    refine lv_aload_n S.1 S.2.1 dL_law_1321 rfl (lv_at hl 3 rfl) ?_
    refine bl_sb (As := [.ref (a 0), .int (xs (i + 1)), .ref o]) (rest := []) S hK hZ hw (kL_sent_IA l D cZ cI cJ a σ o fo (xs (i + 1)) (tX0_sent_1 l hfl D cZ cI a σ (xs (i + 1)) hb)) (vx_cwSW 3 S.2.2.2.2 gL_law_L_sent rfl rfl rfl (by decide +kernel) ⟨Nat.le_of_ble_eq_true rfl, Nat.le_of_ble_eq_true rfl⟩) rfl hl.1 rfl (Nat.le_of_ble_eq_true rfl) hcl1 hsl1 dL_law_1322 (fun H locs hw => ?_)
    refine lv_istore (lv' := [(5, .int 1), (0, .ref bs), (1, .ref (a 0)), (2, .ref (b2 0)), (3, .ref o), (4, .int (nI i))]) S.1 S.2.1 dL_law_1325 hl (by decide) rfl (fun ls hl => ?_)
    refine lv_aload_n S.1 S.2.1 dL_law_1327 rfl (lv_at hl 3 rfl) ?_
    refine lv_aload_n S.1 S.2.1 dL_law_1328 rfl (lv_at hl 1 rfl) ?_
    refine lv_iload S.1 S.2.1 dL_law_1329 (lv_at hl 5 rfl) ?_
    refine lv_iconst (v := nI 1) S.1 S.2.1 dL_law_1331 (by decide) ?_
    refine lv_iadd S.1 S.2.1 dL_law_1332 ?_
    refine bx_top (y := nI (i + 1)) (nI_add i 1) ?_
    refine bl_sld S hX hbl hL hw (by omega) dL_law_1333 ?_
    refine bm_vi (As := [.int (xs (i + 1))]) (rest := []) S (tyJ_Z hK) hw (kX1_sent_bad l D cZ cI b2 th σ (xs (i + 1)) hb) (cwV 1 S.2.2.2.2 gL_law_X1_sent rfl rfl rfl (by decide +kernel) ⟨Nat.le_of_ble_eq_true rfl, Nat.le_of_ble_eq_true rfl⟩) (q0 := 0) rfl rfl rfl hl.1 rfl (Nat.le_of_ble_eq_true rfl) hcl1 hsl1 dL_law_1334 (fun H locs hw => ?_)
    refine lv_istore (lv' := [(6, .int 0), (5, .int 1), (0, .ref bs), (1, .ref (a 0)), (2, .ref (b2 0)), (3, .ref o), (4, .int (nI i))]) S.1 S.2.1 dL_law_1337 hl (by decide) rfl (fun ls hl => ?_)
    refine lv_aload_n S.1 S.2.1 dL_law_1339 rfl (lv_at hl 4 rfl) ?_
    refine bm_vi (As := []) (rest := []) S (tyJ_Z hK) hw (kX1_thrown l D cZ cI b2 1 σ) (cwV 0 S.2.2.2.2 gL_law_X1_thrown rfl rfl rfl (by decide +kernel) ⟨Nat.le_of_ble_eq_true rfl, Nat.le_of_ble_eq_true rfl⟩) (q0 := 0) rfl rfl rfl hl.1 rfl (Nat.le_of_ble_eq_true rfl) hcl1 hsl1 dL_law_1340 (fun H locs hw => ?_)
    refine lv_iload S.1 S.2.1 dL_law_1343 (lv_at hl 1 rfl) ?_
    refine br_eq (tgt := 1350) S dL_law_1345 (by decide) (fun c9 => ?_) (fun c9 => ?_)
    · refine lv_iload S.1 S.2.1 dL_law_1350 (lv_at hl 1 rfl) ?_
      refine bz_ne (tgt := 1367) S dL_law_1352 (by decide) (fun c9 => ?_) (fun c9 => ?_)
      · refine lv_goto (tgt := 1514) S.1 S.2.1 dL_law_1367 (by decide) ?_
        exact K σ fo 1 hI _ _ hw _ (lv_sub hl [2, 3, 4, 5, 6] rfl)
      · exact absurd c9 (by decide)
    · exact absurd c9 (by decide)
  · obtain ⟨g, hg, ex⟩ := in_gx hb
    refine lv_aload_n S.1 S.2.1 dL_law_1314 rfl (lv_at hl 1 rfl) ?_
    refine lv_aload_n S.1 S.2.1 dL_law_1315 rfl (lv_at hl 0 rfl) ?_
    refine lv_iload S.1 S.2.1 dL_law_1316 (lv_at hl 4 rfl) ?_
    refine lv_iconst (v := nI 1) S.1 S.2.1 dL_law_1318 (by decide) ?_
    refine lv_iadd S.1 S.2.1 dL_law_1319 ?_
    refine bx_top (y := nI (i + 1)) (nI_add i 1) ?_
    refine bl_sld S hX hbl hL hw (by omega) dL_law_1320 ?_
    refine bx_top (y := nI g) ex ?_
    refine lv_aload_n S.1 S.2.1 dL_law_1321 rfl (lv_at hl 3 rfl) ?_
    refine bl_si (As := [.ref (a 0), .int (nI g), .ref o]) (rest := []) S hK hw (kL_sent l D cZ cI cJ a σ o fo (g := g) hg) (vx_cwSW 3 S.2.2.2.2 gL_law_L_sent rfl rfl rfl (by decide +kernel) ⟨Nat.le_of_ble_eq_true rfl, Nat.le_of_ble_eq_true rfl⟩) rfl hl.1 rfl (Nat.le_of_ble_eq_true rfl) hcl0 hsl0 dL_law_1322 (fun H locs hw => ?_)
    refine lv_istore (lv' := [(5, .int 0), (0, .ref bs), (1, .ref (a 0)), (2, .ref (b2 0)), (3, .ref o), (4, .int (nI i))]) S.1 S.2.1 dL_law_1325 hl (by decide) rfl (fun ls hl => ?_)
    refine lv_aload_n S.1 S.2.1 dL_law_1327 rfl (lv_at hl 3 rfl) ?_
    refine lv_aload_n S.1 S.2.1 dL_law_1328 rfl (lv_at hl 1 rfl) ?_
    refine lv_iload S.1 S.2.1 dL_law_1329 (lv_at hl 5 rfl) ?_
    refine lv_iconst (v := nI 1) S.1 S.2.1 dL_law_1331 (by decide) ?_
    refine lv_iadd S.1 S.2.1 dL_law_1332 ?_
    refine bx_top (y := nI (i + 1)) (nI_add i 1) ?_
    refine bl_sld S hX hbl hL hw (by omega) dL_law_1333 ?_
    refine bx_top (y := nI g) ex ?_
    refine bm_vi (As := [.int (nI g)]) (rest := []) S (tyJ_Z hK) hw (kX1_sent l D cZ cI b2 th σ (g := g) hg) (cwV 1 S.2.2.2.2 gL_law_X1_sent rfl rfl rfl (by decide +kernel) ⟨Nat.le_of_ble_eq_true rfl, Nat.le_of_ble_eq_true rfl⟩) (q0 := 0) rfl rfl rfl hl.1 rfl (Nat.le_of_ble_eq_true rfl) hcl0 hsl0 dL_law_1334 (fun H locs hw => ?_)
    refine lv_istore (lv' := [(6, .int (σ 8 g)), (5, .int 0), (0, .ref bs), (1, .ref (a 0)), (2, .ref (b2 0)), (3, .ref o), (4, .int (nI i))]) S.1 S.2.1 dL_law_1337 hl (by decide) rfl (fun ls hl => ?_)
    refine lv_aload_n S.1 S.2.1 dL_law_1339 rfl (lv_at hl 4 rfl) ?_
    refine bm_vi (As := []) (rest := []) S (tyJ_Z hK) hw (kX1_thrown l D cZ cI b2 0 σ) (cwV 0 S.2.2.2.2 gL_law_X1_thrown rfl rfl rfl (by decide +kernel) ⟨Nat.le_of_ble_eq_true rfl, Nat.le_of_ble_eq_true rfl⟩) (q0 := 0) rfl rfl rfl hl.1 rfl (Nat.le_of_ble_eq_true rfl) hcl0 hsl0 dL_law_1340 (fun H locs hw => ?_)
    refine lv_iload S.1 S.2.1 dL_law_1343 (lv_at hl 1 rfl) ?_
    refine br_eq (tgt := 1350) S dL_law_1345 (by decide) (fun c9 => ?_) (fun c9 => ?_)
    · refine lv_iload S.1 S.2.1 dL_law_1350 (lv_at hl 1 rfl) ?_
      refine bz_ne (tgt := 1367) S dL_law_1352 (by decide) (fun c9 => ?_) (fun c9 => ?_)
      · exact absurd c9 (by decide)
      · refine lv_aload_n S.1 S.2.1 dL_law_1355 rfl (lv_at hl 5 rfl) ?_
        refine lv_iconst (v := nI 0) S.1 S.2.1 dL_law_1356 (by decide) ?_
        refine bl_lald (v := (σ 8 g).toInt64) S hK hw.1 17 2 rfl rfl (by decide) (by decide) rfl dL_law_1357 ?_
        refine lv_iload S.1 S.2.1 dL_law_1358 (lv_at hl 0 rfl) ?_
        refine lv_i2l (v := (σ 8 g).toInt64) S.1 S.2.1 dL_law_1360 rfl ?_
        refine bl_lcmp S rfl dL_law_1361 ?_
        refine bz_eq (tgt := 1367) S dL_law_1362 (by decide) (fun c9 => ?_) (fun c9 => ?_)
        · refine lv_goto (tgt := 1514) S.1 S.2.1 dL_law_1367 (by decide) ?_
          refine W.widen (k := c0 + 1) (n := d0 + 6) (by omega) (by omega) ?_
          exact K σ (vp_updL fo 0 ((σ 8 g).toInt64)) 0 hI _ _ hw _ (lv_sub hl [2, 3, 4, 5, 6] rfl)
        · exact absurd c9 (by decide)
    · exact absurd c9 (by decide)

set_option maxHeartbeats 4000000 in
set_option maxRecDepth 100000 in
theorem law_known (l : Launch) (hfl : l.stackTraces = false) {p : Program} {e : Env} {s : State} {m : MethodId} {below : List Frame} {meth : Method} {c : Code} {D : va_G} {cZ cI cJ : ClassId} {a b2 : Nat → Nat} {o bs L : Nat} {xs : Nat → Int32} (S : CallFix p m c cL_law 7 s #[Value.ref bs] wsL_law RL) (hK : va_K D vwCl (tyJ cZ cI cJ) s) (hZ : ZT (fun q => s.heap.size ≤ q) s s.heap) (hX : va_X bs L xs s s.heap) (hbl : bs < s.heap.size) (hL : L ≤ 2048) {Q : State → Prop} {i c0 d0 : Nat} (hi : i + 4 ≤ L) (hc0 : c0 + 1 ≤ 1068) (hd0 : d0 + 6 ≤ 8554) (σ : sC) (fo : Nat → Int64) (th : Int32) (hI : Inv σ) (K : ∀ (σ' : sC) (fo' : Nat → Int64) (th' : Int32), Inv σ' → ∀ (H : Heap) (locs : List Loc), Wd D (fun q => s.heap.size ≤ q) s.heap ((wX cZ cI a σ' ++ wO cJ o fo') ++ wM cZ cI b2 th' σ') H locs → ∀ ls : Array Slot, lv_has ls 7 [(0, .ref bs), (1, .ref (a 0)), (2, .ref (b2 0)), (3, .ref o), (4, .int (nI i))] → W p l e room_1 s m #[Value.ref bs] below meth c H locs (c0 + 1) (d0 + 6) Q (F0 m 1514 ls [])) : ∀ (H : Heap) (locs : List Loc), Wd D (fun q => s.heap.size ≤ q) s.heap ((wX cZ cI a σ ++ wO cJ o fo) ++ wM cZ cI b2 th σ) H locs → ∀ ls : Array Slot, lv_has ls 7 [(0, .ref bs), (1, .ref (a 0)), (2, .ref (b2 0)), (3, .ref o), (4, .int (nI i))] → W p l e room_1 s m #[Value.ref bs] below meth c H locs c0 d0 Q (F0 m 1370 ls []) := by
  intro H locs hw ls hl
  have hcl0 : c0 ≤ room_1.cells := (show c0 ≤ 1068 by omega)
  have hsl0 : d0 ≤ room_1.slots := (show d0 ≤ 8554 by omega)
  have hcl1 : c0 + 1 ≤ room_1.cells := hc0
  have hsl1 : d0 + 6 ≤ room_1.slots := hd0
  by_cases hb : arE (xs (i + 1)) (xs (i + 2)) = 0
  · refine lv_aload_n S.1 S.2.1 dL_law_1370 rfl (lv_at hl 1 rfl) ?_
    refine lv_aload_n S.1 S.2.1 dL_law_1371 rfl (lv_at hl 0 rfl) ?_
    refine lv_iload S.1 S.2.1 dL_law_1372 (lv_at hl 4 rfl) ?_
    refine lv_iconst (v := nI 1) S.1 S.2.1 dL_law_1374 (by decide) ?_
    refine lv_iadd S.1 S.2.1 dL_law_1375 ?_
    refine bx_top (y := nI (i + 1)) (nI_add i 1) ?_
    refine bl_sld S hX hbl hL hw (by omega) dL_law_1376 ?_
    refine lv_aload_n S.1 S.2.1 dL_law_1377 rfl (lv_at hl 0 rfl) ?_
    refine lv_iload S.1 S.2.1 dL_law_1378 (lv_at hl 4 rfl) ?_
    refine lv_iconst (v := nI 2) S.1 S.2.1 dL_law_1380 (by decide) ?_
    refine lv_iadd S.1 S.2.1 dL_law_1381 ?_
    refine bx_top (y := nI (i + 2)) (nI_add i 2) ?_
    refine bl_sld S hX hbl hL hw (by omega) dL_law_1382 ?_
    refine lv_aload_n S.1 S.2.1 dL_law_1383 rfl (lv_at hl 3 rfl) ?_
    refine bl_sb (As := [.ref (a 0), .int (xs (i + 1)), .int (xs (i + 2)), .ref o]) (rest := []) S hK hZ hw (kL_known_IA l D cZ cI cJ a σ o fo (xs (i + 1)) (xs (i + 2)) (tX0_known_b l hfl D cZ cI a σ (xs (i + 1)) (xs (i + 2)) hb)) (vx_cwSW 4 S.2.2.2.2 gL_law_L_known rfl rfl rfl (by decide +kernel) ⟨Nat.le_of_ble_eq_true rfl, Nat.le_of_ble_eq_true rfl⟩) rfl hl.1 rfl (Nat.le_of_ble_eq_true rfl) hcl1 hsl1 dL_law_1384 (fun H locs hw => ?_)
    refine lv_istore (lv' := [(5, .int 1), (0, .ref bs), (1, .ref (a 0)), (2, .ref (b2 0)), (3, .ref o), (4, .int (nI i))]) S.1 S.2.1 dL_law_1387 hl (by decide) rfl (fun ls hl => ?_)
    refine lv_aload_n S.1 S.2.1 dL_law_1389 rfl (lv_at hl 3 rfl) ?_
    refine lv_aload_n S.1 S.2.1 dL_law_1390 rfl (lv_at hl 1 rfl) ?_
    refine lv_iload S.1 S.2.1 dL_law_1391 (lv_at hl 5 rfl) ?_
    refine lv_iconst (v := nI 1) S.1 S.2.1 dL_law_1393 (by decide) ?_
    refine lv_iadd S.1 S.2.1 dL_law_1394 ?_
    refine bx_top (y := nI (i + 1)) (nI_add i 1) ?_
    refine bl_sld S hX hbl hL hw (by omega) dL_law_1395 ?_
    refine lv_aload_n S.1 S.2.1 dL_law_1396 rfl (lv_at hl 1 rfl) ?_
    refine lv_iload S.1 S.2.1 dL_law_1397 (lv_at hl 5 rfl) ?_
    refine lv_iconst (v := nI 2) S.1 S.2.1 dL_law_1399 (by decide) ?_
    refine lv_iadd S.1 S.2.1 dL_law_1400 ?_
    refine bx_top (y := nI (i + 2)) (nI_add i 2) ?_
    refine bl_sld S hX hbl hL hw (by omega) dL_law_1401 ?_
    refine bm_vi (As := [.int (xs (i + 1)), .int (xs (i + 2))]) (rest := []) S (tyJ_Z hK) hw (kX1_known_bad l D cZ cI b2 th σ (xs (i + 1)) (xs (i + 2)) hb) (cwV 2 S.2.2.2.2 gL_law_X1_known rfl rfl rfl (by decide +kernel) ⟨Nat.le_of_ble_eq_true rfl, Nat.le_of_ble_eq_true rfl⟩) (q0 := 0) rfl rfl rfl hl.1 rfl (Nat.le_of_ble_eq_true rfl) hcl1 hsl1 dL_law_1402 (fun H locs hw => ?_)
    refine lv_istore (lv' := [(6, .int 0), (5, .int 1), (0, .ref bs), (1, .ref (a 0)), (2, .ref (b2 0)), (3, .ref o), (4, .int (nI i))]) S.1 S.2.1 dL_law_1405 hl (by decide) rfl (fun ls hl => ?_)
    refine lv_aload_n S.1 S.2.1 dL_law_1407 rfl (lv_at hl 4 rfl) ?_
    refine bm_vi (As := []) (rest := []) S (tyJ_Z hK) hw (kX1_thrown l D cZ cI b2 1 σ) (cwV 0 S.2.2.2.2 gL_law_X1_thrown rfl rfl rfl (by decide +kernel) ⟨Nat.le_of_ble_eq_true rfl, Nat.le_of_ble_eq_true rfl⟩) (q0 := 0) rfl rfl rfl hl.1 rfl (Nat.le_of_ble_eq_true rfl) hcl1 hsl1 dL_law_1408 (fun H locs hw => ?_)
    refine lv_iload S.1 S.2.1 dL_law_1411 (lv_at hl 1 rfl) ?_
    refine br_eq (tgt := 1418) S dL_law_1413 (by decide) (fun c9 => ?_) (fun c9 => ?_)
    · refine lv_iload S.1 S.2.1 dL_law_1418 (lv_at hl 1 rfl) ?_
      refine bz_ne (tgt := 1435) S dL_law_1420 (by decide) (fun c9 => ?_) (fun c9 => ?_)
      · refine lv_goto (tgt := 1514) S.1 S.2.1 dL_law_1435 (by decide) ?_
        exact K σ fo 1 hI _ _ hw _ (lv_sub hl [2, 3, 4, 5, 6] rfl)
      · exact absurd c9 (by decide)
    · exact absurd c9 (by decide)
  · obtain ⟨r, g, hr, hg, ex, ey⟩ := are_x hb
    refine lv_aload_n S.1 S.2.1 dL_law_1370 rfl (lv_at hl 1 rfl) ?_
    refine lv_aload_n S.1 S.2.1 dL_law_1371 rfl (lv_at hl 0 rfl) ?_
    refine lv_iload S.1 S.2.1 dL_law_1372 (lv_at hl 4 rfl) ?_
    refine lv_iconst (v := nI 1) S.1 S.2.1 dL_law_1374 (by decide) ?_
    refine lv_iadd S.1 S.2.1 dL_law_1375 ?_
    refine bx_top (y := nI (i + 1)) (nI_add i 1) ?_
    refine bl_sld S hX hbl hL hw (by omega) dL_law_1376 ?_
    refine bx_top (y := nI r) ex ?_
    refine lv_aload_n S.1 S.2.1 dL_law_1377 rfl (lv_at hl 0 rfl) ?_
    refine lv_iload S.1 S.2.1 dL_law_1378 (lv_at hl 4 rfl) ?_
    refine lv_iconst (v := nI 2) S.1 S.2.1 dL_law_1380 (by decide) ?_
    refine lv_iadd S.1 S.2.1 dL_law_1381 ?_
    refine bx_top (y := nI (i + 2)) (nI_add i 2) ?_
    refine bl_sld S hX hbl hL hw (by omega) dL_law_1382 ?_
    refine bx_top (y := nI g) ey ?_
    refine lv_aload_n S.1 S.2.1 dL_law_1383 rfl (lv_at hl 3 rfl) ?_
    refine bl_si (As := [.ref (a 0), .int (nI r), .int (nI g), .ref o]) (rest := []) S hK hw (kL_known l D cZ cI cJ a σ o fo (r := r) (g := g) hr hg) (vx_cwSW 4 S.2.2.2.2 gL_law_L_known rfl rfl rfl (by decide +kernel) ⟨Nat.le_of_ble_eq_true rfl, Nat.le_of_ble_eq_true rfl⟩) rfl hl.1 rfl (Nat.le_of_ble_eq_true rfl) hcl0 hsl0 dL_law_1384 (fun H locs hw => ?_)
    refine lv_istore (lv' := [(5, .int 0), (0, .ref bs), (1, .ref (a 0)), (2, .ref (b2 0)), (3, .ref o), (4, .int (nI i))]) S.1 S.2.1 dL_law_1387 hl (by decide) rfl (fun ls hl => ?_)
    refine lv_aload_n S.1 S.2.1 dL_law_1389 rfl (lv_at hl 3 rfl) ?_
    refine lv_aload_n S.1 S.2.1 dL_law_1390 rfl (lv_at hl 1 rfl) ?_
    refine lv_iload S.1 S.2.1 dL_law_1391 (lv_at hl 5 rfl) ?_
    refine lv_iconst (v := nI 1) S.1 S.2.1 dL_law_1393 (by decide) ?_
    refine lv_iadd S.1 S.2.1 dL_law_1394 ?_
    refine bx_top (y := nI (i + 1)) (nI_add i 1) ?_
    refine bl_sld S hX hbl hL hw (by omega) dL_law_1395 ?_
    refine bx_top (y := nI r) ex ?_
    refine lv_aload_n S.1 S.2.1 dL_law_1396 rfl (lv_at hl 1 rfl) ?_
    refine lv_iload S.1 S.2.1 dL_law_1397 (lv_at hl 5 rfl) ?_
    refine lv_iconst (v := nI 2) S.1 S.2.1 dL_law_1399 (by decide) ?_
    refine lv_iadd S.1 S.2.1 dL_law_1400 ?_
    refine bx_top (y := nI (i + 2)) (nI_add i 2) ?_
    refine bl_sld S hX hbl hL hw (by omega) dL_law_1401 ?_
    refine bx_top (y := nI g) ey ?_
    refine bm_vi (As := [.int (nI r), .int (nI g)]) (rest := []) S (tyJ_Z hK) hw (kX1_known l D cZ cI b2 th σ (r := r) (g := g) hr hg) (cwV 2 S.2.2.2.2 gL_law_X1_known rfl rfl rfl (by decide +kernel) ⟨Nat.le_of_ble_eq_true rfl, Nat.le_of_ble_eq_true rfl⟩) (q0 := 0) rfl rfl rfl hl.1 rfl (Nat.le_of_ble_eq_true rfl) hcl0 hsl0 dL_law_1402 (fun H locs hw => ?_)
    refine lv_istore (lv' := [(6, .int (σ 13 (4 * g + r))), (5, .int 0), (0, .ref bs), (1, .ref (a 0)), (2, .ref (b2 0)), (3, .ref o), (4, .int (nI i))]) S.1 S.2.1 dL_law_1405 hl (by decide) rfl (fun ls hl => ?_)
    refine lv_aload_n S.1 S.2.1 dL_law_1407 rfl (lv_at hl 4 rfl) ?_
    refine bm_vi (As := []) (rest := []) S (tyJ_Z hK) hw (kX1_thrown l D cZ cI b2 0 σ) (cwV 0 S.2.2.2.2 gL_law_X1_thrown rfl rfl rfl (by decide +kernel) ⟨Nat.le_of_ble_eq_true rfl, Nat.le_of_ble_eq_true rfl⟩) (q0 := 0) rfl rfl rfl hl.1 rfl (Nat.le_of_ble_eq_true rfl) hcl0 hsl0 dL_law_1408 (fun H locs hw => ?_)
    refine lv_iload S.1 S.2.1 dL_law_1411 (lv_at hl 1 rfl) ?_
    refine br_eq (tgt := 1418) S dL_law_1413 (by decide) (fun c9 => ?_) (fun c9 => ?_)
    · refine lv_iload S.1 S.2.1 dL_law_1418 (lv_at hl 1 rfl) ?_
      refine bz_ne (tgt := 1435) S dL_law_1420 (by decide) (fun c9 => ?_) (fun c9 => ?_)
      · exact absurd c9 (by decide)
      · refine lv_aload_n S.1 S.2.1 dL_law_1423 rfl (lv_at hl 5 rfl) ?_
        refine lv_iconst (v := nI 0) S.1 S.2.1 dL_law_1424 (by decide) ?_
        refine bl_lald (v := (σ 13 (4 * g + r)).toInt64) S hK hw.1 17 2 rfl rfl (by decide) (by decide) rfl dL_law_1425 ?_
        refine lv_iload S.1 S.2.1 dL_law_1426 (lv_at hl 0 rfl) ?_
        refine lv_i2l (v := (σ 13 (4 * g + r)).toInt64) S.1 S.2.1 dL_law_1428 rfl ?_
        refine bl_lcmp S rfl dL_law_1429 ?_
        refine bz_eq (tgt := 1435) S dL_law_1430 (by decide) (fun c9 => ?_) (fun c9 => ?_)
        · refine lv_goto (tgt := 1514) S.1 S.2.1 dL_law_1435 (by decide) ?_
          refine W.widen (k := c0 + 1) (n := d0 + 6) (by omega) (by omega) ?_
          exact K σ (vp_updL fo 0 ((σ 13 (4 * g + r)).toInt64)) 0 hI _ _ hw _ (lv_sub hl [2, 3, 4, 5, 6] rfl)
        · exact absurd c9 (by decide)
    · exact absurd c9 (by decide)

set_option maxHeartbeats 4000000 in
set_option maxRecDepth 100000 in
theorem law_isSettled (l : Launch) (hfl : l.stackTraces = false) {p : Program} {e : Env} {s : State} {m : MethodId} {below : List Frame} {meth : Method} {c : Code} {D : va_G} {cZ cI cJ : ClassId} {a b2 : Nat → Nat} {o bs L : Nat} {xs : Nat → Int32} (S : CallFix p m c cL_law 7 s #[Value.ref bs] wsL_law RL) (hK : va_K D vwCl (tyJ cZ cI cJ) s) (hZ : ZT (fun q => s.heap.size ≤ q) s s.heap) (hX : va_X bs L xs s s.heap) (hbl : bs < s.heap.size) (hL : L ≤ 2048) {Q : State → Prop} {i c0 d0 : Nat} (hi : i + 4 ≤ L) (hc0 : c0 + 1 ≤ 1068) (hd0 : d0 + 6 ≤ 8554) (σ : sC) (fo : Nat → Int64) (th : Int32) (hI : Inv σ) (K : ∀ (σ' : sC) (fo' : Nat → Int64) (th' : Int32), Inv σ' → ∀ (H : Heap) (locs : List Loc), Wd D (fun q => s.heap.size ≤ q) s.heap ((wX cZ cI a σ' ++ wO cJ o fo') ++ wM cZ cI b2 th' σ') H locs → ∀ ls : Array Slot, lv_has ls 7 [(0, .ref bs), (1, .ref (a 0)), (2, .ref (b2 0)), (3, .ref o), (4, .int (nI i))] → W p l e room_1 s m #[Value.ref bs] below meth c H locs (c0 + 1) (d0 + 6) Q (F0 m 1514 ls [])) : ∀ (H : Heap) (locs : List Loc), Wd D (fun q => s.heap.size ≤ q) s.heap ((wX cZ cI a σ ++ wO cJ o fo) ++ wM cZ cI b2 th σ) H locs → ∀ ls : Array Slot, lv_has ls 7 [(0, .ref bs), (1, .ref (a 0)), (2, .ref (b2 0)), (3, .ref o), (4, .int (nI i))] → W p l e room_1 s m #[Value.ref bs] below meth c H locs c0 d0 Q (F0 m 1451 ls []) := by
  intro H locs hw ls hl
  have hcl0 : c0 ≤ room_1.cells := (show c0 ≤ 1068 by omega)
  have hsl0 : d0 ≤ room_1.slots := (show d0 ≤ 8554 by omega)
  have hcl1 : c0 + 1 ≤ room_1.cells := hc0
  have hsl1 : d0 + 6 ≤ room_1.slots := hd0
  by_cases hb : inB (xs (i + 1)) 0 2 = 0
  · refine lv_aload_n S.1 S.2.1 dL_law_1451 rfl (lv_at hl 1 rfl) ?_
    refine lv_aload_n S.1 S.2.1 dL_law_1452 rfl (lv_at hl 0 rfl) ?_
    refine lv_iload S.1 S.2.1 dL_law_1453 (lv_at hl 4 rfl) ?_
    refine lv_iconst (v := nI 1) S.1 S.2.1 dL_law_1455 (by decide) ?_
    refine lv_iadd S.1 S.2.1 dL_law_1456 ?_
    refine bx_top (y := nI (i + 1)) (nI_add i 1) ?_
    refine bl_sld S hX hbl hL hw (by omega) dL_law_1457 ?_
    refine lv_aload_n S.1 S.2.1 dL_law_1458 rfl (lv_at hl 3 rfl) ?_
    refine bl_sb (As := [.ref (a 0), .int (xs (i + 1)), .ref o]) (rest := []) S hK hZ hw (kL_isSettled_IA l D cZ cI cJ a σ o fo (xs (i + 1)) (tX0_isSettled_1 l hfl D cZ cI a σ (xs (i + 1)) hb)) (vx_cwSW 3 S.2.2.2.2 gL_law_L_isSettled rfl rfl rfl (by decide +kernel) ⟨Nat.le_of_ble_eq_true rfl, Nat.le_of_ble_eq_true rfl⟩) rfl hl.1 rfl (Nat.le_of_ble_eq_true rfl) hcl1 hsl1 dL_law_1459 (fun H locs hw => ?_)
    refine lv_istore (lv' := [(5, .int 1), (0, .ref bs), (1, .ref (a 0)), (2, .ref (b2 0)), (3, .ref o), (4, .int (nI i))]) S.1 S.2.1 dL_law_1462 hl (by decide) rfl (fun ls hl => ?_)
    refine lv_aload_n S.1 S.2.1 dL_law_1464 rfl (lv_at hl 3 rfl) ?_
    refine lv_aload_n S.1 S.2.1 dL_law_1465 rfl (lv_at hl 1 rfl) ?_
    refine lv_iload S.1 S.2.1 dL_law_1466 (lv_at hl 5 rfl) ?_
    refine lv_iconst (v := nI 1) S.1 S.2.1 dL_law_1468 (by decide) ?_
    refine lv_iadd S.1 S.2.1 dL_law_1469 ?_
    refine bx_top (y := nI (i + 1)) (nI_add i 1) ?_
    refine bl_sld S hX hbl hL hw (by omega) dL_law_1470 ?_
    refine bm_vi (As := [.int (xs (i + 1))]) (rest := []) S (tyJ_Z hK) hw (kX1_isSettled_bad l D cZ cI b2 th σ (xs (i + 1)) hb) (cwV 1 S.2.2.2.2 gL_law_X1_isSettled rfl rfl rfl (by decide +kernel) ⟨Nat.le_of_ble_eq_true rfl, Nat.le_of_ble_eq_true rfl⟩) (q0 := 0) rfl rfl rfl hl.1 rfl (Nat.le_of_ble_eq_true rfl) hcl1 hsl1 dL_law_1471 (fun H locs hw => ?_)
    refine lv_istore (lv' := [(6, .int 0), (5, .int 1), (0, .ref bs), (1, .ref (a 0)), (2, .ref (b2 0)), (3, .ref o), (4, .int (nI i))]) S.1 S.2.1 dL_law_1474 hl (by decide) rfl (fun ls hl => ?_)
    refine lv_aload_n S.1 S.2.1 dL_law_1476 rfl (lv_at hl 4 rfl) ?_
    refine bm_vi (As := []) (rest := []) S (tyJ_Z hK) hw (kX1_thrown l D cZ cI b2 1 σ) (cwV 0 S.2.2.2.2 gL_law_X1_thrown rfl rfl rfl (by decide +kernel) ⟨Nat.le_of_ble_eq_true rfl, Nat.le_of_ble_eq_true rfl⟩) (q0 := 0) rfl rfl rfl hl.1 rfl (Nat.le_of_ble_eq_true rfl) hcl1 hsl1 dL_law_1477 (fun H locs hw => ?_)
    refine lv_iload S.1 S.2.1 dL_law_1480 (lv_at hl 1 rfl) ?_
    refine br_eq (tgt := 1487) S dL_law_1482 (by decide) (fun c9 => ?_) (fun c9 => ?_)
    · refine lv_iload S.1 S.2.1 dL_law_1487 (lv_at hl 1 rfl) ?_
      refine bz_ne (tgt := 1511) S dL_law_1489 (by decide) (fun c9 => ?_) (fun c9 => ?_)
      · refine lv_goto (tgt := 1514) S.1 S.2.1 dL_law_1511 (by decide) ?_
        exact K σ fo 1 hI _ _ hw _ (lv_sub hl [2, 3, 4, 5, 6] rfl)
      · exact absurd c9 (by decide)
    · exact absurd c9 (by decide)
  · obtain ⟨g, hg, ex⟩ := in_gx hb
    refine lv_aload_n S.1 S.2.1 dL_law_1451 rfl (lv_at hl 1 rfl) ?_
    refine lv_aload_n S.1 S.2.1 dL_law_1452 rfl (lv_at hl 0 rfl) ?_
    refine lv_iload S.1 S.2.1 dL_law_1453 (lv_at hl 4 rfl) ?_
    refine lv_iconst (v := nI 1) S.1 S.2.1 dL_law_1455 (by decide) ?_
    refine lv_iadd S.1 S.2.1 dL_law_1456 ?_
    refine bx_top (y := nI (i + 1)) (nI_add i 1) ?_
    refine bl_sld S hX hbl hL hw (by omega) dL_law_1457 ?_
    refine bx_top (y := nI g) ex ?_
    refine lv_aload_n S.1 S.2.1 dL_law_1458 rfl (lv_at hl 3 rfl) ?_
    refine bl_si (As := [.ref (a 0), .int (nI g), .ref o]) (rest := []) S hK hw (kL_isSettled l D cZ cI cJ a σ o fo (g := g) hg) (vx_cwSW 3 S.2.2.2.2 gL_law_L_isSettled rfl rfl rfl (by decide +kernel) ⟨Nat.le_of_ble_eq_true rfl, Nat.le_of_ble_eq_true rfl⟩) rfl hl.1 rfl (Nat.le_of_ble_eq_true rfl) hcl0 hsl0 dL_law_1459 (fun H locs hw => ?_)
    refine lv_istore (lv' := [(5, .int 0), (0, .ref bs), (1, .ref (a 0)), (2, .ref (b2 0)), (3, .ref o), (4, .int (nI i))]) S.1 S.2.1 dL_law_1462 hl (by decide) rfl (fun ls hl => ?_)
    refine lv_aload_n S.1 S.2.1 dL_law_1464 rfl (lv_at hl 3 rfl) ?_
    refine lv_aload_n S.1 S.2.1 dL_law_1465 rfl (lv_at hl 1 rfl) ?_
    refine lv_iload S.1 S.2.1 dL_law_1466 (lv_at hl 5 rfl) ?_
    refine lv_iconst (v := nI 1) S.1 S.2.1 dL_law_1468 (by decide) ?_
    refine lv_iadd S.1 S.2.1 dL_law_1469 ?_
    refine bx_top (y := nI (i + 1)) (nI_add i 1) ?_
    refine bl_sld S hX hbl hL hw (by omega) dL_law_1470 ?_
    refine bx_top (y := nI g) ex ?_
    refine bm_vi (As := [.int (nI g)]) (rest := []) S (tyJ_Z hK) hw (kX1_isSettled l D cZ cI b2 th σ (g := g) hg) (cwV 1 S.2.2.2.2 gL_law_X1_isSettled rfl rfl rfl (by decide +kernel) ⟨Nat.le_of_ble_eq_true rfl, Nat.le_of_ble_eq_true rfl⟩) (q0 := 0) rfl rfl rfl hl.1 rfl (Nat.le_of_ble_eq_true rfl) hcl0 hsl0 dL_law_1471 (fun H locs hw => ?_)
    refine bx_top (y := setlF σ g) (setl_eq hI g) ?_
    refine lv_istore (lv' := [(6, .int (setlF σ g)), (5, .int 0), (0, .ref bs), (1, .ref (a 0)), (2, .ref (b2 0)), (3, .ref o), (4, .int (nI i))]) S.1 S.2.1 dL_law_1474 hl (by decide) rfl (fun ls hl => ?_)
    refine lv_aload_n S.1 S.2.1 dL_law_1476 rfl (lv_at hl 4 rfl) ?_
    refine bm_vi (As := []) (rest := []) S (tyJ_Z hK) hw (kX1_thrown l D cZ cI b2 0 σ) (cwV 0 S.2.2.2.2 gL_law_X1_thrown rfl rfl rfl (by decide +kernel) ⟨Nat.le_of_ble_eq_true rfl, Nat.le_of_ble_eq_true rfl⟩) (q0 := 0) rfl rfl rfl hl.1 rfl (Nat.le_of_ble_eq_true rfl) hcl0 hsl0 dL_law_1477 (fun H locs hw => ?_)
    refine lv_iload S.1 S.2.1 dL_law_1480 (lv_at hl 1 rfl) ?_
    refine br_eq (tgt := 1487) S dL_law_1482 (by decide) (fun c9 => ?_) (fun c9 => ?_)
    · refine lv_iload S.1 S.2.1 dL_law_1487 (lv_at hl 1 rfl) ?_
      refine bz_ne (tgt := 1511) S dL_law_1489 (by decide) (fun c9 => ?_) (fun c9 => ?_)
      · exact absurd c9 (by decide)
      · refine lv_aload_n S.1 S.2.1 dL_law_1492 rfl (lv_at hl 5 rfl) ?_
        refine lv_iconst (v := nI 0) S.1 S.2.1 dL_law_1493 (by decide) ?_
        refine bl_lald (v := zL (setlF σ g)) S hK hw.1 17 2 rfl rfl (by decide) (by decide) rfl dL_law_1494 ?_
        refine lv_iload S.1 S.2.1 dL_law_1495 (lv_at hl 0 rfl) ?_
        refine bz_eq (tgt := 1504) S dL_law_1497 (by decide) (fun cz => ?_) (fun cz => ?_)
        · refine lv_lconst (v := 0) S.1 S.2.1 dL_law_1504 (by decide) ?_
          refine bl_lcmp S (by unfold zL; rw [if_pos cz]) dL_law_1505 ?_
          refine bz_eq (tgt := 1511) S dL_law_1506 (by decide) (fun c9 => ?_) (fun c9 => ?_)
          · refine lv_goto (tgt := 1514) S.1 S.2.1 dL_law_1511 (by decide) ?_
            refine W.widen (k := c0 + 1) (n := d0 + 6) (by omega) (by omega) ?_
            exact K σ (vp_updL fo 0 (zL (setlF σ g))) 0 hI _ _ hw _ (lv_sub hl [2, 3, 4, 5, 6] rfl)
          · exact absurd c9 (by decide)
        · refine lv_lconst (v := 1) S.1 S.2.1 dL_law_1500 (by decide) ?_
          refine lv_goto (tgt := 1505) S.1 S.2.1 dL_law_1501 (by decide) ?_
          refine bl_lcmp S (by unfold zL; rw [if_neg cz]) dL_law_1505 ?_
          refine bz_eq (tgt := 1511) S dL_law_1506 (by decide) (fun c9 => ?_) (fun c9 => ?_)
          · refine lv_goto (tgt := 1514) S.1 S.2.1 dL_law_1511 (by decide) ?_
            refine W.widen (k := c0 + 1) (n := d0 + 6) (by omega) (by omega) ?_
            exact K σ (vp_updL fo 0 (zL (setlF σ g))) 0 hI _ _ hw _ (lv_sub hl [2, 3, 4, 5, 6] rfl)
          · exact absurd c9 (by decide)
    · exact absurd c9 (by decide)

set_option maxHeartbeats 4000000 in
set_option maxRecDepth 100000 in
theorem law_repairs (l : Launch) (hfl : l.stackTraces = false) {p : Program} {e : Env} {s : State} {m : MethodId} {below : List Frame} {meth : Method} {c : Code} {D : va_G} {cZ cI cJ : ClassId} {a b2 : Nat → Nat} {o bs L : Nat} {xs : Nat → Int32} (S : CallFix p m c cL_law 7 s #[Value.ref bs] wsL_law RL) (hK : va_K D vwCl (tyJ cZ cI cJ) s) (hZ : ZT (fun q => s.heap.size ≤ q) s s.heap) (hX : va_X bs L xs s s.heap) (hbl : bs < s.heap.size) (hL : L ≤ 2048) {Q : State → Prop} {i c0 d0 : Nat} (hi : i + 4 ≤ L) (hc0 : c0 + 1 ≤ 1068) (hd0 : d0 + 6 ≤ 8554) (σ : sC) (fo : Nat → Int64) (th : Int32) (hI : Inv σ) (K : ∀ (σ' : sC) (fo' : Nat → Int64) (th' : Int32), Inv σ' → ∀ (H : Heap) (locs : List Loc), Wd D (fun q => s.heap.size ≤ q) s.heap ((wX cZ cI a σ' ++ wO cJ o fo') ++ wM cZ cI b2 th' σ') H locs → ∀ ls : Array Slot, lv_has ls 7 [(0, .ref bs), (1, .ref (a 0)), (2, .ref (b2 0)), (3, .ref o), (4, .int (nI i))] → W p l e room_1 s m #[Value.ref bs] below meth c H locs (c0 + 1) (d0 + 6) Q (F0 m 1514 ls [])) : ∀ (H : Heap) (locs : List Loc), Wd D (fun q => s.heap.size ≤ q) s.heap ((wX cZ cI a σ ++ wO cJ o fo) ++ wM cZ cI b2 th σ) H locs → ∀ ls : Array Slot, lv_has ls 7 [(0, .ref bs), (1, .ref (a 0)), (2, .ref (b2 0)), (3, .ref o), (4, .int (nI i))] → W p l e room_1 s m #[Value.ref bs] below meth c H locs c0 d0 Q (F0 m 1438 ls []) := by
  intro H locs hw ls hl
  have hcl0 : c0 ≤ room_1.cells := (show c0 ≤ 1068 by omega)
  have hsl0 : d0 ≤ room_1.slots := (show d0 ≤ 8554 by omega)
  refine lv_aload_n S.1 S.2.1 dL_law_1438 rfl (lv_at hl 1 rfl) ?_
  replace hw := Wd.cast (List.append_assoc _ _ _) hw
  refine bl_vi (As := []) (rest := []) S (tyJ_Z hK) hw (kX0_repairs l D cZ cI a σ) (cwV 0 S.2.2.2.2 gL_law_X0_repairs rfl rfl rfl (by decide +kernel) ⟨Nat.le_of_ble_eq_true rfl, Nat.le_of_ble_eq_true rfl⟩) (q0 := 0) rfl rfl rfl hl.1 rfl (Nat.le_of_ble_eq_true rfl) hcl0 hsl0 dL_law_1439 (fun H locs hw => ?_)
  replace hw := Wd.cast (List.append_assoc _ _ _).symm hw
  refine lv_aload_n S.1 S.2.1 dL_law_1442 rfl (lv_at hl 2 rfl) ?_
  refine bm_vi (As := []) (rest := [.int (σ 16 0)]) S (tyJ_Z hK) hw (kX1_repairs l D cZ cI b2 th σ) (cwV 0 S.2.2.2.2 gL_law_X1_repairs rfl rfl rfl (by decide +kernel) ⟨Nat.le_of_ble_eq_true rfl, Nat.le_of_ble_eq_true rfl⟩) (q0 := 0) rfl rfl rfl hl.1 rfl (Nat.le_of_ble_eq_true rfl) hcl0 hsl0 dL_law_1443 (fun H locs hw => ?_)
  refine br_eq (tgt := 1514) S dL_law_1446 (by decide) (fun c9 => ?_) (fun c9 => ?_)
  · refine W.widen (k := c0 + 1) (n := d0 + 6) (by omega) (by omega) ?_
    exact K σ fo 0 hI _ _ hw _ (lv_sub hl [0, 1, 2, 3, 4] rfl)
  · exact absurd rfl c9
