/-! ===== the law at ninety nines (each a refused die), from its entry to its end, in a room that holds it: it answers 1, and at least 2544 cells are new ===== -/
abbrev R2 : Room := { frames := 12, cells := 2700, slots := 16200, locals := 440 }
def lf_C : Array Value → State → Outcome → State → Prop := fun _ s o t => o = .returned (some (.int 1)) ∧ s.heap.size + 2544 ≤ t.heap.size
abbrev lf_Q (below : List Frame) (args : Array Value) (s : State) : State → Prop := MQ below lf_C args s 2668 16110 (fun q => s.heap.size ≤ q)
theorem lf_ret {p : Program} {l : Launch} {e : Env} {s : State} {m : MethodId} {below : List Frame} {meth : Method} {c : Code} {args : Array Value} (hx : p.tables.exec = Jvm.exec) (hb : c.code = cL_law) (hr : meth.sig.returnType = ret) (hlocks : meth.locks = false) {pc : Nat} {H : Heap} {locs : List Loc} {ls : Array Slot} (hg : s.heap.size + 2544 ≤ H.size) (hf : ∀ q ∈ locs, s.heap.size ≤ q.base) (hdg : decode cL_law pc = .ok (.ireturn, 1)) : W p l e R2 s m args below meth c H locs 2668 16110 (lf_Q below args s) (F0 m pc ls [.int 1]) :=
  W.zret (v := 1) (ty := .boolean) hx hb hr rfl (fun t ht hW => ⟨rfl, by rw [ht]; exact hg⟩) hf hdg
theorem rem3 {k : Nat} (h : k < 90) : nI k - nI k / 3 * 3 = nI (k % 3) := (by decide +kernel : ∀ k, k < 90 → nI k - nI k / 3 * 3 = nI (k % 3)) k h
section BQ
variable {p : Program} {l : Launch} {e : Env} {R : Room} {s : State} {m : MethodId} {args : Array Value} {below : List Frame} {meth : Method} {c : Code} {H : Heap} {locs : List Loc} {cells slots : Nat} {Q : State → Prop}
variable {cc : ByteArray} {nL pc : Nat} {ls : Array Slot} {rest : List Value} {Ts : List Cond} {own : String} {D : va_G} {A : Nat → Prop} {H0 : Heap} {ws w2 : va_W} {tyc : List (ClassId × FieldType)}
theorem bl_new (S : CallFix p m c cc nL s args Ts own) (hK : va_K D vwCl tyc s) (hw : Wd D A H0 ws H locs) {C : String} {T : u_T} {N ci index : Nat} (hin : ∀ w ∈ u_ws C T N, w ∈ Ts) (ty : Nat → FieldType) (hty : ∀ k, k < N → parseFieldDescriptor (T k).2.2.1 = some (ty k)) (hcl : Cond.classLink own index C ∈ Ts) (hinst : Cond.instantiable C N ∈ Ts) (hini : Cond.initialized C ∈ Ts) (hc : vwCl[ci]? = some (C, T, N)) {fs : List Value} (hfs : ∀ j, j < N → defaultValue (ty j) = vp_V fs j) (hcells : cells + 1 ≤ R.cells) (hslots : slots + N ≤ R.slots) (hdg : decode cc pc = .ok (.new index, 3))
    (kk : ∀ (q : Nat) (H1 : Heap), Wd D A H0 (ws ++ [(q, .inr (ci, fs))]) H1 locs → W p l e R s m args below meth c H1 locs (cells + 1) (slots + N) Q (F0 m (pc + 3) ls (.ref q :: rest))) : W p l e R s m args below meth c H locs cells slots Q (F0 m pc ls rest) := by
  refine va_new S.1 S.2.1 S.2.2.2.2 hin ty hty S.2.2.2.1 (S.2.2.2.2 _ hcl) (S.2.2.2.2 _ hinst) (S.2.2.2.2 _ hini) hK hw.1 hw.2.1 hw.2.2.1 hw.2.2.2 hc hfs hcells hslots hdg (fun q H1 hP hD hS => ?_)
  exact kk q H1 ⟨hP, hD, hS, hw.2.2.2⟩
theorem bl_ctor {y : MethodName} {bytes : ByteArray} {maxL index mc ms : Nat} {wsl : List Cond} {rm : Room} {ci : Nat} {f0 : List Value} {ω : (Nat → Nat) → va_W} {h0 : Nat} (S : CallFix p m c cc nL s args Ts own) (hK : va_K D vwCl tyc s) (hw : Wd D A H0 ([(h0, .inr (ci, f0))] ++ w2) H locs) (hM : MC l y wsl rm D tyc ci f0 mc ms ω) (cw : CallB R s args own index y bytes maxL none wsl rm mc ms 0 ∧ y.name = "<init>" ∧ (Cond.instanceMethod y).before args s = true) (hl : ls.size = nL) (hr : (rest.map fun v => v.category).sum ≤ 8) (hcl : cells + mc ≤ R.cells) (hsl : slots + ms ≤ R.slots) (hdg : decode cc pc = .ok (.invokespecial index, 3))
    (kk : ∀ (a : Nat → Nat) (H1 : Heap) (locs1 : List Loc), a 0 = h0 → Wd D A H0 (ω a ++ w2) H1 locs1 → W p l e R s m args below meth c H1 locs1 (cells + mc) (slots + ms) Q (F0 m (pc + 3) ls rest)) : W p l e R s m args below meth c H locs cells slots Q (F0 m pc ls (.ref h0 :: rest)) := by
  have hF := hw.cov1
  refine va_callv (va_runI (As := []) (rest := rest) S (hM h0 H.size) cw ⟨MPre.blind, fun U hU hW => ⟨rfl, by rw [hU], by rw [hU]; exact Pl hw.1, va_K.moved hW.alike hK, (Dl hw.2.1).weaken (fun _ _ _ _ => trivial)⟩⟩ rfl rfl hl rfl (lv_room hr) hdg ⟨hcl, hsl⟩) hw.2.2.1 (fun q _ h => hF q h) hF (fun u t H1 locs1 ht hvm hp hB hz1 hk1 hS => ?_)
  rw [ht] at hB
  exact kk u H1 locs1 hp (hw.join1 hk1 hS hB.1 hB.2)
end BQ
set_option maxHeartbeats 4000000 in
set_option maxRecDepth 100000 in
theorem lf_ticks (l : Launch) (hfl : l.stackTraces = false) {p : Program} {e : Env} {s : State} {m : MethodId} {below : List Frame} {meth : Method} {c : Code} {D : va_G} {cZ cI : ClassId} {a b : Nat → Nat} {bs : Nat} (S : CallFix p m c cL_law 7 s #[Value.ref bs] wsL_law RL) (hK : va_K D vwCl (tyZ cZ cI) s) (hZ : ZT (fun q => s.heap.size ≤ q) s s.heap) (hr : meth.sig.returnType = ret) (hlocks : meth.locks = false) :
    ∀ (n k : Nat), k + n = 30 → ∀ (H : Heap) (locs : List Loc), Wd D (fun q => s.heap.size ≤ q) s.heap (wX cZ cI a (sT 30 (nI 30)) ++ wX cZ cI b (sT k (nI k))) H locs → s.heap.size + 2520 ≤ H.size → ∀ ls : Array Slot, lv_has ls 7 [(0, .ref bs), (1, .ref (a 0)), (2, .ref (b 0)), (3, .int (nI k)), (4, .int (nI 30)), (5, .int (nI k))] → W p l e R2 s m #[Value.ref bs] below meth c H locs 2644 15966 (lf_Q below #[Value.ref bs] s) (F0 m 124 ls []) := by
  intro n
  induction n with
  | zero =>
    intro k hk H locs hw hg ls hl
    obtain rfl : k = 30 := by omega
    refine lv_iload S.1 S.2.1 dL_law_124 (lv_at hl 5 rfl) ?_
    refine lv_bipush (v := nI 30) S.1 S.2.1 dL_law_126 (by decide) ?_
    refine br_ge (tgt := 143) S dL_law_128 (by decide) (fun c128 => ?_) (fun c128 => ?_)
    rotate_left
    · exact absurd c128 (nlt_nI (by decide))
    refine lv_iload_n S.1 S.2.1 dL_law_143 rfl (lv_at hl 3 rfl) ?_
    refine lv_iload S.1 S.2.1 dL_law_144 (lv_at hl 4 rfl) ?_
    refine br_ne (tgt := 161) S dL_law_146 (by decide) (fun c146 => ?_) (fun c146 => ?_)
    · exact absurd c146 (not_not_intro rfl)
    refine lv_aload_n S.1 S.2.1 dL_law_149 rfl (lv_at hl 1 rfl) ?_
    refine lv_aload_n S.1 S.2.1 dL_law_150 rfl (lv_at hl 2 rfl) ?_
    refine bm_sr (w2 := []) (As := [.ref (a 0), .ref (b 0)]) (rest := []) S hK hZ hw.nil (kL_areAlike l hfl D cZ cI a b (sT 30 (nI 30)) (fun r g _ _ => sT_role 30 (nI 30) (4 * g + r))) (va_cwS 2 S.2.2.2.2 gL_law_L_areAlike rfl rfl rfl (by decide +kernel) ⟨Nat.le_of_ble_eq_true rfl, Nat.le_of_ble_eq_true rfl⟩) rfl hl.1 rfl (Nat.le_of_ble_eq_true rfl) (by decide) (by decide) dL_law_151 (fun H locs hw hg1 => ?_)
    replace hw := Wd.unnil hw
    replace hg := Nat.le_trans (Nat.add_le_add_right hg 24) hg1
    refine bz_eq (tgt := 161) S dL_law_154 (by decide) (fun c154 => ?_) (fun c154 => ?_)
    · exact absurd c154 (by decide)
    refine lv_iconst (v := 1) S.1 S.2.1 dL_law_157 (by decide) ?_
    refine lv_goto (tgt := 162) S.1 S.2.1 dL_law_158 (by decide) ?_
    exact lf_ret S.1 S.2.1 hr hlocks (by omega) hw.2.2.1.2.2 dL_law_162
  | succ n ih =>
    intro k hk H locs hw hg ls hl
    have hk30 : k < 30 := by omega
    refine lv_iload S.1 S.2.1 dL_law_124 (lv_at hl 5 rfl) ?_
    refine lv_bipush (v := nI 30) S.1 S.2.1 dL_law_126 (by decide) ?_
    refine br_ge (tgt := 143) S dL_law_128 (by decide) (fun c128 => ?_) (fun c128 => ?_)
    · exact absurd c128 (not_not_intro (lt_nI hk30 (by decide)))
    refine lv_aload_n S.1 S.2.1 dL_law_131 rfl (lv_at hl 2 rfl) ?_
    refine lv_iconst (v := nI 1) S.1 S.2.1 dL_law_132 (by decide) ?_
    refine bm_wi (As := [.int (nI 1)]) (rest := []) S hK hw (kX0_tick l D cZ cI b (sT k (nI k)) (nt := 1) (by decide) (by decide +kernel) (by decide +kernel)) (cwV 1 S.2.2.2.2 gL_law_X0_tick rfl rfl rfl (by decide +kernel) ⟨Nat.le_of_ble_eq_true rfl, Nat.le_of_ble_eq_true rfl⟩) (q0 := 0) rfl rfl rfl hl.1 rfl (Nat.le_of_ble_eq_true rfl) (by show _ ≤ 2700; omega) (by show _ ≤ 16200; omega) dL_law_133 (fun H locs hw hg1 => ?_)
    replace hg := Nat.le_trans hg hg1
    rw [tick_one] at hw
    refine bx_top (y := nI (k + 1)) (by rw [tick_one]; exact sT_time _ _) ?_
    refine lv_istore_n (lv' := [(3, .int (nI (k + 1))), (0, .ref bs), (1, .ref (a 0)), (2, .ref (b 0)), (4, .int (nI 30)), (5, .int (nI k))]) S.1 S.2.1 dL_law_136 rfl hl (by decide) rfl (fun ls hl => ?_)
    refine lv_iinc (v := nI (k + 1)) (lv' := [(5, .int (nI (k + 1))), (3, .int (nI (k + 1))), (0, .ref bs), (1, .ref (a 0)), (2, .ref (b 0)), (4, .int (nI 30))]) S.1 S.2.1 dL_law_137 hl (k := 5) rfl (nI_1 k) (by decide) rfl (fun ls hl => ?_)
    refine lv_goto (tgt := 124) S.1 S.2.1 dL_law_140 (by decide) ?_
    exact ih (k + 1) (by omega) _ _ hw hg _ (lv_sub hl [2, 3, 4, 1, 5, 0] rfl)
set_option maxHeartbeats 4000000 in
set_option maxRecDepth 100000 in
theorem lf_loop (l : Launch) (hfl : l.stackTraces = false) {p : Program} {e : Env} {s : State} {m : MethodId} {below : List Frame} {meth : Method} {c : Code} {D : va_G} {cZ cI : ClassId} {a b : Nat → Nat} {bs L : Nat} {xs : Nat → Int32} (S : CallFix p m c cL_law 7 s #[Value.ref bs] wsL_law RL) (hK : va_K D vwCl (tyZ cZ cI) s) (hZ : ZT (fun q => s.heap.size ≤ q) s s.heap) (hX : va_X bs L xs s s.heap) (hbl : bs < s.heap.size) (hL : 90 ≤ L) (hL2 : L < 100) (hxs : ∀ j, j < L → xs j = 9) (hr : meth.sig.returnType = ret) (hlocks : meth.locks = false) :
    ∀ (n k : Nat), k + n = 90 → ∀ (H : Heap) (locs : List Loc), Wd D (fun q => s.heap.size ≤ q) s.heap (wX cZ cI a s0 ++ wX cZ cI b s0) H locs → s.heap.size + 28 * k ≤ H.size → ∀ ls : Array Slot, lv_has ls 7 [(0, .ref bs), (1, .ref (a 0)), (2, .ref (b 0)), (3, .int 0), (4, .int (nI k))] → W p l e R2 s m #[Value.ref bs] below meth c H locs (34 + 29 * k) (306 + 174 * k) (lf_Q below #[Value.ref bs] s) (F0 m 21 ls []) := by
  intro n
  induction n with
  | zero =>
    intro k hk H locs hw hg ls hl
    obtain rfl : k = 90 := by omega
    refine lv_iload S.1 S.2.1 dL_law_21 (lv_at hl 4 rfl) ?_
    refine lv_bipush (v := nI 90) S.1 S.2.1 dL_law_23 (by decide) ?_
    refine br_ge (tgt := 113) S dL_law_25 (by decide) (fun c25 => ?_) (fun c25 => ?_)
    rotate_left
    · exact absurd c25 (nlt_nI (by decide))
    refine lv_aload_n S.1 S.2.1 dL_law_113 rfl (lv_at hl 1 rfl) ?_
    refine lv_bipush (v := nI 30) S.1 S.2.1 dL_law_114 (by decide) ?_
    refine bm_vi (As := [.int (nI 30)]) (rest := []) S hK hw (kX0_tick l D cZ cI a s0 (nt := 30) (by decide) (by decide +kernel) (by decide +kernel)) (cwV 1 S.2.2.2.2 gL_law_X0_tick rfl rfl rfl (by decide +kernel) ⟨Nat.le_of_ble_eq_true rfl, Nat.le_of_ble_eq_true rfl⟩) (q0 := 0) rfl rfl rfl hl.1 rfl (Nat.le_of_ble_eq_true rfl) (by show _ ≤ 2700; omega) (by show _ ≤ 16200; omega) dL_law_116 (fun H locs hw hg1 => ?_)
    replace hg := Nat.le_trans hg hg1
    rw [tick30] at hw
    refine bx_top (y := nI 30) (by rw [tick30]; exact sT_time _ _) ?_
    refine lv_istore (lv' := [(4, .int (nI 30)), (0, .ref bs), (1, .ref (a 0)), (2, .ref (b 0)), (3, .int 0)]) S.1 S.2.1 dL_law_119 hl (by decide) rfl (fun ls hl => ?_)
    refine lv_iconst (v := nI 0) S.1 S.2.1 dL_law_121 (by decide) ?_
    refine lv_istore (lv' := [(5, .int (nI 0)), (4, .int (nI 30)), (0, .ref bs), (1, .ref (a 0)), (2, .ref (b 0)), (3, .int 0)]) S.1 S.2.1 dL_law_122 hl (by decide) rfl (fun ls hl => ?_)
    rw [s0_sT] at hw
    exact lf_ticks l hfl S hK hZ hr hlocks 30 0 rfl _ _ hw hg _ (lv_sub hl [2, 3, 4, 5, 1, 0] rfl)
  | succ n ih =>
    intro k hk H locs hw hg ls hl
    have hk90 : k < 90 := by omega
    refine lv_iload S.1 S.2.1 dL_law_21 (lv_at hl 4 rfl) ?_
    refine lv_bipush (v := nI 90) S.1 S.2.1 dL_law_23 (by decide) ?_
    refine br_ge (tgt := 113) S dL_law_25 (by decide) (fun c25 => ?_) (fun c25 => ?_)
    · exact absurd c25 (not_not_intro (lt_nI hk90 (by decide)))
    refine lv_aload_n S.1 S.2.1 dL_law_28 rfl (lv_at hl 0 rfl) ?_
    refine lv_iload S.1 S.2.1 dL_law_29 (lv_at hl 4 rfl) ?_
    refine bm_sx (rest := []) S hX hbl (Nat.not_le.mpr hbl) hw (kL_cell l (bs := bs) (xs := xs) (i := k) (by omega) hL2) (va_cwS 2 S.2.2.2.2 gL_law_L_cell rfl rfl rfl (by decide +kernel) ⟨Nat.le_of_ble_eq_true rfl, Nat.le_of_ble_eq_true rfl⟩) rfl hl.1 rfl (Nat.le_of_ble_eq_true rfl) (by show _ ≤ 2700; omega) (by show _ ≤ 16200; omega) dL_law_31 (fun H locs hw hg1 => ?_)
    replace hg := Nat.le_trans hg hg1
    refine bx_top (y := 9) (hxs k (by omega)) ?_
    refine lv_istore (lv' := [(5, .int 9), (0, .ref bs), (1, .ref (a 0)), (2, .ref (b 0)), (3, .int 0), (4, .int (nI k))]) S.1 S.2.1 dL_law_34 hl (by decide) rfl (fun ls hl => ?_)
    refine lv_aload_n S.1 S.2.1 dL_law_36 rfl (lv_at hl 2 rfl) ?_
    refine lv_iload S.1 S.2.1 dL_law_37 (lv_at hl 0 rfl) ?_
    refine bm_sr (As := [.ref (a 0), .int 9]) (rest := []) S hK hZ hw (kL_act9 l hfl D cZ cI a) (va_cwS 2 S.2.2.2.2 gL_law_L_act rfl rfl rfl (by decide +kernel) ⟨Nat.le_of_ble_eq_true rfl, Nat.le_of_ble_eq_true rfl⟩) rfl hl.1 rfl (Nat.le_of_ble_eq_true rfl) (by show _ ≤ 2700; omega) (by show _ ≤ 16200; omega) dL_law_39 (fun H locs hw hg1 => ?_)
    replace hg := Nat.le_trans hg hg1
    refine lv_istore (lv' := [(6, .int (-99999)), (5, .int 9), (0, .ref bs), (1, .ref (a 0)), (2, .ref (b 0)), (3, .int 0), (4, .int (nI k))]) S.1 S.2.1 dL_law_42 hl (by decide) rfl (fun ls hl => ?_)
    refine lv_iload S.1 S.2.1 dL_law_44 (lv_at hl 0 rfl) ?_
    refine lv_ldc S.1 S.2.1 S.2.2.2.1 (S.2.2.2.2 (.constant RL 16 (-99999)) (List.mem_of_getElem? (i := 3) rfl)) dL_law_46 ?_
    refine br_eq (tgt := 62) S dL_law_48 (by decide) (fun c48 => ?_) (fun c48 => ?_)
    rotate_left
    · exact absurd rfl c48
    refine lv_aload_n S.1 S.2.1 dL_law_62 rfl (lv_at hl 3 rfl) ?_
    refine lv_aload_n S.1 S.2.1 dL_law_63 rfl (lv_at hl 4 rfl) ?_
    refine bm_sr (w2 := []) (As := [.ref (a 0), .ref (b 0)]) (rest := []) S hK hZ hw.nil (kL_areAlike l hfl D cZ cI a b s0 (fun r g _ _ => s0_0 10 (by decide) (4 * g + r))) (va_cwS 2 S.2.2.2.2 gL_law_L_areAlike rfl rfl rfl (by decide +kernel) ⟨Nat.le_of_ble_eq_true rfl, Nat.le_of_ble_eq_true rfl⟩) rfl hl.1 rfl (Nat.le_of_ble_eq_true rfl) (by show _ ≤ 2700; omega) (by show _ ≤ 16200; omega) dL_law_64 (fun H locs hw hg1 => ?_)
    replace hw := Wd.unnil hw
    replace hg := Nat.le_trans (Nat.add_le_add_right hg 24) hg1
    refine bz_eq (tgt := 81) S dL_law_67 (by decide) (fun c67 => ?_) (fun c67 => ?_)
    · exact absurd c67 (by decide)
    refine lv_aload_n S.1 S.2.1 dL_law_70 rfl (lv_at hl 3 rfl) ?_
    refine lv_iload S.1 S.2.1 dL_law_71 (lv_at hl 6 rfl) ?_
    refine lv_iconst (v := 3) S.1 S.2.1 dL_law_73 (by decide) ?_
    refine lv_irem S.1 S.2.1 dL_law_74 (by decide) ?_
    refine bx_top (y := nI (k % 3)) (rem3 hk90) ?_
    refine bm_sr (As := [.ref (a 0), .int (nI (k % 3))]) (rest := []) S hK hZ hw (kL_isGroupSo l hfl D cZ cI a (g := k % 3) (Nat.mod_lt _ (by decide))) (va_cwS 2 S.2.2.2.2 gL_law_L_isGroupSo rfl rfl rfl (by decide +kernel) ⟨Nat.le_of_ble_eq_true rfl, Nat.le_of_ble_eq_true rfl⟩) rfl hl.1 rfl (Nat.le_of_ble_eq_true rfl) (by show _ ≤ 2700; omega) (by show _ ≤ 16200; omega) dL_law_75 (fun H locs hw hg1 => ?_)
    replace hg := Nat.le_trans (Nat.add_le_add_right hg 4) hg1
    refine bz_ne (tgt := 83) S dL_law_78 (by decide) (fun c78 => ?_) (fun c78 => ?_)
    rotate_left
    · exact absurd c78 (by decide)
    refine lv_iload S.1 S.2.1 dL_law_83 (lv_at hl 0 rfl) ?_
    refine bz_le (tgt := 105) S dL_law_85 (by decide) (fun c85 => ?_) (fun c85 => ?_)
    rotate_left
    · exact absurd c85 (by decide)
    refine lv_iload_n S.1 S.2.1 dL_law_105 rfl (lv_at hl 5 rfl) ?_
    refine lv_istore_n (lv' := [(3, .int 0), (6, .int (-99999)), (5, .int 9), (0, .ref bs), (1, .ref (a 0)), (2, .ref (b 0)), (4, .int (nI k))]) S.1 S.2.1 dL_law_106 rfl hl (by decide) rfl (fun ls hl => ?_)
    refine lv_iinc (v := nI (k + 1)) (lv' := [(4, .int (nI (k + 1))), (3, .int 0), (6, .int (-99999)), (5, .int 9), (0, .ref bs), (1, .ref (a 0)), (2, .ref (b 0))]) S.1 S.2.1 dL_law_107 hl (k := 6) rfl (nI_1 k) (by decide) rfl (fun ls hl => ?_)
    refine lv_goto (tgt := 21) S.1 S.2.1 dL_law_110 (by decide) ?_
    refine W.widen (k := 34 + 29 * (k + 1)) (n := 306 + 174 * (k + 1)) (by omega) (by omega) ?_
    exact ih (k + 1) (by omega) _ _ hw (by omega) _ (lv_sub hl [4, 5, 6, 1, 0] rfl)
set_option maxHeartbeats 4000000 in
set_option maxRecDepth 100000 in
theorem lf_start {p : Program} {e : Env} {s : State} {m : MethodId} {below : List Frame} {meth : Method} {c : Code} (l : Launch) (hflags : l.flags = flags0) {bs L : Nat} {xs : Nat → Int32} (hL : 90 ≤ L) (hL2 : L < 100) (hxs : ∀ j, j < L → xs j = 9) (hx : p.tables.exec = Jvm.exec) (hb : c.code = code) (hr : meth.sig.returnType = ret) (hml : c.maxLocals = 7) (hown : s.vm.findClass RL = some m.cls) (hts : ∀ w ∈ lw_tbl, w.before #[Value.ref bs] s = true) (hX : va_X bs L xs s s.heap) (hbl : bs < s.heap.size) (hlocks : meth.locks = false) (hgv : (Jvm.Cond.and given_1 narrow_1).before #[Value.ref bs] s = true) : W p l e R2 s m #[Value.ref bs] below meth c s.heap [] 0 0 (lf_Q below #[Value.ref bs] s) (entryFrame m ([Value.ref bs] : List Value).toArray 7) := by
  obtain ⟨D, cZ, cI, hK⟩ := K_start hts
  have hZ := ZT_start hts hgv
  have hfl := no_traces hflags
  have S : CallFix p m c cL_law 7 s #[Value.ref bs] wsL_law RL := ⟨hx, hb, hml, hown, fun w h => hts w (wsL_law_in w h)⟩
  have hw : Wd D (fun q => s.heap.size ≤ q) s.heap [] s.heap [] := ⟨va_P_nil, va_D_nil, va_S.rf, fun _ h => h⟩
  have hl := lv_entry ([.ref bs]) (n := 7) (Nat.le_of_ble_eq_true rfl)
  rw [lg_entry_eq]
  generalize (lg_sl ([.ref bs]) ++ List.replicate (7 - (lg_sl ([.ref bs])).length) Slot.unset).toArray = ls at hl ⊢
  replace hl : lv_has ls 7 [(0, .ref bs)] := hl
  refine bl_new (ci := 0) (fs := [.null, .null, .null, .null, .null, .null, .null, .null, .null, .null, .null, .null, .null, .null, .null, .null, .int 0, .int 0]) (C := RX0) (T := TX0) (N := 18) S hK hw inlX0 tyX0 tyX0_ok (List.mem_of_getElem? (i := 0) rfl) (List.mem_of_getElem? (i := 1) rfl) (List.mem_of_getElem? (i := 2) rfl) rfl (by decide +kernel) (by decide) (by decide) dL_law_0 (fun q0 H hw => ?_)
  refine lv_dup S.1 S.2.1 dL_law_3 rfl ?_
  replace hw : Wd D (fun q => s.heap.size ≤ q) s.heap ([(q0, .inr (0, [.null, .null, .null, .null, .null, .null, .null, .null, .null, .null, .null, .null, .null, .null, .null, .null, .int 0, .int 0]))] ++ []) H _ := hw
  refine bl_ctor (rest := [.ref q0]) (w2 := []) S hK hw (kX0_init l D cZ cI) (cwI 0 S.2.2.2.2 gL_law_X0_init rfl rfl rfl (S.2.2.2.2 (.initialized RX0) (List.mem_of_getElem? (i := 2) rfl)) (S.2.2.2.2 (.methodLink RL 120 yX0_init) (List.mem_of_getElem? (i := 4) rfl)) (S.2.2.2.2 (.instanceMethod yX0_init) (List.mem_of_getElem? (i := 5) rfl)) rfl (by decide +kernel) ⟨Nat.le_of_ble_eq_true rfl, Nat.le_of_ble_eq_true rfl⟩) hl.1 (Nat.le_of_ble_eq_true rfl) (by decide) (by decide) dL_law_4 (fun a H locs haq hwx => ?_)
  subst haq
  have hw := Wd.unnil hwx
  refine lv_astore_n (lv' := [(1, .ref (a 0)), (0, .ref bs)]) S.1 S.2.1 dL_law_7 rfl hl (by decide) rfl (fun ls hl => ?_)
  refine bl_new (ci := 0) (fs := [.null, .null, .null, .null, .null, .null, .null, .null, .null, .null, .null, .null, .null, .null, .null, .null, .int 0, .int 0]) (C := RX0) (T := TX0) (N := 18) S hK hw inlX0 tyX0 tyX0_ok (List.mem_of_getElem? (i := 0) rfl) (List.mem_of_getElem? (i := 1) rfl) (List.mem_of_getElem? (i := 2) rfl) rfl (by decide +kernel) (by decide) (by decide) dL_law_8 (fun q1 H hw => ?_)
  refine lv_dup S.1 S.2.1 dL_law_11 rfl ?_
  refine bl_ctor (rest := [.ref q1]) S hK hw.swap (kX0_init l D cZ cI) (cwI 0 S.2.2.2.2 gL_law_X0_init rfl rfl rfl (S.2.2.2.2 (.initialized RX0) (List.mem_of_getElem? (i := 2) rfl)) (S.2.2.2.2 (.methodLink RL 120 yX0_init) (List.mem_of_getElem? (i := 4) rfl)) (S.2.2.2.2 (.instanceMethod yX0_init) (List.mem_of_getElem? (i := 5) rfl)) rfl (by decide +kernel) ⟨Nat.le_of_ble_eq_true rfl, Nat.le_of_ble_eq_true rfl⟩) hl.1 (Nat.le_of_ble_eq_true rfl) (by decide) (by decide) dL_law_12 (fun b H locs hbq hwx => ?_)
  subst hbq
  have hw := Wd.swap (Wd.unnil (Wd.nil hwx))
  refine lv_astore_n (lv' := [(2, .ref (b 0)), (1, .ref (a 0)), (0, .ref bs)]) S.1 S.2.1 dL_law_15 rfl hl (by decide) rfl (fun ls hl => ?_)
  refine lv_iconst (v := 0) S.1 S.2.1 dL_law_16 (by decide) ?_
  refine lv_istore_n (lv' := [(3, .int 0), (2, .ref (b 0)), (1, .ref (a 0)), (0, .ref bs)]) S.1 S.2.1 dL_law_17 rfl hl (by decide) rfl (fun ls hl => ?_)
  refine lv_iconst (v := nI 0) S.1 S.2.1 dL_law_18 (by decide) ?_
  refine lv_istore (lv' := [(4, .int (nI 0)), (3, .int 0), (2, .ref (b 0)), (1, .ref (a 0)), (0, .ref bs)]) S.1 S.2.1 dL_law_19 hl (by decide) rfl (fun ls hl => ?_)
  refine W.widen (k := 34 + 29 * 0) (n := 306 + 174 * 0) (by decide) (by decide) ?_
  exact lf_loop l hfl S hK hZ hX hbl hL hL2 hxs hr hlocks 90 0 rfl _ _ hw hw.2.2.1.1 _ (lv_sub hl [4, 3, 2, 1, 0] rfl)
