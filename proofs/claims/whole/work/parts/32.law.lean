/-! ===== the law, from its entry ===== -/
theorem law_cmp {j L : Nat} (hj : j ≤ 4096) (hL : L ≤ 2048) : nI L - 4 < nI j ↔ L < j + 4 := by
  by_cases h : 4 ≤ L
  · have e : nI L - 4 = nI (L - 4) := by
      have h1 : nI (L - 4) + 4 = nI L := by
        have := nI_add (L - 4) 4
        rw [Nat.sub_add_cancel h] at this
        exact this
      rw [← h1, Int32.add_sub_cancel]
    rw [e, nI_ltI (by omega) (by omega)]
    omega
  · have h4 : nI L - 4 < 0 := (by decide +kernel : ∀ L, L < 4 → nI L - 4 < 0) L (by omega)
    constructor
    · intro _; omega
    · intro _; exact Int32.lt_of_lt_of_le h4 (nI_pos' (by omega))
section BQ
variable {p : Program} {l : Launch} {e : Env} {R : Room} {s : State} {m : MethodId} {args : Array Value} {below : List Frame} {meth : Method} {c : Code} {H : Heap} {locs : List Loc} {cells slots : Nat} {Q : State → Prop}
variable {cc : ByteArray} {nL pc : Nat} {ls : Array Slot} {rest : List Value} {Ts : List Cond} {own : String} {D : va_G} {A : Nat → Prop} {H0 : Heap} {ws w2 : va_W} {tyc : List (ClassId × FieldType)}
theorem bl_new (S : CallFix p m c cc nL s args Ts own) (hK : va_K D vwCl tyc s) (hw : Wd D A H0 ws H locs) {C : String} {T : u_T} {N ci index : Nat} (hin : ∀ w ∈ u_ws C T N, w ∈ Ts) (ty : Nat → FieldType) (hty : ∀ k, k < N → parseFieldDescriptor (T k).2.2.1 = some (ty k)) (hcl : Cond.classLink own index C ∈ Ts) (hinst : Cond.instantiable C N ∈ Ts) (hini : Cond.initialized C ∈ Ts) (hc : vwCl[ci]? = some (C, T, N)) {fs : List Value} (hfs : ∀ j, j < N → defaultValue (ty j) = vp_V fs j) (hcells : cells + 1 ≤ R.cells) (hslots : slots + N ≤ R.slots) (hdg : decode cc pc = .ok (.new index, 3))
    (kk : ∀ (q : Nat) (H1 : Heap), Wd D A H0 (ws ++ [(q, .inr (ci, fs))]) H1 locs → W p l e R s m args below meth c H1 locs (cells + 1) (slots + N) Q (F0 m (pc + 3) ls (.ref q :: rest))) : W p l e R s m args below meth c H locs cells slots Q (F0 m pc ls rest) := by
  refine va_new S.1 S.2.1 S.2.2.2.2 hin ty hty S.2.2.2.1 (S.2.2.2.2 _ hcl) (S.2.2.2.2 _ hinst) (S.2.2.2.2 _ hini) hK hw.1 hw.2.1 hw.2.2.1 hw.2.2.2 hc hfs hcells hslots hdg (fun q H1 hP hD hS => ?_)
  exact kk q H1 ⟨hP, hD, hS, hw.2.2.2⟩
theorem bl_ctor {y : MethodName} {bytes : ByteArray} {maxL index mc ms : Nat} {wsl : List Cond} {rm : Room} {ci : Nat} {f0 : List Value} {ω : (Nat → Nat) → va_W} {h0 : Nat} (S : CallFix p m c cc nL s args Ts own) (hK : va_K D vwCl tyc s) (hw : Wd D A H0 ([(h0, .inr (ci, f0))] ++ w2) H locs) (hM : MC l y wsl rm D tyc ci f0 mc ms ω) (cw : CallB R s args own index y bytes maxL none wsl rm mc ms 0 ∧ y.name = "<init>" ∧ (Cond.instanceMethod y).before args s = true) (hl : ls.size = nL) (hr : (rest.map fun v => v.category).sum ≤ 8) (hcl : cells + mc ≤ R.cells) (hsl : slots + ms ≤ R.slots) (hdg : decode cc pc = .ok (.invokespecial index, 3))
    (kk : ∀ (a : Nat → Nat) (H1 : Heap) (locs1 : List Loc), a 0 = h0 → Wd D A H0 (ω a ++ w2) H1 locs1 → W p l e R s m args below meth c H1 locs1 (cells + mc) (slots + ms) Q (F0 m (pc + 3) ls rest)) : W p l e R s m args below meth c H locs cells slots Q (F0 m pc ls (.ref h0 :: rest)) := by
  have hF := hw.cov1
  refine va_callv (va_runI (As := []) (rest := rest) S (hM h0 H.size) cw ⟨MPre.blind, fun U hU hW => ⟨rfl, by rw [hU], by rw [hU]; exact Pl hw.1, va_K.moved hW.alike hK, (Dl hw.2.1).weaken (fun _ _ _ _ => trivial)⟩⟩ rfl rfl hl rfl (lv_room hr) hdg ⟨hcl, hsl⟩) hw.2.2.1 (fun q _ h => hF q h) hF (fun u t H1 locs1 ht hvm hp hB hz1 hk1 hS => ?_)
  rw [ht] at hB
  exact kk u H1 locs1 hp (hw.join1 hk1 hS hB.1 hB.2)
theorem bl_newJ {cZ cI cJ : ClassId} (S : CallFix p m c cc nL s args Ts own) (hK : va_K D vwCl (tyJ cZ cI cJ) s) (hw : Wd D A H0 ws H locs) (harr : Cond.arrayClass .long ∈ Ts) (hcr : cells + 1 ≤ R.cells) (hsr : slots + 1 ≤ R.slots) (hdg : decode cc pc = .ok (.newarray .long, 2))
    (kk : ∀ (q : Nat) (H1 : Heap), Wd D A H0 (ws ++ wO cJ q (fun _ => 0)) H1 locs → W p l e R s m args below meth c H1 locs (cells + 1) (slots + 1) Q (F0 m (pc + 2) ls (.ref q :: rest))) : W p l e R s m args below meth c H locs cells slots Q (F0 m pc ls (.int (nI 1) :: rest)) := by
  refine va_newa S.1 S.2.1 (atype := .long) (S.2.2.2.2 _ harr) (ty := .long) rfl hK hw.1 hw.2.1 hw.2.2.1 hw.2.2.2 (N' := 1) (a0 := (1, .inr (.inl (fun _ => 0)))) (fun cA => rfl) (nI_pos (by omega)) (nI_clamp (by omega)) (by decide) hcr hsr hdg (fun q cA H1 hK1 hP hD hS => ?_)
  have h1 := va_nm_long (hK1.2 3 _ rfl).2
  have h2 := va_nm_long (hK.2 2 _ rfl).2
  have e9 : cJ = cA := Option.some.inj (h2.symm.trans h1)
  subst e9
  exact kk q H1 ⟨hP, hD, hS, hw.2.2.2⟩
end BQ

theorem hm83 : Cond.methodLink RL 83 yX1_init ∈ wsL_law := List.mem_of_getElem? (i := 31) (by decide +kernel)
theorem hm84 : Cond.instanceMethod yX1_init ∈ wsL_law := List.mem_of_getElem? (i := 32) (by decide +kernel)
set_option maxHeartbeats 4000000 in
set_option maxRecDepth 100000 in
theorem law_loop (l : Launch) (hfl : l.stackTraces = false) {p : Program} {e : Env} {s : State} {m : MethodId} {below : List Frame} {meth : Method} {c : Code} {D : va_G} {cZ cI cJ : ClassId} {a b2 : Nat → Nat} {o bs L : Nat} {xs : Nat → Int32} (S : CallFix p m c cL_law 7 s #[Value.ref bs] wsL_law RL) (hK : va_K D vwCl (tyJ cZ cI cJ) s) (hZ : ZT (fun q => s.heap.size ≤ q) s s.heap) (hX : va_X bs L xs s s.heap) (hbl : bs < s.heap.size) (hL : L ≤ 2048) (hr : meth.sig.returnType = ret) (hlocks : meth.locks = false) :
    ∀ (n k : Nat), k + n = 513 → ∀ (σ : sC) (fo : Nat → Int64) (th : Int32), Inv σ → ∀ (H : Heap) (locs : List Loc), Wd D (fun q => s.heap.size ≤ q) s.heap ((wX cZ cI a σ ++ wO cJ o fo) ++ wM cZ cI b2 th σ) H locs → ∀ ls : Array Slot, lv_has ls 7 [(0, .ref bs), (1, .ref (a 0)), (2, .ref (b2 0)), (3, .ref o), (4, .int (nI (4 * k)))] → W p l e room_1 s m #[Value.ref bs] below meth c H locs (35 + k) (308 + 6 * k) (lw_Z below #[Value.ref bs] s) (F0 m 23 ls []) := by
  intro n
  induction n with
  | zero =>
    intro k hk σ fo th hI H locs hw ls hl
    refine lv_iload S.1 S.2.1 dL_law_23 (lv_at hl 4 rfl) ?_
    refine lv_aload_n S.1 S.2.1 dL_law_25 rfl (lv_at hl 0 rfl) ?_
    refine va_slen S.1 S.2.1 hX hbl (Nat.not_le.mpr hbl) hw.2.2.1 dL_law_26 ?_
    refine lv_iconst (v := 4) S.1 S.2.1 dL_law_27 (by decide) ?_
    refine lv_isub S.1 S.2.1 dL_law_28 ?_
    refine br_gt (tgt := 1520) S dL_law_29 (by decide) (fun c9 => ?_) (fun c9 => ?_)
    · refine lv_iconst (v := 1) S.1 S.2.1 dL_law_1520 (by decide) ?_
      refine va_forget (fun q hq => hw.2.2.1.2.2 q hq) ?_
      refine W.widen (k := 1068) (n := 8554) (by omega) (by omega) ?_
      exact lw_ret S.1 S.2.1 hr hlocks dL_law_1521
    · exact absurd ((law_cmp (by omega) hL).mpr (by omega)) c9
  | succ n ih =>
    intro k hk σ fo th hI H locs hw ls hl
    refine lv_iload S.1 S.2.1 dL_law_23 (lv_at hl 4 rfl) ?_
    refine lv_aload_n S.1 S.2.1 dL_law_25 rfl (lv_at hl 0 rfl) ?_
    refine va_slen S.1 S.2.1 hX hbl (Nat.not_le.mpr hbl) hw.2.2.1 dL_law_26 ?_
    refine lv_iconst (v := 4) S.1 S.2.1 dL_law_27 (by decide) ?_
    refine lv_isub S.1 S.2.1 dL_law_28 ?_
    refine br_gt (tgt := 1520) S dL_law_29 (by decide) (fun c9 => ?_) (fun c9 => ?_)
    · refine lv_iconst (v := 1) S.1 S.2.1 dL_law_1520 (by decide) ?_
      refine va_forget (fun q hq => hw.2.2.1.2.2 q hq) ?_
      refine W.widen (k := 1068) (n := 8554) (by omega) (by omega) ?_
      exact lw_ret S.1 S.2.1 hr hlocks dL_law_1521
    · have hi : 4 * k + 4 ≤ L := Nat.not_lt.mp (fun q => c9 ((law_cmp (j := 4 * k) (by omega) hL).mpr q))
      have K : ∀ (σ' : sC) (fo' : Nat → Int64) (th' : Int32), Inv σ' → ∀ (H : Heap) (locs : List Loc), Wd D (fun q => s.heap.size ≤ q) s.heap ((wX cZ cI a σ' ++ wO cJ o fo') ++ wM cZ cI b2 th' σ') H locs → ∀ ls : Array Slot, lv_has ls 7 [(0, .ref bs), (1, .ref (a 0)), (2, .ref (b2 0)), (3, .ref o), (4, .int (nI (4 * k)))] → W p l e room_1 s m #[Value.ref bs] below meth c H locs (35 + k + 1) (308 + 6 * k + 6) (lw_Z below #[Value.ref bs] s) (F0 m 1514 ls []) := by
        intro σ' fo' th' hI' H locs hw ls hl
        refine lv_iinc (v := nI (4 * (k + 1))) (lv' := [(4, .int (nI (4 * (k + 1)))), (0, .ref bs), (1, .ref (a 0)), (2, .ref (b2 0)), (3, .ref o)]) S.1 S.2.1 dL_law_1514 hl (k := 4) rfl (show nI (4 * k) + Int32.ofInt 4 = nI (4 * (k + 1)) from nI_add (4 * k) 4) (by decide) rfl (fun ls hl => ?_)
        refine lv_goto (tgt := 23) S.1 S.2.1 dL_law_1517 (by decide) ?_
        refine W.widen (k := 35 + (k + 1)) (n := 308 + 6 * (k + 1)) (by omega) (by omega) ?_
        exact ih (k + 1) (by omega) σ' fo' th' hI' _ _ hw _ (lv_sub hl [1, 2, 3, 4, 0] rfl)
      refine lv_aload_n S.1 S.2.1 dL_law_32 rfl (lv_at hl 0 rfl) ?_
      refine lv_iload S.1 S.2.1 dL_law_33 (lv_at hl 4 rfl) ?_
      refine bl_sld S hX hbl hL hw (by omega) dL_law_35 ?_
      refine lv_bipush (v := 31) S.1 S.2.1 dL_law_36 (by decide) ?_
      refine lv_iand S.1 S.2.1 dL_law_38 ?_
      obtain ⟨j, hj, ej⟩ := pk_andE (xs (4 * k)) (m := 31) 5 (by decide)
      refine bx_top (y := nI j) ej ?_
      have hc0 : 35 + k + 1 ≤ 1068 := by omega
      have hd0 : 308 + 6 * k + 6 ≤ 8554 := by omega
      rcases (show j = 0 ∨ j = 1 ∨ j = 2 ∨ j = 3 ∨ j = 4 ∨ j = 5 ∨ j = 6 ∨ j = 7 ∨ j = 8 ∨ j = 9 ∨ j = 10 ∨ j = 11 ∨ j = 12 ∨ j = 13 ∨ j = 14 ∨ j = 15 ∨ j = 16 ∨ j = 17 ∨ j = 18 ∨ j = 19 ∨ j = 20 ∨ 21 ≤ j by omega) with rfl | rfl | rfl | rfl | rfl | rfl | rfl | rfl | rfl | rfl | rfl | rfl | rfl | rfl | rfl | rfl | rfl | rfl | rfl | rfl | rfl | hj2
      · refine lv_tableIn (tgt := 136) (off := 97) S.1 S.2.1 dL_law_39 (by decide +kernel) (by decide +kernel) (by decide +kernel) (by decide) ?_
        exact law_setPriority l hfl S hK hZ hX hbl hL hi hc0 hd0 σ fo th hI K _ _ hw _ hl
      · refine lv_tableIn (tgt := 216) (off := 177) S.1 S.2.1 dL_law_39 (by decide +kernel) (by decide +kernel) (by decide +kernel) (by decide) ?_
        exact law_track l hfl S hK hZ hX hbl hL hi hc0 hd0 σ fo th hI K _ _ hw _ hl
      · refine lv_tableIn (tgt := 296) (off := 257) S.1 S.2.1 dL_law_39 (by decide +kernel) (by decide +kernel) (by decide +kernel) (by decide) ?_
        exact law_setLink l hfl S hK hZ hX hbl hL hi hc0 hd0 σ fo th hI K _ _ hw _ hl
      · refine lv_tableIn (tgt := 399) (off := 360) S.1 S.2.1 dL_law_39 (by decide +kernel) (by decide +kernel) (by decide +kernel) (by decide) ?_
        exact law_setPeriod l hfl S hK hZ hX hbl hL hi hc0 hd0 σ fo th hI K _ _ hw _ hl
      · refine lv_tableIn (tgt := 467) (off := 428) S.1 S.2.1 dL_law_39 (by decide +kernel) (by decide +kernel) (by decide +kernel) (by decide) ?_
        exact law_setPreemption l hfl S hK hZ hX hbl hL hi hc0 hd0 σ fo th hI K _ _ hw _ hl
      · refine lv_tableIn (tgt := 543) (off := 504) S.1 S.2.1 dL_law_39 (by decide +kernel) (by decide +kernel) (by decide +kernel) (by decide) ?_
        exact law_join l hfl S hK hZ hX hbl hL hi hc0 hd0 σ fo th hI K _ _ hw _ hl
      · refine lv_tableIn (tgt := 646) (off := 607) S.1 S.2.1 dL_law_39 (by decide +kernel) (by decide +kernel) (by decide +kernel) (by decide) ?_
        exact law_die l hfl S hK hZ hX hbl hL hi hc0 hd0 σ fo th hI K _ _ hw _ hl
      · refine lv_tableIn (tgt := 702) (off := 663) S.1 S.2.1 dL_law_39 (by decide +kernel) (by decide +kernel) (by decide +kernel) (by decide) ?_
        exact law_live l hfl S hK hZ hX hbl hL hi hc0 hd0 σ fo th hI K _ _ hw _ hl
      · refine lv_tableIn (tgt := 758) (off := 719) S.1 S.2.1 dL_law_39 (by decide +kernel) (by decide +kernel) (by decide +kernel) (by decide) ?_
        exact law_handOver l hfl S hK hZ hX hbl hL hi hc0 hd0 σ fo th hI K _ _ hw _ hl
      · refine lv_tableIn (tgt := 806) (off := 767) S.1 S.2.1 dL_law_39 (by decide +kernel) (by decide +kernel) (by decide +kernel) (by decide) ?_
        exact law_serve l hfl S hK hZ hX hbl hL hi hc0 hd0 σ fo th hI K _ _ hw _ hl
      · refine lv_tableIn (tgt := 874) (off := 835) S.1 S.2.1 dL_law_39 (by decide +kernel) (by decide +kernel) (by decide +kernel) (by decide) ?_
        exact law_tick l hfl S hK hZ hX hbl hL hi hc0 hd0 σ fo th hI K _ _ hw _ hl
      · refine lv_tableIn (tgt := 930) (off := 891) S.1 S.2.1 dL_law_39 (by decide +kernel) (by decide +kernel) (by decide +kernel) (by decide) ?_
        exact law_state l hfl S hK hZ hX hbl hL hi hc0 hd0 σ fo th hI K _ _ hw _ hl
      · refine lv_tableIn (tgt := 998) (off := 959) S.1 S.2.1 dL_law_39 (by decide +kernel) (by decide +kernel) (by decide +kernel) (by decide) ?_
        exact law_priority l hfl S hK hZ hX hbl hL hi hc0 hd0 σ fo th hI K _ _ hw _ hl
      · refine lv_tableIn (tgt := 1066) (off := 1027) S.1 S.2.1 dL_law_39 (by decide +kernel) (by decide +kernel) (by decide +kernel) (by decide) ?_
        exact law_timer l hfl S hK hZ hX hbl hL hi hc0 hd0 σ fo th hI K _ _ hw _ hl
      · refine lv_tableIn (tgt := 1134) (off := 1095) S.1 S.2.1 dL_law_39 (by decide +kernel) (by decide +kernel) (by decide +kernel) (by decide) ?_
        exact law_masters l hfl S hK hZ hX hbl hL hi hc0 hd0 σ fo th hI K _ _ hw _ hl
      · refine lv_tableIn (tgt := 1190) (off := 1151) S.1 S.2.1 dL_law_39 (by decide +kernel) (by decide +kernel) (by decide +kernel) (by decide) ?_
        exact law_changes l hfl S hK hZ hX hbl hL hi hc0 hd0 σ fo th hI K _ _ hw _ hl
      · refine lv_tableIn (tgt := 1258) (off := 1219) S.1 S.2.1 dL_law_39 (by decide +kernel) (by decide +kernel) (by decide +kernel) (by decide) ?_
        exact law_gaps l hfl S hK hZ hX hbl hL hi hc0 hd0 σ fo th hI K _ _ hw _ hl
      · refine lv_tableIn (tgt := 1314) (off := 1275) S.1 S.2.1 dL_law_39 (by decide +kernel) (by decide +kernel) (by decide +kernel) (by decide) ?_
        exact law_sent l hfl S hK hZ hX hbl hL hi hc0 hd0 σ fo th hI K _ _ hw _ hl
      · refine lv_tableIn (tgt := 1370) (off := 1331) S.1 S.2.1 dL_law_39 (by decide +kernel) (by decide +kernel) (by decide +kernel) (by decide) ?_
        exact law_known l hfl S hK hZ hX hbl hL hi hc0 hd0 σ fo th hI K _ _ hw _ hl
      · refine lv_tableIn (tgt := 1438) (off := 1399) S.1 S.2.1 dL_law_39 (by decide +kernel) (by decide +kernel) (by decide +kernel) (by decide) ?_
        exact law_repairs l hfl S hK hZ hX hbl hL hi hc0 hd0 σ fo th hI K _ _ hw _ hl
      · refine lv_tableIn (tgt := 1451) (off := 1412) S.1 S.2.1 dL_law_39 (by decide +kernel) (by decide +kernel) (by decide +kernel) (by decide) ?_
        exact law_isSettled l hfl S hK hZ hX hbl hL hi hc0 hd0 σ fo th hI K _ _ hw _ hl
      · refine lv_tableOut (tgt := 1514) S.1 S.2.1 dL_law_39 (Or.inr (by rw [nI_toInt (by omega)]; omega)) (by decide) ?_
        refine W.widen (k := 35 + k + 1) (n := 308 + 6 * k + 6) (by omega) (by omega) ?_
        exact K σ fo th hI _ _ hw _ hl
set_option maxHeartbeats 4000000 in
set_option maxRecDepth 100000 in
theorem whole_start {p : Program} {e : Env} {s : State} {m : MethodId} {below : List Frame} {meth : Method} {c : Code} (l : Launch) (hflags : l.flags = flags0) {b L : Nat} {xs : Nat → Int32} (hL : L ≤ 2048) (C0 : lw_At p s m meth c b L xs) : W p l e room_1 s m #[Value.ref b] below meth c s.heap [] 0 0 (lw_Z below #[Value.ref b] s) (entryFrame m ([Value.ref b] : List Value).toArray 7) := by
  obtain ⟨hx, hb, hr, hml, hown, hts, hX, hbl, hlocks, hgv⟩ := id C0
  obtain ⟨D, cZ, cI, cJ, hK⟩ := K_start hts
  have hZ := ZT_start hts hgv
  have hfl := no_traces hflags
  have S : CallFix p m c cL_law 7 s #[Value.ref b] wsL_law RL := ⟨hx, hb, hml, hown, fun w h => hts w (wsL_law_in w h)⟩
  have hw : Wd D (fun q => s.heap.size ≤ q) s.heap [] s.heap [] := ⟨va_P_nil, va_D_nil, va_S.rf, fun _ h => h⟩
  have hl := lv_entry ([.ref b]) (n := 7) (Nat.le_of_ble_eq_true rfl)
  rw [lg_entry_eq]
  generalize (lg_sl ([.ref b]) ++ List.replicate (7 - (lg_sl ([.ref b])).length) Slot.unset).toArray = ls at hl ⊢
  replace hl : lv_has ls 7 [(0, .ref b)] := hl
  refine bl_new (ci := 0) (fs := [.null, .null, .null, .null, .null, .null, .null, .null, .null, .null, .null, .null, .null, .null, .null, .null, .int 0, .int 0]) (C := RX0) (T := TX0) (N := 18) S hK hw inlX0 tyX0 tyX0_ok (List.mem_of_getElem? (i := 0) rfl) (List.mem_of_getElem? (i := 1) rfl) (List.mem_of_getElem? (i := 2) rfl) rfl (by decide +kernel) (by decide) (by decide) dL_law_0 (fun q0 H hw => ?_)
  refine lv_dup S.1 S.2.1 dL_law_3 rfl ?_
  replace hw : Wd D (fun q => s.heap.size ≤ q) s.heap ([(q0, .inr (0, [.null, .null, .null, .null, .null, .null, .null, .null, .null, .null, .null, .null, .null, .null, .null, .null, .int 0, .int 0]))] ++ []) H _ := hw
  refine bl_ctor (rest := [.ref q0]) (w2 := []) S (tyJ_Z hK) hw (kX0_init l D cZ cI) (cwI 0 S.2.2.2.2 gL_law_X0_init rfl rfl rfl (S.2.2.2.2 (.initialized RX0) (List.mem_of_getElem? (i := 2) rfl)) (S.2.2.2.2 (.methodLink RL 80 yX0_init) (List.mem_of_getElem? (i := 7) rfl)) (S.2.2.2.2 (.instanceMethod yX0_init) (List.mem_of_getElem? (i := 8) rfl)) rfl (by decide +kernel) ⟨Nat.le_of_ble_eq_true rfl, Nat.le_of_ble_eq_true rfl⟩) hl.1 (Nat.le_of_ble_eq_true rfl) (by decide) (by decide) dL_law_4 (fun a H locs ha hwx => ?_)
  subst ha
  have hw := hwx
  refine lv_astore_n (lv' := [(1, .ref (a 0)), (0, .ref b)]) S.1 S.2.1 dL_law_7 rfl hl (by decide) rfl (fun ls hl => ?_)
  refine bl_new (ci := 1) (fs := [.int 0, .null, .null, .null, .null, .null, .null, .null, .null, .null, .null, .null, .null, .null, .null, .null, .null, .int 0, .int 0]) (C := RX1) (T := TX1) (N := 19) S hK hw inlX1 tyX1 tyX1_ok (List.mem_of_getElem? (i := 3) rfl) (List.mem_of_getElem? (i := 4) rfl) (List.mem_of_getElem? (i := 5) rfl) rfl (by decide +kernel) (by decide) (by decide) dL_law_8 (fun q1 H hw => ?_)
  refine lv_dup S.1 S.2.1 dL_law_11 rfl ?_
  refine bl_ctor (rest := [.ref q1]) S (tyJ_Z hK) hw.swap (kX1_init l D cZ cI) (cwI 0 S.2.2.2.2 gL_law_X1_init rfl rfl rfl (S.2.2.2.2 (.initialized RX1) (List.mem_of_getElem? (i := 5) rfl)) (S.2.2.2.2 (.methodLink RL 83 yX1_init) hm83) (S.2.2.2.2 (.instanceMethod yX1_init) hm84) rfl (by decide +kernel) ⟨Nat.le_of_ble_eq_true rfl, Nat.le_of_ble_eq_true rfl⟩) hl.1 (Nat.le_of_ble_eq_true rfl) (by decide) (by decide) dL_law_12 (fun b2 H locs hb2 hwy => ?_)
  subst hb2
  have hw := hwy
  refine lv_astore_n (lv' := [(2, .ref (b2 0)), (1, .ref (a 0)), (0, .ref b)]) S.1 S.2.1 dL_law_15 rfl hl (by decide) rfl (fun ls hl => ?_)
  refine lv_iconst (v := nI 1) S.1 S.2.1 dL_law_16 (by decide) ?_
  refine bl_newJ S hK hw.swap (List.mem_of_getElem? (i := 6) rfl) (by decide) (by decide) dL_law_17 (fun o H hw => ?_)
  refine lv_astore_n (lv' := [(3, .ref o), (2, .ref (b2 0)), (1, .ref (a 0)), (0, .ref b)]) S.1 S.2.1 dL_law_19 rfl hl (by decide) rfl (fun ls hl => ?_)
  refine lv_iconst (v := nI 0) S.1 S.2.1 dL_law_20 (by decide) ?_
  refine lv_istore (lv' := [(4, .int (nI 0)), (3, .ref o), (2, .ref (b2 0)), (1, .ref (a 0)), (0, .ref b)]) S.1 S.2.1 dL_law_21 hl (by decide) rfl (fun ls hl => ?_)
  have hw : Wd D (fun q => s.heap.size ≤ q) s.heap (((wX cZ cI a s0 ++ []) ++ wM cZ cI b2 0 s0) ++ wO cJ o (fun _ => 0)) H _ := hw
  rw [List.append_nil] at hw
  have hw : Wd D (fun q => s.heap.size ≤ q) s.heap ((wX cZ cI a s0 ++ wO cJ o (fun _ => 0)) ++ wM cZ cI b2 0 s0) H _ := ⟨hw.1.swap, hw.2.1.swap, hw.2.2⟩
  refine W.widen (k := 35 + 0) (n := 308 + 6 * 0) (by decide) (by decide) ?_
  exact law_loop l hfl S hK hZ hX hbl hL hr hlocks 513 0 rfl s0 (fun _ => 0) 0 inv_s0 _ _ hw _ (lv_sub hl [4, 3, 2, 1, 0] rfl)
