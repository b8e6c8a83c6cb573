/-! ===== rows for the law: a world of two parts; methods with a table; how far the heap has grown ===== -/
theorem ap_l {w1 w2 : va_W} {k : Nat} {q : Nat × va_E} (h : w1[k]? = some q) : (w1 ++ w2)[k]? = some q := by
  have hlt : k < w1.length := (List.getElem?_eq_some_iff.mp h).1
  rw [List.getElem?_append_left hlt]; exact h
theorem ap_r {w1 w2 : va_W} {k : Nat} {q : Nat × va_E} (h : w2[k]? = some q) : (w1 ++ w2)[w1.length + k]? = some q := by
  rw [List.getElem?_append_right (Nat.le_add_right _ _), Nat.add_sub_cancel_left]; exact h
theorem Pl {D : va_G} {w1 w2 : va_W} {H : Heap} (h : va_P D vwCl (w1 ++ w2) H) : va_P D vwCl w1 H := fun k q hk => h k q (ap_l hk)
theorem Pr {D : va_G} {w1 w2 : va_W} {H : Heap} (h : va_P D vwCl (w1 ++ w2) H) : va_P D vwCl w2 H := fun k q hk => h _ q (ap_r hk)
theorem Dl {A : Nat → Prop} {w1 w2 : va_W} (h : va_D A (w1 ++ w2)) : va_D A w1 := ⟨fun i j p q hi hj e => h.1 i j p q (ap_l hi) (ap_l hj) e, fun k q hk => h.2 k q (ap_l hk)⟩
theorem Dr {A : Nat → Prop} {w1 w2 : va_W} (h : va_D A (w1 ++ w2)) : va_D A w2 := ⟨fun i j p q hi hj e => by have := h.1 _ _ p q (ap_r hi) (ap_r hj) e; omega, fun k q hk => h.2 _ q (ap_r hk)⟩
theorem Dx {A : Nat → Prop} {w1 w2 : va_W} (h : va_D A (w1 ++ w2)) {i j : Nat} {p q : Nat × va_E} (hi : w1[i]? = some p) (hj : w2[j]? = some q) : p.1 ≠ q.1 := fun e => by
  have hlt : i < w1.length := (List.getElem?_eq_some_iff.mp hi).1
  have := h.1 _ _ p q (ap_l hi) (ap_r hj) e
  omega
theorem Wd.swap {D : va_G} {A : Nat → Prop} {H0 H : Heap} {w1 w2 : va_W} {locs : List Loc} (h : Wd D A H0 (w1 ++ w2) H locs) : Wd D A H0 (w2 ++ w1) H locs :=
  ⟨va_P.app (Pr h.1) (Pl h.1), va_D.app (Dr h.2.1) (Dl h.2.1) (fun i j p q hi hj e => Dx h.2.1 hj hi e.symm), h.2.2⟩
theorem Wd.join1 {D : va_G} {A : Nat → Prop} {H0 H H1 : Heap} {w1 w2 w1' : va_W} {locs locs1 : List Loc} (h : Wd D A H0 (w1 ++ w2) H locs) (hk : ∀ q : Nat, q < H.size → ¬ va_A w1 H.size q → H1[q]? = H[q]?) (hS : va_S A H0 H1 locs1) (hP1 : va_P D vwCl w1' H1) (hD1 : va_D (va_A w1 H.size) w1') : Wd D A H0 (w1' ++ w2) H1 locs1 := by
  have hr : ∀ (k : Nat) (q : Nat × va_E), w2[k]? = some q → q.1 < H.size ∧ ¬ va_A w1 H.size q.1 := fun k q hq => by
    have hl := (Pr h.1 k q hq).lt
    refine ⟨hl, fun z => ?_⟩
    rcases z with ⟨i, e, hi⟩ | z
    · exact Dx h.2.1 hi hq rfl
    · exact absurd z (Nat.not_le.mpr hl)
  have hc : ∀ q, va_A w1 H.size q → A q := fun q z => by
    rcases z with ⟨i, e, hi⟩ | z
    · exact (Dl h.2.1).2 i _ hi
    · exact h.2.2.2 q (Nat.le_trans h.2.2.1.1 z)
  refine ⟨va_P.app hP1 ((Pr h.1).kept fun k q hq => hk q.1 (hr k q hq).1 (hr k q hq).2), va_D.app (hD1.weaken fun _ _ _ z => hc _ z) (Dr h.2.1) (fun i j p q hi hj e => ?_), hS, h.2.2.2⟩
  exact (hr j q hj).2 (e ▸ hD1.2 i p hi)
theorem Met.ofH {l : Launch} {y : MethodName} {ws ws' : List Cond} {rm : Room} {Pc : Array Value → State → Prop} {Qc : Array Value → State → Outcome → State → Prop} {mc ms : Nat} {free : Addr → Prop} {cc : ByteArray} {maxL : Nat} {ret : Option FieldType} {hh : List (Nat × Nat × Nat × Nat)}
    (hy : plainName y.cls = true) (hw : ws = Cond.codeWith y cc maxL ret hh :: ws')
    (body : ∀ p e s m args below meth c s₁, BodyLoose p l y (headSpec ws rm) cc maxL ret e s m args below meth c s₁ → c.maxLocals = maxL → c.exceptionTable.toList = tableOf hh → Pc args s →
      W p l e (headSpec ws rm).room s m args below meth c s.heap [] 0 0 (MQ below Qc args s mc ms free) (entryFrame m args maxL)) : Met l y ws rm Pc Qc mc ms free := by
  refine MetFree.of_bodyS (code := cc) (maxLocals := maxL) (ret := ret) hy ?_ ?_
  · intro args s m h hn
    obtain ⟨m9, meth, c, hn9, h1, h2, h3, h4, -, h5, h6, -⟩ := Cond.codeWith_spec (atoms_spec (ws := ws) h _ (by rw [hw]; exact List.mem_cons_self))
    cases hn.symm.trans hn9
    exact ⟨meth, c, h1, h2, h3, h4, h5, h6⟩
  · intro p e s m args below meth c s₁ B hml hP _
    have hh0 : s₁.heap = s.heap := by rw [B.state]; rfl
    obtain ⟨t, a1, o, b1, b2, b3⟩ := body p e s m args below meth c s₁ B hml (vx_table (x := y) B (atoms_spec (ws := ws) B.pre _ (by rw [hw]; exact List.mem_cons_self))) hP s₁ hh0 (Stand.of_body B)
    exact ⟨t, o, a1, b1, b2, ⟨b3.1, b3.2⟩⟩
theorem Wd.nil {D : va_G} {A : Nat → Prop} {H0 H : Heap} {w : va_W} {locs : List Loc} (h : Wd D A H0 w H locs) : Wd D A H0 (w ++ []) H locs := by rw [List.append_nil]; exact h
theorem Wd.unnil {D : va_G} {A : Nat → Prop} {H0 H : Heap} {w : va_W} {locs : List Loc} (h : Wd D A H0 (w ++ []) H locs) : Wd D A H0 w H locs := by rw [List.append_nil] at h; exact h
/-- a method with a table that catches: it answers r, nothing old has changed, the heap has grown -/
def MB (l : Launch) (y : MethodName) (wsl : List Cond) (rm : Room) (D : va_G) (tys : List (ClassId × FieldType)) (As : List Value) (w0 : va_W) (r : Int32) : Prop :=
  ∀ sz : Nat, Met l y wsl rm (va_Pc As (MPreT D tys w0 sz)) (va_Qi (fun (r' : Int32) (_ : Unit) => r' = r) (fun _ t => sz < t.heap.size) (fun q => sz ≤ q)) 1 6 (fun q => sz ≤ q)
theorem MB.of {l : Launch} {y : MethodName} {wsl ws' : List Cond} {rm : Room} {D : va_G} {tys : List (ClassId × FieldType)} {As : List Value} {w0 : va_W} {r : Int32} {cc : ByteArray} {maxL : Nat} {hh : List (Nat × Nat × Nat × Nat)}
    (hy : plainName y.cls = true) (hws : wsl = Cond.codeWith y cc maxL (some .int) hh :: ws') (hla : (lg_sl As).length ≤ maxL)
    (body : ∀ (p : Program) (e : Env) (s : State) (m : MethodId) (args : Array Value) (below : List Frame) (meth : Method) (c : Code) (Q : State → Prop), CallFix p m c cc maxL s args wsl y.cls → va_K D vwCl tys s → ZT (fun q => s.heap.size ≤ q) s s.heap → va_D (fun _ => True) w0 → c.exceptionTable.toList = tableOf hh →
      (∀ {H : Heap} {locs : List Loc} {ls : Array Slot} {pc : Nat} {v : Int32}, va_S (fun q => s.heap.size ≤ q) s.heap H locs → s.heap.size < H.size → decode cc pc = .ok (.ireturn, 1) → v = r → W p l e rm s m args below meth c H locs 1 6 Q (F0 m pc ls [.int v])) →
      ∀ ls : Array Slot, lv_has ls maxL (lv_args 0 As) → Wt D (fun q => s.heap.size ≤ q) s.heap w0 s.heap [] → W p l e rm s m args below meth c s.heap [] 0 0 Q (F0 m 0 ls [])) : MB l y wsl rm D tys As w0 r := by
  intro sz
  refine Met.ofH (cc := cc) (maxL := maxL) (ret := some .int) (hh := hh) hy hws ?_
  intro p e s m args below meth c s₁ B hml ht hv
  obtain ⟨rfl, ⟨hsz, hP, hK, hD0⟩, hZ⟩ := hv
  subst hsz
  have hlocks := B.notSynchronized
  have hroom : (headSpec wsl rm).room = rm := rfl
  rw [hroom, lg_entry_eq]
  refine body p e s m _ below meth c _ ⟨B.exec, B.bytes, hml, findClass_of_methodNamed B.named, atoms_spec (ws := wsl) B.pre⟩ hK hZ hD0 ht ?_ _ (lv_entry As hla) ⟨hP, va_S.rf, fun q h => h, fun k q hk => ⟨(hP k q hk).lt, Nat.not_le.mpr (hP k q hk).lt⟩⟩
  intro H locs ls pc v hS hg hdg hvr
  subst hvr
  exact W.zret (v := v) (ty := .int) B.exec B.bytes B.returns rfl (fun t ht hW => ⟨⟨v, (), rfl, rfl, by show s.heap.size < t.heap.size; rw [ht]; exact hg⟩, hS.F ht⟩) hS.2.2 hdg
/-- a method that reads the world w0, makes at most mc cells, at least k, and answers r -/
def MPreZ (D : va_G) (tys : List (ClassId × FieldType)) (w0 : va_W) (sz : Nat) (U : State) : Prop := MPre D tys w0 sz U ∧ ZT (va_A w0 sz) U U.heap
theorem MPreZ.blind {D : va_G} {tys : List (ClassId × FieldType)} {w0 : va_W} {sz : Nat} {As : List Value} : FrameBlind (va_Pc As (MPreZ D tys w0 sz)) := fun a U g mk q => by
  obtain ⟨q0, qM, qZ⟩ := q
  refine ⟨q0, (MPre.blind (As := As) a U g mk ⟨q0, qM⟩).2, ?_⟩
  exact ⟨vx_Zq.moved (u := U) (U := U.calling g mk a) (Vm.Alike.refl U.vm) qZ.1, vx_Zq.moved (u := U) (U := U.calling g mk a) (Vm.Alike.refl U.vm) qZ.2.1, fun k q hk => (qZ.2.2.1 k q hk).imp fun a ha => vk_R.same (u := U) rfl ha, fun w hw => va_Nw.same (zzW.ok w hw) (u := U) rfl (qZ.2.2.2.1 w hw), va_Nc.moved (u := U) (U := U.calling g mk a) (Vm.Alike.refl U.vm) qZ.2.2.2.2⟩
def MR (l : Launch) (y : MethodName) (wsl : List Cond) (rm : Room) (D : va_G) (tys : List (ClassId × FieldType)) (As : List Value) (w0 : va_W) (r : Int32) (mc ms k : Nat) : Prop :=
  ∀ sz : Nat, Met l y wsl rm (va_Pc As (MPreZ D tys w0 sz)) (va_Qi (fun (r' : Int32) (_ : Unit) => r' = r) (fun _ t => va_P D vwCl w0 t.heap ∧ va_D (va_A w0 sz) w0 ∧ sz + k ≤ t.heap.size) (va_A w0 sz)) mc ms (va_A w0 sz)
theorem MR.of {l : Launch} {y : MethodName} {wsl ws' : List Cond} {rm : Room} {D : va_G} {tys : List (ClassId × FieldType)} {As : List Value} {w0 : va_W} {r : Int32} {mc ms k : Nat} {cc : ByteArray} {maxL : Nat} {ty : FieldType}
    (hy : plainName y.cls = true) (hws : wsl = Cond.code y cc maxL (some ty) :: ws') (hn : narrow ty (.int r) = .int r) (hla : (lg_sl As).length ≤ maxL)
    (body : ∀ (p : Program) (e : Env) (s : State) (m : MethodId) (args : Array Value) (below : List Frame) (meth : Method) (c : Code) (A : Nat → Prop) (Q : State → Prop), CallFix p m c cc maxL s args wsl y.cls → va_K D vwCl tys s → ZT A s s.heap →
      (∀ {H : Heap} {locs : List Loc} {ls : Array Slot} {pc : Nat} {v : Int32}, Wd D A s.heap w0 H locs → s.heap.size + k ≤ H.size → decode cc pc = .ok (.ireturn, 1) → v = r → W p l e rm s m args below meth c H locs mc ms Q (F0 m pc ls [.int v])) →
      ∀ ls : Array Slot, lv_has ls maxL (lv_args 0 As) → Wd D A s.heap w0 s.heap [] → W p l e rm s m args below meth c s.heap [] 0 0 Q (F0 m 0 ls [])) : MR l y wsl rm D tys As w0 r mc ms k := by
  intro sz
  refine Met.ofW (cc := cc) (maxL := maxL) (ret := some ty) hy hws ?_
  intro p e s m args below meth c s₁ B hml hv
  obtain ⟨rfl, ⟨hsz, hP, hK, hD0⟩, hZ⟩ := hv
  subst hsz
  have hlocks := B.notSynchronized
  have hroom : (headSpec wsl rm).room = rm := rfl
  rw [hroom, lg_entry_eq]
  refine body p e s m _ below meth c (va_A w0 s.heap.size) _ ⟨B.exec, B.bytes, hml, findClass_of_methodNamed B.named, atoms_spec (ws := wsl) B.pre⟩ hK hZ ?_ _ (lv_entry As hla) ⟨hP, hD0.self, va_S.rf, fun q h => Or.inr h⟩
  intro H locs ls pc v hw hg hdg hvr
  subst hvr
  exact W.zret (v := v) (ty := ty) B.exec B.bytes B.returns hn (fun t ht hW => ⟨⟨v, (), rfl, rfl, by rw [ht]; exact hw.1, hw.2.1, by rw [ht]; exact hg⟩, hw.2.2.1.F ht⟩) hw.2.2.1.2.2 hdg
/-- an element of the script, read by a static method -/
def MX (l : Launch) (y : MethodName) (wsl : List Cond) (rm : Room) (bs L : Nat) (xs : Nat → Int32) (k r : Int32) : Prop :=
  ∀ sz : Nat, Met l y wsl rm (va_Pc [.ref bs, .int k] (fun U => U.heap.size = sz ∧ va_X bs L xs U U.heap ∧ bs < sz)) (va_Qi (fun (r' : Int32) (_ : Unit) => r' = r) (fun _ _ => True) (fun q => sz ≤ q)) 0 0 (fun q => sz ≤ q)
section BL
variable {p : Program} {l : Launch} {e : Env} {R : Room} {s : State} {m : MethodId} {args : Array Value} {below : List Frame} {meth : Method} {c : Code} {H : Heap} {locs : List Loc} {cells slots : Nat} {Q : State → Prop}
variable {cc : ByteArray} {nL pc : Nat} {ls : Array Slot} {rest : List Value} {Ts : List Cond} {own : String} {D : va_G} {A : Nat → Prop} {H0 : Heap} {w1 w2 w1' : va_W} {tyc : List (ClassId × FieldType)}
variable {y : MethodName} {bytes : ByteArray} {maxL n index mc ms k : Nat} {ret : Option FieldType} {wsl : List Cond} {rm : Room} {C : String} {b : Nat} {As : List Value} {st : List Value} {hh : List (Nat × Nat × Nat × Nat)}
theorem Wd.cov1 (hw : Wd D A H0 (w1 ++ w2) H locs) : ∀ q, va_A w1 H.size q → A q := fun q z => by
  rcases z with ⟨i, e, hi⟩ | z
  · exact (Dl hw.2.1).2 i _ hi
  · exact hw.2.2.2 q (Nat.le_trans hw.2.2.1.1 z)
theorem bm_vi (S : CallFix p m c cc nL s args Ts own) (hK : va_K D vwCl tyc s) (hw : Wd D A H0 (w1 ++ w2) H locs) {r : Int32} (hM : MI l y wsl rm D tyc (.ref b :: As) w1 r w1') (cw : CallW R s args own C index y bytes maxL ret wsl rm 0 0 n) {q0 ci : Nat} {T : u_T} {N : Nat} {fs : List Value} (he : w1[q0]? = some (b, .inr (ci, fs))) (hc : vwCl[ci]? = some (C, T, N)) (hn : As.length = n) (hl : ls.size = nL) (hst : st = As.reverse ++ .ref b :: rest) (hr : (rest.map fun v => v.category).sum ≤ 8) (hcl : cells ≤ R.cells) (hsl : slots ≤ R.slots) (hdg : decode cc pc = .ok (.invokevirtual index, 3))
    (kk : ∀ (H1 : Heap) (locs1 : List Loc), Wd D A H0 (w1' ++ w2) H1 locs1 → H.size ≤ H1.size → W p l e R s m args below meth c H1 locs1 cells slots Q (F0 m (pc + 3) ls (.int r :: rest))) : W p l e R s m args below meth c H locs cells slots Q (F0 m pc ls st) := by
  have hF := hw.cov1
  refine va_calli (va_runV (As := As) (rest := rest) S (hM H.size) cw ⟨MPre.blind, va_recv hK (Pl hw.1) hc he, fun U hU hW => ⟨rfl, by rw [hU], by rw [hU]; exact Pl hw.1, va_K.moved hW.alike hK, (Dl hw.2.1).weaken (fun _ _ _ _ => trivial)⟩⟩ rfl hn hl hst (lv_room hr) hdg ⟨hcl, hsl⟩) hw.2.2.1 (fun q _ h => hF q h) hF (fun r' u t H1 locs1 ht hvm hp hB hz1 hk1 hS => ?_)
  subst hp
  rw [ht] at hB
  exact kk H1 locs1 (hw.join1 hk1 hS hB.1 hB.2) hz1
/-- the second of two objects -/
theorem bm_wi (S : CallFix p m c cc nL s args Ts own) (hK : va_K D vwCl tyc s) (hw : Wd D A H0 (w2 ++ w1) H locs) {r : Int32} (hM : MI l y wsl rm D tyc (.ref b :: As) w1 r w1') (cw : CallW R s args own C index y bytes maxL ret wsl rm 0 0 n) {q0 ci : Nat} {T : u_T} {N : Nat} {fs : List Value} (he : w1[q0]? = some (b, .inr (ci, fs))) (hc : vwCl[ci]? = some (C, T, N)) (hn : As.length = n) (hl : ls.size = nL) (hst : st = As.reverse ++ .ref b :: rest) (hr : (rest.map fun v => v.category).sum ≤ 8) (hcl : cells ≤ R.cells) (hsl : slots ≤ R.slots) (hdg : decode cc pc = .ok (.invokevirtual index, 3))
    (kk : ∀ (H1 : Heap) (locs1 : List Loc), Wd D A H0 (w2 ++ w1') H1 locs1 → H.size ≤ H1.size → W p l e R s m args below meth c H1 locs1 cells slots Q (F0 m (pc + 3) ls (.int r :: rest))) : W p l e R s m args below meth c H locs cells slots Q (F0 m pc ls st) :=
  bm_vi S hK hw.swap hM cw he hc hn hl hst hr hcl hsl hdg (fun H1 locs1 h g => kk H1 locs1 h.swap g)
/-- a static method that catches: a cell more, the world as it was -/
theorem bm_sb (S : CallFix p m c cc nL s args Ts own) (hK : va_K D vwCl tyc s) (hZ : ZT A s s.heap) (hw : Wd D A s.heap (w1 ++ w2) H locs) {r : Int32} (hM : MB l y wsl rm D tyc As w1 r) (cw : vx_CSW R s args own index y bytes maxL ret hh wsl rm 1 6 n) (hn : As.length = n) (hl : ls.size = nL) (hst : st = As.reverse ++ rest) (hr : (rest.map fun v => v.category).sum ≤ 8) (hcl : cells + 1 ≤ R.cells) (hsl : slots + 6 ≤ R.slots) (hdg : decode cc pc = .ok (.invokestatic index, 3))
    (kk : ∀ (H1 : Heap) (locs1 : List Loc), Wd D A s.heap (w1 ++ w2) H1 locs1 → H.size < H1.size → W p l e R s m args below meth c H1 locs1 (cells + 1) (slots + 6) Q (F0 m (pc + 3) ls (.int r :: rest))) : W p l e R s m args below meth c H locs cells slots Q (F0 m pc ls st) := by
  have hF : ∀ q : Nat, H.size ≤ q → A q := fun q h => hw.2.2.2 q (Nat.le_trans hw.2.2.1.1 h)
  refine va_calli (vx_runSW (As := As) (rest := rest) S (hM H.size) cw ⟨MPreT.blind, fun U hU hW => ⟨rfl, ⟨by rw [hU], by rw [hU]; exact Pl hw.1, va_K.moved hW.alike hK, (Dl hw.2.1).weaken (fun _ _ _ _ => trivial)⟩, by rw [hU]; exact hZ.to hW hw.2.2.1.2.1 hF⟩⟩ rfl hn hl hst (lv_room hr) hdg ⟨hcl, hsl⟩) hw.2.2.1 (fun q _ h => hF q h) hF (fun r' u t H1 locs1 ht hvm hp hB hz1 hk1 hS => ?_)
  subst hp
  rw [ht] at hB
  exact kk H1 locs1 ⟨hw.1.kept (fun k q hq => hk1 q.1 (hw.1 k q hq).lt (Nat.not_le.mpr (hw.1 k q hq).lt)), hw.2.1, hS, hw.2.2.2⟩ hB
theorem bm_wb (S : CallFix p m c cc nL s args Ts own) (hK : va_K D vwCl tyc s) (hZ : ZT A s s.heap) (hw : Wd D A s.heap (w2 ++ w1) H locs) {r : Int32} (hM : MB l y wsl rm D tyc As w1 r) (cw : vx_CSW R s args own index y bytes maxL ret hh wsl rm 1 6 n) (hn : As.length = n) (hl : ls.size = nL) (hst : st = As.reverse ++ rest) (hr : (rest.map fun v => v.category).sum ≤ 8) (hcl : cells + 1 ≤ R.cells) (hsl : slots + 6 ≤ R.slots) (hdg : decode cc pc = .ok (.invokestatic index, 3))
    (kk : ∀ (H1 : Heap) (locs1 : List Loc), Wd D A s.heap (w2 ++ w1) H1 locs1 → H.size < H1.size → W p l e R s m args below meth c H1 locs1 (cells + 1) (slots + 6) Q (F0 m (pc + 3) ls (.int r :: rest))) : W p l e R s m args below meth c H locs cells slots Q (F0 m pc ls st) :=
  bm_sb S hK hZ hw.swap hM cw hn hl hst hr hcl hsl hdg (fun H1 locs1 h g => kk H1 locs1 h.swap g)
/-- a static method of MR's kind -/
theorem bm_sr (S : CallFix p m c cc nL s args Ts own) (hK : va_K D vwCl tyc s) (hZ : ZT A s s.heap) (hw : Wd D A s.heap (w1 ++ w2) H locs) {r : Int32} (hM : MR l y wsl rm D tyc As w1 r mc ms k) (cw : CallB R s args own index y bytes maxL ret wsl rm mc ms n ∧ (Cond.static y).before args s = true) (hn : As.length = n) (hl : ls.size = nL) (hst : st = As.reverse ++ rest) (hr : (rest.map fun v => v.category).sum ≤ 8) (hcl : cells + mc ≤ R.cells) (hsl : slots + ms ≤ R.slots) (hdg : decode cc pc = .ok (.invokestatic index, 3))
    (kk : ∀ (H1 : Heap) (locs1 : List Loc), Wd D A s.heap (w1 ++ w2) H1 locs1 → H.size + k ≤ H1.size → W p l e R s m args below meth c H1 locs1 (cells + mc) (slots + ms) Q (F0 m (pc + 3) ls (.int r :: rest))) : W p l e R s m args below meth c H locs cells slots Q (F0 m pc ls st) := by
  have hF := hw.cov1
  refine va_calli (va_runS (As := As) (rest := rest) S (hM H.size) cw ⟨MPreZ.blind, fun U hU hW => ⟨rfl, ⟨by rw [hU], by rw [hU]; exact Pl hw.1, va_K.moved hW.alike hK, (Dl hw.2.1).weaken (fun _ _ _ _ => trivial)⟩, by rw [hU]; exact hZ.to hW hw.2.2.1.2.1 hF⟩⟩ rfl hn hl hst (lv_room hr) hdg ⟨hcl, hsl⟩) hw.2.2.1 (fun q _ h => hF q h) hF (fun r' u t H1 locs1 ht hvm hp hB hz1 hk1 hS => ?_)
  subst hp
  rw [ht] at hB
  exact kk H1 locs1 (hw.join1 hk1 hS hB.1 hB.2.1) hB.2.2
/-- a static method of ints alone -/
theorem bm_si (S : CallFix p m c cc nL s args Ts own) (hK : va_K D vwCl tyc s) {ws : va_W} (hw : Wd D A H0 ws H locs) {r : Int32} (hM : MI l y wsl rm D tyc As [] r []) (cw : CallB R s args own index y bytes maxL ret wsl rm 0 0 n ∧ (Cond.static y).before args s = true) (hn : As.length = n) (hl : ls.size = nL) (hst : st = As.reverse ++ rest) (hr : (rest.map fun v => v.category).sum ≤ 8) (hcl : cells ≤ R.cells) (hsl : slots ≤ R.slots) (hdg : decode cc pc = .ok (.invokestatic index, 3))
    (kk : ∀ (H1 : Heap) (locs1 : List Loc), Wd D A H0 ws H1 locs1 → H.size ≤ H1.size → W p l e R s m args below meth c H1 locs1 cells slots Q (F0 m (pc + 3) ls (.int r :: rest))) : W p l e R s m args below meth c H locs cells slots Q (F0 m pc ls st) := by
  have hF : ∀ q, va_A [] H.size q → A q := fun q h => hw.2.2.2 q (Nat.le_trans hw.2.2.1.1 (va_A.nil h))
  refine va_calli (va_runS (As := As) (rest := rest) S (hM H.size) cw ⟨MPre.blind, fun U hU hW => ⟨rfl, by rw [hU], (fun k q h => by simp at h), va_K.moved hW.alike hK, ⟨fun i j p q h => by simp at h, fun k q h => by simp at h⟩⟩⟩ rfl hn hl hst (lv_room hr) hdg ⟨hcl, hsl⟩) hw.2.2.1 (fun q _ h => hF q h) hF (fun r' u t H1 locs1 ht hvm hp hB hz1 hk1 hS => ?_)
  subst hp
  exact kk H1 locs1 ⟨hw.1.kept (fun k q hq => hk1 q.1 (hw.1 k q hq).lt (fun h => absurd (va_A.nil h) (Nat.not_le.mpr (hw.1 k q hq).lt))), hw.2.1, hS, hw.2.2.2⟩ hz1
/-- the script's element -/
theorem bm_sx {bs L : Nat} {xs : Nat → Int32} {kx r : Int32} (S : CallFix p m c cc nL s args Ts own) (hX : va_X bs L xs s s.heap) (hbl : bs < s.heap.size) (hbA : ¬ A bs) {ws : va_W} (hw : Wd D A s.heap ws H locs) (hM : MX l y wsl rm bs L xs kx r) (cw : CallB R s args own index y bytes maxL ret wsl rm 0 0 n ∧ (Cond.static y).before args s = true) (hn : 2 = n) (hl : ls.size = nL) (hst : st = .int kx :: .ref bs :: rest) (hr : (rest.map fun v => v.category).sum ≤ 8) (hcl : cells ≤ R.cells) (hsl : slots ≤ R.slots) (hdg : decode cc pc = .ok (.invokestatic index, 3))
    (kk : ∀ (H1 : Heap) (locs1 : List Loc), Wd D A s.heap ws H1 locs1 → H.size ≤ H1.size → W p l e R s m args below meth c H1 locs1 cells slots Q (F0 m (pc + 3) ls (.int r :: rest))) : W p l e R s m args below meth c H locs cells slots Q (F0 m pc ls st) := by
  have hF : ∀ q : Nat, H.size ≤ q → A q := fun q h => hw.2.2.2 q (Nat.le_trans hw.2.2.1.1 h)
  refine va_calli (va_runS (As := [.ref bs, .int kx]) (rest := rest) S (hM H.size) cw ⟨fun a U g mk q => ⟨q.1, q.2.1, va_X.moved (u := U) (U := U.calling g mk a) (Vm.Alike.refl U.vm) q.2.2.1, q.2.2.2⟩, fun U hU hW => ⟨rfl, by rw [hU], by rw [hU]; exact (va_X.moved hW.alike hX).kept (hw.2.2.1.2.1 bs hbl hbA), Nat.lt_of_lt_of_le hbl hw.2.2.1.1⟩⟩ rfl hn hl hst (lv_room hr) hdg ⟨hcl, hsl⟩) hw.2.2.1 (fun q _ h => hF q h) hF (fun r' u t H1 locs1 ht hvm hp hB hz1 hk1 hS => ?_)
  subst hp
  exact kk H1 locs1 ⟨hw.1.kept (fun k q hq => hk1 q.1 (hw.1 k q hq).lt (Nat.not_le.mpr (hw.1 k q hq).lt)), hw.2.1, hS, hw.2.2.2⟩ hz1
/-- a virtual call that throws, seen by a method with a table -/
theorem bl_vx {E : String} (S : CallFix p m c cc nL s args Ts own) (hK : va_K D vwCl tyc s) (hZ : ZT (fun q => s.heap.size ≤ q) s s.heap) (hw : Wt D (fun q => s.heap.size ≤ q) s.heap w1 H locs) (hD : va_D (fun _ => True) w1) (hM : MT l y wsl rm D tyc (.ref b :: As) w1 E) (cw : CallW R s args own C index y bytes maxL ret wsl rm 1 6 n) {q0 ci : Nat} {T : u_T} {N : Nat} {fs : List Value} (he : w1[q0]? = some (b, .inr (ci, fs))) (hc : vwCl[ci]? = some (C, T, N)) (hn : As.length = n) (hl : ls.size = nL) (hst : st = As.reverse ++ .ref b :: rest) (hr : (rest.map fun v => v.category).sum ≤ 8) (hcl : cells + 1 ≤ R.cells) (hsl : slots + 6 ≤ R.slots) (hdg : decode cc pc = .ok (.invokevirtual index, 3))
    (kx : ∀ (ce : Cell) (q9 : Addr) (H1 : Heap) (locs1 : List Loc), H.size < H1.size → va_S (fun q => s.heap.size ≤ q) s.heap H1 locs1 → H1[q9]? = some ce → ce.vm = .none → s.vm.findClass E = some ce.cls → vx_W p l e R s m args below meth c H1 locs1 (cells + 1) (slots + 6) Q (F0 m pc ls rest) q9) : W p l e R s m args below meth c H locs cells slots Q (F0 m pc ls st) := by
  have hF : ∀ q : Nat, H.size ≤ q → s.heap.size ≤ q := fun q h => Nat.le_trans hw.2.1.1 h
  refine bt_run (rest := rest) (vx_runV (As := As) (rest := rest) S (hM H.size) cw ⟨MPreT.blind, va_recv hK hw.1 hc he, fun U hU hW => ⟨rfl, ⟨by rw [hU], by rw [hU]; exact hw.1, va_K.moved hW.alike hK, hD⟩, by rw [hU]; exact hZ.to hW hw.2.1.2.1 hF⟩⟩ rfl hn hl hst (lv_room hr) hdg ⟨hcl, hsl⟩) hw.2.1 hF (fun q _ h => hF q h) (fun ce q9 H1 locs1 hz1 hk1 hS hce hcv hcf => kx ce q9 H1 locs1 hz1 hS hce hcv hcf)
end BL
