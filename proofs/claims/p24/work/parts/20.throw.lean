/-! ===== methods that throw, on the arguments for which they do; each makes a cell (the row vg_throwS follows the printed vx_throwS, with the heap's growth told at its end) ===== -/
section VG
variable {p : Program} {l : Launch} {e : Env} {R : Room} {s : State} {m : MethodId} {args : Array Value} {below : List Frame} {meth : Method} {c : Code} {H : Heap} {locs : List Loc} {cells slots : Nat} {Q : State → Prop} {ls : Array Slot} {rest : List Value} {Qc : Array Value → State → Outcome → State → Prop} {XC : String → State → State → Prop} {free : Addr → Prop}
theorem vg_throwS {cc : ByteArray} {pc : Nat} (hexec : p.tables.exec = Jvm.exec) (hb : c.code = cc) (hl : l.stackTraces = false) {own cls text : String} {names : List String} {ik is ic mc ms sa : Nat} {A : Nat → Prop}
    (hown : s.vm.findClass own = some m.cls) (hcls : Bundle.fit cls = true) (hnames : ∀ n ∈ names, Bundle.fit n = true)
    (hk : (Cond.classLink own ik cls).before args s = true) (hini : (Cond.initialized cls).before args s = true) (hstr : vk_R own is text sa s) (hat : ∀ w ∈ vx_atS own ic cls names, w.before args s = true)
    (hgood : ∀ w ∈ Cond.classLink own ik cls :: Cond.initialized cls :: vx_atS own ic cls names, vx_ot w = true)
    (hU : vx_Zq Bundle.tN "UNASSIGNED_STACK" Bundle.steD A s s.heap) (hN : vx_Zq Bundle.tN "SUPPRESSED_SENTINEL" Bundle.listD A s s.heap) (hS : va_S A s.heap H locs) (hsize : ls.size = c.maxLocals)
    (d0 : decode cc pc = .ok (.new ik, 3)) (d3 : decode cc (pc + 3) = .ok (.dup, 1)) (d4 : decode cc (pc + 4) = .ok (.ldc is, 2)) (d6 : decode cc (pc + 6) = .ok (.invokespecial ic, 3)) (d9 : decode cc (pc + 9) = .ok (.athrow, 1))
    (hout : ∀ x ∈ c.exceptionTable.toList, covers x (pc + 9) = false)
    (hRframes : names.length + 3 < R.frames) (hRlocals : (rest.map fun v => v.category).sum + (13 * (names.length + 1) + 43) ≤ R.locals) (hRcells : cells + 1 ≤ R.cells) (hRslots : slots + 6 ≤ R.slots) (hlocks : meth.locks = false)
    (hx : ∀ t : State, s.vm.Alike t.vm → H.size < t.heap.size → (∀ q : Nat, q < H.size → t.heap[q]? = H[q]?) → XC cls s t)
    (hf : ∀ z ∈ locs, free z.base) (hc : cells + 1 ≤ mc) (hs : slots + 6 ≤ ms) :
    W p l e R s m args below meth c H locs cells slots (vx_MQ below Qc XC args s mc ms free) (F0 m pc ls rest) := by
  intro T hT X
  have htr : e.platform.stackTraces = false := (show e.platform.stackTraces = l.stackTraces by rw [X.admits.platform]).trans hl
  have Y := vx_rebase X (R' := { frames := R.frames, locals := R.locals, cells := 1, slots := 6 }) (Nat.le_refl _) (Nat.le_refl _) hRcells hRslots
  obtain ⟨s', hA⟩ : ∃ z, z = (T.setVm s.vm).setFrames (.invoking m args :: below) := ⟨_, rfl⟩
  rw [← hA] at Y
  have hvm : s'.vm = s.vm := by rw [hA]; rfl
  have hhp : s'.heap = H := by rw [hA]; exact hT
  have hW0 : s.WarmedH s'.vm := by rw [hvm]; exact State.WarmedH.refl s
  have hat' : ∀ w ∈ vx_atS own ic cls names, w.before args s' = true := fun w hw => vx_ot_at hW0 hvm.symm (hgood w (List.mem_cons_of_mem _ (List.mem_cons_of_mem _ hw))) (hat w hw)
  have hk' : (Cond.classLink own ik cls).before args s' = true := vx_ot_at hW0 hvm.symm (hgood _ List.mem_cons_self) hk
  have hini' : (Cond.initialized cls).before args s' = true := vx_ot_at hW0 hvm.symm (hgood _ (List.mem_cons_of_mem _ List.mem_cons_self)) hini
  have hU' : vx_Zq Bundle.tN "UNASSIGNED_STACK" Bundle.steD A s' s'.heap := by rw [hhp]; exact vx_Zq.moved hW0.alike (hU.kept hS.2.1)
  have hN' : vx_Zq Bundle.tN "SUPPRESSED_SENTINEL" Bundle.listD A s' s'.heap := by rw [hhp]; exact vx_Zq.moved hW0.alike (hN.kept hS.2.1)
  have h : ∀ w ∈ Bundle.ownAtoms own ic cls names, w.before args s' = true := vx_own hat' (vx_isRefq hU'.1) (vx_isRefq hN'.1) hU'.2.word hN'.2.word
  have hown' : s'.vm.findClass own = some m.cls := by rw [hvm]; exact hown
  have hins : (Cond.instantiable cls 6).before args s' = true := h _ (by simp [Bundle.ownAtoms])
  obtain ⟨vm₁, cX, kX, hfX, hkX, -, -, X₁, st1⟩ := Y.newCold hexec (own := own) (C := cls) (index := ik) (n := 6) hown' hk' hins hini'
    (g := F0 m pc ls rest) rfl (by rw [hb]; exact d0) (Nat.le_refl _) (Nat.le_refl _)
  generalize hT1 : (T.setVm vm₁).pushCell { cls := cX, slots := kX.instanceTypes.map defaultValue, vm := .none } = T1 at X₁ st1
  have hcat : (Value.ref T.heap.size).category = 1 := rfl
  have hcellA : T1.heap[T.heap.size]? = some (freshCell cX kX) := by rw [← hT1]; exact State.heap_pushCell_size _ _
  have d3' : decode c.code (pc + 3) = .ok (.dup, 1) := by rw [hb]; exact d3
  have d4' : decode c.code (pc + 4) = .ok (.ldc is, 2) := by rw [hb]; exact d4
  have hstr' : vk_R own is text sa s' := vk_R.warm hW0 hstr
  obtain ⟨U, hsteps, hrun, hend, hW, hsame, ce, hce, hO⟩ := X₁.ctorThrowS hexec htr (own := own) (cls := cls) (names := names) (ic := ic) hown' hcls hnames h (fun x hx => nomatch hx) hfX hkX hcellA (by rw [hhp, hT]; exact Nat.le_refl _) (msg := .ref sa) rfl
    (g := { method := m, pc := pc + 6, locals := ls, stack := .ref sa :: .ref T.heap.size :: .ref T.heap.size :: rest, locked := none }) rfl hsize rfl rfl (rest := rest) rfl
    (by rw [hb]; exact d6) (by rw [hb]; exact d9) hout hRframes (by simp only [List.map_cons, List.sum_cons, hcat]; omega) hlocks
  obtain ⟨f1, f2⟩ := vx_frame hsame
  rw [hhp] at f1 f2
  have hWs : s.WarmedH U.vm := State.WarmedH.trans hW0 hW
  have hcl : s.vm.findClass cls = some ce.cls := by
    have h9 := hO.cls
    rw [hvm] at h9
    exact h9
  have hall : s.sameButNew ({ U with vm := s.vm } : State) locs mc ms := by
    subst hA
    obtain ⟨e1, e2⟩ := hsame
    rw [State.setFrames_setFrames] at e1
    have h2 : (T.setVm s.vm).sameButNew ({ U with vm := s.vm } : State) [] (0 + 1) (0 + 6) := ⟨e1, e2⟩
    have h3 := X.same.trans h2
    rw [List.append_nil] at h3
    exact h3.mono hc hs
  refine ⟨U, ?_, .threw T.heap.size, hrun, hend, Or.inr ⟨T.heap.size, rfl, cls, ce, locs, hx U hWs.alike (by have h9 := (Array.getElem?_eq_some_iff.mp hce).1; rw [hT] at h9; exact h9) (fun q hq => f2 q hq (fun z hz => nomatch hz)), hce, hO.vm, hcl, hWs, hall, hf⟩⟩
  refine st1 _ ?_
  show Steps p.tables e below (T1.setTop { method := m, pc := pc + 3, locals := ls, stack := .ref T.heap.size :: rest, locked := none }) _
  jvm_step X₁.here [X₁.here.top, hexec, d3', Value.category]
  exact X₁.ldcString hexec (own := own) (text := text) (index := is) (a := sa) hown' hstr'.1 hstr'.2
    (g := { method := m, pc := pc + 4, locals := ls, stack := .ref T.heap.size :: .ref T.heap.size :: rest, locked := none }) rfl d4' _ hsteps
end VG
def lw_str : List (Nat × String) := [(155, "a router is 0 to 3"), (157, "a group is 0 to 2"), (159, "a link is 0 or 1"), (161, "a parameter is out of its range"), (89, "a router can't be joined with itself"), (96, "the router is dead"), (99, "the router is alive"), (101, "the router is no master of the group"), (122, "the router takes no part in the group")]
def zzW : List Cond := [.declares (Bundle.initS "java/lang/RuntimeException"), .declares (Bundle.initS "java/lang/Exception"), .declares (Bundle.initS "java/lang/Throwable"), .castable "java/lang/IllegalArgumentException" "java/lang/IllegalArgumentException", .castable "java/lang/IllegalStateException" "java/lang/IllegalStateException"]
theorem zzW.ok : ∀ w ∈ zzW, w.onTables = true := by decide +kernel
theorem zzW.warm {s U : State} (hW : s.WarmedH U.vm) (h : ∀ w ∈ zzW, va_Nw w s) : ∀ w ∈ zzW, va_Nw w U := by
  intro w hw
  have h1 := h w hw
  simp only [zzW, List.mem_cons, List.not_mem_nil, or_false] at hw
  rcases hw with rfl | rfl | rfl | rfl | rfl
  · exact va_Nw.warmD hW h1
  · exact va_Nw.warmD hW h1
  · exact va_Nw.warmD hW h1
  · exact va_Nw.warmC hW h1
  · exact va_Nw.warmC hW h1
/-- what a throw needs of the JDK: two statics, the texts, words of the tables -/
def ZT (A : Nat → Prop) (U : State) (H : Heap) : Prop := vx_Zq Bundle.tN "UNASSIGNED_STACK" Bundle.steD A U H ∧ vx_Zq Bundle.tN "SUPPRESSED_SENTINEL" Bundle.listD A U H ∧ (∀ (k : Nat) (q : Nat × String), lw_str[k]? = some q → (∃ a : Nat, vk_R RX0 q.1 q.2 a U)) ∧ (∀ w ∈ zzW, va_Nw w U) ∧ va_Nc "java/lang/IllegalStateException" "java/lang/IllegalArgumentException" U
theorem ZT.to {A B : Nat → Prop} {s U : State} {H H1 : Heap} (h : ZT A s H) (hW : s.WarmedH U.vm) (hq : ∀ a : Nat, a < H.size → ¬ A a → H1[a]? = H[a]?) (hB : ∀ q, B q → A q) : ZT B U H1 :=
  ⟨vx_Zq.moved hW.alike ((h.1.kept hq).narrow hB), vx_Zq.moved hW.alike ((h.2.1.kept hq).narrow hB), fun k q hk => (h.2.2.1 k q hk).imp fun a ha => vk_R.warm hW ha, zzW.warm hW h.2.2.2.1, va_Nc.moved hW.alike h.2.2.2.2⟩
def MPreT (D : va_G) (tys : List (ClassId × FieldType)) (w0 : va_W) (sz : Nat) (U : State) : Prop := MPre D tys w0 sz U ∧ ZT (fun q => sz ≤ q) U U.heap
def XT (E : String) (sz : Nat) : String → State → State → Prop := vx_X (fun (_ : Unit) => True) (fun E' _ t => E' = E ∧ sz < t.heap.size) (fun q => sz ≤ q)
def MT (l : Launch) (y : MethodName) (wsl : List Cond) (rm : Room) (D : va_G) (tys : List (ClassId × FieldType)) (As : List Value) (w0 : va_W) (E : String) : Prop :=
  ∀ sz : Nat, vx_Met l y wsl rm (va_Pc As (MPreT D tys w0 sz)) (fun _ _ _ _ => False) (XT E sz) 1 6 (fun q => sz ≤ q)
theorem MPreT.blind {D : va_G} {tys : List (ClassId × FieldType)} {w0 : va_W} {sz : Nat} {As : List Value} : FrameBlind (va_Pc As (MPreT D tys w0 sz)) := fun a U g mk q => by
  obtain ⟨q0, qM, qZ⟩ := q
  refine ⟨q0, (MPre.blind (As := As) a U g mk ⟨q0, qM⟩).2, ?_⟩
  exact ⟨vx_Zq.moved (u := U) (U := U.calling g mk a) (Vm.Alike.refl U.vm) qZ.1, vx_Zq.moved (u := U) (U := U.calling g mk a) (Vm.Alike.refl U.vm) qZ.2.1, fun k q hk => (qZ.2.2.1 k q hk).imp fun a ha => vk_R.same (u := U) rfl ha, fun w hw => va_Nw.same (zzW.ok w hw) (u := U) rfl (qZ.2.2.2.1 w hw), va_Nc.moved (u := U) (U := U.calling g mk a) (Vm.Alike.refl U.vm) qZ.2.2.2.2⟩
abbrev QT (below : List Frame) (E : String) (args : Array Value) (s : State) : State → Prop := vx_MQ below (fun _ _ _ _ => False) (XT E s.heap.size) args s 1 6 (fun q => s.heap.size ≤ q)
theorem MT.of {l : Launch} {y : MethodName} {wsl ws' : List Cond} {rm : Room} {D : va_G} {tys : List (ClassId × FieldType)} {As : List Value} {w0 : va_W} {E : String} {cc : ByteArray} {maxL : Nat} {ret : Option FieldType}
    (hy : plainName y.cls = true) (hws : wsl = Cond.code y cc maxL ret :: ws') (hla : (lg_sl As).length ≤ maxL)
    (body : ∀ (p : Program) (e : Env) (s : State) (m : MethodId) (args : Array Value) (below : List Frame) (meth : Method) (c : Code), CallFix p m c cc maxL s args wsl y.cls → va_K D vwCl tys s → ZT (fun q => s.heap.size ≤ q) s s.heap → meth.locks = false → (∀ x ∈ c.exceptionTable.toList, False) →
      ∀ ls : Array Slot, lv_has ls maxL (lv_args 0 As) → Wt D (fun q => s.heap.size ≤ q) s.heap w0 s.heap [] → W p l e rm s m args below meth c s.heap [] 0 0 (QT below E args s) (F0 m 0 ls [])) : MT l y wsl rm D tys As w0 E := by
  intro sz
  refine vx_ofW (cc := cc) (maxL := maxL) (ret := ret) hy hws ?_
  intro p e s m args below meth c s₁ B hml ht hv
  obtain ⟨rfl, ⟨hsz, hP, hK, hD0⟩, hZ⟩ := hv
  subst hsz
  have hroom : (headSpec wsl rm).room = rm := rfl
  rw [hroom, lg_entry_eq]
  exact body p e s m _ below meth c ⟨B.exec, B.bytes, hml, findClass_of_methodNamed B.named, atoms_spec (ws := wsl) B.pre⟩ hK hZ B.notSynchronized ht _ (lv_entry As hla) ⟨hP, va_S.rf, fun q h => h, fun k q hk => ⟨(hP k q hk).lt, Nat.not_le.mpr (hP k q hk).lt⟩⟩
theorem va_P_nil {D : va_G} {H : Heap} : va_P D vwCl [] H := fun k q h => by simp at h
theorem va_D_nil {A : Nat → Prop} : va_D A ([] : va_W) := ⟨fun i j p q h => by simp at h, fun k q h => by simp at h⟩
section BT
variable {p : Program} {l : Launch} {e : Env} {R : Room} {s : State} {m : MethodId} {args : Array Value} {below : List Frame} {meth : Method} {c : Code} {H : Heap} {locs : List Loc} {cells slots : Nat} {Q : State → Prop}
variable {cc : ByteArray} {nL pc : Nat} {ls : Array Slot} {rest : List Value} {Ts : List Cond} {own : String} {D : va_G} {A : Nat → Prop} {H0 : Heap} {ws ws' : va_W} {tys : List (ClassId × FieldType)}
variable {y : MethodName} {bytes : ByteArray} {maxL n index : Nat} {ret : Option FieldType} {wsl : List Cond} {rm : Room} {C : String} {b : Nat} {As : List Value} {st : List Value}
theorem bt_si (S : CallFix p m c cc nL s args Ts own) (hK : va_K D vwCl tys s) (hw : Wt D A H0 ws H locs) {r : Int32} (hM : MI l y wsl rm D tys As [] r []) (cw : CallB R s args own index y bytes maxL ret wsl rm 0 0 n ∧ (Cond.static y).before args s = true) (hn : As.length = n) (hl : ls.size = nL) (hst : st = As.reverse ++ rest) (hr : (rest.map fun v => v.category).sum ≤ 8) (hcl : cells ≤ R.cells) (hsl : slots ≤ R.slots) (hdg : decode cc pc = .ok (.invokestatic index, 3))
    (kk : ∀ (H1 : Heap) (locs1 : List Loc), Wt D A H0 ws H1 locs1 → W p l e R s m args below meth c H1 locs1 cells slots Q (F0 m (pc + 3) ls (.int r :: rest))) : W p l e R s m args below meth c H locs cells slots Q (F0 m pc ls st) := by
  have hF : ∀ q, va_A [] H.size q → A q := fun q h => hw.2.2.1 q (Nat.le_trans hw.2.1.1 (va_A.nil h))
  refine va_calli (va_runS (As := As) (rest := rest) S (hM H.size) cw ⟨MPre.blind, fun U hU hW => ⟨rfl, by rw [hU], va_P_nil, va_K.moved hW.alike hK, va_D_nil⟩⟩ rfl hn hl hst (lv_room hr) hdg ⟨hcl, hsl⟩) hw.2.1 (fun q _ h => hF q h) hF (fun r' u t H1 locs1 ht hvm hp hB hz1 hk1 hS => ?_)
  subst hp
  exact kk H1 locs1 ⟨hw.1.kept (fun k q hq => hk1 q.1 (hw.1 k q hq).lt (fun h => absurd (va_A.nil h) (Nat.not_le.mpr (hw.1 k q hq).lt))), hS, hw.2.2.1, hw.2.2.2⟩
theorem bt_sv (S : CallFix p m c cc nL s args Ts own) (hK : va_K D vwCl tys s) (hw : Wt D A H0 ws H locs) (hM : MV l y wsl rm D tys As [] []) (cw : CallB R s args own index y bytes maxL ret wsl rm 0 0 n ∧ (Cond.static y).before args s = true) (hn : As.length = n) (hl : ls.size = nL) (hst : st = As.reverse ++ rest) (hr : (rest.map fun v => v.category).sum ≤ 8) (hcl : cells ≤ R.cells) (hsl : slots ≤ R.slots) (hdg : decode cc pc = .ok (.invokestatic index, 3))
    (kk : ∀ (H1 : Heap) (locs1 : List Loc), Wt D A H0 ws H1 locs1 → W p l e R s m args below meth c H1 locs1 cells slots Q (F0 m (pc + 3) ls rest)) : W p l e R s m args below meth c H locs cells slots Q (F0 m pc ls st) := by
  have hF : ∀ q, va_A [] H.size q → A q := fun q h => hw.2.2.1 q (Nat.le_trans hw.2.1.1 (va_A.nil h))
  refine va_callv (va_runS (As := As) (rest := rest) S (hM H.size) cw ⟨MPre.blind, fun U hU hW => ⟨rfl, by rw [hU], va_P_nil, va_K.moved hW.alike hK, va_D_nil⟩⟩ rfl hn hl hst (lv_room hr) hdg ⟨hcl, hsl⟩) hw.2.1 (fun q _ h => hF q h) hF (fun u t H1 locs1 ht hvm hp hB hz1 hk1 hS => ?_)
  exact kk H1 locs1 ⟨hw.1.kept (fun k q hq => hk1 q.1 (hw.1 k q hq).lt (fun h => absurd (va_A.nil h) (Nat.not_le.mpr (hw.1 k q hq).lt))), hS, hw.2.2.1, hw.2.2.2⟩
/-- a call that throws E -/
theorem bt_run {E : String} {n0 : Nat} {free AX : Nat → Prop} {A0 : Nat → Prop} {st0 : List Value} (hr : vx_Run p l e R s m args below meth c H locs cells slots 1 6 (F0 m pc ls st0) rest (fun _ _ _ => False) (vx_X (fun (_ : Unit) => True) (fun E' _ t => E' = E ∧ n0 < t.heap.size) AX) free) (hS : va_S A0 H0 H locs) (hf : ∀ q, free q → A0 q) (hAX : ∀ q, q < H.size → AX q → A0 q)
    (kx : ∀ (ce : Cell) (q9 : Addr) (H1 : Heap) (locs1 : List Loc), n0 < H1.size → (∀ q : Nat, q < H.size → ¬ AX q → H1[q]? = H[q]?) → va_S A0 H0 H1 locs1 → H1[q9]? = some ce → ce.vm = .none → s.vm.findClass E = some ce.cls → vx_W p l e R s m args below meth c H1 locs1 (cells + 1) (slots + 6) Q (F0 m pc ls rest) q9) : W p l e R s m args below meth c H locs cells slots Q (F0 m pc ls st0) := by
  intro T hT X
  rcases hr T hT X with ⟨v, st₀, t, T', L, h0, X', hL, e1, e2, hf9, st⟩ | ⟨q, st₀, t, T', L, E1, ce, h0, X', hL, e1, e2, ⟨u, hp, hb, hF⟩, hce, hcv, hcl, st⟩
  · exact hf9.elim
  · obtain ⟨k1, k2, k3⟩ := vx_keep h0 e1 hS hAX hf hL hF
    obtain ⟨rfl, hb2⟩ := hb
    obtain ⟨t2, a1, b1⟩ := kx ce q T'.heap (locs ++ L) (by rw [e1]; exact hb2) k2 k3 (by rw [e1]; exact hce) hcv hcl T' rfl X'
    exact ⟨t2, st.trans a1, b1⟩
/-- a static call that throws, and the throw leaves this method too -/
theorem bt_sx {E : String} (S : CallFix p m c cc nL s args Ts own) (hK : va_K D vwCl tys s) (hZ : ZT (fun q => s.heap.size ≤ q) s s.heap) (hlk : meth.locks = false) (hx : ∀ x ∈ c.exceptionTable.toList, False) (hw : Wt D (fun q => s.heap.size ≤ q) s.heap ws H locs) (hM : MT l y wsl rm D tys As [] E) (cw : CallB R s args own index y bytes maxL ret wsl rm 1 6 n ∧ (Cond.static y).before args s = true) (hn : As.length = n) (hl : ls.size = nL) (hst : st = As.reverse ++ rest) (hr : (rest.map fun v => v.category).sum ≤ 8) (hcl : 0 + 1 ≤ R.cells) (hsl : 0 + 6 ≤ R.slots) (hdg : decode cc pc = .ok (.invokestatic index, 3)) :
    W p l e R s m args below meth c H locs 0 0 (QT below E args s) (F0 m pc ls st) := by
  have hF : ∀ q : Nat, H.size ≤ q → s.heap.size ≤ q := fun q h => Nat.le_trans hw.2.1.1 h
  refine bt_run (rest := rest) (vx_runS (As := As) (rest := rest) S (hM H.size) cw ⟨MPreT.blind, fun U hU hW => ⟨rfl, ⟨by rw [hU], va_P_nil, va_K.moved hW.alike hK, va_D_nil⟩, by rw [hU]; exact hZ.to hW hw.2.1.2.1 hF⟩⟩ rfl hn hl hst (lv_room hr) hdg ⟨hcl, hsl⟩) hw.2.1 hF (fun q _ h => hF q h) (fun ce q9 H1 locs1 hz1 hk1 hS hce hcv hcf => ?_)
  exact vx_out (fun x h => (hx x h).elim) hlk hce hcv hcf (fun t ht hvm => ⟨(), trivial, ⟨rfl, by rw [ht]; exact Nat.lt_of_le_of_lt hw.2.1.1 hz1⟩, hS.F ht⟩) hS.2.2 (Nat.le_of_ble_eq_true rfl) (Nat.le_of_ble_eq_true rfl)
/-- throw new E("text") of this method's own -/
theorem bt_own {E tx : String} {ik ist ic k : Nat} (S : CallFix p m c cc nL s args Ts RX0) (hfl : l.stackTraces = false) (hZ : ZT (fun q => s.heap.size ≤ q) s s.heap) (hlk : meth.locks = false) (hx : ∀ x ∈ c.exceptionTable.toList, False) (hw : Wt D (fun q => s.heap.size ≤ q) s.heap ws H locs) (hl : ls.size = nL) (hk : lw_str[k]? = some (ist, tx)) (hcls : Bundle.fit E = true)
    (h1 : Cond.classLink RX0 ik E ∈ Ts) (h2 : Cond.initialized E ∈ Ts) (h3 : ∀ w ∈ (vx_atS RX0 ic E ["java/lang/RuntimeException", "java/lang/Exception"]).filter goodWord, w ∈ Ts) (h4 : ∀ w ∈ (vx_atS RX0 ic E ["java/lang/RuntimeException", "java/lang/Exception"]).filter (fun w => !goodWord w), w ∈ zzW) (h5 : ∀ w ∈ Cond.classLink RX0 ik E :: Cond.initialized E :: vx_atS RX0 ic E ["java/lang/RuntimeException", "java/lang/Exception"], vx_ot w = true)
    (d0 : decode cc pc = .ok (.new ik, 3)) (d3 : decode cc (pc + 3) = .ok (.dup, 1)) (d4 : decode cc (pc + 4) = .ok (.ldc ist, 2)) (d6 : decode cc (pc + 6) = .ok (.invokespecial ic, 3)) (d9 : decode cc (pc + 9) = .ok (.athrow, 1))
    (hf : 5 < R.frames) (hlo : 0 + 82 ≤ R.locals) (hcl : 0 + 1 ≤ R.cells) (hsl : 0 + 6 ≤ R.slots) : W p l e R s m args below meth c H locs 0 0 (QT below E args s) (F0 m pc ls []) := by
  obtain ⟨sa, hsa⟩ := hZ.2.2.1 k _ hk
  refine vg_throwS (own := RX0) (cls := E) (text := tx) (names := ["java/lang/RuntimeException", "java/lang/Exception"]) (ik := ik) (is := ist) (ic := ic) (sa := sa) (A := fun q => s.heap.size ≤ q) S.1 S.2.1 hfl S.2.2.2.1 hcls (by decide +kernel) (S.2.2.2.2 _ h1) (S.2.2.2.2 _ h2) hsa (vx_hat (B := zzW) (fun w h => S.2.2.2.2 _ (h3 w h)) h4 (fun w h => va_Nw.use (zzW.ok w h) (hZ.2.2.2.1 w h))) h5 hZ.1 hZ.2.1 hw.2.1 (hl.trans S.2.2.1.symm) d0 d3 d4 d6 d9 (fun x h => (hx x h).elim) hf hlo hcl hsl hlk (fun t hvm hz hq => ⟨(), trivial, ⟨rfl, Nat.lt_of_le_of_lt hw.2.1.1 hz⟩, Nat.le_trans hw.2.1.1 (Nat.le_of_lt hz), fun q h1 h2 => (hq q (Nat.lt_of_lt_of_le h1 hw.2.1.1)).trans (hw.2.1.2.1 q h1 h2)⟩) hw.2.1.2.2 (Nat.le_of_ble_eq_true rfl) (Nat.le_of_ble_eq_true rfl)
end BT
theorem ng_IA : ∀ w ∈ (vx_atS RX0 91 "java/lang/IllegalArgumentException" ["java/lang/RuntimeException", "java/lang/Exception"]).filter (fun w => !goodWord w), w ∈ zzW := by decide +kernel
theorem ng_IS : ∀ w ∈ (vx_atS RX0 98 "java/lang/IllegalStateException" ["java/lang/RuntimeException", "java/lang/Exception"]).filter (fun w => !goodWord w), w ∈ zzW := by decide +kernel
theorem ot_IA : ∀ w ∈ Cond.classLink RX0 87 "java/lang/IllegalArgumentException" :: Cond.initialized "java/lang/IllegalArgumentException" :: vx_atS RX0 91 "java/lang/IllegalArgumentException" ["java/lang/RuntimeException", "java/lang/Exception"], vx_ot w = true := by decide +kernel
theorem ot_IS : ∀ w ∈ Cond.classLink RX0 94 "java/lang/IllegalStateException" :: Cond.initialized "java/lang/IllegalStateException" :: vx_atS RX0 98 "java/lang/IllegalStateException" ["java/lang/RuntimeException", "java/lang/Exception"], vx_ot w = true := by decide +kernel
abbrev eIA : String := "java/lang/IllegalArgumentException"
abbrev eIS : String := "java/lang/IllegalStateException"
