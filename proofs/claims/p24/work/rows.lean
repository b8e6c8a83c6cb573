section
-- ===== PART A: goes FIRST, ahead of the names: the tables' words, and 'selects' of the private methods out of them =====
/-- a private method of a class that the tables say can be made, by its rows of tables_1 -/
def lw_okq (q : MethodName × Nat) : Prop := (q.1.cls ≠ "java/lang/invoke/MethodHandle" ∧ q.1.cls ≠ "java/lang/invoke/VarHandle") ∧ Cond.instantiable q.1.cls q.2 ∈ tables_1 ∧ Cond.privateMethod q.1 ∈ tables_1 ∧ Cond.instanceMethod q.1 ∈ tables_1
theorem lw_p0 : lw_okq (⟨"java/lang/Throwable", "fillInStackTrace", "(I)Ljava/lang/Throwable;"⟩, 6) := ⟨⟨by decide +kernel, by decide +kernel⟩, List.mem_of_getElem? (i := 118) (by decide +kernel), List.mem_of_getElem? (i := 116) (by decide +kernel), List.mem_of_getElem? (i := 117) (by decide +kernel)⟩
theorem lw_p1 : lw_okq (⟨"StandbyPair", "runMasters", "(I)V"⟩, 18) := ⟨⟨by decide +kernel, by decide +kernel⟩, List.mem_of_getElem? (i := 9) (by decide +kernel), List.mem_of_getElem? (i := 148) (by decide +kernel), List.mem_of_getElem? (i := 149) (by decide +kernel)⟩
theorem lw_p2 : lw_okq (⟨"StandbyPair", "loweredPriority", "(II)I"⟩, 18) := ⟨⟨by decide +kernel, by decide +kernel⟩, List.mem_of_getElem? (i := 9) (by decide +kernel), List.mem_of_getElem? (i := 155) (by decide +kernel), List.mem_of_getElem? (i := 156) (by decide +kernel)⟩
theorem lw_p3 : lw_okq (⟨"StandbyPair", "advertise", "(III)V"⟩, 18) := ⟨⟨by decide +kernel, by decide +kernel⟩, List.mem_of_getElem? (i := 9) (by decide +kernel), List.mem_of_getElem? (i := 165) (by decide +kernel), List.mem_of_getElem? (i := 166) (by decide +kernel)⟩
theorem lw_p4 : lw_okq (⟨"StandbyPair", "receiveAsMaster", "(IIII)V"⟩, 18) := ⟨⟨by decide +kernel, by decide +kernel⟩, List.mem_of_getElem? (i := 9) (by decide +kernel), List.mem_of_getElem? (i := 169) (by decide +kernel), List.mem_of_getElem? (i := 170) (by decide +kernel)⟩
theorem lw_p5 : lw_okq (⟨"StandbyPair", "becomeBackup", "(II)V"⟩, 18) := ⟨⟨by decide +kernel, by decide +kernel⟩, List.mem_of_getElem? (i := 9) (by decide +kernel), List.mem_of_getElem? (i := 173) (by decide +kernel), List.mem_of_getElem? (i := 174) (by decide +kernel)⟩
theorem lw_p6 : lw_okq (⟨"StandbyPair", "waitOf", "(II)I"⟩, 18) := ⟨⟨by decide +kernel, by decide +kernel⟩, List.mem_of_getElem? (i := 9) (by decide +kernel), List.mem_of_getElem? (i := 177) (by decide +kernel), List.mem_of_getElem? (i := 178) (by decide +kernel)⟩
theorem lw_p7 : lw_okq (⟨"StandbyPair", "skewOf", "(II)I"⟩, 18) := ⟨⟨by decide +kernel, by decide +kernel⟩, List.mem_of_getElem? (i := 9) (by decide +kernel), List.mem_of_getElem? (i := 181) (by decide +kernel), List.mem_of_getElem? (i := 182) (by decide +kernel)⟩
theorem lw_p8 : lw_okq (⟨"StandbyPair", "copyServed", "(III)V"⟩, 18) := ⟨⟨by decide +kernel, by decide +kernel⟩, List.mem_of_getElem? (i := 9) (by decide +kernel), List.mem_of_getElem? (i := 185) (by decide +kernel), List.mem_of_getElem? (i := 186) (by decide +kernel)⟩
theorem lw_p9 : lw_okq (⟨"StandbyPair", "receiveAsBackup", "(IIII)V"⟩, 18) := ⟨⟨by decide +kernel, by decide +kernel⟩, List.mem_of_getElem? (i := 9) (by decide +kernel), List.mem_of_getElem? (i := 189) (by decide +kernel), List.mem_of_getElem? (i := 190) (by decide +kernel)⟩
theorem lw_p10 : lw_okq (⟨"StandbyPair", "runBackups", "(I)V"⟩, 18) := ⟨⟨by decide +kernel, by decide +kernel⟩, List.mem_of_getElem? (i := 9) (by decide +kernel), List.mem_of_getElem? (i := 193) (by decide +kernel), List.mem_of_getElem? (i := 194) (by decide +kernel)⟩
theorem lw_p11 : lw_okq (⟨"StandbyPair", "noteGap", "(I)V"⟩, 18) := ⟨⟨by decide +kernel, by decide +kernel⟩, List.mem_of_getElem? (i := 9) (by decide +kernel), List.mem_of_getElem? (i := 197) (by decide +kernel), List.mem_of_getElem? (i := 198) (by decide +kernel)⟩
theorem lw_p12 : lw_okq (⟨"StandbyPair", "membersWith", "(II)I"⟩, 18) := ⟨⟨by decide +kernel, by decide +kernel⟩, List.mem_of_getElem? (i := 9) (by decide +kernel), List.mem_of_getElem? (i := 201) (by decide +kernel), List.mem_of_getElem? (i := 202) (by decide +kernel)⟩
theorem lw_p13 : lw_okq (⟨"StandbyPair", "beginPart", "(II)V"⟩, 18) := ⟨⟨by decide +kernel, by decide +kernel⟩, List.mem_of_getElem? (i := 9) (by decide +kernel), List.mem_of_getElem? (i := 231) (by decide +kernel), List.mem_of_getElem? (i := 232) (by decide +kernel)⟩
theorem lw_p14 : lw_okq (⟨"StandbyPair", "hasJoinedMasters", "(I)Z"⟩, 18) := ⟨⟨by decide +kernel, by decide +kernel⟩, List.mem_of_getElem? (i := 9) (by decide +kernel), List.mem_of_getElem? (i := 376) (by decide +kernel), List.mem_of_getElem? (i := 377) (by decide +kernel)⟩
def lw_privs_1 : List (MethodName × Nat) := [(⟨"java/lang/Throwable", "fillInStackTrace", "(I)Ljava/lang/Throwable;"⟩, 6), (⟨"StandbyPair", "runMasters", "(I)V"⟩, 18), (⟨"StandbyPair", "loweredPriority", "(II)I"⟩, 18), (⟨"StandbyPair", "advertise", "(III)V"⟩, 18), (⟨"StandbyPair", "receiveAsMaster", "(IIII)V"⟩, 18), (⟨"StandbyPair", "becomeBackup", "(II)V"⟩, 18), (⟨"StandbyPair", "waitOf", "(II)I"⟩, 18), (⟨"StandbyPair", "skewOf", "(II)I"⟩, 18), (⟨"StandbyPair", "copyServed", "(III)V"⟩, 18), (⟨"StandbyPair", "receiveAsBackup", "(IIII)V"⟩, 18), (⟨"StandbyPair", "runBackups", "(I)V"⟩, 18), (⟨"StandbyPair", "noteGap", "(I)V"⟩, 18), (⟨"StandbyPair", "membersWith", "(II)I"⟩, 18), (⟨"StandbyPair", "beginPart", "(II)V"⟩, 18), (⟨"StandbyPair", "hasJoinedMasters", "(I)Z"⟩, 18)]
theorem lw_r1 : ∀ q ∈ lw_privs_1, lw_okq q := List.forall_mem_cons.mpr ⟨lw_p0, List.forall_mem_cons.mpr ⟨lw_p1, List.forall_mem_cons.mpr ⟨lw_p2, List.forall_mem_cons.mpr ⟨lw_p3, List.forall_mem_cons.mpr ⟨lw_p4, List.forall_mem_cons.mpr ⟨lw_p5, List.forall_mem_cons.mpr ⟨lw_p6, List.forall_mem_cons.mpr ⟨lw_p7, List.forall_mem_cons.mpr ⟨lw_p8, List.forall_mem_cons.mpr ⟨lw_p9, List.forall_mem_cons.mpr ⟨lw_p10, List.forall_mem_cons.mpr ⟨lw_p11, List.forall_mem_cons.mpr ⟨lw_p12, List.forall_mem_cons.mpr ⟨lw_p13, List.forall_mem_cons.mpr ⟨lw_p14, fun _ h => absurd h List.not_mem_nil⟩⟩⟩⟩⟩⟩⟩⟩⟩⟩⟩⟩⟩⟩⟩
def lw_privs : List (MethodName × Nat) := lw_privs_1
def lw_tbl : List Cond := k2_sels lw_privs ++ tables_1
theorem lw_privs_ok : ∀ q ∈ lw_privs, lw_okq q := lw_r1
end
section
/-! ===== BEGIN words of one list among another's, by their places ===== -/
theorem goodIn_r {big : List Cond} (ws : List Cond) (ps : List Nat) (hp : ws = ps.filterMap (fun i => big[i]?)) (h : ws.all goodWord = true) : GoodIn big ws := by
  intro w hw
  have h1 := List.all_eq_true.mp h w hw
  rw [hp] at hw
  obtain ⟨i, -, hi⟩ := List.mem_filterMap.mp hw
  have hm : w ∈ big := by first | exact List.mem_of_getElem? hi | exact List.getElem?_mem hi
  exact ⟨hm, good_of_word h1⟩
theorem goodIn_app {big a b : List Cond} (ha : GoodIn big a) (hb : GoodIn big b) : GoodIn big (a ++ b) := fun w h => (List.mem_append.mp h).elim (ha w) (hb w)
theorem goodIn_ca {big a b : List Cond} {c : Cond} (ha : GoodIn big (c :: a)) (hb : GoodIn big b) : GoodIn big (c :: (a ++ b)) := fun w h => (List.mem_cons.mp h).elim (fun e => ha w (List.mem_cons.mpr (Or.inl e))) (fun h => (List.mem_append.mp h).elim (fun h => ha w (List.mem_cons.mpr (Or.inr h))) (hb w))
theorem goodIn_sub {big ws : List Cond} (hm : ∀ w ∈ ws, w ∈ big) (h : ws.all goodWord = true) : GoodIn big ws := fun w hw => ⟨hm w hw, good_of_word (List.all_eq_true.mp h w hw)⟩
/-! ===== END ===== -/

/-! ===== BEGIN exceptions that leave a method, and their catching by the caller (launches without stack traces) ===== -/
section VXA
/-! The laws vx_back, vx_callV, vx_callS, vx_callSW, vx_throw0, vx_throwS follow proofs of the library, with one case more: JvmDerived/Free/Laws.lean (Back.of_free), Shelf42/LK1.lean (callV, callS), Shelf/KitTraced.lean (throwNew0V, throwNewS). -/
/-- where a method has thrown q: the class by its name, the cell, what was written, the world -/
def vx_T (XC : String → State → State → Prop) (st : State) (q : Addr) (t : State) (mc ms : Nat) (free : Addr → Prop) : Prop :=
  ∃ (E : String) (ce : Cell) (L : List Loc), XC E st t ∧ t.heap[q]? = some ce ∧ ce.vm = .none ∧ st.vm.findClass E = some ce.cls ∧ st.WarmedH t.vm ∧ st.sameButNew ({ t with vm := st.vm } : State) L mc ms ∧ ∀ z ∈ L, free z.base
def vx_Q (Qc : Array Value → State → Outcome → State → Prop) (XC : String → State → State → Prop) (mc ms : Nat) (free : Addr → Prop) : Array Value → State → Outcome → State → Prop := fun a st o t =>
  (Qc a st o t ∧ ∃ L, FrameEnd st o t L mc ms ∧ ∀ q ∈ L, free q.base) ∨ ∃ q, o = .threw q ∧ vx_T XC st q t mc ms free
/-- a callee that returns or throws -/
def vx_Met (l : Launch) (y : MethodName) (ws : List Cond) (rm : Room) (Pc : Array Value → State → Prop) (Qc : Array Value → State → Outcome → State → Prop) (XC : String → State → State → Prop) (mc ms : Nat) (free : Addr → Prop) : Prop :=
  MetFree l y (headSpec ws rm) Pc (fun _ _ _ _ _ => True) (vx_Q Qc XC mc ms free)
def vx_Post (XC : String → State → State → Prop) (mc ms : Nat) (free : Addr → Prop) : Pt → Array Value → Addr → Pt → Prop := fun A a q B =>
  ∃ (g : JFrame) (mk : MethodId) (t : State) (L : List Loc) (E : String) (ce : Cell), B.U.heap = t.heap ∧ B.U.vm = t.vm ∧ XC E (A.U.calling g mk a) t ∧ t.heap[q]? = some ce ∧ ce.vm = .none ∧ A.U.vm.findClass E = some ce.cls ∧ B.locs = A.locs ++ L ∧ (∀ z ∈ L, free z.base) ∧ B.cells = A.cells + mc ∧ B.slots = A.slots + ms
def vx_Back (l : Launch) (R : Room) (p : Program) (e : Env) (below : List Frame) (s : State) (sargs : Array Value) (y : MethodName) (len W9 : Nat)
    (Pre : Pt → Array Value → Prop) (Post : Pt → Array Value → Option Value → Pt → Prop) (PostX : Pt → Array Value → Addr → Pt → Prop) : Prop :=
  ∀ (m : MethodId) (meth : Method) (c : Code) (A : Pt) (g : JFrame) (ig : Instr) (mk : MethodId) (a : Array Value),
    Stand p l e R s m sargs below meth c A.U A.locs A.cells A.slots → g.method = m → g.locals.size = c.maxLocals → decode c.code g.pc = .ok (ig, len) →
    2 * g.monitorRoom + (g.stack.map fun v => v.category).sum ≤ W9 → A.U.methodNamed? y = some mk → Pre A a →
    (∃ (v : Option Value) (B : Pt), Stand p l e R s m sargs below meth c B.U B.locs B.cells B.slots ∧ Post A a v B ∧
      Steps p.tables e below (doInvoke e (A.U.setTop g) [] mk a).1 (B.U.setTop { g with pc := g.pc + len, stack := v.toList ++ g.stack })) ∨
    (∃ (q : Addr) (B : Pt), Stand p l e R s m sargs below meth c B.U B.locs B.cells B.slots ∧ PostX A a q B ∧
      Steps p.tables e below (doInvoke e (A.U.setTop g) [] mk a).1 ((B.U.setTop g).pushFrame (.throwing q)))
section Payer
variable {l : Launch} {R : Room} {p : Program} {e : Env} {below : List Frame} {s : State} {sargs : Array Value} {y : MethodName} {len W9 : Nat}
theorem vx_back {ws : List Cond} {rm : Room} {Pc : Array Value → State → Prop} {Qc : Array Value → State → Outcome → State → Prop} {XC : String → State → State → Prop} {mc ms : Nat} {free : Addr → Prop} {bytes : ByteArray} {maxL : Nat} {ret : Option FieldType}
    (hM : vx_Met l y ws rm Pc Qc XC mc ms free) (hblind : FrameBlind Pc) (hrc : rm.cells = mc) (hrs : rm.slots = ms)
    (hframes : rm.frames + 1 ≤ R.frames) (hlocals : W9 + (maxL + 11) + rm.locals ≤ R.locals)
    (hws : ∀ w ∈ ws, ∀ a' U, s.WarmedH U.vm → w.before a' U = true) (hcode : Cond.code y bytes maxL ret ∈ ws) (hinit : ∀ a' U, s.WarmedH U.vm → (Cond.initialized y.cls).before a' U = true) :
    vx_Back l R p e below s sargs y len W9 (PreOf R mc ms Pc) (PostOf Qc mc ms free) (vx_Post XC mc ms free) := by
  intro m meth c A g ig mk a X hg hsize hdg hW hn hp
  have h1 : (headSpec ws rm).pre.before a A.U = true := atoms_intro fun w hw => hws w hw _ _ X.warmed
  have h2 : (Cond.code y bytes maxL ret).before a A.U = true := hws _ hcode _ _ X.warmed
  have h3 : (Cond.initialized y.cls).before a A.U = true := hinit _ _ X.warmed
  have h4 : A.cells + (headSpec ws rm).room.cells ≤ R.cells := by rw [show (headSpec ws rm).room.cells = mc from hrc]; exact hp.1
  have h5 : A.slots + (headSpec ws rm).room.slots ≤ R.slots := by rw [show (headSpec ws rm).room.slots = ms from hrs]; exact hp.2.1
  have hPc : Pc a (A.U.calling g mk a) := hblind _ _ _ _ hp.2.2
  obtain ⟨U, Ls, c0, s0⟩ := A
  dsimp only [Pt.U, Pt.locs, Pt.cells, Pt.slots] at h1 h2 h3 h4 h5 X hn hPc ⊢
  obtain ⟨methY, cY, hmY, hcY, -, hlY, -, -, -, -⟩ := Cond.code_spec hn h2
  obtain ⟨kY, hkY, -⟩ := className_of_methodNamed hn
  have hinitY : kY.init = .initialized := Cond.initialized_spec (findClass_of_methodNamed hn) hkY h3
  have h : At U g.method c below := by rw [hg]; exact X.here
  have hlocals9 : W9 + (maxL + 11) + (headSpec ws rm).room.locals ≤ R.locals := hlocals
  have happ : (headSpec ws rm).appliesLoose y e.platform (U.calling g mk a) = true :=
    Spec.appliesLoose_calling (g := g) h hdg hn hkY hinitY
      (X.room_calling (g := g) (R' := (headSpec ws rm).room) hsize hmY hcY hframes (by rw [hlY]; omega) h4 h5) h1
  obtain ⟨mid, hmid⟩ := h.above
  have hfr : (U.setTop g).frames = (.java g :: mid) ++ below := by rw [State.frames_setTop' g h.top, hmid]; rfl
  obtain ⟨o, s₂, hsteps, -, hend, hq⟩ := Steps.callFree hM p X.admits X.cas X.clock (acts := []) hfr happ hPc trivial
  have hq' : vx_Q Qc XC mc ms free a (U.calling g mk a) o s₂ := hq
  rw [State.frames_setTop' g h.top] at hend
  obtain ⟨g₀, hg0⟩ := Option.isSome_iff_exists.mp h.top
  obtain ⟨r, hr⟩ := State.topJava?_eq_some.mp hg0
  have hr' : (({ U with heap := s₂.heap, slotsUsed := s₂.slotsUsed } : State).setVm s₂.vm).frames = .java g₀ :: r := hr
  rcases hq' with ⟨hqc, L, hfe, hL⟩ | ⟨q, rfl, E, ce, L, hx, hce, hcv, hcl, hW₂, hsm, hL⟩
  · obtain ⟨⟨v, rfl⟩, hW₂, e2, q2, q3, q4, q5, q6⟩ := id hfe
    have e3 : s₂ = ({ (U.calling g mk a).setFrames s₂.frames with heap := s₂.heap, slotsUsed := s₂.slotsUsed } : State).setVm s₂.vm := by
      have : s₂ = ({ s₂ with vm := (U.calling g mk a).vm } : State).setVm s₂.vm := rfl
      rw [e2] at this
      exact this
    obtain ⟨c₂, i₂, len₂, hc₂, hd₂, hf₂⟩ := hend
    have hW' : U.WarmedH s₂.vm := hW₂
    have hcc : c₂ = c := by
      have h1 : s₂.code? g.method = U.code? g.method := by
        rw [State.code?_eq, State.code?_eq, hW'.alike.method?]
      exact Option.some.inj (hc₂.symm.trans (h1.trans h.code))
    subst hcc
    have hlen : len₂ = len := by rw [hdg] at hd₂; cases hd₂; rfl
    subst hlen
    have hs₂ : s₂ = (({ U with heap := s₂.heap, slotsUsed := s₂.slotsUsed } : State).setVm s₂.vm).setTop { g with pc := g.pc + len₂, stack := v.toList ++ g.stack } := by
      refine e3.trans ?_
      rw [hf₂, State.calling_eq h.top, State.setFrames_setFrames, State.setTop_of_frames _ hr', hr]
      rfl
    have hsame : U.sameButNew ({ U with heap := s₂.heap, slotsUsed := s₂.slotsUsed } : State) L mc ms := by
      refine ⟨?_, q2, q3, q4, q5, q6⟩
      obtain ⟨t, ht, -⟩ := State.frames_cons hr
      show ({ U with heap := s₂.heap, slotsUsed := s₂.slotsUsed } : State) = { U.setFrames U.frames with heap := s₂.heap, slotsUsed := s₂.slotsUsed }
      rw [State.setFrames_self ht]
    subst hg
    refine Or.inl ⟨v, ⟨(({ U with heap := s₂.heap, slotsUsed := s₂.slotsUsed } : State).setVm s₂.vm), Ls ++ L, c0 + mc, s0 + ms⟩,
      ⟨X.admits, X.cas, X.clock, X.frames, X.room, X.hears, X.method, X.code, (X.here.setHeapUsed s₂.heap s₂.slotsUsed).setVm hW'.alike, X.tail, State.WarmedH.trans X.warmed hW', X.limits, X.bytes, X.same.trans (hsame.setVm s.vm)⟩,
      ⟨g, mk, s₂, L, rfl, rfl, hqc, rfl, hL, rfl, rfl⟩, ?_⟩
    show Steps p.tables e below _ ((({ U with heap := s₂.heap, slotsUsed := s₂.slotsUsed } : State).setVm s₂.vm).setTop { g with pc := g.pc + len₂, stack := v.toList ++ g.stack })
    rw [← hs₂]
    exact hsteps
  · obtain ⟨e2, q2, q3, q4, q5, q6⟩ := id hsm
    have e3 : s₂ = ({ (U.calling g mk a).setFrames s₂.frames with heap := s₂.heap, slotsUsed := s₂.slotsUsed } : State).setVm s₂.vm := by
      have : s₂ = ({ s₂ with vm := (U.calling g mk a).vm } : State).setVm s₂.vm := rfl
      rw [e2] at this
      exact this
    have hf₂ : s₂.frames = .throwing q :: .java g :: U.frames.tail := hend
    have hW' : U.WarmedH s₂.vm := hW₂
    have hs₂ : s₂ = ((({ U with heap := s₂.heap, slotsUsed := s₂.slotsUsed } : State).setVm s₂.vm).setTop g).pushFrame (.throwing q) := by
      refine e3.trans ?_
      rw [hf₂, State.calling_eq h.top, State.setFrames_setFrames, State.pushFrame, State.frames_setTop _ hr', State.setTop_of_frames _ hr', State.setFrames_setFrames, hr]
      rfl
    have hsame : U.sameButNew ({ U with heap := s₂.heap, slotsUsed := s₂.slotsUsed } : State) L mc ms := by
      refine ⟨?_, q2, q3, q4, q5, q6⟩
      obtain ⟨t, ht, -⟩ := State.frames_cons hr
      show ({ U with heap := s₂.heap, slotsUsed := s₂.slotsUsed } : State) = { U.setFrames U.frames with heap := s₂.heap, slotsUsed := s₂.slotsUsed }
      rw [State.setFrames_self ht]
    subst hg
    refine Or.inr ⟨q, ⟨(({ U with heap := s₂.heap, slotsUsed := s₂.slotsUsed } : State).setVm s₂.vm), Ls ++ L, c0 + mc, s0 + ms⟩,
      ⟨X.admits, X.cas, X.clock, X.frames, X.room, X.hears, X.method, X.code, (X.here.setHeapUsed s₂.heap s₂.slotsUsed).setVm hW'.alike, X.tail, State.WarmedH.trans X.warmed hW', X.limits, X.bytes, X.same.trans (hsame.setVm s.vm)⟩,
      ⟨g, mk, s₂, L, E, ce, rfl, rfl, hx, hce, hcv, hcl, rfl, hL, rfl, rfl⟩, ?_⟩
    show Steps p.tables e below _ (((({ U with heap := s₂.heap, slotsUsed := s₂.slotsUsed } : State).setVm s₂.vm).setTop g).pushFrame (.throwing q))
    rw [← hs₂]
    exact hsteps
end Payer
section Calls
variable {p : Program} {l : Launch} {e : Env} {R : Room} {s : State} {m : MethodId} {args : Array Value} {below : List Frame} {meth : Method} {c : Code} {T : State} {locs : List Loc} {cells slots : Nat}
theorem vx_callV (X : Stand p l e R s m args below meth c T locs cells slots) (hexec : p.tables.exec = Jvm.exec) {own C : String} {index : Nat} {y : MethodName} {bytes : ByteArray} {maxL : Nat} {ret : Option FieldType}
    (hown : s.vm.findClass own = some m.cls) (hlink : (Cond.methodLink own index y).before args s = true) (hinst : (Cond.instanceMethod y).before args s = true) (hsel : (Cond.selects C y y).before args s = true)
    (hcode : (Cond.code y bytes maxL ret).before args s = true) (hy : y.cls ≠ "java/lang/invoke/MethodHandle" ∧ y.cls ≠ "java/lang/invoke/VarHandle")
    {W9 : Nat} {Pre : Pt → Array Value → Prop} {Post : Pt → Array Value → Option Value → Pt → Prop} {PostX : Pt → Array Value → Addr → Pt → Prop} (hK : vx_Back l R p e below s args y 3 W9 Pre Post PostX)
    {b : Addr} {cellB : Cell} (hcell : T.heap[b]? = some cellB) (hobj : cellB.vm.isStatics = false) (hcls : s.vm.findClass C = some cellB.cls)
    {g : JFrame} (hg : g.method = m) (hsize : g.locals.size = c.maxLocals) {argsL rest : List Value} (hlen : ∀ sig, parseMethodDescriptor y.desc = some sig → argsL.length = sig.parameters.length)
    (hstack : g.stack = argsL.reverse ++ .ref b :: rest) (hW : 2 * g.monitorRoom + (rest.map fun v => v.category).sum ≤ W9) (hdg : decode c.code g.pc = .ok (.invokevirtual index, 3))
    (hpre : ∀ vm₁, s.WarmedH vm₁ → Pre ⟨T.setVm vm₁, locs, cells, slots⟩ (Value.ref b :: argsL).toArray) :
    (∃ (v : Option Value) (vm₁ : Vm) (B : Pt), s.WarmedH vm₁ ∧ Stand p l e R s m args below meth c B.U B.locs B.cells B.slots ∧ Post ⟨T.setVm vm₁, locs, cells, slots⟩ (Value.ref b :: argsL).toArray v B ∧
      ∀ target, Steps p.tables e below (B.U.setTop { g with pc := g.pc + 3, stack := v.toList ++ rest }) target → Steps p.tables e below (T.setTop g) target) ∨
    (∃ (q : Addr) (vm₁ : Vm) (B : Pt), s.WarmedH vm₁ ∧ Stand p l e R s m args below meth c B.U B.locs B.cells B.slots ∧ PostX ⟨T.setVm vm₁, locs, cells, slots⟩ (Value.ref b :: argsL).toArray q B ∧
      Steps p.tables e below (T.setTop g) ((B.U.setTop { g with stack := rest }).pushFrame (.throwing q))) := by
  obtain ⟨mk, methM, hnamed, hmethM, hstM, habM⟩ := Cond.instanceMethod_spec hinst
  obtain ⟨methM', cM, hmethM', -, -, -, -, -, -, hsigM⟩ := Cond.code_spec hnamed hcode
  cases hmethM.symm.trans hmethM'
  obtain ⟨c2, r2, m2, q1, q2, q3, q4, kP, hkP, hkPi⟩ := Cond.selects_spec hsel
  cases hcls.symm.trans q1
  cases (State.methodFound?_of_named hnamed hy).symm.trans q2
  cases hnamed.symm.trans q3
  have hselP : selectMethod e.platform s.vm cellB.cls mk = .method mk := by rw [Launch.admits_selectMethod X.admits]; exact q4
  obtain ⟨vm₁, X₁, hstep₁⟩ := X.invokevirtual hexec hown hlink hnamed hmethM hstM hkP hkPi hy (a := b) (cell := cellB) hcell
    (fun z h => by rw [h] at hobj; cases hobj) hselP hmethM habM hkP hkPi (g := g) hg (argsL := argsL) (rest := rest) (hlen _ hsigM) hstack hdg
  rcases hK m meth c ⟨T.setVm vm₁, locs, cells, slots⟩ { g with stack := rest } (.invokevirtual index) mk (Value.ref b :: argsL).toArray X₁ hg hsize hdg hW (X₁.named hnamed) (hpre vm₁ X₁.warmed) with ⟨v, B, X', hpost, hsteps⟩ | ⟨q, B, X', hpost, hsteps⟩
  · exact Or.inl ⟨v, vm₁, B, X₁.warmed, X', hpost, fun target h => hstep₁ _ fun acts => by rw [doInvoke_state]; exact hsteps.trans h⟩
  · exact Or.inr ⟨q, vm₁, B, X₁.warmed, X', hpost, hstep₁ _ fun acts => by rw [doInvoke_state]; exact hsteps⟩
theorem vx_callS (X : Stand p l e R s m args below meth c T locs cells slots) (hexec : p.tables.exec = Jvm.exec) {own : String} {index : Nat} {y : MethodName} {bytes : ByteArray} {maxL : Nat} {ret : Option FieldType}
    (hown : s.vm.findClass own = some m.cls) (hlink : (Cond.methodLink own index y).before args s = true) (hstat : (Cond.static y).before args s = true) (hinit : (Cond.initialized y.cls).before args s = true)
    (hcode : (Cond.code y bytes maxL ret).before args s = true) (hy : y.cls ≠ "java/lang/invoke/MethodHandle" ∧ y.cls ≠ "java/lang/invoke/VarHandle")
    {W9 : Nat} {Pre : Pt → Array Value → Prop} {Post : Pt → Array Value → Option Value → Pt → Prop} {PostX : Pt → Array Value → Addr → Pt → Prop} (hK : vx_Back l R p e below s args y 3 W9 Pre Post PostX)
    {g : JFrame} (hg : g.method = m) (hsize : g.locals.size = c.maxLocals) {argsL rest : List Value} (hlen : ∀ sig, parseMethodDescriptor y.desc = some sig → argsL.length = sig.parameters.length)
    (hstack : g.stack = argsL.reverse ++ rest) (hW : 2 * g.monitorRoom + (rest.map fun v => v.category).sum ≤ W9) (hdg : decode c.code g.pc = .ok (.invokestatic index, 3))
    (hpre : ∀ vm₁, s.WarmedH vm₁ → Pre ⟨T.setVm vm₁, locs, cells, slots⟩ argsL.toArray) :
    (∃ (v : Option Value) (vm₁ : Vm) (B : Pt), s.WarmedH vm₁ ∧ Stand p l e R s m args below meth c B.U B.locs B.cells B.slots ∧ Post ⟨T.setVm vm₁, locs, cells, slots⟩ argsL.toArray v B ∧
      ∀ target, Steps p.tables e below (B.U.setTop { g with pc := g.pc + 3, stack := v.toList ++ rest }) target → Steps p.tables e below (T.setTop g) target) ∨
    (∃ (q : Addr) (vm₁ : Vm) (B : Pt), s.WarmedH vm₁ ∧ Stand p l e R s m args below meth c B.U B.locs B.cells B.slots ∧ PostX ⟨T.setVm vm₁, locs, cells, slots⟩ argsL.toArray q B ∧
      Steps p.tables e below (T.setTop g) ((B.U.setTop { g with stack := rest }).pushFrame (.throwing q))) := by
  obtain ⟨mk, hnamed⟩ := Cond.code_named hcode
  obtain ⟨methM, cM, hmethM, -, -, -, -, -, -, hsigM⟩ := Cond.code_spec hnamed hcode
  have hstatic : methM.isStatic = true := Cond.static_spec hnamed hmethM hstat
  obtain ⟨kP, hkP, -⟩ := className_of_methodNamed hnamed
  have hinitP : kP.init = .initialized := Cond.initialized_spec (findClass_of_methodNamed hnamed) hkP hinit
  obtain ⟨vm₁, X₁, hstep₁⟩ := X.invokestatic hexec hown hlink hnamed hmethM hstatic hkP hinitP hy (g := g) hg (argsL := argsL) (rest := rest) (hlen _ hsigM) hstack hdg
  rcases hK m meth c ⟨T.setVm vm₁, locs, cells, slots⟩ { g with stack := rest } (.invokestatic index) mk argsL.toArray X₁ hg hsize hdg hW (X₁.named hnamed) (hpre vm₁ X₁.warmed) with ⟨v, B, X', hpost, hsteps⟩ | ⟨q, B, X', hpost, hsteps⟩
  · exact Or.inl ⟨v, vm₁, B, X₁.warmed, X', hpost, fun target h => hstep₁ _ fun acts => by rw [doInvoke_state]; exact hsteps.trans h⟩
  · exact Or.inr ⟨q, vm₁, B, X₁.warmed, X', hpost, hstep₁ _ fun acts => by rw [doInvoke_state]; exact hsteps⟩
end Calls
theorem vx_cls {s : State} {T : State} {vm₁ : Vm} {E : String} {k : ClassId} (hW : s.WarmedH vm₁) (h : (T.setVm vm₁).vm.findClass E = some k) : s.vm.findClass E = some k := by
  have h1 : vm₁.findClass E = some k := h
  rw [hW.alike.findClass] at h1
  exact h1
/-- the method's frame g, with q thrown over it -/
def vx_W (p : Program) (l : Launch) (e : Env) (R : Room) (s : State) (m : MethodId) (args : Array Value) (below : List Frame) (meth : Method) (c : Code) (H : Heap) (locs : List Loc) (cells slots : Nat) (Q : State → Prop) (g : JFrame) (q : Addr) : Prop :=
  ∀ T : State, T.heap = H → Stand p l e R s m args below meth c T locs cells slots → ∃ t, Steps p.tables e below ((T.setTop g).pushFrame (.throwing q)) t ∧ Q t
def vx_Run (p : Program) (l : Launch) (e : Env) (R : Room) (s : State) (m : MethodId) (args : Array Value) (below : List Frame) (meth : Method) (c : Code) (H : Heap) (locs : List Loc) (cells slots mc ms : Nat) (g : JFrame) (rest : List Value) (Qa : State → Outcome → State → Prop) (XC : String → State → State → Prop) (free : Addr → Prop) : Prop :=
  ∀ T : State, T.heap = H → Stand p l e R s m args below meth c T locs cells slots →
    (∃ (v : Option Value) (st₀ t T' : State) (L : List Loc), st₀.heap = H ∧ Stand p l e R s m args below meth c T' (locs ++ L) (cells + mc) (slots + ms) ∧ (∀ q ∈ L, free q.base) ∧ T'.heap = t.heap ∧ T'.vm = t.vm ∧ Qa st₀ (.returned v) t ∧
      Goes p e below T g T' { g with pc := g.pc + 3, stack := v.toList ++ rest }) ∨
    (∃ (q : Addr) (st₀ t T' : State) (L : List Loc) (E : String) (ce : Cell), st₀.heap = H ∧ Stand p l e R s m args below meth c T' (locs ++ L) (cells + mc) (slots + ms) ∧ (∀ z ∈ L, free z.base) ∧ T'.heap = t.heap ∧ T'.vm = t.vm ∧ XC E st₀ t ∧ t.heap[q]? = some ce ∧ ce.vm = .none ∧ s.vm.findClass E = some ce.cls ∧
      Steps p.tables e below (T.setTop g) ((T'.setTop { g with stack := rest }).pushFrame (.throwing q)))
def vx_X {S : Type} (px : S → Prop) (B : String → S → State → Prop) (A : Nat → Prop) : String → State → State → Prop := fun E st t => ∃ u : S, px u ∧ B E u t ∧ va_F A st t
section Runs
variable {p : Program} {l : Launch} {e : Env} {R : Room} {s : State} {m : MethodId} {args : Array Value} {below : List Frame} {meth : Method} {c : Code} {H : Heap} {locs : List Loc} {cells slots : Nat}
variable {y : MethodName} {bytes cc : ByteArray} {maxL nL mc ms n index : Nat} {ret : Option FieldType} {ws : List Cond} {rm : Room} {Pc : Array Value → State → Prop} {Qc : Array Value → State → Outcome → State → Prop} {XC : String → State → State → Prop} {free : Addr → Prop} {Ts : List Cond} {own C : String} {b : Addr} {As rest : List Value} {g : JFrame}
theorem vx_callBack (cb : CallB R s args own index y bytes maxL ret ws rm mc ms n) (hM : vx_Met l y ws rm Pc Qc XC mc ms free) (hbl : FrameBlind Pc) : vx_Back l R p e below s args y 3 8 (PreOf R mc ms Pc) (PostOf Qc mc ms free) (vx_Post XC mc ms free) := by
  obtain ⟨hrc, hrs, hfr, hlo, hws, hcw, -, hini, -⟩ := cb
  exact vx_back (bytes := bytes) (maxL := maxL) (ret := ret) hM hbl hrc hrs hfr hlo hws hcw (fun a' U hW => word_at hW (Or.inl (by first | rfl | simp [Cond.onTables, Cond.keeps, Cond.steady])) hini)
theorem vx_runV (S : CallFix p m c cc nL s args Ts own) (hM : vx_Met l y ws rm Pc Qc XC mc ms free) (cw : CallW R s args own C index y bytes maxL ret ws rm mc ms n) (hp : PreV s H C b Pc As)
    (hg : g.method = m) (hn : As.length = n) (hsize : g.locals.size = nL) (hstack : g.stack = As.reverse ++ .ref b :: rest) (hW : 2 * g.monitorRoom + (rest.map fun v => v.category).sum ≤ 8) (hdg : decode cc g.pc = .ok (.invokevirtual index, 3)) (hf : cells + mc ≤ R.cells ∧ slots + ms ≤ R.slots) :
    vx_Run p l e R s m args below meth c H locs cells slots mc ms g rest (Qc (Value.ref b :: As).toArray) XC free := by
  have hK : vx_Back l R p e below s args y 3 8 (PreOf R mc ms Pc) (PostOf Qc mc ms free) (vx_Post XC mc ms free) := vx_callBack cw.1 hM hp.1
  obtain ⟨⟨-, -, -, -, -, -, hcode, -, hy, hlen, hl⟩, hin, hse⟩ := cw
  obtain ⟨hx, hb, hml, ho, -⟩ := S
  obtain ⟨-, ⟨cellB, hcB, hoB, hclB⟩, hPc⟩ := hp
  intro T hT X
  rcases vx_callV X hx (C := C) (bytes := bytes) (maxL := maxL) (ret := ret) ho hl hin hse hcode hy hK (by rw [hT]; exact hcB) hoB hclB hg (hsize.trans hml.symm) (argsL := As) (rest := rest) (fun sig h => hn.trans (hlen sig h)) hstack hW (by rw [hb]; exact hdg)
    (fun vm₁ hW₁ => ⟨hf.1, hf.2, hPc (T.setVm vm₁) hT hW₁⟩) with ⟨v, vm₁, ⟨U', l2, c2, s2⟩, hW₁, X', ⟨g', mk, t, L, e1, e2, hq, h1, hL, h2, h3⟩, st⟩ | ⟨q, vm₁, ⟨U', l2, c2, s2⟩, hW₁, X', ⟨g', mk, t, L, E, ce, e1, e2, hq, hce, hcv, hcl, h1, hL, h2, h3⟩, st⟩
  · dsimp only [Pt.U, Pt.locs, Pt.cells, Pt.slots] at X' e1 e2 h1 h2 h3 st
    subst h1; subst h2; subst h3
    exact Or.inl ⟨v, (T.setVm vm₁).calling g' mk (Value.ref b :: As).toArray, t, U', L, hT, X', hL, e1, e2, hq, st⟩
  · dsimp only [Pt.U, Pt.locs, Pt.cells, Pt.slots] at X' e1 e2 h1 h2 h3 st hcl
    subst h1; subst h2; subst h3
    exact Or.inr ⟨q, (T.setVm vm₁).calling g' mk (Value.ref b :: As).toArray, t, U', L, E, ce, hT, X', hL, e1, e2, hq, hce, hcv, vx_cls hW₁ hcl, st⟩
theorem vx_runS (S : CallFix p m c cc nL s args Ts own) (hM : vx_Met l y ws rm Pc Qc XC mc ms free) (cw : CallB R s args own index y bytes maxL ret ws rm mc ms n ∧ (Cond.static y).before args s = true) (hp : PreS s H Pc As)
    (hg : g.method = m) (hn : As.length = n) (hsize : g.locals.size = nL) (hstack : g.stack = As.reverse ++ rest) (hW : 2 * g.monitorRoom + (rest.map fun v => v.category).sum ≤ 8) (hdg : decode cc g.pc = .ok (.invokestatic index, 3)) (hf : cells + mc ≤ R.cells ∧ slots + ms ≤ R.slots) :
    vx_Run p l e R s m args below meth c H locs cells slots mc ms g rest (Qc As.toArray) XC free := by
  have hK : vx_Back l R p e below s args y 3 8 (PreOf R mc ms Pc) (PostOf Qc mc ms free) (vx_Post XC mc ms free) := vx_callBack cw.1 hM hp.1
  obtain ⟨⟨-, -, -, -, -, -, hcode, hini, hy, hlen, hl⟩, hstt⟩ := cw
  obtain ⟨hx, hb, hml, ho, -⟩ := S
  intro T hT X
  rcases vx_callS X hx (bytes := bytes) (maxL := maxL) (ret := ret) ho hl hstt hini hcode hy hK hg (hsize.trans hml.symm) (argsL := As) (rest := rest) (fun sig h => hn.trans (hlen sig h)) hstack hW (by rw [hb]; exact hdg)
    (fun vm₁ hW₁ => ⟨hf.1, hf.2, hp.2 (T.setVm vm₁) hT hW₁⟩) with ⟨v, vm₁, ⟨U', l2, c2, s2⟩, hW₁, X', ⟨g', mk, t, L, e1, e2, hq, h1, hL, h2, h3⟩, st⟩ | ⟨q, vm₁, ⟨U', l2, c2, s2⟩, hW₁, X', ⟨g', mk, t, L, E, ce, e1, e2, hq, hce, hcv, hcl, h1, hL, h2, h3⟩, st⟩
  · dsimp only [Pt.U, Pt.locs, Pt.cells, Pt.slots] at X' e1 e2 h1 h2 h3 st
    subst h1; subst h2; subst h3
    exact Or.inl ⟨v, (T.setVm vm₁).calling g' mk As.toArray, t, U', L, hT, X', hL, e1, e2, hq, st⟩
  · dsimp only [Pt.U, Pt.locs, Pt.cells, Pt.slots] at X' e1 e2 h1 h2 h3 st hcl
    subst h1; subst h2; subst h3
    exact Or.inr ⟨q, (T.setVm vm₁).calling g' mk As.toArray, t, U', L, E, ce, hT, X', hL, e1, e2, hq, hce, hcv, vx_cls hW₁ hcl, st⟩
end Runs
section Rows
variable {p : Program} {l : Launch} {e : Env} {R : Room} {s : State} {m : MethodId} {args : Array Value} {below : List Frame} {meth : Method} {c : Code} {H : Heap} {locs : List Loc} {cells slots : Nat} {Q : State → Prop}
variable {mc ms : Nat} {free : Addr → Prop} {A0 A1 : Nat → Prop} {H0 : Heap} {a : Array Value} {pc : Nat} {ls : Array Slot} {st0 rest : List Value}
theorem vx_keep {st₀ t T' : State} {L : List Loc} (h0 : st₀.heap = H) (e1 : T'.heap = t.heap) (hS : va_S A0 H0 H locs) (hA : ∀ q, q < H.size → A1 q → A0 q) (hf : ∀ q, free q → A0 q) (hL : ∀ q ∈ L, free q.base) (hF : va_F A1 st₀ t) :
    H.size ≤ T'.heap.size ∧ (∀ q : Nat, q < H.size → ¬ A1 q → T'.heap[q]? = H[q]?) ∧ va_S A0 H0 T'.heap (locs ++ L) := by
  obtain ⟨hz, hk⟩ := hF
  rw [h0] at hz hk
  exact ⟨by rw [e1]; exact hz, fun q h1 h2 => by rw [e1]; exact hk q h1 h2,
    ⟨Nat.le_trans hS.1 (by rw [e1]; exact hz), fun q h1 h2 => by rw [e1, hk q (Nat.lt_of_lt_of_le h1 hS.1) (fun z => h2 (hA q (Nat.lt_of_lt_of_le h1 hS.1) z))]; exact hS.2.1 q h1 h2, fun q hq => by
      rcases List.mem_append.mp hq with h | h
      · exact hS.2.2 q h
      · exact hf _ (hL q h)⟩⟩
theorem vx_calli {S SX : Type} {post : Int32 → S → Prop} {px : SX → Prop} {B : S → State → Prop} {BX : String → SX → State → Prop} {AX : Nat → Prop} (hr : vx_Run p l e R s m args below meth c H locs cells slots mc ms (F0 m pc ls st0) rest (va_Qi post B A1 a) (vx_X px BX AX) free) (hS : va_S A0 H0 H locs) (hA : ∀ q, q < H.size → A1 q → A0 q) (hf : ∀ q, free q → A0 q) (hAX : ∀ q, q < H.size → AX q → A0 q)
    (kx : ∀ (E : String) (ce : Cell) (q9 : Addr) (u : SX) (t : State) (H1 : Heap) (locs1 : List Loc), t.heap = H1 → s.vm.Alike t.vm → px u → BX E u t → H.size ≤ H1.size → (∀ q : Nat, q < H.size → ¬ AX q → H1[q]? = H[q]?) → va_S A0 H0 H1 locs1 → H1[q9]? = some ce → ce.vm = .none → s.vm.findClass E = some ce.cls → vx_W p l e R s m args below meth c H1 locs1 (cells + mc) (slots + ms) Q (F0 m pc ls rest) q9)
    (kk : ∀ (r : Int32) (u : S) (t : State) (H1 : Heap) (locs1 : List Loc), t.heap = H1 → s.vm.Alike t.vm → post r u → B u t → H.size ≤ H1.size → (∀ q : Nat, q < H.size → ¬ A1 q → H1[q]? = H[q]?) → va_S A0 H0 H1 locs1 → W p l e R s m args below meth c H1 locs1 (cells + mc) (slots + ms) Q (F0 m (pc + 3) ls (.int r :: rest))) : W p l e R s m args below meth c H locs cells slots Q (F0 m pc ls st0) := by
  intro T hT X
  rcases hr T hT X with ⟨v, st₀, t, T', L, h0, X', hL, e1, e2, ⟨⟨r, u, hv, hp, hb⟩, hF⟩, st⟩ | ⟨q, st₀, t, T', L, E, ce, h0, X', hL, e1, e2, ⟨u, hp, hb, hF⟩, hce, hcv, hcl, st⟩
  · cases hv
    obtain ⟨k1, k2, k3⟩ := vx_keep h0 e1 hS hA hf hL hF
    obtain ⟨t2, a1, b1⟩ := kk r u t T'.heap (locs ++ L) e1.symm (by rw [← e2]; exact X'.warmed.alike) hp hb k1 k2 k3 T' rfl X'
    exact ⟨t2, st t2 a1, b1⟩
  · obtain ⟨k1, k2, k3⟩ := vx_keep h0 e1 hS hAX hf hL hF
    obtain ⟨t2, a1, b1⟩ := kx E ce q u t T'.heap (locs ++ L) e1.symm (by rw [← e2]; exact X'.warmed.alike) hp hb k1 k2 k3 (by rw [e1]; exact hce) hcv hcl T' rfl X'
    exact ⟨t2, st.trans a1, b1⟩
theorem vx_calll {S SX : Type} {post : Int64 → S → Prop} {px : SX → Prop} {B : S → State → Prop} {BX : String → SX → State → Prop} {AX : Nat → Prop} (hr : vx_Run p l e R s m args below meth c H locs cells slots mc ms (F0 m pc ls st0) rest (va_Ql post B A1 a) (vx_X px BX AX) free) (hS : va_S A0 H0 H locs) (hA : ∀ q, q < H.size → A1 q → A0 q) (hf : ∀ q, free q → A0 q) (hAX : ∀ q, q < H.size → AX q → A0 q)
    (kx : ∀ (E : String) (ce : Cell) (q9 : Addr) (u : SX) (t : State) (H1 : Heap) (locs1 : List Loc), t.heap = H1 → s.vm.Alike t.vm → px u → BX E u t → H.size ≤ H1.size → (∀ q : Nat, q < H.size → ¬ AX q → H1[q]? = H[q]?) → va_S A0 H0 H1 locs1 → H1[q9]? = some ce → ce.vm = .none → s.vm.findClass E = some ce.cls → vx_W p l e R s m args below meth c H1 locs1 (cells + mc) (slots + ms) Q (F0 m pc ls rest) q9)
    (kk : ∀ (r : Int64) (u : S) (t : State) (H1 : Heap) (locs1 : List Loc), t.heap = H1 → s.vm.Alike t.vm → post r u → B u t → H.size ≤ H1.size → (∀ q : Nat, q < H.size → ¬ A1 q → H1[q]? = H[q]?) → va_S A0 H0 H1 locs1 → W p l e R s m args below meth c H1 locs1 (cells + mc) (slots + ms) Q (F0 m (pc + 3) ls (.long r :: rest))) : W p l e R s m args below meth c H locs cells slots Q (F0 m pc ls st0) := by
  intro T hT X
  rcases hr T hT X with ⟨v, st₀, t, T', L, h0, X', hL, e1, e2, ⟨⟨r, u, hv, hp, hb⟩, hF⟩, st⟩ | ⟨q, st₀, t, T', L, E, ce, h0, X', hL, e1, e2, ⟨u, hp, hb, hF⟩, hce, hcv, hcl, st⟩
  · cases hv
    obtain ⟨k1, k2, k3⟩ := vx_keep h0 e1 hS hA hf hL hF
    obtain ⟨t2, a1, b1⟩ := kk r u t T'.heap (locs ++ L) e1.symm (by rw [← e2]; exact X'.warmed.alike) hp hb k1 k2 k3 T' rfl X'
    exact ⟨t2, st t2 a1, b1⟩
  · obtain ⟨k1, k2, k3⟩ := vx_keep h0 e1 hS hAX hf hL hF
    obtain ⟨t2, a1, b1⟩ := kx E ce q u t T'.heap (locs ++ L) e1.symm (by rw [← e2]; exact X'.warmed.alike) hp hb k1 k2 k3 (by rw [e1]; exact hce) hcv hcl T' rfl X'
    exact ⟨t2, st.trans a1, b1⟩
theorem vx_callf {S SX : Type} {post : UInt32 → S → Prop} {px : SX → Prop} {B : S → State → Prop} {BX : String → SX → State → Prop} {AX : Nat → Prop} (hr : vx_Run p l e R s m args below meth c H locs cells slots mc ms (F0 m pc ls st0) rest (va_Qf post B A1 a) (vx_X px BX AX) free) (hS : va_S A0 H0 H locs) (hA : ∀ q, q < H.size → A1 q → A0 q) (hf : ∀ q, free q → A0 q) (hAX : ∀ q, q < H.size → AX q → A0 q)
    (kx : ∀ (E : String) (ce : Cell) (q9 : Addr) (u : SX) (t : State) (H1 : Heap) (locs1 : List Loc), t.heap = H1 → s.vm.Alike t.vm → px u → BX E u t → H.size ≤ H1.size → (∀ q : Nat, q < H.size → ¬ AX q → H1[q]? = H[q]?) → va_S A0 H0 H1 locs1 → H1[q9]? = some ce → ce.vm = .none → s.vm.findClass E = some ce.cls → vx_W p l e R s m args below meth c H1 locs1 (cells + mc) (slots + ms) Q (F0 m pc ls rest) q9)
    (kk : ∀ (r : UInt32) (u : S) (t : State) (H1 : Heap) (locs1 : List Loc), t.heap = H1 → s.vm.Alike t.vm → post r u → B u t → H.size ≤ H1.size → (∀ q : Nat, q < H.size → ¬ A1 q → H1[q]? = H[q]?) → va_S A0 H0 H1 locs1 → W p l e R s m args below meth c H1 locs1 (cells + mc) (slots + ms) Q (F0 m (pc + 3) ls (.float r :: rest))) : W p l e R s m args below meth c H locs cells slots Q (F0 m pc ls st0) := by
  intro T hT X
  rcases hr T hT X with ⟨v, st₀, t, T', L, h0, X', hL, e1, e2, ⟨⟨r, u, hv, hp, hb⟩, hF⟩, st⟩ | ⟨q, st₀, t, T', L, E, ce, h0, X', hL, e1, e2, ⟨u, hp, hb, hF⟩, hce, hcv, hcl, st⟩
  · cases hv
    obtain ⟨k1, k2, k3⟩ := vx_keep h0 e1 hS hA hf hL hF
    obtain ⟨t2, a1, b1⟩ := kk r u t T'.heap (locs ++ L) e1.symm (by rw [← e2]; exact X'.warmed.alike) hp hb k1 k2 k3 T' rfl X'
    exact ⟨t2, st t2 a1, b1⟩
  · obtain ⟨k1, k2, k3⟩ := vx_keep h0 e1 hS hAX hf hL hF
    obtain ⟨t2, a1, b1⟩ := kx E ce q u t T'.heap (locs ++ L) e1.symm (by rw [← e2]; exact X'.warmed.alike) hp hb k1 k2 k3 (by rw [e1]; exact hce) hcv hcl T' rfl X'
    exact ⟨t2, st.trans a1, b1⟩
theorem vx_calld {S SX : Type} {post : UInt64 → S → Prop} {px : SX → Prop} {B : S → State → Prop} {BX : String → SX → State → Prop} {AX : Nat → Prop} (hr : vx_Run p l e R s m args below meth c H locs cells slots mc ms (F0 m pc ls st0) rest (va_Qd post B A1 a) (vx_X px BX AX) free) (hS : va_S A0 H0 H locs) (hA : ∀ q, q < H.size → A1 q → A0 q) (hf : ∀ q, free q → A0 q) (hAX : ∀ q, q < H.size → AX q → A0 q)
    (kx : ∀ (E : String) (ce : Cell) (q9 : Addr) (u : SX) (t : State) (H1 : Heap) (locs1 : List Loc), t.heap = H1 → s.vm.Alike t.vm → px u → BX E u t → H.size ≤ H1.size → (∀ q : Nat, q < H.size → ¬ AX q → H1[q]? = H[q]?) → va_S A0 H0 H1 locs1 → H1[q9]? = some ce → ce.vm = .none → s.vm.findClass E = some ce.cls → vx_W p l e R s m args below meth c H1 locs1 (cells + mc) (slots + ms) Q (F0 m pc ls rest) q9)
    (kk : ∀ (r : UInt64) (u : S) (t : State) (H1 : Heap) (locs1 : List Loc), t.heap = H1 → s.vm.Alike t.vm → post r u → B u t → H.size ≤ H1.size → (∀ q : Nat, q < H.size → ¬ A1 q → H1[q]? = H[q]?) → va_S A0 H0 H1 locs1 → W p l e R s m args below meth c H1 locs1 (cells + mc) (slots + ms) Q (F0 m (pc + 3) ls (.double r :: rest))) : W p l e R s m args below meth c H locs cells slots Q (F0 m pc ls st0) := by
  intro T hT X
  rcases hr T hT X with ⟨v, st₀, t, T', L, h0, X', hL, e1, e2, ⟨⟨r, u, hv, hp, hb⟩, hF⟩, st⟩ | ⟨q, st₀, t, T', L, E, ce, h0, X', hL, e1, e2, ⟨u, hp, hb, hF⟩, hce, hcv, hcl, st⟩
  · cases hv
    obtain ⟨k1, k2, k3⟩ := vx_keep h0 e1 hS hA hf hL hF
    obtain ⟨t2, a1, b1⟩ := kk r u t T'.heap (locs ++ L) e1.symm (by rw [← e2]; exact X'.warmed.alike) hp hb k1 k2 k3 T' rfl X'
    exact ⟨t2, st t2 a1, b1⟩
  · obtain ⟨k1, k2, k3⟩ := vx_keep h0 e1 hS hAX hf hL hF
    obtain ⟨t2, a1, b1⟩ := kx E ce q u t T'.heap (locs ++ L) e1.symm (by rw [← e2]; exact X'.warmed.alike) hp hb k1 k2 k3 (by rw [e1]; exact hce) hcv hcl T' rfl X'
    exact ⟨t2, st.trans a1, b1⟩
theorem vx_callv {S SX : Type} {post : S → Prop} {px : SX → Prop} {B : S → State → Prop} {BX : String → SX → State → Prop} {AX : Nat → Prop} (hr : vx_Run p l e R s m args below meth c H locs cells slots mc ms (F0 m pc ls st0) rest (va_Qv post B A1 a) (vx_X px BX AX) free) (hS : va_S A0 H0 H locs) (hA : ∀ q, q < H.size → A1 q → A0 q) (hf : ∀ q, free q → A0 q) (hAX : ∀ q, q < H.size → AX q → A0 q)
    (kx : ∀ (E : String) (ce : Cell) (q9 : Addr) (u : SX) (t : State) (H1 : Heap) (locs1 : List Loc), t.heap = H1 → s.vm.Alike t.vm → px u → BX E u t → H.size ≤ H1.size → (∀ q : Nat, q < H.size → ¬ AX q → H1[q]? = H[q]?) → va_S A0 H0 H1 locs1 → H1[q9]? = some ce → ce.vm = .none → s.vm.findClass E = some ce.cls → vx_W p l e R s m args below meth c H1 locs1 (cells + mc) (slots + ms) Q (F0 m pc ls rest) q9)
    (kk : ∀ (u : S) (t : State) (H1 : Heap) (locs1 : List Loc), t.heap = H1 → s.vm.Alike t.vm → post u → B u t → H.size ≤ H1.size → (∀ q : Nat, q < H.size → ¬ A1 q → H1[q]? = H[q]?) → va_S A0 H0 H1 locs1 → W p l e R s m args below meth c H1 locs1 (cells + mc) (slots + ms) Q (F0 m (pc + 3) ls (rest))) : W p l e R s m args below meth c H locs cells slots Q (F0 m pc ls st0) := by
  intro T hT X
  rcases hr T hT X with ⟨v, st₀, t, T', L, h0, X', hL, e1, e2, ⟨⟨u, hv, hp, hb⟩, hF⟩, st⟩ | ⟨q, st₀, t, T', L, E, ce, h0, X', hL, e1, e2, ⟨u, hp, hb, hF⟩, hce, hcv, hcl, st⟩
  · cases hv
    obtain ⟨k1, k2, k3⟩ := vx_keep h0 e1 hS hA hf hL hF
    obtain ⟨t2, a1, b1⟩ := kk u t T'.heap (locs ++ L) e1.symm (by rw [← e2]; exact X'.warmed.alike) hp hb k1 k2 k3 T' rfl X'
    exact ⟨t2, st t2 a1, b1⟩
  · obtain ⟨k1, k2, k3⟩ := vx_keep h0 e1 hS hAX hf hL hF
    obtain ⟨t2, a1, b1⟩ := kx E ce q u t T'.heap (locs ++ L) e1.symm (by rw [← e2]; exact X'.warmed.alike) hp hb k1 k2 k3 (by rw [e1]; exact hce) hcv hcl T' rfl X'
    exact ⟨t2, st.trans a1, b1⟩
/-- caught by the row x of this method's table; the rows ahead don't take it -/
theorem vx_catch {own name : String} {E : String} {ce : Cell} {q : Addr} (hown : s.vm.findClass own = some m.cls) (pre : List ExceptionTableEntry) (x : ExceptionTableEntry) (suf : List ExceptionTableEntry) (hsplit : c.exceptionTable.toList = pre ++ x :: suf)
    (hpass : ∀ z ∈ pre, covers z pc = false ∨ (z.catchType ≠ 0 ∧ ∃ nm : String, (Cond.classLink own z.catchType nm).before args s = true ∧ va_Nc E nm s)) (hx : covers x pc = true) (h0 : x.catchType ≠ 0)
    (hlink : (Cond.classLink own x.catchType name).before args s = true) (hcast : (Cond.castable E name).before args s = true) (hcell : H[q]? = some ce) (hv : ce.vm = .none) (hcl : s.vm.findClass E = some ce.cls)
    (kk : W p l e R s m args below meth c H locs cells slots Q (F0 m x.handlerPc ls [.ref q])) : vx_W p l e R s m args below meth c H locs cells slots Q (F0 m pc ls rest) q := by
  intro T hT X
  have hpl : e.platform.magicAccessors = ({} : Platform).magicAccessors := by rw [X.admits.platform]
  obtain ⟨c3, c4, hc3, hc4, hasg⟩ := Cond.castable_spec hcast
  cases Option.some.inj (hc3.symm.trans hcl)
  obtain ⟨c5, hc5, hcl5⟩ := Cond.classLink_spec hown hlink e.platform hpl
  cases Option.some.inj (hc4.symm.trans hc5)
  obtain ⟨vm', X', st⟩ := X.thenCaughtThrough q (g := F0 m pc ls rest) rfl (Steps.refl _) (by rw [hT]; exact hcell) (by rw [hv]; rfl) (by obtain ⟨k9, h9, -⟩ := Vm.findClass_spec hcl; exact ⟨k9, h9⟩) pre x suf hsplit
    (fun z hz => by
      rcases hpass z hz with h | ⟨hz0, nm, hl1, hn1⟩
      · exact Or.inl h
      · obtain ⟨c6, hc6, hcl6⟩ := Cond.classLink_spec hown hl1 e.platform hpl
        obtain ⟨a8, b8, h1, h2, h3⟩ := hn1
        cases Option.some.inj (h1.symm.trans hcl)
        cases Option.some.inj (h2.symm.trans hc6)
        exact Or.inr ⟨hz0, _, hcl6, h3⟩) hx (Or.inr ⟨h0, c4, hcl5, hasg⟩)
  obtain ⟨t, a1, b1⟩ := kk (T.setVm vm') hT X'
  exact ⟨t, st.trans a1, b1⟩
end Rows
section Ends
variable {p : Program} {l : Launch} {e : Env} {R : Room} {s : State} {m : MethodId} {args : Array Value} {below : List Frame} {meth : Method} {c : Code} {H : Heap} {locs : List Loc} {cells slots : Nat} {Q : State → Prop}
variable {mc ms : Nat} {free : Addr → Prop} {A0 A1 : Nat → Prop} {H0 : Heap} {a : Array Value} {ls : Array Slot} {st0 rest : List Value}
variable {Qc : Array Value → State → Outcome → State → Prop} {XC : String → State → State → Prop}
/-- what a body that may throw owes at its end -/
def vx_MQ (below : List Frame) (Qc : Array Value → State → Outcome → State → Prop) (XC : String → State → State → Prop) (a : Array Value) (s : State) (mc ms : Nat) (free : Addr → Prop) : State → Prop := fun t =>
  ∃ o, t.status = .running ∧ Ended t below o ∧ vx_Q Qc XC mc ms free a s o t
theorem vx_ret {g : JFrame} {mc ms : Nat} (k : W p l e R s m args below meth c H locs cells slots (MQ below Qc args s mc ms free) g) : W p l e R s m args below meth c H locs cells slots (vx_MQ below Qc XC args s mc ms free) g := by
  intro T hT X
  obtain ⟨t, a1, o, b1, b2, b3, b4⟩ := k T hT X
  exact ⟨t, a1, o, b1, b2, Or.inl ⟨b3, b4⟩⟩
/-- not caught here: it goes on to the caller -/
theorem vx_widen {g : JFrame} {q : Addr} {k n : Nat} (h1 : cells ≤ k) (h2 : slots ≤ n) (kk : vx_W p l e R s m args below meth c H locs k n Q g q) : vx_W p l e R s m args below meth c H locs cells slots Q g q := fun T hT X => kk T hT (stand_widen X h1 h2)
theorem vx_out {pc : Nat} {E : String} {ce : Cell} {q : Addr} {mc ms : Nat} (hout : ∀ x ∈ c.exceptionTable.toList, covers x pc = false) (hlocks : meth.locks = false) (hcell : H[q]? = some ce) (hv : ce.vm = .none) (hcl : s.vm.findClass E = some ce.cls)
    (hx : ∀ t : State, t.heap = H → s.vm.Alike t.vm → XC E s t) (hf : ∀ z ∈ locs, free z.base) (hc : cells ≤ mc) (hs : slots ≤ ms) :
    vx_W p l e R s m args below meth c H locs cells slots (vx_MQ below Qc XC args s mc ms free) (F0 m pc ls rest) q := by
  intro T hT X
  obtain ⟨st1, hrun, hend, hW, hsm⟩ := X.leaveThrown q (g := F0 m pc ls rest) rfl rfl rfl hout hlocks
  have hcell9 : (T.setFrames (.throwing q :: below)).heap[q]? = some ce := by
    show T.heap[q]? = some ce
    rw [hT]; exact hcell
  exact ⟨_, st1, .threw q, hrun, hend, Or.inr ⟨q, rfl, E, ce, locs, hx _ hT hW.alike, hcell9, hv, hcl, hW, hsm.mono hc hs, hf⟩⟩
theorem vx_frame {U : State} {k n : Nat} (h : s.sameButNew ({ U with vm := s.vm } : State) locs k n) : s.heap.size ≤ U.heap.size ∧ ∀ q : Nat, q < s.heap.size → (∀ z ∈ locs, z.base ≠ q) → U.heap[q]? = s.heap[q]? := by
  obtain ⟨-, h2, -, -, -, h6⟩ := h
  refine ⟨h2, fun q hq hz => ?_⟩
  obtain ⟨c9, e1, e2, e3, e4⟩ := h6 q _ (Array.getElem?_eq_getElem hq)
  have hs : c9.slots = (s.heap[q]).slots := Array.ext_getElem? fun i => e4 i fun hm => hz _ hm rfl
  have h9 : c9 = s.heap[q] := by
    rw [hs] at e2
    exact e2
  have e5 : U.heap[q]? = some c9 := e1
  rw [e5, h9, Array.getElem?_eq_getElem hq]
/-- the words of a throw but the four that speak of the heap -/
def vx_no (w : Cond) : Bool := decide (w ≠ .isRef (.static Bundle.tN "UNASSIGNED_STACK" Bundle.steD)) && decide (w ≠ .isRef (.static Bundle.tN "SUPPRESSED_SENTINEL" Bundle.listD)) && decide (w ≠ .laysStatic Bundle.tN "UNASSIGNED_STACK" Bundle.steD) && decide (w ≠ .laysStatic Bundle.tN "SUPPRESSED_SENTINEL" Bundle.listD)
def vx_at0 (own : String) (ic : Nat) (X : String) (names : List String) : List Cond := (Bundle.ownAtoms0 own ic X names).filter vx_no
def vx_atS (own : String) (ic : Nat) (X : String) (names : List String) : List Cond := (Bundle.ownAtoms own ic X names).filter vx_no
/-- a word that the tables alone decide, or a good one -/
def vx_ot (w : Cond) : Bool := w.onTables || goodWord w
theorem vx_ot_at {args a' : Array Value} {s U : State} {w : Cond} (hW : s.WarmedH U.vm) (hvm : s.vm = U.vm) (hg : vx_ot w = true) (h : w.before args s = true) : w.before a' U = true := by
  simp only [vx_ot, Bool.or_eq_true] at hg
  rcases hg with hg | hg
  · exact va_tabs hg hvm h
  · exact word_at hW (good_of_word hg) h
/-- a list's words: the good ones out of the method's own list, the others by premises of their own -/
theorem vx_hat {args : Array Value} {s : State} {L B : List Cond} (h1 : ∀ w ∈ L.filter goodWord, w.before args s = true) (h2 : ∀ w ∈ L.filter (fun w => !goodWord w), w ∈ B) (h3 : ∀ w ∈ B, w.before args s = true) : ∀ w ∈ L, w.before args s = true := by
  intro w hw
  by_cases g : goodWord w = true
  · exact h1 w (List.mem_filter.mpr ⟨hw, g⟩)
  · refine h3 w (h2 w (List.mem_filter.mpr ⟨hw, ?_⟩))
    show (!goodWord w) = true
    cases hgw : goodWord w
    · rfl
    · exact absurd hgw g
theorem vx_c {args : Array Value} {s : State} {w : Cond} {B : List Cond} (h : w.before args s = true) (t : ∀ w ∈ B, w.before args s = true) : ∀ w' ∈ w :: B, w'.before args s = true := fun w' h' => (List.mem_cons.mp h').elim (fun e => by rw [e]; exact h) (t w')
theorem vx_n {args : Array Value} {s : State} : ∀ w ∈ ([] : List Cond), w.before args s = true := fun _ h => nomatch h
theorem vx_own {args : Array Value} {s : State} {L : List Cond} (h1 : ∀ w ∈ L.filter vx_no, w.before args s = true)
    (hU : (Cond.isRef (.static Bundle.tN "UNASSIGNED_STACK" Bundle.steD)).before args s = true) (hN : (Cond.isRef (.static Bundle.tN "SUPPRESSED_SENTINEL" Bundle.listD)).before args s = true)
    (lU : (Cond.laysStatic Bundle.tN "UNASSIGNED_STACK" Bundle.steD).before args s = true) (lN : (Cond.laysStatic Bundle.tN "SUPPRESSED_SENTINEL" Bundle.listD).before args s = true) : ∀ w ∈ L, w.before args s = true := by
  intro w hw
  by_cases e1 : w = .isRef (.static Bundle.tN "UNASSIGNED_STACK" Bundle.steD)
  · rw [e1]; exact hU
  · by_cases e2 : w = .isRef (.static Bundle.tN "SUPPRESSED_SENTINEL" Bundle.listD)
    · rw [e2]; exact hN
    · by_cases e3 : w = .laysStatic Bundle.tN "UNASSIGNED_STACK" Bundle.steD
      · rw [e3]; exact lU
      · by_cases e4 : w = .laysStatic Bundle.tN "SUPPRESSED_SENTINEL" Bundle.listD
        · rw [e4]; exact lN
        · exact h1 w (List.mem_filter.mpr ⟨hw, by unfold vx_no; rw [decide_eq_true e1, decide_eq_true e2, decide_eq_true e3, decide_eq_true e4]; rfl⟩)
/-- where a static field lies, its class's statics cell in H -/
def vx_L (C n d : String) (A : Nat → Prop) (U : State) (H : Heap) : Prop := ∃ (c : ClassId) (k : Class) (i : Nat) (f : Field) (a : Nat) (cell : Cell), U.vm.findClass C = some c ∧ U.fieldFound? C n d = some (c, k, i, f) ∧ f.isStatic = true ∧ k.statics = some a ∧ H[a]? = some cell ∧ cell.vm.isStatics = true ∧ cell.cls = c ∧ f.slot < cell.slots.size ∧ k.staticTypes[f.slot]? = some f.type ∧ ¬ A a
theorem vx_L.moved {C n d : String} {A : Nat → Prop} {u U : State} {H : Heap} (hvm : u.vm.Alike U.vm) (h : vx_L C n d A u H) : vx_L C n d A U H := by
  obtain ⟨c, k, i, f, a, cell, h1, h2, h3, h4, h5, h6, h7, h8, h9, h10⟩ := h
  obtain ⟨k', hi', he⟩ := State.fieldFound?_setVm hvm h2
  exact ⟨c, k', i, f, a, cell, by rw [hvm.findClass]; exact h1, hi', h3, by rw [he]; exact h4, h5, h6, h7, h8, by rw [he]; exact h9, h10⟩
theorem vx_L.kept {C n d : String} {A : Nat → Prop} {U : State} {H H1 : Heap} (h : vx_L C n d A U H) (hq : ∀ a : Nat, a < H.size → ¬ A a → H1[a]? = H[a]?) : vx_L C n d A U H1 := by
  obtain ⟨c, k, i, f, a, cell, h1, h2, h3, h4, h5, h6, h7, h8, h9, h10⟩ := h
  exact ⟨c, k, i, f, a, cell, h1, h2, h3, h4, by rw [hq a (Array.getElem?_eq_some_iff.mp h5).1 h10]; exact h5, h6, h7, h8, h9, h10⟩
theorem vx_L.narrow {C n d : String} {A B : Nat → Prop} {U : State} {H : Heap} (h : vx_L C n d A U H) (hAB : ∀ q, B q → A q) : vx_L C n d B U H := by
  obtain ⟨c, k, i, f, a, cell, h1, h2, h3, h4, h5, h6, h7, h8, h9, h10⟩ := h
  exact ⟨c, k, i, f, a, cell, h1, h2, h3, h4, h5, h6, h7, h8, h9, fun z => h10 (hAB _ z)⟩
theorem vx_L.word {C n d : String} {A : Nat → Prop} {s : State} {args : Array Value} (h : vx_L C n d A s s.heap) : (Cond.laysStatic C n d).before args s = true := by
  obtain ⟨c, k, i, f, a, cell, h1, h2, h3, h4, h5, h6, h7, h8, h9, -⟩ := h
  show (Cond.laysStatic C n d).holds args s none s [] = true
  exact Cond.laysStatic_of h1 h2 h3 h4 h5 h6 h7 h8 h9
/-- .. and what it holds: null or some reference -/
def vx_Zq (C n d : String) (A : Nat → Prop) (U : State) (H : Heap) : Prop := va_Zq C n d A U H ∧ vx_L C n d A U H
theorem vx_Zq.moved {C n d : String} {A : Nat → Prop} {u U : State} {H : Heap} (hvm : u.vm.Alike U.vm) (h : vx_Zq C n d A u H) : vx_Zq C n d A U H := ⟨va_Zq.moved hvm h.1, vx_L.moved hvm h.2⟩
theorem vx_Zq.kept {C n d : String} {A : Nat → Prop} {U : State} {H H1 : Heap} (h : vx_Zq C n d A U H) (hq : ∀ a : Nat, a < H.size → ¬ A a → H1[a]? = H[a]?) : vx_Zq C n d A U H1 := ⟨va_Zq.kept h.1 hq, vx_L.kept h.2 hq⟩
theorem vx_Zq.narrow {C n d : String} {A B : Nat → Prop} {U : State} {H : Heap} (h : vx_Zq C n d A U H) (hAB : ∀ q, B q → A q) : vx_Zq C n d B U H := ⟨va_Zq.narrow h.1 hAB, vx_L.narrow h.2 hAB⟩
theorem vx_Zqof {args : Array Value} {s : State} {C n d : String} {A : Nat → Prop} (hl : (Cond.laysStatic C n d).before args s = true) (hini : (Cond.initialized C).before args s = true) (h : (Cond.isRef (.static C n d)).before args s = true) (hA : ∀ a : Nat, a < s.heap.size → ¬ A a) : vx_Zq C n d A s s.heap := by
  refine ⟨va_Zqof hl hini h hA, ?_⟩
  obtain ⟨c, k, i, f, a, cell, h1, h2, h3, h4, h5, h6, h7, h8, h9⟩ := Cond.laysStatic_spec hl
  exact ⟨c, k, i, f, a, cell, h1, h2, h3, h4, h5, h6, h7, h8, h9, hA a (Array.getElem?_eq_some_iff.mp h5).1⟩
theorem vx_isRef {C n d : String} {v : Value} {A : Nat → Prop} {s : State} {args : Array Value} (h : va_Z C n d v A s s.heap) (hv : v.isRef = true) : (Cond.isRef (.static C n d)).before args s = true := by
  obtain ⟨cf, kf, fi, f, a, cell, h1, h2, h3, h4, h5, h6, h7, -⟩ := h
  have he : (Term.static C n d).eval args s none [] s = some v := by
    simp [Term.eval, State.fieldNamed?, h1, h2, h4, h5, h6, h7]
  simp only [Cond.before, Cond.holds, Cond.value, he]
  cases v <;> simp_all [Value.isRef]
theorem vx_isRefq {C n d : String} {A : Nat → Prop} {s : State} {args : Array Value} (h : va_Zq C n d A s s.heap) : (Cond.isRef (.static C n d)).before args s = true := by
  rcases h with h | ⟨t, h⟩
  · exact vx_isRef h rfl
  · exact vx_isRef h rfl
/-- the same frame, seen from here: as if the method were called anew in this heap -/
theorem vx_rebase {T : State} (X : Stand p l e R s m args below meth c T locs cells slots) {R' : Room} (hf : R'.frames ≤ R.frames) (hl : R'.locals ≤ R.locals) (hc : cells + R'.cells ≤ R.cells) (hs : slots + R'.slots ≤ R.slots) :
    Stand p l e R' ((T.setVm s.vm).setFrames (.invoking m args :: below)) m args below meth c T [] 0 0 := by
  have htop : (T.setVm s.vm).topJava?.isSome := X.here.top
  have hF : ((T.setVm s.vm).setFrames (.invoking m args :: below)).frames = .invoking m args :: below := State.frames_setFrames _ (State.cur_lt_of_top htop)
  obtain ⟨g₀, hg0⟩ := Option.isSome_iff_exists.mp htop
  obtain ⟨r, hr⟩ := State.topJava?_eq_some.mp hg0
  have hl9 : e.platform.stackLimits (T.setVm s.vm).me = e.platform.stackLimits s.me := X.limits
  have hb9 : (T.setVm s.vm).me.stackBytes = s.me.stackBytes := X.bytes
  refine ⟨X.admits, X.cas, X.clock, hF, ?_, X.hears, X.method, X.code, X.here, X.tail, X.warmed, ?_, ?_, ?_⟩
  · have h := X.room
    have hU : ((T.setVm s.vm).setFrames (.invoking m args :: below)).localsInUse = s.localsInUse := by
      rw [State.localsInUse_invoking hF (meth := meth) (c := c) X.method X.code, State.localsInUse_invoking X.frames X.method X.code]
    simp only [State.hasRoom, Bool.and_eq_true, decide_eq_true_eq] at h ⊢
    obtain ⟨⟨⟨⟨h1, h2, h3, h4, h5, h6⟩, h7⟩, h8⟩, h9⟩ := h
    rw [X.frames, List.length_cons] at h2 h3
    have q1 := X.heapSize
    have q2 := X.used
    simp only [hF, hU, List.length_cons, State.stackLimits_setFrames, State.stackBytes_setFrames, hl9, hb9]
    refine ⟨⟨⟨⟨by omega, by omega, by omega, by omega, by omega, h6⟩, ?_⟩, ?_⟩, X.book⟩
    · show T.heap.size + R'.cells ≤ e.platform.maxCells
      omega
    · show T.slotsUsed + R'.slots ≤ e.platform.maxSlots
      omega
  · rw [State.stackLimits_setFrames]; rfl
  · rw [State.stackBytes_setFrames]; rfl
  · refine ⟨?_, Nat.le_refl _, Nat.le_refl _, ?_, ?_, fun a c9 h9 => ⟨c9, h9, rfl, rfl, fun _ _ => rfl⟩⟩
    · obtain ⟨t, ht, -⟩ := State.frames_cons hr
      show T.setVm s.vm = { ((T.setVm s.vm).setFrames (.invoking m args :: below)).setFrames (T.setVm s.vm).frames with heap := T.heap, slotsUsed := T.slotsUsed }
      rw [State.setFrames_setFrames, State.setFrames_self ht]
      rfl
    · show T.slotsUsed = T.slotsUsed + ((T.heap.toList.drop T.heap.size).map (·.slots.size)).sum
      rw [List.drop_eq_nil_of_le (Nat.le_of_eq Array.length_toList)]
      rfl
    · show ((T.heap.toList.drop T.heap.size).map (·.slots.size)).sum ≤ 0
      rw [List.drop_eq_nil_of_le (Nat.le_of_eq Array.length_toList)]
      exact Nat.le_refl _
/-- 'throw new E()': new; dup; invokespecial; athrow -/
theorem vx_throw0 {cc : ByteArray} {pc : Nat} (hexec : p.tables.exec = Jvm.exec) (hb : c.code = cc) (hl : l.stackTraces = false) {own cls : String} {names : List String} {ik ic mc ms : Nat} {A : Nat → Prop}
    (hown : s.vm.findClass own = some m.cls) (hcls : Bundle.fit cls = true) (hnames : ∀ n ∈ names, Bundle.fit n = true)
    (hk : (Cond.classLink own ik cls).before args s = true) (hini : (Cond.initialized cls).before args s = true) (hat : ∀ w ∈ vx_at0 own ic cls names, w.before args s = true)
    (hgood : ∀ w ∈ Cond.classLink own ik cls :: Cond.initialized cls :: vx_at0 own ic cls names, vx_ot w = true)
    (hU : vx_Zq Bundle.tN "UNASSIGNED_STACK" Bundle.steD A s s.heap) (hN : vx_Zq Bundle.tN "SUPPRESSED_SENTINEL" Bundle.listD A s s.heap) (hS : va_S A s.heap H locs) (hsize : ls.size = c.maxLocals)
    (d0 : decode cc pc = .ok (.new ik, 3)) (d3 : decode cc (pc + 3) = .ok (.dup, 1)) (d4 : decode cc (pc + 4) = .ok (.invokespecial ic, 3)) (d7 : decode cc (pc + 7) = .ok (.athrow, 1))
    (hout : ∀ x ∈ c.exceptionTable.toList, covers x (pc + 7) = false)
    (hRframes : names.length + 3 < R.frames) (hRlocals : (rest.map fun v => v.category).sum + (13 * (names.length + 1) + 42) ≤ R.locals) (hRcells : cells + 1 ≤ R.cells) (hRslots : slots + 6 ≤ R.slots) (hlocks : meth.locks = false)
    (hx : ∀ t : State, s.vm.Alike t.vm → H.size ≤ t.heap.size → (∀ q : Nat, q < H.size → t.heap[q]? = H[q]?) → XC cls s t)
    (hf : ∀ z ∈ locs, free z.base) (hc : cells + 1 ≤ mc) (hs : slots + 6 ≤ ms) :
    W p l e R s m args below meth c H locs cells slots (vx_MQ below Qc XC args s mc ms free) (F0 m pc ls rest) := by
  intro T hT X
  have htr : e.platform.stackTraces = false := (show e.platform.stackTraces = l.stackTraces by rw [X.admits.platform]).trans hl
  have Y := vx_rebase X (R' := { frames := R.frames, locals := R.locals, cells := 1, slots := 6 }) (Nat.le_refl _) (Nat.le_refl _) hRcells hRslots
  obtain ⟨s', hA⟩ : ∃ z, z = (T.setVm s.vm).setFrames (.invoking m args :: below) := ⟨_, rfl⟩
  rw [← hA] at Y
  have hvm : s'.vm = s.vm := by rw [hA]; rfl
  have hhp : s'.heap = H := by rw [hA]; exact hT
  have hW0 : s.WarmedH s'.vm := by rw [hvm]; exact State.WarmedH.refl s
  have hat' : ∀ w ∈ vx_at0 own ic cls names, w.before args s' = true := fun w hw => vx_ot_at hW0 hvm.symm (hgood w (List.mem_cons_of_mem _ (List.mem_cons_of_mem _ hw))) (hat w hw)
  have hk' : (Cond.classLink own ik cls).before args s' = true := vx_ot_at hW0 hvm.symm (hgood _ List.mem_cons_self) hk
  have hini' : (Cond.initialized cls).before args s' = true := vx_ot_at hW0 hvm.symm (hgood _ (List.mem_cons_of_mem _ List.mem_cons_self)) hini
  have hU' : vx_Zq Bundle.tN "UNASSIGNED_STACK" Bundle.steD A s' s'.heap := by rw [hhp]; exact vx_Zq.moved hW0.alike (hU.kept hS.2.1)
  have hN' : vx_Zq Bundle.tN "SUPPRESSED_SENTINEL" Bundle.listD A s' s'.heap := by rw [hhp]; exact vx_Zq.moved hW0.alike (hN.kept hS.2.1)
  have h : ∀ w ∈ Bundle.ownAtoms0 own ic cls names, w.before args s' = true := vx_own hat' (vx_isRefq hU'.1) (vx_isRefq hN'.1) hU'.2.word hN'.2.word
  have hown' : s'.vm.findClass own = some m.cls := by rw [hvm]; exact hown
  have hins : (Cond.instantiable cls 6).before args s' = true := h _ (by simp [Bundle.ownAtoms0])
  obtain ⟨vm₁, cX, kX, hfX, hkX, -, -, X₁, st1⟩ := Y.newCold hexec (own := own) (C := cls) (index := ik) (n := 6) hown' hk' hins hini'
    (g := F0 m pc ls rest) rfl (by rw [hb]; exact d0) (Nat.le_refl _) (Nat.le_refl _)
  generalize hT1 : (T.setVm vm₁).pushCell { cls := cX, slots := kX.instanceTypes.map defaultValue, vm := .none } = T1 at X₁ st1
  have hcat : (Value.ref T.heap.size).category = 1 := rfl
  have hcellA : T1.heap[T.heap.size]? = some (freshCell cX kX) := by rw [← hT1]; exact State.heap_pushCell_size _ _
  have d3' : decode c.code (pc + 3) = .ok (.dup, 1) := by rw [hb]; exact d3
  obtain ⟨U, hsteps, hrun, hend, hW, hsame, ce, hce, hO⟩ := X₁.ctorThrow0 hexec htr (own := own) (cls := cls) (names := names) (ic := ic) hown' hcls hnames h (fun x hx => nomatch hx) hfX hkX hcellA (by rw [hhp, hT]; exact Nat.le_refl _)
    (g := { method := m, pc := pc + 4, locals := ls, stack := .ref T.heap.size :: .ref T.heap.size :: rest, locked := none }) rfl hsize rfl rfl (rest := rest) rfl
    (by rw [hb]; exact d4) (by rw [hb]; exact d7) hout hRframes (by simp only [List.map_cons, List.sum_cons, hcat]; omega) hlocks
  obtain ⟨f1, f2⟩ := vx_frame hsame
  rw [hhp] at f1 f2
  have hWs : s.WarmedH U.vm := State.WarmedH.trans hW0 hW
  have hcl : s.vm.findClass cls = some ce.cls := by
    have h9 := hO.cls
    rw [hvm] at h9
    exact h9
  have hall : s.sameButNew ({ U with vm := s.vm } : State) locs mc ms := by
    subst hA
    obtain ⟨e1, e2⟩ := hsame
    rw [State.setFrames_setFrames] at e1
    have h2 : (T.setVm s.vm).sameButNew ({ U with vm := s.vm } : State) [] (0 + 1) (0 + 6) := ⟨e1, e2⟩
    have h3 := X.same.trans h2
    rw [List.append_nil] at h3
    exact h3.mono hc hs
  refine ⟨U, ?_, .threw T.heap.size, hrun, hend, Or.inr ⟨T.heap.size, rfl, cls, ce, locs, hx U hWs.alike f1 (fun q hq => f2 q hq (fun z hz => nomatch hz)), hce, hO.vm, hcl, hWs, hall, hf⟩⟩
  refine st1 _ ?_
  show Steps p.tables e below (T1.setTop { method := m, pc := pc + 3, locals := ls, stack := .ref T.heap.size :: rest, locked := none }) _
  jvm_step X₁.here [X₁.here.top, hexec, d3', Value.category]
  exact hsteps
/-- 'throw new E("text")': new; dup; ldc; invokespecial; athrow -/
theorem vx_throwS {cc : ByteArray} {pc : Nat} (hexec : p.tables.exec = Jvm.exec) (hb : c.code = cc) (hl : l.stackTraces = false) {own cls text : String} {names : List String} {ik is ic mc ms sa : Nat} {A : Nat → Prop}
    (hown : s.vm.findClass own = some m.cls) (hcls : Bundle.fit cls = true) (hnames : ∀ n ∈ names, Bundle.fit n = true)
    (hk : (Cond.classLink own ik cls).before args s = true) (hini : (Cond.initialized cls).before args s = true) (hstr : vk_R own is text sa s) (hat : ∀ w ∈ vx_atS own ic cls names, w.before args s = true)
    (hgood : ∀ w ∈ Cond.classLink own ik cls :: Cond.initialized cls :: vx_atS own ic cls names, vx_ot w = true)
    (hU : vx_Zq Bundle.tN "UNASSIGNED_STACK" Bundle.steD A s s.heap) (hN : vx_Zq Bundle.tN "SUPPRESSED_SENTINEL" Bundle.listD A s s.heap) (hS : va_S A s.heap H locs) (hsize : ls.size = c.maxLocals)
    (d0 : decode cc pc = .ok (.new ik, 3)) (d3 : decode cc (pc + 3) = .ok (.dup, 1)) (d4 : decode cc (pc + 4) = .ok (.ldc is, 2)) (d6 : decode cc (pc + 6) = .ok (.invokespecial ic, 3)) (d9 : decode cc (pc + 9) = .ok (.athrow, 1))
    (hout : ∀ x ∈ c.exceptionTable.toList, covers x (pc + 9) = false)
    (hRframes : names.length + 3 < R.frames) (hRlocals : (rest.map fun v => v.category).sum + (13 * (names.length + 1) + 43) ≤ R.locals) (hRcells : cells + 1 ≤ R.cells) (hRslots : slots + 6 ≤ R.slots) (hlocks : meth.locks = false)
    (hx : ∀ t : State, s.vm.Alike t.vm → H.size ≤ t.heap.size → (∀ q : Nat, q < H.size → t.heap[q]? = H[q]?) → XC cls s t)
    (hf : ∀ z ∈ locs, free z.base) (hc : cells + 1 ≤ mc) (hs : slots + 6 ≤ ms) :
    W p l e R s m args below meth c H locs cells slots (vx_MQ below Qc XC args s mc ms free) (F0 m pc ls rest) := by
  intro T hT X
  have htr : e.platform.stackTraces = false := (show e.platform.stackTraces = l.stackTraces by rw [X.admits.platform]).trans hl
  have Y := vx_rebase X (R' := { frames := R.frames, locals := R.locals, cells := 1, slots := 6 }) (Nat.le_refl _) (Nat.le_refl _) hRcells hRslots
  obtain ⟨s', hA⟩ : ∃ z, z = (T.setVm s.vm).setFrames (.invoking m args :: below) := ⟨_, rfl⟩
  rw [← hA] at Y
  have hvm : s'.vm = s.vm := by rw [hA]; rfl
  have hhp : s'.heap = H := by rw [hA]; exact hT
  have hW0 : s.WarmedH s'.vm := by rw [hvm]; exact State.WarmedH.refl s
  have hat' : ∀ w ∈ vx_atS own ic cls names, w.before args s' = true := fun w hw => vx_ot_at hW0 hvm.symm (hgood w (List.mem_cons_of_mem _ (List.mem_cons_of_mem _ hw))) (hat w hw)
  have hk' : (Cond.classLink own ik cls).before args s' = true := vx_ot_at hW0 hvm.symm (hgood _ List.mem_cons_self) hk
  have hini' : (Cond.initialized cls).before args s' = true := vx_ot_at hW0 hvm.symm (hgood _ (List.mem_cons_of_mem _ List.mem_cons_self)) hini
  have hU' : vx_Zq Bundle.tN "UNASSIGNED_STACK" Bundle.steD A s' s'.heap := by rw [hhp]; exact vx_Zq.moved hW0.alike (hU.kept hS.2.1)
  have hN' : vx_Zq Bundle.tN "SUPPRESSED_SENTINEL" Bundle.listD A s' s'.heap := by rw [hhp]; exact vx_Zq.moved hW0.alike (hN.kept hS.2.1)
  have h : ∀ w ∈ Bundle.ownAtoms own ic cls names, w.before args s' = true := vx_own hat' (vx_isRefq hU'.1) (vx_isRefq hN'.1) hU'.2.word hN'.2.word
  have hown' : s'.vm.findClass own = some m.cls := by rw [hvm]; exact hown
  have hins : (Cond.instantiable cls 6).before args s' = true := h _ (by simp [Bundle.ownAtoms])
  obtain ⟨vm₁, cX, kX, hfX, hkX, -, -, X₁, st1⟩ := Y.newCold hexec (own := own) (C := cls) (index := ik) (n := 6) hown' hk' hins hini'
    (g := F0 m pc ls rest) rfl (by rw [hb]; exact d0) (Nat.le_refl _) (Nat.le_refl _)
  generalize hT1 : (T.setVm vm₁).pushCell { cls := cX, slots := kX.instanceTypes.map defaultValue, vm := .none } = T1 at X₁ st1
  have hcat : (Value.ref T.heap.size).category = 1 := rfl
  have hcellA : T1.heap[T.heap.size]? = some (freshCell cX kX) := by rw [← hT1]; exact State.heap_pushCell_size _ _
  have d3' : decode c.code (pc + 3) = .ok (.dup, 1) := by rw [hb]; exact d3
  have d4' : decode c.code (pc + 4) = .ok (.ldc is, 2) := by rw [hb]; exact d4
  have hstr' : vk_R own is text sa s' := vk_R.warm hW0 hstr
  obtain ⟨U, hsteps, hrun, hend, hW, hsame, ce, hce, hO⟩ := X₁.ctorThrowS hexec htr (own := own) (cls := cls) (names := names) (ic := ic) hown' hcls hnames h (fun x hx => nomatch hx) hfX hkX hcellA (by rw [hhp, hT]; exact Nat.le_refl _) (msg := .ref sa) rfl
    (g := { method := m, pc := pc + 6, locals := ls, stack := .ref sa :: .ref T.heap.size :: .ref T.heap.size :: rest, locked := none }) rfl hsize rfl rfl (rest := rest) rfl
    (by rw [hb]; exact d6) (by rw [hb]; exact d9) hout hRframes (by simp only [List.map_cons, List.sum_cons, hcat]; omega) hlocks
  obtain ⟨f1, f2⟩ := vx_frame hsame
  rw [hhp] at f1 f2
  have hWs : s.WarmedH U.vm := State.WarmedH.trans hW0 hW
  have hcl : s.vm.findClass cls = some ce.cls := by
    have h9 := hO.cls
    rw [hvm] at h9
    exact h9
  have hall : s.sameButNew ({ U with vm := s.vm } : State) locs mc ms := by
    subst hA
    obtain ⟨e1, e2⟩ := hsame
    rw [State.setFrames_setFrames] at e1
    have h2 : (T.setVm s.vm).sameButNew ({ U with vm := s.vm } : State) [] (0 + 1) (0 + 6) := ⟨e1, e2⟩
    have h3 := X.same.trans h2
    rw [List.append_nil] at h3
    exact h3.mono hc hs
  refine ⟨U, ?_, .threw T.heap.size, hrun, hend, Or.inr ⟨T.heap.size, rfl, cls, ce, locs, hx U hWs.alike f1 (fun q hq => f2 q hq (fun z hz => nomatch hz)), hce, hO.vm, hcl, hWs, hall, hf⟩⟩
  refine st1 _ ?_
  show Steps p.tables e below (T1.setTop { method := m, pc := pc + 3, locals := ls, stack := .ref T.heap.size :: rest, locked := none }) _
  jvm_step X₁.here [X₁.here.top, hexec, d3', Value.category]
  exact X₁.ldcString hexec (own := own) (text := text) (index := is) (a := sa) hown' hstr'.1 hstr'.2
    (g := { method := m, pc := pc + 4, locals := ls, stack := .ref T.heap.size :: .ref T.heap.size :: rest, locked := none }) rfl d4' _ hsteps
/-- 'throw new E("text")', the text by a wide index -/
theorem vx_throwSW {cc : ByteArray} {pc : Nat} (hexec : p.tables.exec = Jvm.exec) (hb : c.code = cc) (hl : l.stackTraces = false) {own cls text : String} {names : List String} {ik is ic mc ms sa : Nat} {A : Nat → Prop}
    (hown : s.vm.findClass own = some m.cls) (hcls : Bundle.fit cls = true) (hnames : ∀ n ∈ names, Bundle.fit n = true)
    (hk : (Cond.classLink own ik cls).before args s = true) (hini : (Cond.initialized cls).before args s = true) (hstr : vk_R own is text sa s) (hat : ∀ w ∈ vx_atS own ic cls names, w.before args s = true)
    (hgood : ∀ w ∈ Cond.classLink own ik cls :: Cond.initialized cls :: vx_atS own ic cls names, vx_ot w = true)
    (hU : vx_Zq Bundle.tN "UNASSIGNED_STACK" Bundle.steD A s s.heap) (hN : vx_Zq Bundle.tN "SUPPRESSED_SENTINEL" Bundle.listD A s s.heap) (hS : va_S A s.heap H locs) (hsize : ls.size = c.maxLocals)
    (d0 : decode cc pc = .ok (.new ik, 3)) (d3 : decode cc (pc + 3) = .ok (.dup, 1)) (d4 : decode cc (pc + 4) = .ok (.ldc_w is, 3)) (d7 : decode cc (pc + 7) = .ok (.invokespecial ic, 3)) (d10 : decode cc (pc + 10) = .ok (.athrow, 1))
    (hout : ∀ x ∈ c.exceptionTable.toList, covers x (pc + 10) = false)
    (hRframes : names.length + 3 < R.frames) (hRlocals : (rest.map fun v => v.category).sum + (13 * (names.length + 1) + 43) ≤ R.locals) (hRcells : cells + 1 ≤ R.cells) (hRslots : slots + 6 ≤ R.slots) (hlocks : meth.locks = false)
    (hx : ∀ t : State, s.vm.Alike t.vm → H.size ≤ t.heap.size → (∀ q : Nat, q < H.size → t.heap[q]? = H[q]?) → XC cls s t)
    (hf : ∀ z ∈ locs, free z.base) (hc : cells + 1 ≤ mc) (hs : slots + 6 ≤ ms) :
    W p l e R s m args below meth c H locs cells slots (vx_MQ below Qc XC args s mc ms free) (F0 m pc ls rest) := by
  intro T hT X
  have htr : e.platform.stackTraces = false := (show e.platform.stackTraces = l.stackTraces by rw [X.admits.platform]).trans hl
  have Y := vx_rebase X (R' := { frames := R.frames, locals := R.locals, cells := 1, slots := 6 }) (Nat.le_refl _) (Nat.le_refl _) hRcells hRslots
  obtain ⟨s', hA⟩ : ∃ z, z = (T.setVm s.vm).setFrames (.invoking m args :: below) := ⟨_, rfl⟩
  rw [← hA] at Y
  have hvm : s'.vm = s.vm := by rw [hA]; rfl
  have hhp : s'.heap = H := by rw [hA]; exact hT
  have hW0 : s.WarmedH s'.vm := by rw [hvm]; exact State.WarmedH.refl s
  have hat' : ∀ w ∈ vx_atS own ic cls names, w.before args s' = true := fun w hw => vx_ot_at hW0 hvm.symm (hgood w (List.mem_cons_of_mem _ (List.mem_cons_of_mem _ hw))) (hat w hw)
  have hk' : (Cond.classLink own ik cls).before args s' = true := vx_ot_at hW0 hvm.symm (hgood _ List.mem_cons_self) hk
  have hini' : (Cond.initialized cls).before args s' = true := vx_ot_at hW0 hvm.symm (hgood _ (List.mem_cons_of_mem _ List.mem_cons_self)) hini
  have hU' : vx_Zq Bundle.tN "UNASSIGNED_STACK" Bundle.steD A s' s'.heap := by rw [hhp]; exact vx_Zq.moved hW0.alike (hU.kept hS.2.1)
  have hN' : vx_Zq Bundle.tN "SUPPRESSED_SENTINEL" Bundle.listD A s' s'.heap := by rw [hhp]; exact vx_Zq.moved hW0.alike (hN.kept hS.2.1)
  have h : ∀ w ∈ Bundle.ownAtoms own ic cls names, w.before args s' = true := vx_own hat' (vx_isRefq hU'.1) (vx_isRefq hN'.1) hU'.2.word hN'.2.word
  have hown' : s'.vm.findClass own = some m.cls := by rw [hvm]; exact hown
  have hins : (Cond.instantiable cls 6).before args s' = true := h _ (by simp [Bundle.ownAtoms])
  obtain ⟨vm₁, cX, kX, hfX, hkX, -, -, X₁, st1⟩ := Y.newCold hexec (own := own) (C := cls) (index := ik) (n := 6) hown' hk' hins hini'
    (g := F0 m pc ls rest) rfl (by rw [hb]; exact d0) (Nat.le_refl _) (Nat.le_refl _)
  generalize hT1 : (T.setVm vm₁).pushCell { cls := cX, slots := kX.instanceTypes.map defaultValue, vm := .none } = T1 at X₁ st1
  have hcat : (Value.ref T.heap.size).category = 1 := rfl
  have hcellA : T1.heap[T.heap.size]? = some (freshCell cX kX) := by rw [← hT1]; exact State.heap_pushCell_size _ _
  have d3' : decode c.code (pc + 3) = .ok (.dup, 1) := by rw [hb]; exact d3
  have d4' : decode c.code (pc + 4) = .ok (.ldc_w is, 3) := by rw [hb]; exact d4
  have hstr' : vk_R own is text sa s' := vk_R.warm hW0 hstr
  obtain ⟨U, hsteps, hrun, hend, hW, hsame, ce, hce, hO⟩ := X₁.ctorThrowS hexec htr (own := own) (cls := cls) (names := names) (ic := ic) hown' hcls hnames h (fun x hx => nomatch hx) hfX hkX hcellA (by rw [hhp, hT]; exact Nat.le_refl _) (msg := .ref sa) rfl
    (g := { method := m, pc := pc + 7, locals := ls, stack := .ref sa :: .ref T.heap.size :: .ref T.heap.size :: rest, locked := none }) rfl hsize rfl rfl (rest := rest) rfl
    (by rw [hb]; exact d7) (by rw [hb]; exact d10) hout hRframes (by simp only [List.map_cons, List.sum_cons, hcat]; omega) hlocks
  obtain ⟨f1, f2⟩ := vx_frame hsame
  rw [hhp] at f1 f2
  have hWs : s.WarmedH U.vm := State.WarmedH.trans hW0 hW
  have hcl : s.vm.findClass cls = some ce.cls := by
    have h9 := hO.cls
    rw [hvm] at h9
    exact h9
  have hall : s.sameButNew ({ U with vm := s.vm } : State) locs mc ms := by
    subst hA
    obtain ⟨e1, e2⟩ := hsame
    rw [State.setFrames_setFrames] at e1
    have h2 : (T.setVm s.vm).sameButNew ({ U with vm := s.vm } : State) [] (0 + 1) (0 + 6) := ⟨e1, e2⟩
    have h3 := X.same.trans h2
    rw [List.append_nil] at h3
    exact h3.mono hc hs
  refine ⟨U, ?_, .threw T.heap.size, hrun, hend, Or.inr ⟨T.heap.size, rfl, cls, ce, locs, hx U hWs.alike f1 (fun q hq => f2 q hq (fun z hz => nomatch hz)), hce, hO.vm, hcl, hWs, hall, hf⟩⟩
  refine st1 _ ?_
  show Steps p.tables e below (T1.setTop { method := m, pc := pc + 3, locals := ls, stack := .ref T.heap.size :: rest, locked := none }) _
  jvm_step X₁.here [X₁.here.top, hexec, d3', Value.category]
  exact X₁.ldcStringW hexec (own := own) (text := text) (index := is) (a := sa) hown' hstr'.1 hstr'.2
    (g := { method := m, pc := pc + 4, locals := ls, stack := .ref T.heap.size :: .ref T.heap.size :: rest, locked := none }) rfl d4' _ hsteps
end Ends
section Bodies
variable {l : Launch}
theorem vx_ofW {y : MethodName} {ws ws' : List Cond} {rm : Room} {Pc : Array Value → State → Prop} {Qc : Array Value → State → Outcome → State → Prop} {XC : String → State → State → Prop} {mc ms : Nat} {free : Addr → Prop} {cc : ByteArray} {maxL : Nat} {ret : Option FieldType}
    (hy : plainName y.cls = true) (hw : ws = Cond.code y cc maxL ret :: ws')
    (body : ∀ p e s m args below meth c s₁, BodyLoose p l y (headSpec ws rm) cc maxL ret e s m args below meth c s₁ → c.maxLocals = maxL → (∀ x ∈ c.exceptionTable.toList, False) → Pc args s →
      W p l e (headSpec ws rm).room s m args below meth c s.heap [] 0 0 (vx_MQ below Qc XC args s mc ms free) (entryFrame m args maxL)) : vx_Met l y ws rm Pc Qc XC mc ms free := by
  refine MetFree.of_bodyS (code := cc) (maxLocals := maxL) (ret := ret) hy ?_ ?_
  · intro args s m h hn
    obtain ⟨meth, c, h1, h2, h3, h4, h5, h6, -, -⟩ := Cond.code_spec hn (atoms_spec (ws := ws) h _ (by rw [hw]; exact List.mem_cons_self))
    exact ⟨meth, c, h1, h2, h3, h4, h5, h6⟩
  · intro p e s m args below meth c s₁ B hml hP _
    have hh0 : s₁.heap = s.heap := by rw [B.state]; rfl
    have ht : ∀ x ∈ c.exceptionTable.toList, False := by
      obtain ⟨meth9, c9, h1, h2, -, -, -, -, h7, -⟩ := Cond.code_spec B.named (atoms_spec (ws := ws) B.pre _ (by rw [hw]; exact List.mem_cons_self))
      cases Option.some.inj (h1.symm.trans B.method)
      cases Option.some.inj (h2.symm.trans (Stand.of_body B).code)
      intro x hx
      rw [Array.isEmpty_iff.mp h7] at hx
      cases hx
    obtain ⟨t, a1, o, b1, b2, b3⟩ := body p e s m args below meth c s₁ B hml ht hP s₁ hh0 (Stand.of_body B)
    exact ⟨t, o, a1, b1, b2, b3⟩
/-- the table of a body with handlers -/
theorem vx_table {p : Program} {x y : MethodName} {S : Spec} {cc bytes : ByteArray} {maxL maxL' : Nat} {ret ret' : Option FieldType} {e : Env} {s s₁ : State} {m : MethodId} {args : Array Value} {below : List Frame} {meth : Method} {c : Code} {hh : List (Nat × Nat × Nat × Nat)}
    (B : BodyLoose p l y S cc maxL ret e s m args below meth c s₁) (h : (Cond.codeWith y bytes maxL' ret' hh).before args s = true) : c.exceptionTable.toList = tableOf hh := by
  obtain ⟨m9, meth9, c9, hn9, h1, h2, -, -, h6, -⟩ := Cond.codeWith_spec h
  cases Option.some.inj (hn9.symm.trans B.named)
  cases Option.some.inj (h1.symm.trans B.method)
  cases Option.some.inj (h2.symm.trans (Stand.of_body B).code)
  rw [← h6, table_eq]
end Bodies
end VXA
/-! ===== END ===== -/
/-! ===== BEGIN a static call of a method with an exception table ===== -/
section VXS
variable {p : Program} {l : Launch} {e : Env} {R : Room} {s : State} {m : MethodId} {args : Array Value} {below : List Frame} {meth : Method} {c : Code} {T : State} {H : Heap} {locs : List Loc} {cells slots : Nat}
abbrev vx_CSW (R : Room) (s : State) (args : Array Value) (own : String) (index : Nat) (y : MethodName) (bytes : ByteArray) (maxL : Nat) (ret : Option FieldType) (hh : List (Nat × Nat × Nat × Nat)) (ws : List Cond) (rm : Room) (mc ms n : Nat) : Prop :=
  (rm.cells = mc ∧ rm.slots = ms ∧ rm.frames + 1 ≤ R.frames ∧ 8 + (maxL + 11) + rm.locals ≤ R.locals ∧ (∀ w ∈ ws, ∀ (a' : Array Value) (U : State), s.WarmedH U.vm → w.before a' U = true) ∧ Cond.codeWith y bytes maxL ret hh ∈ ws) ∧
  (Cond.codeWith y bytes maxL ret hh).before args s = true ∧ (Cond.initialized y.cls).before args s = true ∧ (y.cls ≠ "java/lang/invoke/MethodHandle" ∧ y.cls ≠ "java/lang/invoke/VarHandle") ∧
  (∀ sig, parseMethodDescriptor y.desc = some sig → n = sig.parameters.length) ∧ (Cond.methodLink own index y).before args s = true ∧ (Cond.static y).before args s = true
theorem vx_cwSW {own : String} {index maxL mc ms : Nat} {y : MethodName} {bytes : ByteArray} {ret : Option FieldType} {hh : List (Nat × Nat × Nat × Nat)} {Ts ws ws' : List Cond} {rm : Room} (n : Nat) (ht : ∀ w ∈ Ts, w.before args s = true) (hT : GoodIn Ts (va_wsS own index y ws)) (hw : ws = Cond.codeWith y bytes maxL ret hh :: ws') (hrc : rm.cells = mc) (hrs : rm.slots = ms)
    (hd : y.cls ≠ "java/lang/invoke/MethodHandle" ∧ y.cls ≠ "java/lang/invoke/VarHandle" ∧ (parseMethodDescriptor y.desc).map (fun d => d.parameters.length) = some n) (hR : rm.frames + 1 ≤ R.frames ∧ 8 + (maxL + 11) + rm.locals ≤ R.locals) :
    vx_CSW R s args own index y bytes maxL ret hh ws rm mc ms n := by
  have ok : ∀ w ∈ va_wsS own index y ws, w.before args s = true := fun w h => ht w (hT w h).1
  have hG : GoodIn Ts ws := fun w h => hT w (by unfold va_wsS; exact List.mem_append_right _ h)
  have hc : Cond.codeWith y bytes maxL ret hh ∈ ws := by rw [hw]; exact List.mem_cons_self
  refine ⟨⟨hrc, hrs, hR.1, hR.2, pay_in ht hG, hc⟩, ht _ (hG _ hc).1, ok _ (by simp [va_wsS]), ⟨hd.1, hd.2.1⟩, fun sig h => ?_, ok _ (by simp [va_wsS]), ok _ (by simp [va_wsS])⟩
  have h2 := hd.2.2
  rw [h] at h2
  exact (Option.some.inj h2).symm
theorem vx_callSW (X : Stand p l e R s m args below meth c T locs cells slots) (hexec : p.tables.exec = Jvm.exec) {own : String} {index : Nat} {y : MethodName} {bytes : ByteArray} {maxL : Nat} {ret : Option FieldType} {hh : List (Nat × Nat × Nat × Nat)}
    (hown : s.vm.findClass own = some m.cls) (hlink : (Cond.methodLink own index y).before args s = true) (hstat : (Cond.static y).before args s = true) (hinit : (Cond.initialized y.cls).before args s = true)
    (hcode : (Cond.codeWith y bytes maxL ret hh).before args s = true) (hy : y.cls ≠ "java/lang/invoke/MethodHandle" ∧ y.cls ≠ "java/lang/invoke/VarHandle")
    {W9 : Nat} {Pre : Pt → Array Value → Prop} {Post : Pt → Array Value → Option Value → Pt → Prop} (hK : Back l R p e below s args y 3 W9 Pre Post)
    {g : JFrame} (hg : g.method = m) (hsize : g.locals.size = c.maxLocals) {argsL rest : List Value} (hlen : ∀ sig, parseMethodDescriptor y.desc = some sig → argsL.length = sig.parameters.length)
    (hstack : g.stack = argsL.reverse ++ rest) (hW : 2 * g.monitorRoom + (rest.map fun v => v.category).sum ≤ W9) (hdg : decode c.code g.pc = .ok (.invokestatic index, 3))
    (hpre : ∀ vm₁, s.WarmedH vm₁ → Pre ⟨T.setVm vm₁, locs, cells, slots⟩ argsL.toArray) :
    ∃ (v : Option Value) (vm₁ : Vm) (B : Pt), s.WarmedH vm₁ ∧ Stand p l e R s m args below meth c B.U B.locs B.cells B.slots ∧ Post ⟨T.setVm vm₁, locs, cells, slots⟩ argsL.toArray v B ∧
      ∀ target, Steps p.tables e below (B.U.setTop { g with pc := g.pc + 3, stack := v.toList ++ rest }) target → Steps p.tables e below (T.setTop g) target := by
  obtain ⟨mk, methM, cM, hnamed, hmethM, -, -, -, -, -, -, hsigM⟩ := Cond.codeWith_spec hcode
  have hstatic : methM.isStatic = true := Cond.static_spec hnamed hmethM hstat
  obtain ⟨kP, hkP, -⟩ := className_of_methodNamed hnamed
  have hinitP : kP.init = .initialized := Cond.initialized_spec (findClass_of_methodNamed hnamed) hkP hinit
  obtain ⟨vm₁, X₁, hstep₁⟩ := X.invokestatic hexec hown hlink hnamed hmethM hstatic hkP hinitP hy (g := g) hg (argsL := argsL) (rest := rest) (hlen _ hsigM) hstack hdg
  obtain ⟨v, B, X', hpost, hsteps⟩ := hK m meth c ⟨T.setVm vm₁, locs, cells, slots⟩ { g with stack := rest } (.invokestatic index) mk argsL.toArray X₁ hg hsize hdg hW (X₁.named hnamed) (hpre vm₁ X₁.warmed)
  exact ⟨v, vm₁, B, X₁.warmed, X', hpost, fun target h => hstep₁ _ fun acts => by rw [doInvoke_state]; exact hsteps.trans h⟩
theorem vx_runSW {y : MethodName} {bytes cc : ByteArray} {maxL nL mc ms n index : Nat} {ret : Option FieldType} {hh : List (Nat × Nat × Nat × Nat)} {ws : List Cond} {rm : Room} {Pc : Array Value → State → Prop} {Qc : Array Value → State → Outcome → State → Prop} {free : Addr → Prop} {Ts : List Cond} {own : String} {As rest : List Value} {g : JFrame}
    (S : CallFix p m c cc nL s args Ts own) (hM : Met l y ws rm Pc Qc mc ms free) (cw : vx_CSW R s args own index y bytes maxL ret hh ws rm mc ms n) (hp : PreS s H Pc As)
    (hg : g.method = m) (hn : As.length = n) (hsize : g.locals.size = nL) (hstack : g.stack = As.reverse ++ rest) (hW : 2 * g.monitorRoom + (rest.map fun v => v.category).sum ≤ 8) (hdg : decode cc g.pc = .ok (.invokestatic index, 3)) (hf : cells + mc ≤ R.cells ∧ slots + ms ≤ R.slots) :
    va_Run p l e R s m args below meth c H locs cells slots mc ms g rest (Qc As.toArray) (free) := by
  obtain ⟨⟨hrc, hrs, hfr, hlo, hws, hcw⟩, hcode, hini, hy, hlen, hl, hstt⟩ := cw
  have hK : Back l R p e below s args y 3 8 (PreOf R mc ms Pc) (PostOf Qc mc ms free) := va_backW (hh := hh) (bytes := bytes) (maxL := maxL) (ret := ret) hM hp.1 hrc hrs hfr hlo hws hcw (fun a' U hW => word_at hW (Or.inl (by first | rfl | simp [Cond.onTables, Cond.keeps, Cond.steady])) hini)
  obtain ⟨hx, hb, hml, ho, -⟩ := S
  intro T hT X
  obtain ⟨v, vm₁, ⟨U', l2, c2, s2⟩, hW₁, X', ⟨g', mk, t, L, e1, e2, hq, h1, hL, h2, h3⟩, st⟩ := vx_callSW X hx (hh := hh) (bytes := bytes) (maxL := maxL) (ret := ret) ho hl hstt hini hcode hy hK hg (hsize.trans hml.symm) (argsL := As) (rest := rest) (fun sig h => hn.trans (hlen sig h)) hstack hW (by rw [hb]; exact hdg)
    (fun vm₁ hW₁ => ⟨hf.1, hf.2, hp.2 (T.setVm vm₁) hT hW₁⟩)
  dsimp only [Pt.U, Pt.locs, Pt.cells, Pt.slots] at X' e1 e2 h1 h2 h3 st
  subst h1; subst h2; subst h3
  exact ⟨v, (T.setVm vm₁).calling g' mk As.toArray, t, U', L, hT, X', hL, e1, e2, hq, st⟩
/-- not caught here, past rows that name other classes: it goes on to the caller -/
theorem vx_outP {p : Program} {l : Launch} {e : Env} {R : Room} {s : State} {m : MethodId} {args : Array Value} {below : List Frame} {meth : Method} {c : Code} {H : Heap} {locs : List Loc} {cells slots : Nat} {free : Addr → Prop} {ls : Array Slot} {rest : List Value} {Qc : Array Value → State → Outcome → State → Prop} {XC : String → State → State → Prop}
    {pc : Nat} {own E : String} {ce : Cell} {q : Addr} {mc ms : Nat} (hown : s.vm.findClass own = some m.cls) (hlocks : meth.locks = false)
    (hpass : ∀ z ∈ c.exceptionTable.toList, covers z pc = false ∨ (z.catchType ≠ 0 ∧ ∃ nm : String, (Cond.classLink own z.catchType nm).before args s = true ∧ va_Nc E nm s)) (hcell : H[q]? = some ce) (hv : ce.vm = .none) (hcl : s.vm.findClass E = some ce.cls)
    (hx : ∀ t : State, t.heap = H → s.vm.Alike t.vm → XC E s t) (hf : ∀ z ∈ locs, free z.base) (hc : cells ≤ mc) (hs : slots ≤ ms) :
    vx_W p l e R s m args below meth c H locs cells slots (vx_MQ below Qc XC args s mc ms free) (F0 m pc ls rest) q := by
  intro T hT X
  have hpl : e.platform.magicAccessors = ({} : Platform).magicAccessors := by rw [X.admits.platform]
  obtain ⟨vm', hW', X', st⟩ := X.outThrough hlocks q (g := F0 m pc ls rest) rfl rfl rfl (cell := ce) (by rw [hT]; exact hcell) (by rw [hv]; rfl)
    (by obtain ⟨k9, h9, -⟩ := Vm.findClass_spec hcl; exact ⟨k9, h9⟩) (fun z hz => by
      rcases hpass z hz with h | ⟨hz0, nm, hl1, hn1⟩
      · exact Or.inl h
      · obtain ⟨c6, hc6, hcl6⟩ := Cond.classLink_spec hown hl1 e.platform hpl
        obtain ⟨a8, b8, h1, h2, h3⟩ := hn1
        cases Option.some.inj (h1.symm.trans hcl)
        cases Option.some.inj (h2.symm.trans hc6)
        exact Or.inr ⟨hz0, _, hcl6, h3⟩)
  obtain ⟨g₀, hfr⟩ := X'.frames_eq
  have hcell9 : ((T.setVm vm').setFrames (.throwing q :: below)).heap[q]? = some ce := by
    show T.heap[q]? = some ce
    rw [hT]; exact hcell
  have hend : Ended ((T.setVm vm').setFrames (.throwing q :: below)) below (.threw q) := State.frames_setFrames _ (State.cur_lt_of_frames hfr)
  refine ⟨(T.setVm vm').setFrames (.throwing q :: below), ?_, .threw q, X'.here.running, hend, Or.inr ⟨q, rfl, E, ce, locs, hx _ hT (X'.ends _).1.alike, hcell9, hv, hcl, (X'.ends _).1, (X'.ends _).2.mono hc hs, hf⟩⟩
  rw [X.pushThrowing_eq]
  exact st
/-- a thing of a world lies in the heap -/
theorem vx_lt {D : va_G} {cl : List vw_C} {ws : va_W} {H1 : Heap} (h : va_P D cl ws H1) {k : Nat} {q : Nat × va_E} (hk : ws[k]? = some q) : q.1 < H1.size := (h k q hk).lt
end VXS
/-! ===== END ===== -/
/-! ===== BEGIN methods with a table of their own: called by a name, returning or throwing ===== -/
section VXH
/-! vx_backW, vx_callVX, vx_callSX, vx_callVW, vx_runVW, vx_runVX, vx_runSX, vx_ofWH follow the same proofs as their sisters above (Free/Laws.lean, Shelf42/LK1.lean); vx_outP calls Shelf42/NT130.lean (outThrough). -/
section
variable {l : Launch} {R : Room} {p : Program} {e : Env} {below : List Frame} {s : State} {sargs : Array Value} {y : MethodName} {len W9 : Nat}
theorem vx_backW {ws : List Cond} {rm : Room} {Pc : Array Value → State → Prop} {Qc : Array Value → State → Outcome → State → Prop} {XC : String → State → State → Prop} {mc ms : Nat} {free : Addr → Prop} {bytes : ByteArray} {maxL : Nat} {ret : Option FieldType} {hh : List (Nat × Nat × Nat × Nat)}
    (hM : vx_Met l y ws rm Pc Qc XC mc ms free) (hblind : FrameBlind Pc) (hrc : rm.cells = mc) (hrs : rm.slots = ms)
    (hframes : rm.frames + 1 ≤ R.frames) (hlocals : W9 + (maxL + 11) + rm.locals ≤ R.locals)
    (hws : ∀ w ∈ ws, ∀ a' U, s.WarmedH U.vm → w.before a' U = true) (hcode : Cond.codeWith y bytes maxL ret hh ∈ ws) (hinit : ∀ a' U, s.WarmedH U.vm → (Cond.initialized y.cls).before a' U = true) :
    vx_Back l R p e below s sargs y len W9 (PreOf R mc ms Pc) (PostOf Qc mc ms free) (vx_Post XC mc ms free) := by
  intro m meth c A g ig mk a X hg hsize hdg hW hn hp
  have h1 : (headSpec ws rm).pre.before a A.U = true := atoms_intro fun w hw => hws w hw _ _ X.warmed
  have h2 : (Cond.codeWith y bytes maxL ret hh).before a A.U = true := hws _ hcode _ _ X.warmed
  have h3 : (Cond.initialized y.cls).before a A.U = true := hinit _ _ X.warmed
  have h4 : A.cells + (headSpec ws rm).room.cells ≤ R.cells := by rw [show (headSpec ws rm).room.cells = mc from hrc]; exact hp.1
  have h5 : A.slots + (headSpec ws rm).room.slots ≤ R.slots := by rw [show (headSpec ws rm).room.slots = ms from hrs]; exact hp.2.1
  have hPc : Pc a (A.U.calling g mk a) := hblind _ _ _ _ hp.2.2
  obtain ⟨U, Ls, c0, s0⟩ := A
  dsimp only [Pt.U, Pt.locs, Pt.cells, Pt.slots] at h1 h2 h3 h4 h5 X hn hPc ⊢
  obtain ⟨m9, methY, cY, hn9, hmY, hcY, -, hlY, -⟩ := Cond.codeWith_spec h2
  cases Option.some.inj (hn9.symm.trans hn)
  obtain ⟨kY, hkY, -⟩ := className_of_methodNamed hn
  have hinitY : kY.init = .initialized := Cond.initialized_spec (findClass_of_methodNamed hn) hkY h3
  have h : At U g.method c below := by rw [hg]; exact X.here
  have hlocals9 : W9 + (maxL + 11) + (headSpec ws rm).room.locals ≤ R.locals := hlocals
  have happ : (headSpec ws rm).appliesLoose y e.platform (U.calling g mk a) = true :=
    Spec.appliesLoose_calling (g := g) h hdg hn hkY hinitY
      (X.room_calling (g := g) (R' := (headSpec ws rm).room) hsize hmY hcY hframes (by rw [hlY]; omega) h4 h5) h1
  obtain ⟨mid, hmid⟩ := h.above
  have hfr : (U.setTop g).frames = (.java g :: mid) ++ below := by rw [State.frames_setTop' g h.top, hmid]; rfl
  obtain ⟨o, s₂, hsteps, -, hend, hq⟩ := Steps.callFree hM p X.admits X.cas X.clock (acts := []) hfr happ hPc trivial
  have hq' : vx_Q Qc XC mc ms free a (U.calling g mk a) o s₂ := hq
  rw [State.frames_setTop' g h.top] at hend
  obtain ⟨g₀, hg0⟩ := Option.isSome_iff_exists.mp h.top
  obtain ⟨r, hr⟩ := State.topJava?_eq_some.mp hg0
  have hr' : (({ U with heap := s₂.heap, slotsUsed := s₂.slotsUsed } : State).setVm s₂.vm).frames = .java g₀ :: r := hr
  rcases hq' with ⟨hqc, L, hfe, hL⟩ | ⟨q, rfl, E, ce, L, hx, hce, hcv, hcl, hW₂, hsm, hL⟩
  · obtain ⟨⟨v, rfl⟩, hW₂, e2, q2, q3, q4, q5, q6⟩ := id hfe
    have e3 : s₂ = ({ (U.calling g mk a).setFrames s₂.frames with heap := s₂.heap, slotsUsed := s₂.slotsUsed } : State).setVm s₂.vm := by
      have : s₂ = ({ s₂ with vm := (U.calling g mk a).vm } : State).setVm s₂.vm := rfl
      rw [e2] at this
      exact this
    obtain ⟨c₂, i₂, len₂, hc₂, hd₂, hf₂⟩ := hend
    have hW' : U.WarmedH s₂.vm := hW₂
    have hcc : c₂ = c := by
      have h1 : s₂.code? g.method = U.code? g.method := by
        rw [State.code?_eq, State.code?_eq, hW'.alike.method?]
      exact Option.some.inj (hc₂.symm.trans (h1.trans h.code))
    subst hcc
    have hlen : len₂ = len := by rw [hdg] at hd₂; cases hd₂; rfl
    subst hlen
    have hs₂ : s₂ = (({ U with heap := s₂.heap, slotsUsed := s₂.slotsUsed } : State).setVm s₂.vm).setTop { g with pc := g.pc + len₂, stack := v.toList ++ g.stack } := by
      refine e3.trans ?_
      rw [hf₂, State.calling_eq h.top, State.setFrames_setFrames, State.setTop_of_frames _ hr', hr]
      rfl
    have hsame : U.sameButNew ({ U with heap := s₂.heap, slotsUsed := s₂.slotsUsed } : State) L mc ms := by
      refine ⟨?_, q2, q3, q4, q5, q6⟩
      obtain ⟨t, ht, -⟩ := State.frames_cons hr
      show ({ U with heap := s₂.heap, slotsUsed := s₂.slotsUsed } : State) = { U.setFrames U.frames with heap := s₂.heap, slotsUsed := s₂.slotsUsed }
      rw [State.setFrames_self ht]
    subst hg
    refine Or.inl ⟨v, ⟨(({ U with heap := s₂.heap, slotsUsed := s₂.slotsUsed } : State).setVm s₂.vm), Ls ++ L, c0 + mc, s0 + ms⟩,
      ⟨X.admits, X.cas, X.clock, X.frames, X.room, X.hears, X.method, X.code, (X.here.setHeapUsed s₂.heap s₂.slotsUsed).setVm hW'.alike, X.tail, State.WarmedH.trans X.warmed hW', X.limits, X.bytes, X.same.trans (hsame.setVm s.vm)⟩,
      ⟨g, mk, s₂, L, rfl, rfl, hqc, rfl, hL, rfl, rfl⟩, ?_⟩
    show Steps p.tables e below _ ((({ U with heap := s₂.heap, slotsUsed := s₂.slotsUsed } : State).setVm s₂.vm).setTop { g with pc := g.pc + len₂, stack := v.toList ++ g.stack })
    rw [← hs₂]
    exact hsteps
  · obtain ⟨e2, q2, q3, q4, q5, q6⟩ := id hsm
    have e3 : s₂ = ({ (U.calling g mk a).setFrames s₂.frames with heap := s₂.heap, slotsUsed := s₂.slotsUsed } : State).setVm s₂.vm := by
      have : s₂ = ({ s₂ with vm := (U.calling g mk a).vm } : State).setVm s₂.vm := rfl
      rw [e2] at this
      exact this
    have hf₂ : s₂.frames = .throwing q :: .java g :: U.frames.tail := hend
    have hW' : U.WarmedH s₂.vm := hW₂
    have hs₂ : s₂ = ((({ U with heap := s₂.heap, slotsUsed := s₂.slotsUsed } : State).setVm s₂.vm).setTop g).pushFrame (.throwing q) := by
      refine e3.trans ?_
      rw [hf₂, State.calling_eq h.top, State.setFrames_setFrames, State.pushFrame, State.frames_setTop _ hr', State.setTop_of_frames _ hr', State.setFrames_setFrames, hr]
      rfl
    have hsame : U.sameButNew ({ U with heap := s₂.heap, slotsUsed := s₂.slotsUsed } : State) L mc ms := by
      refine ⟨?_, q2, q3, q4, q5, q6⟩
      obtain ⟨t, ht, -⟩ := State.frames_cons hr
      show ({ U with heap := s₂.heap, slotsUsed := s₂.slotsUsed } : State) = { U.setFrames U.frames with heap := s₂.heap, slotsUsed := s₂.slotsUsed }
      rw [State.setFrames_self ht]
    subst hg
    refine Or.inr ⟨q, ⟨(({ U with heap := s₂.heap, slotsUsed := s₂.slotsUsed } : State).setVm s₂.vm), Ls ++ L, c0 + mc, s0 + ms⟩,
      ⟨X.admits, X.cas, X.clock, X.frames, X.room, X.hears, X.method, X.code, (X.here.setHeapUsed s₂.heap s₂.slotsUsed).setVm hW'.alike, X.tail, State.WarmedH.trans X.warmed hW', X.limits, X.bytes, X.same.trans (hsame.setVm s.vm)⟩,
      ⟨g, mk, s₂, L, E, ce, rfl, rfl, hx, hce, hcv, hcl, rfl, hL, rfl, rfl⟩, ?_⟩
    show Steps p.tables e below _ (((({ U with heap := s₂.heap, slotsUsed := s₂.slotsUsed } : State).setVm s₂.vm).setTop g).pushFrame (.throwing q))
    rw [← hs₂]
    exact hsteps
end
variable {p : Program} {l : Launch} {e : Env} {R : Room} {s : State} {m : MethodId} {args : Array Value} {below : List Frame} {meth : Method} {c : Code} {T : State} {H : Heap} {locs : List Loc} {cells slots : Nat}
theorem vx_callVX (X : Stand p l e R s m args below meth c T locs cells slots) (hexec : p.tables.exec = Jvm.exec) {own C : String} {index : Nat} {y : MethodName} {bytes : ByteArray} {maxL : Nat} {ret : Option FieldType} {hh : List (Nat × Nat × Nat × Nat)}
    (hown : s.vm.findClass own = some m.cls) (hlink : (Cond.methodLink own index y).before args s = true) (hinst : (Cond.instanceMethod y).before args s = true) (hsel : (Cond.selects C y y).before args s = true)
    (hcode : (Cond.codeWith y bytes maxL ret hh).before args s = true) (hy : y.cls ≠ "java/lang/invoke/MethodHandle" ∧ y.cls ≠ "java/lang/invoke/VarHandle")
    {W9 : Nat} {Pre : Pt → Array Value → Prop} {Post : Pt → Array Value → Option Value → Pt → Prop} {PostX : Pt → Array Value → Addr → Pt → Prop} (hK : vx_Back l R p e below s args y 3 W9 Pre Post PostX)
    {b : Addr} {cellB : Cell} (hcell : T.heap[b]? = some cellB) (hobj : cellB.vm.isStatics = false) (hcls : s.vm.findClass C = some cellB.cls)
    {g : JFrame} (hg : g.method = m) (hsize : g.locals.size = c.maxLocals) {argsL rest : List Value} (hlen : ∀ sig, parseMethodDescriptor y.desc = some sig → argsL.length = sig.parameters.length)
    (hstack : g.stack = argsL.reverse ++ .ref b :: rest) (hW : 2 * g.monitorRoom + (rest.map fun v => v.category).sum ≤ W9) (hdg : decode c.code g.pc = .ok (.invokevirtual index, 3))
    (hpre : ∀ vm₁, s.WarmedH vm₁ → Pre ⟨T.setVm vm₁, locs, cells, slots⟩ (Value.ref b :: argsL).toArray) :
    (∃ (v : Option Value) (vm₁ : Vm) (B : Pt), s.WarmedH vm₁ ∧ Stand p l e R s m args below meth c B.U B.locs B.cells B.slots ∧ Post ⟨T.setVm vm₁, locs, cells, slots⟩ (Value.ref b :: argsL).toArray v B ∧
      ∀ target, Steps p.tables e below (B.U.setTop { g with pc := g.pc + 3, stack := v.toList ++ rest }) target → Steps p.tables e below (T.setTop g) target) ∨
    (∃ (q : Addr) (vm₁ : Vm) (B : Pt), s.WarmedH vm₁ ∧ Stand p l e R s m args below meth c B.U B.locs B.cells B.slots ∧ PostX ⟨T.setVm vm₁, locs, cells, slots⟩ (Value.ref b :: argsL).toArray q B ∧
      Steps p.tables e below (T.setTop g) ((B.U.setTop { g with stack := rest }).pushFrame (.throwing q))) := by
  obtain ⟨mk, methM, hnamed, hmethM, hstM, habM⟩ := Cond.instanceMethod_spec hinst
  obtain ⟨m8, methM', cM, hn8, hmethM', -, -, -, -, -, -, hsigM⟩ := Cond.codeWith_spec hcode
  cases Option.some.inj (hn8.symm.trans hnamed)
  cases hmethM.symm.trans hmethM'
  obtain ⟨c2, r2, m2, q1, q2, q3, q4, kP, hkP, hkPi⟩ := Cond.selects_spec hsel
  cases hcls.symm.trans q1
  cases (State.methodFound?_of_named hnamed hy).symm.trans q2
  cases hnamed.symm.trans q3
  have hselP : selectMethod e.platform s.vm cellB.cls mk = .method mk := by rw [Launch.admits_selectMethod X.admits]; exact q4
  obtain ⟨vm₁, X₁, hstep₁⟩ := X.invokevirtual hexec hown hlink hnamed hmethM hstM hkP hkPi hy (a := b) (cell := cellB) hcell
    (fun z h => by rw [h] at hobj; cases hobj) hselP hmethM habM hkP hkPi (g := g) hg (argsL := argsL) (rest := rest) (hlen _ hsigM) hstack hdg
  rcases hK m meth c ⟨T.setVm vm₁, locs, cells, slots⟩ { g with stack := rest } (.invokevirtual index) mk (Value.ref b :: argsL).toArray X₁ hg hsize hdg hW (X₁.named hnamed) (hpre vm₁ X₁.warmed) with ⟨v, B, X', hpost, hsteps⟩ | ⟨q, B, X', hpost, hsteps⟩
  · exact Or.inl ⟨v, vm₁, B, X₁.warmed, X', hpost, fun target h => hstep₁ _ fun acts => by rw [doInvoke_state]; exact hsteps.trans h⟩
  · exact Or.inr ⟨q, vm₁, B, X₁.warmed, X', hpost, hstep₁ _ fun acts => by rw [doInvoke_state]; exact hsteps⟩
theorem vx_callSX (X : Stand p l e R s m args below meth c T locs cells slots) (hexec : p.tables.exec = Jvm.exec) {own : String} {index : Nat} {y : MethodName} {bytes : ByteArray} {maxL : Nat} {ret : Option FieldType} {hh : List (Nat × Nat × Nat × Nat)}
    (hown : s.vm.findClass own = some m.cls) (hlink : (Cond.methodLink own index y).before args s = true) (hstat : (Cond.static y).before args s = true) (hinit : (Cond.initialized y.cls).before args s = true)
    (hcode : (Cond.codeWith y bytes maxL ret hh).before args s = true) (hy : y.cls ≠ "java/lang/invoke/MethodHandle" ∧ y.cls ≠ "java/lang/invoke/VarHandle")
    {W9 : Nat} {Pre : Pt → Array Value → Prop} {Post : Pt → Array Value → Option Value → Pt → Prop} {PostX : Pt → Array Value → Addr → Pt → Prop} (hK : vx_Back l R p e below s args y 3 W9 Pre Post PostX)
    {g : JFrame} (hg : g.method = m) (hsize : g.locals.size = c.maxLocals) {argsL rest : List Value} (hlen : ∀ sig, parseMethodDescriptor y.desc = some sig → argsL.length = sig.parameters.length)
    (hstack : g.stack = argsL.reverse ++ rest) (hW : 2 * g.monitorRoom + (rest.map fun v => v.category).sum ≤ W9) (hdg : decode c.code g.pc = .ok (.invokestatic index, 3))
    (hpre : ∀ vm₁, s.WarmedH vm₁ → Pre ⟨T.setVm vm₁, locs, cells, slots⟩ argsL.toArray) :
    (∃ (v : Option Value) (vm₁ : Vm) (B : Pt), s.WarmedH vm₁ ∧ Stand p l e R s m args below meth c B.U B.locs B.cells B.slots ∧ Post ⟨T.setVm vm₁, locs, cells, slots⟩ argsL.toArray v B ∧
      ∀ target, Steps p.tables e below (B.U.setTop { g with pc := g.pc + 3, stack := v.toList ++ rest }) target → Steps p.tables e below (T.setTop g) target) ∨
    (∃ (q : Addr) (vm₁ : Vm) (B : Pt), s.WarmedH vm₁ ∧ Stand p l e R s m args below meth c B.U B.locs B.cells B.slots ∧ PostX ⟨T.setVm vm₁, locs, cells, slots⟩ argsL.toArray q B ∧
      Steps p.tables e below (T.setTop g) ((B.U.setTop { g with stack := rest }).pushFrame (.throwing q))) := by
  obtain ⟨mk, methM, cM, hnamed, hmethM, -, -, -, -, -, -, hsigM⟩ := Cond.codeWith_spec hcode
  have hstatic : methM.isStatic = true := Cond.static_spec hnamed hmethM hstat
  obtain ⟨kP, hkP, -⟩ := className_of_methodNamed hnamed
  have hinitP : kP.init = .initialized := Cond.initialized_spec (findClass_of_methodNamed hnamed) hkP hinit
  obtain ⟨vm₁, X₁, hstep₁⟩ := X.invokestatic hexec hown hlink hnamed hmethM hstatic hkP hinitP hy (g := g) hg (argsL := argsL) (rest := rest) (hlen _ hsigM) hstack hdg
  rcases hK m meth c ⟨T.setVm vm₁, locs, cells, slots⟩ { g with stack := rest } (.invokestatic index) mk argsL.toArray X₁ hg hsize hdg hW (X₁.named hnamed) (hpre vm₁ X₁.warmed) with ⟨v, B, X', hpost, hsteps⟩ | ⟨q, B, X', hpost, hsteps⟩
  · exact Or.inl ⟨v, vm₁, B, X₁.warmed, X', hpost, fun target h => hstep₁ _ fun acts => by rw [doInvoke_state]; exact hsteps.trans h⟩
  · exact Or.inr ⟨q, vm₁, B, X₁.warmed, X', hpost, hstep₁ _ fun acts => by rw [doInvoke_state]; exact hsteps⟩
theorem vx_callVW (X : Stand p l e R s m args below meth c T locs cells slots) (hexec : p.tables.exec = Jvm.exec) {own C : String} {index : Nat} {y : MethodName} {bytes : ByteArray} {maxL : Nat} {ret : Option FieldType} {hh : List (Nat × Nat × Nat × Nat)}
    (hown : s.vm.findClass own = some m.cls) (hlink : (Cond.methodLink own index y).before args s = true) (hinst : (Cond.instanceMethod y).before args s = true) (hsel : (Cond.selects C y y).before args s = true)
    (hcode : (Cond.codeWith y bytes maxL ret hh).before args s = true) (hy : y.cls ≠ "java/lang/invoke/MethodHandle" ∧ y.cls ≠ "java/lang/invoke/VarHandle")
    {W9 : Nat} {Pre : Pt → Array Value → Prop} {Post : Pt → Array Value → Option Value → Pt → Prop} (hK : Back l R p e below s args y 3 W9 Pre Post)
    {b : Addr} {cellB : Cell} (hcell : T.heap[b]? = some cellB) (hobj : cellB.vm.isStatics = false) (hcls : s.vm.findClass C = some cellB.cls)
    {g : JFrame} (hg : g.method = m) (hsize : g.locals.size = c.maxLocals) {argsL rest : List Value} (hlen : ∀ sig, parseMethodDescriptor y.desc = some sig → argsL.length = sig.parameters.length)
    (hstack : g.stack = argsL.reverse ++ .ref b :: rest) (hW : 2 * g.monitorRoom + (rest.map fun v => v.category).sum ≤ W9) (hdg : decode c.code g.pc = .ok (.invokevirtual index, 3))
    (hpre : ∀ vm₁, s.WarmedH vm₁ → Pre ⟨T.setVm vm₁, locs, cells, slots⟩ (Value.ref b :: argsL).toArray) :
    ∃ (v : Option Value) (vm₁ : Vm) (B : Pt), s.WarmedH vm₁ ∧ Stand p l e R s m args below meth c B.U B.locs B.cells B.slots ∧ Post ⟨T.setVm vm₁, locs, cells, slots⟩ (Value.ref b :: argsL).toArray v B ∧
      ∀ target, Steps p.tables e below (B.U.setTop { g with pc := g.pc + 3, stack := v.toList ++ rest }) target → Steps p.tables e below (T.setTop g) target := by
  obtain ⟨mk, methM, hnamed, hmethM, hstM, habM⟩ := Cond.instanceMethod_spec hinst
  obtain ⟨m8, methM', cM, hn8, hmethM', -, -, -, -, -, -, hsigM⟩ := Cond.codeWith_spec hcode
  cases Option.some.inj (hn8.symm.trans hnamed)
  cases hmethM.symm.trans hmethM'
  obtain ⟨c2, r2, m2, q1, q2, q3, q4, kP, hkP, hkPi⟩ := Cond.selects_spec hsel
  cases hcls.symm.trans q1
  cases (State.methodFound?_of_named hnamed hy).symm.trans q2
  cases hnamed.symm.trans q3
  have hselP : selectMethod e.platform s.vm cellB.cls mk = .method mk := by rw [Launch.admits_selectMethod X.admits]; exact q4
  obtain ⟨vm₁, X₁, hstep₁⟩ := X.invokevirtual hexec hown hlink hnamed hmethM hstM hkP hkPi hy (a := b) (cell := cellB) hcell
    (fun z h => by rw [h] at hobj; cases hobj) hselP hmethM habM hkP hkPi (g := g) hg (argsL := argsL) (rest := rest) (hlen _ hsigM) hstack hdg
  obtain ⟨v, B, X', hpost, hsteps⟩ := hK m meth c ⟨T.setVm vm₁, locs, cells, slots⟩ { g with stack := rest } (.invokevirtual index) mk (Value.ref b :: argsL).toArray X₁ hg hsize hdg hW (X₁.named hnamed) (hpre vm₁ X₁.warmed)
  exact ⟨v, vm₁, B, X₁.warmed, X', hpost, fun target h => hstep₁ _ fun acts => by rw [doInvoke_state]; exact hsteps.trans h⟩
abbrev vx_CVW (R : Room) (s : State) (args : Array Value) (own C : String) (index : Nat) (y : MethodName) (bytes : ByteArray) (maxL : Nat) (ret : Option FieldType) (hh : List (Nat × Nat × Nat × Nat)) (ws : List Cond) (rm : Room) (mc ms n : Nat) : Prop :=
  (rm.cells = mc ∧ rm.slots = ms ∧ rm.frames + 1 ≤ R.frames ∧ 8 + (maxL + 11) + rm.locals ≤ R.locals ∧ (∀ w ∈ ws, ∀ (a' : Array Value) (U : State), s.WarmedH U.vm → w.before a' U = true) ∧ Cond.codeWith y bytes maxL ret hh ∈ ws) ∧
  (Cond.codeWith y bytes maxL ret hh).before args s = true ∧ (Cond.initialized y.cls).before args s = true ∧ (y.cls ≠ "java/lang/invoke/MethodHandle" ∧ y.cls ≠ "java/lang/invoke/VarHandle") ∧
  (∀ sig, parseMethodDescriptor y.desc = some sig → n = sig.parameters.length) ∧ (Cond.methodLink own index y).before args s = true ∧ (Cond.instanceMethod y).before args s = true ∧ (Cond.selects C y y).before args s = true
theorem vx_cwVW {own C : String} {index maxL mc ms : Nat} {y : MethodName} {bytes : ByteArray} {ret : Option FieldType} {hh : List (Nat × Nat × Nat × Nat)} {Ts ws ws' : List Cond} {rm : Room} (n : Nat) (ht : ∀ w ∈ Ts, w.before args s = true) (hT : GoodIn Ts (wsV own index C y ws)) (hw : ws = Cond.codeWith y bytes maxL ret hh :: ws') (hrc : rm.cells = mc) (hrs : rm.slots = ms)
    (hd : y.cls = C ∧ y.cls ≠ "java/lang/invoke/MethodHandle" ∧ y.cls ≠ "java/lang/invoke/VarHandle" ∧ (parseMethodDescriptor y.desc).map (fun d => d.parameters.length) = some n) (hR : rm.frames + 1 ≤ R.frames ∧ 8 + (maxL + 11) + rm.locals ≤ R.locals) :
    vx_CVW R s args own C index y bytes maxL ret hh ws rm mc ms n := by
  obtain ⟨hC, hd⟩ := hd
  subst hC
  have ok : ∀ w ∈ wsV own index y.cls y ws, w.before args s = true := fun w h => ht w (hT w h).1
  have hG : GoodIn Ts ws := fun w h => hT w (by unfold wsV; exact List.mem_append_right _ h)
  have hc : Cond.codeWith y bytes maxL ret hh ∈ ws := by rw [hw]; exact List.mem_cons_self
  refine ⟨⟨hrc, hrs, hR.1, hR.2, pay_in ht hG, hc⟩, ht _ (hG _ hc).1, ok _ (by simp [wsV]), ⟨hd.1, hd.2.1⟩, fun sig h => ?_, ok _ (by simp [wsV]), ok _ (by simp [wsV]), ok _ (by simp [wsV])⟩
  have h2 := hd.2.2
  rw [h] at h2
  exact (Option.some.inj h2).symm
theorem vx_runVW {y : MethodName} {bytes cc : ByteArray} {maxL nL mc ms n index : Nat} {ret : Option FieldType} {hh : List (Nat × Nat × Nat × Nat)} {ws : List Cond} {rm : Room} {Pc : Array Value → State → Prop} {Qc : Array Value → State → Outcome → State → Prop} {free : Addr → Prop} {Ts : List Cond} {own C : String} {b : Addr} {As rest : List Value} {g : JFrame}
    (S : CallFix p m c cc nL s args Ts own) (hM : Met l y ws rm Pc Qc mc ms free) (cw : vx_CVW R s args own C index y bytes maxL ret hh ws rm mc ms n) (hp : PreV s H C b Pc As)
    (hg : g.method = m) (hn : As.length = n) (hsize : g.locals.size = nL) (hstack : g.stack = As.reverse ++ .ref b :: rest) (hW : 2 * g.monitorRoom + (rest.map fun v => v.category).sum ≤ 8) (hdg : decode cc g.pc = .ok (.invokevirtual index, 3)) (hf : cells + mc ≤ R.cells ∧ slots + ms ≤ R.slots) :
    va_Run p l e R s m args below meth c H locs cells slots mc ms g rest (Qc (Value.ref b :: As).toArray) free := by
  obtain ⟨⟨hrc, hrs, hfr, hlo, hws, hcw⟩, hcode, hini, hy, hlen, hl, hin, hse⟩ := cw
  have hK : Back l R p e below s args y 3 8 (PreOf R mc ms Pc) (PostOf Qc mc ms free) := va_backW (hh := hh) (bytes := bytes) (maxL := maxL) (ret := ret) hM hp.1 hrc hrs hfr hlo hws hcw (fun a' U hW => word_at hW (Or.inl (by first | rfl | simp [Cond.onTables, Cond.keeps, Cond.steady])) hini)
  obtain ⟨hx, hb, hml, ho, -⟩ := S
  obtain ⟨-, ⟨cellB, hcB, hoB, hclB⟩, hPc⟩ := hp
  intro T hT X
  obtain ⟨v, vm₁, ⟨U', l2, c2, s2⟩, hW₁, X', ⟨g', mk, t, L, e1, e2, hq, h1, hL, h2, h3⟩, st⟩ := vx_callVW X hx (C := C) (hh := hh) (bytes := bytes) (maxL := maxL) (ret := ret) ho hl hin hse hcode hy hK (by rw [hT]; exact hcB) hoB hclB hg (hsize.trans hml.symm) (argsL := As) (rest := rest) (fun sig h => hn.trans (hlen sig h)) hstack hW (by rw [hb]; exact hdg)
    (fun vm₁ hW₁ => ⟨hf.1, hf.2, hPc (T.setVm vm₁) hT hW₁⟩)
  dsimp only [Pt.U, Pt.locs, Pt.cells, Pt.slots] at X' e1 e2 h1 h2 h3 st
  subst h1; subst h2; subst h3
  exact ⟨v, (T.setVm vm₁).calling g' mk (Value.ref b :: As).toArray, t, U', L, hT, X', hL, e1, e2, hq, st⟩
section
variable {y : MethodName} {bytes cc : ByteArray} {maxL nL mc ms n index : Nat} {ret : Option FieldType} {ws : List Cond} {rm : Room} {Pc : Array Value → State → Prop} {Qc : Array Value → State → Outcome → State → Prop} {XC : String → State → State → Prop} {free : Addr → Prop} {Ts : List Cond} {own C : String} {b : Addr} {As rest : List Value} {g : JFrame}
theorem vx_runVX {hh : List (Nat × Nat × Nat × Nat)} (S : CallFix p m c cc nL s args Ts own) (hM : vx_Met l y ws rm Pc Qc XC mc ms free) (cw : vx_CVW R s args own C index y bytes maxL ret hh ws rm mc ms n) (hp : PreV s H C b Pc As)
    (hg : g.method = m) (hn : As.length = n) (hsize : g.locals.size = nL) (hstack : g.stack = As.reverse ++ .ref b :: rest) (hW : 2 * g.monitorRoom + (rest.map fun v => v.category).sum ≤ 8) (hdg : decode cc g.pc = .ok (.invokevirtual index, 3)) (hf : cells + mc ≤ R.cells ∧ slots + ms ≤ R.slots) :
    vx_Run p l e R s m args below meth c H locs cells slots mc ms g rest (Qc (Value.ref b :: As).toArray) XC free := by
  obtain ⟨⟨hrc, hrs, hfr, hlo, hws, hcw⟩, hcode, hini, hy, hlen, hl, hin, hse⟩ := cw
  have hK : vx_Back l R p e below s args y 3 8 (PreOf R mc ms Pc) (PostOf Qc mc ms free) (vx_Post XC mc ms free) := vx_backW (hh := hh) (bytes := bytes) (maxL := maxL) (ret := ret) hM hp.1 hrc hrs hfr hlo hws hcw (fun a' U hW => word_at hW (Or.inl (by first | rfl | simp [Cond.onTables, Cond.keeps, Cond.steady])) hini)
  obtain ⟨hx, hb, hml, ho, -⟩ := S
  obtain ⟨-, ⟨cellB, hcB, hoB, hclB⟩, hPc⟩ := hp
  intro T hT X
  rcases vx_callVX X hx (C := C) (hh := hh) (bytes := bytes) (maxL := maxL) (ret := ret) ho hl hin hse hcode hy hK (by rw [hT]; exact hcB) hoB hclB hg (hsize.trans hml.symm) (argsL := As) (rest := rest) (fun sig h => hn.trans (hlen sig h)) hstack hW (by rw [hb]; exact hdg)
    (fun vm₁ hW₁ => ⟨hf.1, hf.2, hPc (T.setVm vm₁) hT hW₁⟩) with ⟨v, vm₁, ⟨U', l2, c2, s2⟩, hW₁, X', ⟨g', mk, t, L, e1, e2, hq, h1, hL, h2, h3⟩, st⟩ | ⟨q, vm₁, ⟨U', l2, c2, s2⟩, hW₁, X', ⟨g', mk, t, L, E, ce, e1, e2, hq, hce, hcv, hcl, h1, hL, h2, h3⟩, st⟩
  · dsimp only [Pt.U, Pt.locs, Pt.cells, Pt.slots] at X' e1 e2 h1 h2 h3 st
    subst h1; subst h2; subst h3
    exact Or.inl ⟨v, (T.setVm vm₁).calling g' mk (Value.ref b :: As).toArray, t, U', L, hT, X', hL, e1, e2, hq, st⟩
  · dsimp only [Pt.U, Pt.locs, Pt.cells, Pt.slots] at X' e1 e2 h1 h2 h3 st hcl
    subst h1; subst h2; subst h3
    exact Or.inr ⟨q, (T.setVm vm₁).calling g' mk (Value.ref b :: As).toArray, t, U', L, E, ce, hT, X', hL, e1, e2, hq, hce, hcv, vx_cls hW₁ hcl, st⟩
theorem vx_runSX {hh : List (Nat × Nat × Nat × Nat)} (S : CallFix p m c cc nL s args Ts own) (hM : vx_Met l y ws rm Pc Qc XC mc ms free) (cw : vx_CSW R s args own index y bytes maxL ret hh ws rm mc ms n) (hp : PreS s H Pc As)
    (hg : g.method = m) (hn : As.length = n) (hsize : g.locals.size = nL) (hstack : g.stack = As.reverse ++ rest) (hW : 2 * g.monitorRoom + (rest.map fun v => v.category).sum ≤ 8) (hdg : decode cc g.pc = .ok (.invokestatic index, 3)) (hf : cells + mc ≤ R.cells ∧ slots + ms ≤ R.slots) :
    vx_Run p l e R s m args below meth c H locs cells slots mc ms g rest (Qc As.toArray) XC free := by
  obtain ⟨⟨hrc, hrs, hfr, hlo, hws, hcw⟩, hcode, hini, hy, hlen, hl, hstt⟩ := cw
  have hK : vx_Back l R p e below s args y 3 8 (PreOf R mc ms Pc) (PostOf Qc mc ms free) (vx_Post XC mc ms free) := vx_backW (hh := hh) (bytes := bytes) (maxL := maxL) (ret := ret) hM hp.1 hrc hrs hfr hlo hws hcw (fun a' U hW => word_at hW (Or.inl (by first | rfl | simp [Cond.onTables, Cond.keeps, Cond.steady])) hini)
  obtain ⟨hx, hb, hml, ho, -⟩ := S
  intro T hT X
  rcases vx_callSX X hx (hh := hh) (bytes := bytes) (maxL := maxL) (ret := ret) ho hl hstt hini hcode hy hK hg (hsize.trans hml.symm) (argsL := As) (rest := rest) (fun sig h => hn.trans (hlen sig h)) hstack hW (by rw [hb]; exact hdg)
    (fun vm₁ hW₁ => ⟨hf.1, hf.2, hp.2 (T.setVm vm₁) hT hW₁⟩) with ⟨v, vm₁, ⟨U', l2, c2, s2⟩, hW₁, X', ⟨g', mk, t, L, e1, e2, hq, h1, hL, h2, h3⟩, st⟩ | ⟨q, vm₁, ⟨U', l2, c2, s2⟩, hW₁, X', ⟨g', mk, t, L, E, ce, e1, e2, hq, hce, hcv, hcl, h1, hL, h2, h3⟩, st⟩
  · dsimp only [Pt.U, Pt.locs, Pt.cells, Pt.slots] at X' e1 e2 h1 h2 h3 st
    subst h1; subst h2; subst h3
    exact Or.inl ⟨v, (T.setVm vm₁).calling g' mk As.toArray, t, U', L, hT, X', hL, e1, e2, hq, st⟩
  · dsimp only [Pt.U, Pt.locs, Pt.cells, Pt.slots] at X' e1 e2 h1 h2 h3 st hcl
    subst h1; subst h2; subst h3
    exact Or.inr ⟨q, (T.setVm vm₁).calling g' mk As.toArray, t, U', L, E, ce, hT, X', hL, e1, e2, hq, hce, hcv, vx_cls hW₁ hcl, st⟩
end
end VXH
theorem vx_ofWH {l : Launch} {y : MethodName} {ws ws' : List Cond} {rm : Room} {Pc : Array Value → State → Prop} {Qc : Array Value → State → Outcome → State → Prop} {XC : String → State → State → Prop} {mc ms : Nat} {free : Addr → Prop} {cc : ByteArray} {maxL : Nat} {ret : Option FieldType} {hh : List (Nat × Nat × Nat × Nat)}
    (hy : plainName y.cls = true) (hw : ws = Cond.codeWith y cc maxL ret hh :: ws')
    (body : ∀ p e s m args below meth c s₁, BodyLoose p l y (headSpec ws rm) cc maxL ret e s m args below meth c s₁ → c.maxLocals = maxL → Pc args s →
      W p l e (headSpec ws rm).room s m args below meth c s.heap [] 0 0 (vx_MQ below Qc XC args s mc ms free) (entryFrame m args maxL)) : vx_Met l y ws rm Pc Qc XC mc ms free := by
  refine MetFree.of_bodyS (code := cc) (maxLocals := maxL) (ret := ret) hy ?_ ?_
  · intro args s m h hn
    obtain ⟨m9, meth, c, hn9, h1, h2, h3, h4, -, h5, h6, -⟩ := Cond.codeWith_spec (atoms_spec (ws := ws) h _ (by rw [hw]; exact List.mem_cons_self))
    cases hn.symm.trans hn9
    exact ⟨meth, c, h1, h2, h3, h4, h5, h6⟩
  · intro p e s m args below meth c s₁ B hml hP _
    have hh0 : s₁.heap = s.heap := by rw [B.state]; rfl
    obtain ⟨t, a1, o, b1, b2, b3⟩ := body p e s m args below meth c s₁ B hml hP s₁ hh0 (Stand.of_body B)
    exact ⟨t, o, a1, b1, b2, b3⟩
/-! ===== END ===== -/
end
section
/-! ===== BEGIN printed: names, fields, word lists, decode rows ===== -/
def RX0 : String := "StandbyPair"
def TX0 : u_T := fun k => match k with
  | 0 => ("StandbyPair", "alive", "[Z", true)
  | 1 => ("StandbyPair", "joinedPairs", "[Z", true)
  | 2 => ("StandbyPair", "linkUp", "[Z", true)
  | 3 => ("StandbyPair", "decrements", "[I", true)
  | 4 => ("StandbyPair", "periods", "[I", true)
  | 5 => ("StandbyPair", "preempting", "[Z", true)
  | 6 => ("StandbyPair", "delays", "[I", true)
  | 7 => ("StandbyPair", "gapTicks", "[I", true)
  | 8 => ("StandbyPair", "advertisements", "[I", true)
  | 9 => ("StandbyPair", "basePriorities", "[I", true)
  | 10 => ("StandbyPair", "roles", "[I", true)
  | 11 => ("StandbyPair", "timers", "[I", true)
  | 12 => ("StandbyPair", "heard", "[I", true)
  | 13 => ("StandbyPair", "served", "[I", true)
  | 14 => ("StandbyPair", "promotions", "[I", true)
  | 15 => ("StandbyPair", "repairAsked", "[Z", true)
  | 16 => ("StandbyPair", "bulkRepairs", "I", false)
  | _ => ("StandbyPair", "time", "I", false)
def tyX0 : Nat → FieldType := fun k => match k with
  | 0 => .array .boolean
  | 1 => .array .boolean
  | 2 => .array .boolean
  | 3 => .array .int
  | 4 => .array .int
  | 5 => .array .boolean
  | 6 => .array .int
  | 7 => .array .int
  | 8 => .array .int
  | 9 => .array .int
  | 10 => .array .int
  | 11 => .array .int
  | 12 => .array .int
  | 13 => .array .int
  | 14 => .array .int
  | 15 => .array .boolean
  | 16 => .int
  | _ => .int
abbrev wsX00 : List Cond := u_ws RX0 TX0 18
theorem nmX0 : ∀ a, a < 18 → ∀ b, b < 18 → a ≠ b → (TX0 a).2.1 ≠ (TX0 b).2.1 := by decide +kernel
theorem tyX0_ok : ∀ k, k < 18 → parseFieldDescriptor (TX0 k).2.2.1 = some (tyX0 k) := by decide +kernel
abbrev cX0_init : ByteArray := prog_1_method_1_code
def yX0_init : MethodName := ⟨RX0, "<init>", "()V"⟩
abbrev cX0_setPriority : ByteArray := prog_1_method_2_code
def yX0_setPriority : MethodName := ⟨RX0, "setPriority", "(III)I"⟩
abbrev cX0_track : ByteArray := prog_1_method_3_code
def yX0_track : MethodName := ⟨RX0, "track", "(III)I"⟩
abbrev cX0_setLink : ByteArray := prog_1_method_4_code
def yX0_setLink : MethodName := ⟨RX0, "setLink", "(IIZ)Z"⟩
abbrev cX0_setPeriod : ByteArray := prog_1_method_5_code
def yX0_setPeriod : MethodName := ⟨RX0, "setPeriod", "(II)I"⟩
abbrev cX0_setPreemption : ByteArray := prog_1_method_6_code
def yX0_setPreemption : MethodName := ⟨RX0, "setPreemption", "(IZI)V"⟩
abbrev cX0_join : ByteArray := prog_1_method_7_code
def yX0_join : MethodName := ⟨RX0, "join", "(IIZ)Z"⟩
abbrev cX0_die : ByteArray := prog_1_method_8_code
def yX0_die : MethodName := ⟨RX0, "die", "(I)I"⟩
abbrev cX0_live : ByteArray := prog_1_method_9_code
def yX0_live : MethodName := ⟨RX0, "live", "(I)I"⟩
abbrev cX0_handOver : ByteArray := prog_1_method_10_code
def yX0_handOver : MethodName := ⟨RX0, "handOver", "(II)V"⟩
abbrev cX0_serve : ByteArray := prog_1_method_11_code
def yX0_serve : MethodName := ⟨RX0, "serve", "(II)I"⟩
abbrev cX0_tick : ByteArray := prog_1_method_12_code
def yX0_tick : MethodName := ⟨RX0, "tick", "(I)I"⟩
abbrev cX0_state : ByteArray := prog_1_method_13_code
def yX0_state : MethodName := ⟨RX0, "state", "(II)I"⟩
abbrev cX0_priority : ByteArray := prog_1_method_14_code
def yX0_priority : MethodName := ⟨RX0, "priority", "(II)I"⟩
abbrev cX0_timer : ByteArray := prog_1_method_15_code
def yX0_timer : MethodName := ⟨RX0, "timer", "(II)I"⟩
abbrev cX0_masters : ByteArray := prog_1_method_16_code
def yX0_masters : MethodName := ⟨RX0, "masters", "(I)I"⟩
abbrev cX0_changes : ByteArray := prog_1_method_17_code
def yX0_changes : MethodName := ⟨RX0, "changes", "(II)I"⟩
abbrev cX0_gaps : ByteArray := prog_1_method_18_code
def yX0_gaps : MethodName := ⟨RX0, "gaps", "(I)I"⟩
abbrev cX0_sent : ByteArray := prog_1_method_19_code
def yX0_sent : MethodName := ⟨RX0, "sent", "(I)I"⟩
abbrev cX0_known : ByteArray := prog_1_method_20_code
def yX0_known : MethodName := ⟨RX0, "known", "(II)I"⟩
abbrev cX0_repairs : ByteArray := prog_1_method_21_code
def yX0_repairs : MethodName := ⟨RX0, "repairs", "()I"⟩
abbrev cX0_isSettled : ByteArray := prog_1_method_22_code
def yX0_isSettled : MethodName := ⟨RX0, "isSettled", "(I)Z"⟩
abbrev cX0_runMasters : ByteArray := prog_1_method_23_code
def yX0_runMasters : MethodName := ⟨RX0, "runMasters", "(I)V"⟩
abbrev cX0_runBackups : ByteArray := prog_1_method_24_code
def yX0_runBackups : MethodName := ⟨RX0, "runBackups", "(I)V"⟩
abbrev cX0_noteGap : ByteArray := prog_1_method_25_code
def yX0_noteGap : MethodName := ⟨RX0, "noteGap", "(I)V"⟩
abbrev cX0_advertise : ByteArray := prog_1_method_26_code
def yX0_advertise : MethodName := ⟨RX0, "advertise", "(III)V"⟩
abbrev cX0_receiveAsMaster : ByteArray := prog_1_method_27_code
def yX0_receiveAsMaster : MethodName := ⟨RX0, "receiveAsMaster", "(IIII)V"⟩
abbrev cX0_receiveAsBackup : ByteArray := prog_1_method_28_code
def yX0_receiveAsBackup : MethodName := ⟨RX0, "receiveAsBackup", "(IIII)V"⟩
abbrev cX0_copyServed : ByteArray := prog_1_method_29_code
def yX0_copyServed : MethodName := ⟨RX0, "copyServed", "(III)V"⟩
abbrev cX0_beginPart : ByteArray := prog_1_method_30_code
def yX0_beginPart : MethodName := ⟨RX0, "beginPart", "(II)V"⟩
abbrev cX0_becomeBackup : ByteArray := prog_1_method_31_code
def yX0_becomeBackup : MethodName := ⟨RX0, "becomeBackup", "(II)V"⟩
abbrev cX0_membersWith : ByteArray := prog_1_method_32_code
def yX0_membersWith : MethodName := ⟨RX0, "membersWith", "(II)I"⟩
abbrev cX0_hasJoinedMasters : ByteArray := prog_1_method_33_code
def yX0_hasJoinedMasters : MethodName := ⟨RX0, "hasJoinedMasters", "(I)Z"⟩
abbrev cX0_loweredPriority : ByteArray := prog_1_method_34_code
def yX0_loweredPriority : MethodName := ⟨RX0, "loweredPriority", "(II)I"⟩
abbrev cX0_waitOf : ByteArray := prog_1_method_35_code
def yX0_waitOf : MethodName := ⟨RX0, "waitOf", "(II)I"⟩
abbrev cX0_skewOf : ByteArray := prog_1_method_36_code
def yX0_skewOf : MethodName := ⟨RX0, "skewOf", "(II)I"⟩
abbrev cX0_placeOf : ByteArray := prog_1_method_37_code
def yX0_placeOf : MethodName := ⟨RX0, "placeOf", "(II)I"⟩
abbrev cX0_linkOf : ByteArray := prog_1_method_38_code
def yX0_linkOf : MethodName := ⟨RX0, "linkOf", "(II)I"⟩
abbrev cX0_checkRouter : ByteArray := prog_1_method_39_code
def yX0_checkRouter : MethodName := ⟨RX0, "checkRouter", "(I)V"⟩
abbrev cX0_checkGroup : ByteArray := prog_1_method_40_code
def yX0_checkGroup : MethodName := ⟨RX0, "checkGroup", "(I)V"⟩
abbrev cX0_checkLink : ByteArray := prog_1_method_41_code
def yX0_checkLink : MethodName := ⟨RX0, "checkLink", "(I)V"⟩
abbrev cX0_checkRange : ByteArray := prog_1_method_42_code
def yX0_checkRange : MethodName := ⟨RX0, "checkRange", "(III)V"⟩
def RX1 : String := "StandbyPairModel"
def TX1 : u_T := fun k => match k with
  | _ => ("", "", "", false)
def tyX1 : Nat → FieldType := fun k => match k with
  | _ => .int
abbrev wsX10 : List Cond := u_ws RX1 TX1 0
theorem nmX1 : ∀ a, a < 0 → ∀ b, b < 0 → a ≠ b → (TX1 a).2.1 ≠ (TX1 b).2.1 := by decide +kernel
theorem tyX1_ok : ∀ k, k < 0 → parseFieldDescriptor (TX1 k).2.2.1 = some (tyX1 k) := by decide +kernel
def RJ9 : String := "java/lang/Math"
def TJ9 : u_T := fun k => match k with
  | _ => ("", "", "", false)
def tyJ9 : Nat → FieldType := fun k => match k with
  | _ => .int
abbrev wsJ90 : List Cond := u_ws RJ9 TJ9 0
theorem nmJ9 : ∀ a, a < 0 → ∀ b, b < 0 → a ≠ b → (TJ9 a).2.1 ≠ (TJ9 b).2.1 := by decide +kernel
theorem tyJ9_ok : ∀ k, k < 0 → parseFieldDescriptor (TJ9 k).2.2.1 = some (tyJ9 k) := by decide +kernel
abbrev cJ9_max_7cf53 : ByteArray := prog_7_method_65_code
def yJ9_max_7cf53 : MethodName := ⟨RJ9, "max", "(II)I"⟩
def RJ0 : String := "java/lang/String"
def TJ0 : u_T := fun k => match k with
  | _ => ("", "", "", false)
def tyJ0 : Nat → FieldType := fun k => match k with
  | _ => .int
abbrev wsJ00 : List Cond := u_ws RJ0 TJ0 0
theorem nmJ0 : ∀ a, a < 0 → ∀ b, b < 0 → a ≠ b → (TJ0 a).2.1 ≠ (TJ0 b).2.1 := by decide +kernel
theorem tyJ0_ok : ∀ k, k < 0 → parseFieldDescriptor (TJ0 k).2.2.1 = some (tyJ0 k) := by decide +kernel
def RL : String := "StandbyPairLaw"
abbrev cL_cell : ByteArray := method_2_code
def yL_cell : MethodName := ⟨RL, "cell", "([II)I"⟩
abbrev cL_low : ByteArray := method_3_code
def yL_low : MethodName := ⟨RL, "low", "(II)I"⟩
abbrev cL_setPriority : ByteArray := method_4_code
def yL_setPriority : MethodName := ⟨RL, "setPriority", "(LStandbyPair;III)I"⟩
abbrev cL_track : ByteArray := method_5_code
def yL_track : MethodName := ⟨RL, "track", "(LStandbyPair;III)I"⟩
abbrev cL_setLink : ByteArray := method_6_code
def yL_setLink : MethodName := ⟨RL, "setLink", "(LStandbyPair;IIZ)I"⟩
abbrev cL_setPeriod : ByteArray := method_7_code
def yL_setPeriod : MethodName := ⟨RL, "setPeriod", "(LStandbyPair;II)I"⟩
abbrev cL_setPreemption : ByteArray := method_8_code
def yL_setPreemption : MethodName := ⟨RL, "setPreemption", "(LStandbyPair;IZI)I"⟩
abbrev cL_join : ByteArray := method_9_code
def yL_join : MethodName := ⟨RL, "join", "(LStandbyPair;IIZ)I"⟩
abbrev cL_die : ByteArray := method_10_code
def yL_die : MethodName := ⟨RL, "die", "(LStandbyPair;I)I"⟩
abbrev cL_live : ByteArray := method_11_code
def yL_live : MethodName := ⟨RL, "live", "(LStandbyPair;I)I"⟩
abbrev cL_handOver : ByteArray := method_12_code
def yL_handOver : MethodName := ⟨RL, "handOver", "(LStandbyPair;II)I"⟩
abbrev cL_serve : ByteArray := method_13_code
def yL_serve : MethodName := ⟨RL, "serve", "(LStandbyPair;II)I"⟩
abbrev cL_tick : ByteArray := method_14_code
def yL_tick : MethodName := ⟨RL, "tick", "(LStandbyPair;I)I"⟩
abbrev cL_timer : ByteArray := method_15_code
def yL_timer : MethodName := ⟨RL, "timer", "(LStandbyPair;II)I"⟩
abbrev cL_act : ByteArray := method_16_code
def yL_act : MethodName := ⟨RL, "act", "(LStandbyPair;I)I"⟩
abbrev cL_areAlike : ByteArray := method_17_code
def yL_areAlike : MethodName := ⟨RL, "areAlike", "(LStandbyPair;LStandbyPair;)Z"⟩
abbrev cL_isGroupSo : ByteArray := method_18_code
def yL_isGroupSo : MethodName := ⟨RL, "isGroupSo", "(LStandbyPair;I)Z"⟩
abbrev cL_law : ByteArray := code
def yL_law : MethodName := ⟨RL, "law", "([I)Z"⟩
def wsX0_init : List Cond := .code yX0_init cX0_init 2 none :: ([.methodLink RX0 1 objectInit, .instanceMethod objectInit, .code objectInit ⟨#[0xb1]⟩ 1 none, .arrayClass .boolean, .fieldLink RX0 9 "StandbyPair" "alive" "[Z", .fieldLink RX0 13 "StandbyPair" "joinedPairs" "[Z", .fieldLink RX0 16 "StandbyPair" "linkUp" "[Z", .arrayClass .int, .fieldLink RX0 19 "StandbyPair" "decrements" "[I", .fieldLink RX0 23 "StandbyPair" "periods" "[I", .fieldLink RX0 26 "StandbyPair" "preempting" "[Z", .fieldLink RX0 29 "StandbyPair" "delays" "[I", .fieldLink RX0 32 "StandbyPair" "gapTicks" "[I", .fieldLink RX0 35 "StandbyPair" "advertisements" "[I", .fieldLink RX0 38 "StandbyPair" "basePriorities" "[I", .fieldLink RX0 41 "StandbyPair" "roles" "[I", .fieldLink RX0 44 "StandbyPair" "timers" "[I", .fieldLink RX0 47 "StandbyPair" "heard" "[I", .fieldLink RX0 50 "StandbyPair" "served" "[I", .fieldLink RX0 53 "StandbyPair" "promotions" "[I", .fieldLink RX0 56 "StandbyPair" "repairAsked" "[Z"] ++ wsX00)
def wsX0_checkRouter : List Cond := .code yX0_checkRouter cX0_checkRouter 1 none :: ([.classLink RX0 87 "java/lang/IllegalArgumentException", .initialized "java/lang/IllegalArgumentException"] ++ (vx_atS RX0 91 "java/lang/IllegalArgumentException" ["java/lang/RuntimeException", "java/lang/Exception"]).filter goodWord)
def wsX0_checkGroup : List Cond := .code yX0_checkGroup cX0_checkGroup 1 none :: ([.classLink RX0 87 "java/lang/IllegalArgumentException", .initialized "java/lang/IllegalArgumentException"] ++ (vx_atS RX0 91 "java/lang/IllegalArgumentException" ["java/lang/RuntimeException", "java/lang/Exception"]).filter goodWord)
def wsX0_checkRange : List Cond := .code yX0_checkRange cX0_checkRange 3 none :: ([.classLink RX0 87 "java/lang/IllegalArgumentException", .initialized "java/lang/IllegalArgumentException"] ++ (vx_atS RX0 91 "java/lang/IllegalArgumentException" ["java/lang/RuntimeException", "java/lang/Exception"]).filter goodWord)
def wsX0_placeOf : List Cond := .code yX0_placeOf cX0_placeOf 2 (some .int) :: ([])
def wsX0_linkOf : List Cond := .code yX0_linkOf cX0_linkOf 2 (some .int) :: ([])
def wsX0_loweredPriority : List Cond := .code yX0_loweredPriority cX0_loweredPriority 6 (some .int) :: ([.fieldLink RX0 38 "StandbyPair" "basePriorities" "[I", .fieldLink RX0 16 "StandbyPair" "linkUp" "[Z", .fieldLink RX0 19 "StandbyPair" "decrements" "[I", .methodLink RX0 150 Lib.Math.max.name, .static Lib.Math.max.name, .initialized "java/lang/Math", .code Lib.Math.max.name Lib.Math.max.code 2 (some .int), .methodLink RX0 70 yX0_placeOf, .static yX0_placeOf, .initialized RX0, .code yX0_placeOf cX0_placeOf 2 (some .int), .methodLink RX0 84 yX0_linkOf, .static yX0_linkOf, .code yX0_linkOf cX0_linkOf 2 (some .int)] ++ wsX00)
def wsX0_skewOf : List Cond := .code yX0_skewOf cX0_skewOf 3 (some .int) :: ([.fieldLink RX0 23 "StandbyPair" "periods" "[I"] ++ wsX00)
def wsX0_waitOf : List Cond := .code yX0_waitOf cX0_waitOf 3 (some .int) :: ([.fieldLink RX0 23 "StandbyPair" "periods" "[I", .methodLink RX0 144 yX0_skewOf, .instanceMethod yX0_skewOf, .selects RX0 yX0_skewOf yX0_skewOf, .initialized RX0, .code yX0_skewOf cX0_skewOf 3 (some .int)] ++ wsX00)
def wsX0_becomeBackup_r1 : List Cond := [Cond.fieldLink RX0 41 "StandbyPair" "roles" "[I", Cond.fieldLink RX0 47 "StandbyPair" "heard" "[I", Cond.fieldLink RX0 44 "StandbyPair" "timers" "[I", Cond.methodLink RX0 70 yX0_placeOf, Cond.static yX0_placeOf, Cond.initialized RX0, Cond.code yX0_placeOf cX0_placeOf 2 (some .int), Cond.methodLink RX0 119 yX0_loweredPriority, Cond.instanceMethod yX0_loweredPriority, Cond.selects RX0 yX0_loweredPriority yX0_loweredPriority, Cond.code yX0_loweredPriority cX0_loweredPriority 6 (some .int), Cond.fieldLink RX0 38 "StandbyPair" "basePriorities" "[I", Cond.fieldLink RX0 16 "StandbyPair" "linkUp" "[Z", Cond.fieldLink RX0 19 "StandbyPair" "decrements" "[I", Cond.methodLink RX0 150 Lib.Math.max.name, Cond.static Lib.Math.max.name, Cond.initialized "java/lang/Math", Cond.code Lib.Math.max.name Lib.Math.max.code 2 (some .int), Cond.methodLink RX0 84 yX0_linkOf, Cond.static yX0_linkOf, Cond.code yX0_linkOf cX0_linkOf 2 (some .int), Cond.methodLink RX0 147 yX0_waitOf, Cond.instanceMethod yX0_waitOf, Cond.selects RX0 yX0_waitOf yX0_waitOf]
def wsX0_becomeBackup_r2 : List Cond := [Cond.code yX0_waitOf cX0_waitOf 3 (some .int), Cond.fieldLink RX0 23 "StandbyPair" "periods" "[I", Cond.methodLink RX0 144 yX0_skewOf, Cond.instanceMethod yX0_skewOf, Cond.selects RX0 yX0_skewOf yX0_skewOf, Cond.code yX0_skewOf cX0_skewOf 3 (some .int)]
def wsX0_becomeBackup : List Cond := .code yX0_becomeBackup cX0_becomeBackup 4 none :: ((wsX0_becomeBackup_r1 ++ wsX0_becomeBackup_r2) ++ wsX00)
def wsX0_copyServed : List Cond := .code yX0_copyServed cX0_copyServed 6 none :: ([.fieldLink RX0 50 "StandbyPair" "served" "[I", .fieldLink RX0 56 "StandbyPair" "repairAsked" "[Z", .fieldLink RX0 127 "StandbyPair" "bulkRepairs" "I", .methodLink RX0 70 yX0_placeOf, .static yX0_placeOf, .initialized RX0, .code yX0_placeOf cX0_placeOf 2 (some .int)] ++ wsX00)
def wsX0_receiveAsMaster_r1 : List Cond := [Cond.methodLink RX0 119 yX0_loweredPriority, Cond.instanceMethod yX0_loweredPriority, Cond.selects RX0 yX0_loweredPriority yX0_loweredPriority, Cond.initialized RX0, Cond.code yX0_loweredPriority cX0_loweredPriority 6 (some .int), Cond.fieldLink RX0 38 "StandbyPair" "basePriorities" "[I", Cond.fieldLink RX0 16 "StandbyPair" "linkUp" "[Z", Cond.fieldLink RX0 19 "StandbyPair" "decrements" "[I", Cond.methodLink RX0 150 Lib.Math.max.name, Cond.static Lib.Math.max.name, Cond.initialized "java/lang/Math", Cond.code Lib.Math.max.name Lib.Math.max.code 2 (some .int), Cond.methodLink RX0 70 yX0_placeOf, Cond.static yX0_placeOf, Cond.code yX0_placeOf cX0_placeOf 2 (some .int), Cond.methodLink RX0 84 yX0_linkOf, Cond.static yX0_linkOf, Cond.code yX0_linkOf cX0_linkOf 2 (some .int), Cond.methodLink RX0 103 yX0_becomeBackup, Cond.instanceMethod yX0_becomeBackup, Cond.selects RX0 yX0_becomeBackup yX0_becomeBackup, Cond.code yX0_becomeBackup cX0_becomeBackup 4 none, Cond.fieldLink RX0 41 "StandbyPair" "roles" "[I", Cond.fieldLink RX0 47 "StandbyPair" "heard" "[I"]
def wsX0_receiveAsMaster_r2 : List Cond := [Cond.fieldLink RX0 44 "StandbyPair" "timers" "[I", Cond.methodLink RX0 147 yX0_waitOf, Cond.instanceMethod yX0_waitOf, Cond.selects RX0 yX0_waitOf yX0_waitOf, Cond.code yX0_waitOf cX0_waitOf 3 (some .int), Cond.fieldLink RX0 23 "StandbyPair" "periods" "[I", Cond.methodLink RX0 144 yX0_skewOf, Cond.instanceMethod yX0_skewOf, Cond.selects RX0 yX0_skewOf yX0_skewOf, Cond.code yX0_skewOf cX0_skewOf 3 (some .int), Cond.methodLink RX0 141 yX0_copyServed, Cond.instanceMethod yX0_copyServed, Cond.selects RX0 yX0_copyServed yX0_copyServed, Cond.code yX0_copyServed cX0_copyServed 6 none, Cond.fieldLink RX0 50 "StandbyPair" "served" "[I", Cond.fieldLink RX0 56 "StandbyPair" "repairAsked" "[Z", Cond.fieldLink RX0 127 "StandbyPair" "bulkRepairs" "I"]
def wsX0_receiveAsMaster : List Cond := .code yX0_receiveAsMaster cX0_receiveAsMaster 6 none :: ((wsX0_receiveAsMaster_r1 ++ wsX0_receiveAsMaster_r2) ++ wsX00)
def wsX0_receiveAsBackup_r1 : List Cond := [Cond.fieldLink RX0 44 "StandbyPair" "timers" "[I", Cond.fieldLink RX0 26 "StandbyPair" "preempting" "[Z", Cond.fieldLink RX0 47 "StandbyPair" "heard" "[I", Cond.fieldLink RX0 29 "StandbyPair" "delays" "[I", Cond.methodLink RX0 70 yX0_placeOf, Cond.static yX0_placeOf, Cond.initialized RX0, Cond.code yX0_placeOf cX0_placeOf 2 (some .int), Cond.methodLink RX0 119 yX0_loweredPriority, Cond.instanceMethod yX0_loweredPriority, Cond.selects RX0 yX0_loweredPriority yX0_loweredPriority, Cond.code yX0_loweredPriority cX0_loweredPriority 6 (some .int), Cond.fieldLink RX0 38 "StandbyPair" "basePriorities" "[I", Cond.fieldLink RX0 16 "StandbyPair" "linkUp" "[Z", Cond.fieldLink RX0 19 "StandbyPair" "decrements" "[I", Cond.methodLink RX0 150 Lib.Math.max.name, Cond.static Lib.Math.max.name, Cond.initialized "java/lang/Math", Cond.code Lib.Math.max.name Lib.Math.max.code 2 (some .int), Cond.methodLink RX0 84 yX0_linkOf, Cond.static yX0_linkOf, Cond.code yX0_linkOf cX0_linkOf 2 (some .int), Cond.methodLink RX0 144 yX0_skewOf, Cond.instanceMethod yX0_skewOf]
def wsX0_receiveAsBackup_r2 : List Cond := [Cond.selects RX0 yX0_skewOf yX0_skewOf, Cond.code yX0_skewOf cX0_skewOf 3 (some .int), Cond.fieldLink RX0 23 "StandbyPair" "periods" "[I", Cond.methodLink RX0 147 yX0_waitOf, Cond.instanceMethod yX0_waitOf, Cond.selects RX0 yX0_waitOf yX0_waitOf, Cond.code yX0_waitOf cX0_waitOf 3 (some .int), Cond.methodLink RX0 141 yX0_copyServed, Cond.instanceMethod yX0_copyServed, Cond.selects RX0 yX0_copyServed yX0_copyServed, Cond.code yX0_copyServed cX0_copyServed 6 none, Cond.fieldLink RX0 50 "StandbyPair" "served" "[I", Cond.fieldLink RX0 56 "StandbyPair" "repairAsked" "[Z", Cond.fieldLink RX0 127 "StandbyPair" "bulkRepairs" "I"]
def wsX0_receiveAsBackup : List Cond := .code yX0_receiveAsBackup cX0_receiveAsBackup 7 none :: ((wsX0_receiveAsBackup_r1 ++ wsX0_receiveAsBackup_r2) ++ wsX00)
def wsX0_advertise_r1 : List Cond := [Cond.fieldLink RX0 35 "StandbyPair" "advertisements" "[I", Cond.fieldLink RX0 13 "StandbyPair" "joinedPairs" "[Z", Cond.fieldLink RX0 41 "StandbyPair" "roles" "[I", Cond.methodLink RX0 70 yX0_placeOf, Cond.static yX0_placeOf, Cond.initialized RX0, Cond.code yX0_placeOf cX0_placeOf 2 (some .int), Cond.methodLink RX0 134 yX0_receiveAsMaster, Cond.instanceMethod yX0_receiveAsMaster, Cond.selects RX0 yX0_receiveAsMaster yX0_receiveAsMaster, Cond.code yX0_receiveAsMaster cX0_receiveAsMaster 6 none, Cond.methodLink RX0 119 yX0_loweredPriority, Cond.instanceMethod yX0_loweredPriority, Cond.selects RX0 yX0_loweredPriority yX0_loweredPriority, Cond.code yX0_loweredPriority cX0_loweredPriority 6 (some .int), Cond.fieldLink RX0 38 "StandbyPair" "basePriorities" "[I", Cond.fieldLink RX0 16 "StandbyPair" "linkUp" "[Z", Cond.fieldLink RX0 19 "StandbyPair" "decrements" "[I", Cond.methodLink RX0 150 Lib.Math.max.name, Cond.static Lib.Math.max.name, Cond.initialized "java/lang/Math", Cond.code Lib.Math.max.name Lib.Math.max.code 2 (some .int), Cond.methodLink RX0 84 yX0_linkOf, Cond.static yX0_linkOf]
def wsX0_advertise_r2 : List Cond := [Cond.code yX0_linkOf cX0_linkOf 2 (some .int), Cond.methodLink RX0 103 yX0_becomeBackup, Cond.instanceMethod yX0_becomeBackup, Cond.selects RX0 yX0_becomeBackup yX0_becomeBackup, Cond.code yX0_becomeBackup cX0_becomeBackup 4 none, Cond.fieldLink RX0 47 "StandbyPair" "heard" "[I", Cond.fieldLink RX0 44 "StandbyPair" "timers" "[I", Cond.methodLink RX0 147 yX0_waitOf, Cond.instanceMethod yX0_waitOf, Cond.selects RX0 yX0_waitOf yX0_waitOf, Cond.code yX0_waitOf cX0_waitOf 3 (some .int), Cond.fieldLink RX0 23 "StandbyPair" "periods" "[I", Cond.methodLink RX0 144 yX0_skewOf, Cond.instanceMethod yX0_skewOf, Cond.selects RX0 yX0_skewOf yX0_skewOf, Cond.code yX0_skewOf cX0_skewOf 3 (some .int), Cond.methodLink RX0 141 yX0_copyServed, Cond.instanceMethod yX0_copyServed, Cond.selects RX0 yX0_copyServed yX0_copyServed, Cond.code yX0_copyServed cX0_copyServed 6 none, Cond.fieldLink RX0 50 "StandbyPair" "served" "[I", Cond.fieldLink RX0 56 "StandbyPair" "repairAsked" "[Z", Cond.fieldLink RX0 127 "StandbyPair" "bulkRepairs" "I", Cond.methodLink RX0 138 yX0_receiveAsBackup]
def wsX0_advertise_r3 : List Cond := [Cond.instanceMethod yX0_receiveAsBackup, Cond.selects RX0 yX0_receiveAsBackup yX0_receiveAsBackup, Cond.code yX0_receiveAsBackup cX0_receiveAsBackup 7 none, Cond.fieldLink RX0 26 "StandbyPair" "preempting" "[Z", Cond.fieldLink RX0 29 "StandbyPair" "delays" "[I"]
def wsX0_advertise : List Cond := .code yX0_advertise cX0_advertise 6 none :: ((wsX0_advertise_r1 ++ (wsX0_advertise_r2 ++ wsX0_advertise_r3)) ++ wsX00)
def wsX0_beginPart_r1 : List Cond := [Cond.fieldLink RX0 56 "StandbyPair" "repairAsked" "[Z", Cond.methodLink RX0 103 yX0_becomeBackup, Cond.instanceMethod yX0_becomeBackup, Cond.selects RX0 yX0_becomeBackup yX0_becomeBackup, Cond.initialized RX0, Cond.code yX0_becomeBackup cX0_becomeBackup 4 none, Cond.fieldLink RX0 41 "StandbyPair" "roles" "[I", Cond.fieldLink RX0 47 "StandbyPair" "heard" "[I", Cond.fieldLink RX0 44 "StandbyPair" "timers" "[I", Cond.methodLink RX0 70 yX0_placeOf, Cond.static yX0_placeOf, Cond.code yX0_placeOf cX0_placeOf 2 (some .int), Cond.methodLink RX0 119 yX0_loweredPriority, Cond.instanceMethod yX0_loweredPriority, Cond.selects RX0 yX0_loweredPriority yX0_loweredPriority, Cond.code yX0_loweredPriority cX0_loweredPriority 6 (some .int), Cond.fieldLink RX0 38 "StandbyPair" "basePriorities" "[I", Cond.fieldLink RX0 16 "StandbyPair" "linkUp" "[Z", Cond.fieldLink RX0 19 "StandbyPair" "decrements" "[I", Cond.methodLink RX0 150 Lib.Math.max.name, Cond.static Lib.Math.max.name, Cond.initialized "java/lang/Math", Cond.code Lib.Math.max.name Lib.Math.max.code 2 (some .int), Cond.methodLink RX0 84 yX0_linkOf]
def wsX0_beginPart_r2 : List Cond := [Cond.static yX0_linkOf, Cond.code yX0_linkOf cX0_linkOf 2 (some .int), Cond.methodLink RX0 147 yX0_waitOf, Cond.instanceMethod yX0_waitOf, Cond.selects RX0 yX0_waitOf yX0_waitOf, Cond.code yX0_waitOf cX0_waitOf 3 (some .int), Cond.fieldLink RX0 23 "StandbyPair" "periods" "[I", Cond.methodLink RX0 144 yX0_skewOf, Cond.instanceMethod yX0_skewOf, Cond.selects RX0 yX0_skewOf yX0_skewOf, Cond.code yX0_skewOf cX0_skewOf 3 (some .int)]
def wsX0_beginPart : List Cond := .code yX0_beginPart cX0_beginPart 3 none :: ((wsX0_beginPart_r1 ++ wsX0_beginPart_r2) ++ wsX00)
def wsX0_setPriority_r1 : List Cond := [Cond.fieldLink RX0 38 "StandbyPair" "basePriorities" "[I", Cond.fieldLink RX0 41 "StandbyPair" "roles" "[I", Cond.fieldLink RX0 9 "StandbyPair" "alive" "[Z", Cond.methodLink RX0 59 yX0_checkRouter, Cond.static yX0_checkRouter, Cond.initialized RX0, Cond.code yX0_checkRouter cX0_checkRouter 1 none, Cond.classLink RX0 87 "java/lang/IllegalArgumentException", Cond.initialized "java/lang/IllegalArgumentException", Cond.methodLink RX0 63 yX0_checkGroup, Cond.static yX0_checkGroup, Cond.code yX0_checkGroup cX0_checkGroup 1 none, Cond.methodLink RX0 66 yX0_checkRange, Cond.static yX0_checkRange, Cond.code yX0_checkRange cX0_checkRange 3 none, Cond.methodLink RX0 70 yX0_placeOf, Cond.static yX0_placeOf, Cond.code yX0_placeOf cX0_placeOf 2 (some .int), Cond.methodLink RX0 74 yX0_advertise, Cond.instanceMethod yX0_advertise, Cond.selects RX0 yX0_advertise yX0_advertise, Cond.code yX0_advertise cX0_advertise 6 none, Cond.fieldLink RX0 35 "StandbyPair" "advertisements" "[I", Cond.fieldLink RX0 13 "StandbyPair" "joinedPairs" "[Z"]
def wsX0_setPriority_r2 : List Cond := [Cond.methodLink RX0 134 yX0_receiveAsMaster, Cond.instanceMethod yX0_receiveAsMaster, Cond.selects RX0 yX0_receiveAsMaster yX0_receiveAsMaster, Cond.code yX0_receiveAsMaster cX0_receiveAsMaster 6 none, Cond.methodLink RX0 119 yX0_loweredPriority, Cond.instanceMethod yX0_loweredPriority, Cond.selects RX0 yX0_loweredPriority yX0_loweredPriority, Cond.code yX0_loweredPriority cX0_loweredPriority 6 (some .int), Cond.fieldLink RX0 16 "StandbyPair" "linkUp" "[Z", Cond.fieldLink RX0 19 "StandbyPair" "decrements" "[I", Cond.methodLink RX0 150 Lib.Math.max.name, Cond.static Lib.Math.max.name, Cond.initialized "java/lang/Math", Cond.code Lib.Math.max.name Lib.Math.max.code 2 (some .int), Cond.methodLink RX0 84 yX0_linkOf, Cond.static yX0_linkOf, Cond.code yX0_linkOf cX0_linkOf 2 (some .int), Cond.methodLink RX0 103 yX0_becomeBackup, Cond.instanceMethod yX0_becomeBackup, Cond.selects RX0 yX0_becomeBackup yX0_becomeBackup, Cond.code yX0_becomeBackup cX0_becomeBackup 4 none, Cond.fieldLink RX0 47 "StandbyPair" "heard" "[I", Cond.fieldLink RX0 44 "StandbyPair" "timers" "[I", Cond.methodLink RX0 147 yX0_waitOf]
def wsX0_setPriority_r3 : List Cond := [Cond.instanceMethod yX0_waitOf, Cond.selects RX0 yX0_waitOf yX0_waitOf, Cond.code yX0_waitOf cX0_waitOf 3 (some .int), Cond.fieldLink RX0 23 "StandbyPair" "periods" "[I", Cond.methodLink RX0 144 yX0_skewOf, Cond.instanceMethod yX0_skewOf, Cond.selects RX0 yX0_skewOf yX0_skewOf, Cond.code yX0_skewOf cX0_skewOf 3 (some .int), Cond.methodLink RX0 141 yX0_copyServed, Cond.instanceMethod yX0_copyServed, Cond.selects RX0 yX0_copyServed yX0_copyServed, Cond.code yX0_copyServed cX0_copyServed 6 none, Cond.fieldLink RX0 50 "StandbyPair" "served" "[I", Cond.fieldLink RX0 56 "StandbyPair" "repairAsked" "[Z", Cond.fieldLink RX0 127 "StandbyPair" "bulkRepairs" "I", Cond.methodLink RX0 138 yX0_receiveAsBackup, Cond.instanceMethod yX0_receiveAsBackup, Cond.selects RX0 yX0_receiveAsBackup yX0_receiveAsBackup, Cond.code yX0_receiveAsBackup cX0_receiveAsBackup 7 none, Cond.fieldLink RX0 26 "StandbyPair" "preempting" "[Z", Cond.fieldLink RX0 29 "StandbyPair" "delays" "[I", Cond.methodLink RX0 77 yX0_beginPart, Cond.instanceMethod yX0_beginPart, Cond.selects RX0 yX0_beginPart yX0_beginPart]
def wsX0_setPriority_r4 : List Cond := [Cond.code yX0_beginPart cX0_beginPart 3 none]
def wsX0_setPriority : List Cond := .code yX0_setPriority cX0_setPriority 6 (some .int) :: ((wsX0_setPriority_r1 ++ (wsX0_setPriority_r2 ++ (wsX0_setPriority_r3 ++ wsX0_setPriority_r4))) ++ wsX00 ++ (vx_atS RX0 91 "java/lang/IllegalArgumentException" ["java/lang/RuntimeException", "java/lang/Exception"]).filter goodWord)
def wsX0_checkLink : List Cond := .code yX0_checkLink cX0_checkLink 1 none :: ([.classLink RX0 87 "java/lang/IllegalArgumentException", .initialized "java/lang/IllegalArgumentException"] ++ (vx_atS RX0 91 "java/lang/IllegalArgumentException" ["java/lang/RuntimeException", "java/lang/Exception"]).filter goodWord)
def wsX0_track : List Cond := .code yX0_track cX0_track 6 (some .int) :: ([.fieldLink RX0 19 "StandbyPair" "decrements" "[I", .methodLink RX0 59 yX0_checkRouter, .static yX0_checkRouter, .initialized RX0, .code yX0_checkRouter cX0_checkRouter 1 none, .classLink RX0 87 "java/lang/IllegalArgumentException", .initialized "java/lang/IllegalArgumentException", .methodLink RX0 81 yX0_checkLink, .static yX0_checkLink, .code yX0_checkLink cX0_checkLink 1 none, .methodLink RX0 66 yX0_checkRange, .static yX0_checkRange, .code yX0_checkRange cX0_checkRange 3 none, .methodLink RX0 84 yX0_linkOf, .static yX0_linkOf, .code yX0_linkOf cX0_linkOf 2 (some .int)] ++ wsX00 ++ (vx_atS RX0 91 "java/lang/IllegalArgumentException" ["java/lang/RuntimeException", "java/lang/Exception"]).filter goodWord)
def wsX0_setLink : List Cond := .code yX0_setLink cX0_setLink 6 (some .boolean) :: ([.fieldLink RX0 16 "StandbyPair" "linkUp" "[Z", .methodLink RX0 59 yX0_checkRouter, .static yX0_checkRouter, .initialized RX0, .code yX0_checkRouter cX0_checkRouter 1 none, .classLink RX0 87 "java/lang/IllegalArgumentException", .initialized "java/lang/IllegalArgumentException", .methodLink RX0 81 yX0_checkLink, .static yX0_checkLink, .code yX0_checkLink cX0_checkLink 1 none, .methodLink RX0 84 yX0_linkOf, .static yX0_linkOf, .code yX0_linkOf cX0_linkOf 2 (some .int)] ++ wsX00 ++ (vx_atS RX0 91 "java/lang/IllegalArgumentException" ["java/lang/RuntimeException", "java/lang/Exception"]).filter goodWord)
def wsX0_setPeriod : List Cond := .code yX0_setPeriod cX0_setPeriod 4 (some .int) :: ([.fieldLink RX0 23 "StandbyPair" "periods" "[I", .methodLink RX0 63 yX0_checkGroup, .static yX0_checkGroup, .initialized RX0, .code yX0_checkGroup cX0_checkGroup 1 none, .classLink RX0 87 "java/lang/IllegalArgumentException", .initialized "java/lang/IllegalArgumentException", .methodLink RX0 66 yX0_checkRange, .static yX0_checkRange, .code yX0_checkRange cX0_checkRange 3 none] ++ wsX00 ++ (vx_atS RX0 91 "java/lang/IllegalArgumentException" ["java/lang/RuntimeException", "java/lang/Exception"]).filter goodWord)
def wsX0_setPreemption : List Cond := .code yX0_setPreemption cX0_setPreemption 4 none :: ([.fieldLink RX0 26 "StandbyPair" "preempting" "[Z", .fieldLink RX0 29 "StandbyPair" "delays" "[I", .methodLink RX0 63 yX0_checkGroup, .static yX0_checkGroup, .initialized RX0, .code yX0_checkGroup cX0_checkGroup 1 none, .classLink RX0 87 "java/lang/IllegalArgumentException", .initialized "java/lang/IllegalArgumentException", .methodLink RX0 66 yX0_checkRange, .static yX0_checkRange, .code yX0_checkRange cX0_checkRange 3 none] ++ wsX00 ++ (vx_atS RX0 91 "java/lang/IllegalArgumentException" ["java/lang/RuntimeException", "java/lang/Exception"]).filter goodWord)
def wsX0_join : List Cond := .code yX0_join cX0_join 5 (some .boolean) :: ([.classLink RX0 87 "java/lang/IllegalArgumentException", .initialized "java/lang/IllegalArgumentException", .fieldLink RX0 13 "StandbyPair" "joinedPairs" "[Z", .methodLink RX0 59 yX0_checkRouter, .static yX0_checkRouter, .initialized RX0, .code yX0_checkRouter cX0_checkRouter 1 none] ++ wsX00 ++ (vx_atS RX0 91 "java/lang/IllegalArgumentException" ["java/lang/RuntimeException", "java/lang/Exception"]).filter goodWord)
def wsX0_die : List Cond := .code yX0_die cX0_die 5 (some .int) :: ([.classLink RX0 94 "java/lang/IllegalStateException", .initialized "java/lang/IllegalStateException", .fieldLink RX0 9 "StandbyPair" "alive" "[Z", .fieldLink RX0 41 "StandbyPair" "roles" "[I", .methodLink RX0 59 yX0_checkRouter, .static yX0_checkRouter, .initialized RX0, .code yX0_checkRouter cX0_checkRouter 1 none, .classLink RX0 87 "java/lang/IllegalArgumentException", .initialized "java/lang/IllegalArgumentException", .methodLink RX0 70 yX0_placeOf, .static yX0_placeOf, .code yX0_placeOf cX0_placeOf 2 (some .int)] ++ wsX00 ++ (vx_atS RX0 98 "java/lang/IllegalStateException" ["java/lang/RuntimeException", "java/lang/Exception"]).filter goodWord ++ (vx_atS RX0 91 "java/lang/IllegalArgumentException" ["java/lang/RuntimeException", "java/lang/Exception"]).filter goodWord)
def wsX0_live_r1 : List Cond := [Cond.classLink RX0 94 "java/lang/IllegalStateException", Cond.initialized "java/lang/IllegalStateException", Cond.fieldLink RX0 9 "StandbyPair" "alive" "[Z", Cond.fieldLink RX0 38 "StandbyPair" "basePriorities" "[I", Cond.methodLink RX0 59 yX0_checkRouter, Cond.static yX0_checkRouter, Cond.initialized RX0, Cond.code yX0_checkRouter cX0_checkRouter 1 none, Cond.classLink RX0 87 "java/lang/IllegalArgumentException", Cond.initialized "java/lang/IllegalArgumentException", Cond.methodLink RX0 70 yX0_placeOf, Cond.static yX0_placeOf, Cond.code yX0_placeOf cX0_placeOf 2 (some .int), Cond.methodLink RX0 77 yX0_beginPart, Cond.instanceMethod yX0_beginPart, Cond.selects RX0 yX0_beginPart yX0_beginPart, Cond.code yX0_beginPart cX0_beginPart 3 none, Cond.fieldLink RX0 56 "StandbyPair" "repairAsked" "[Z", Cond.methodLink RX0 103 yX0_becomeBackup, Cond.instanceMethod yX0_becomeBackup, Cond.selects RX0 yX0_becomeBackup yX0_becomeBackup, Cond.code yX0_becomeBackup cX0_becomeBackup 4 none, Cond.fieldLink RX0 41 "StandbyPair" "roles" "[I", Cond.fieldLink RX0 47 "StandbyPair" "heard" "[I"]
def wsX0_live_r2 : List Cond := [Cond.fieldLink RX0 44 "StandbyPair" "timers" "[I", Cond.methodLink RX0 119 yX0_loweredPriority, Cond.instanceMethod yX0_loweredPriority, Cond.selects RX0 yX0_loweredPriority yX0_loweredPriority, Cond.code yX0_loweredPriority cX0_loweredPriority 6 (some .int), Cond.fieldLink RX0 16 "StandbyPair" "linkUp" "[Z", Cond.fieldLink RX0 19 "StandbyPair" "decrements" "[I", Cond.methodLink RX0 150 Lib.Math.max.name, Cond.static Lib.Math.max.name, Cond.initialized "java/lang/Math", Cond.code Lib.Math.max.name Lib.Math.max.code 2 (some .int), Cond.methodLink RX0 84 yX0_linkOf, Cond.static yX0_linkOf, Cond.code yX0_linkOf cX0_linkOf 2 (some .int), Cond.methodLink RX0 147 yX0_waitOf, Cond.instanceMethod yX0_waitOf, Cond.selects RX0 yX0_waitOf yX0_waitOf, Cond.code yX0_waitOf cX0_waitOf 3 (some .int), Cond.fieldLink RX0 23 "StandbyPair" "periods" "[I", Cond.methodLink RX0 144 yX0_skewOf, Cond.instanceMethod yX0_skewOf, Cond.selects RX0 yX0_skewOf yX0_skewOf, Cond.code yX0_skewOf cX0_skewOf 3 (some .int)]
def wsX0_live : List Cond := .code yX0_live cX0_live 4 (some .int) :: ((wsX0_live_r1 ++ wsX0_live_r2) ++ wsX00 ++ (vx_atS RX0 98 "java/lang/IllegalStateException" ["java/lang/RuntimeException", "java/lang/Exception"]).filter goodWord ++ (vx_atS RX0 91 "java/lang/IllegalArgumentException" ["java/lang/RuntimeException", "java/lang/Exception"]).filter goodWord)
def wsX0_handOver_r1 : List Cond := [Cond.classLink RX0 94 "java/lang/IllegalStateException", Cond.initialized "java/lang/IllegalStateException", Cond.fieldLink RX0 41 "StandbyPair" "roles" "[I", Cond.methodLink RX0 59 yX0_checkRouter, Cond.static yX0_checkRouter, Cond.initialized RX0, Cond.code yX0_checkRouter cX0_checkRouter 1 none, Cond.classLink RX0 87 "java/lang/IllegalArgumentException", Cond.initialized "java/lang/IllegalArgumentException", Cond.methodLink RX0 63 yX0_checkGroup, Cond.static yX0_checkGroup, Cond.code yX0_checkGroup cX0_checkGroup 1 none, Cond.methodLink RX0 70 yX0_placeOf, Cond.static yX0_placeOf, Cond.code yX0_placeOf cX0_placeOf 2 (some .int), Cond.methodLink RX0 103 yX0_becomeBackup, Cond.instanceMethod yX0_becomeBackup, Cond.selects RX0 yX0_becomeBackup yX0_becomeBackup, Cond.code yX0_becomeBackup cX0_becomeBackup 4 none, Cond.fieldLink RX0 47 "StandbyPair" "heard" "[I", Cond.fieldLink RX0 44 "StandbyPair" "timers" "[I", Cond.methodLink RX0 119 yX0_loweredPriority, Cond.instanceMethod yX0_loweredPriority, Cond.selects RX0 yX0_loweredPriority yX0_loweredPriority]
def wsX0_handOver_r2 : List Cond := [Cond.code yX0_loweredPriority cX0_loweredPriority 6 (some .int), Cond.fieldLink RX0 38 "StandbyPair" "basePriorities" "[I", Cond.fieldLink RX0 16 "StandbyPair" "linkUp" "[Z", Cond.fieldLink RX0 19 "StandbyPair" "decrements" "[I", Cond.methodLink RX0 150 Lib.Math.max.name, Cond.static Lib.Math.max.name, Cond.initialized "java/lang/Math", Cond.code Lib.Math.max.name Lib.Math.max.code 2 (some .int), Cond.methodLink RX0 84 yX0_linkOf, Cond.static yX0_linkOf, Cond.code yX0_linkOf cX0_linkOf 2 (some .int), Cond.methodLink RX0 147 yX0_waitOf, Cond.instanceMethod yX0_waitOf, Cond.selects RX0 yX0_waitOf yX0_waitOf, Cond.code yX0_waitOf cX0_waitOf 3 (some .int), Cond.fieldLink RX0 23 "StandbyPair" "periods" "[I", Cond.methodLink RX0 144 yX0_skewOf, Cond.instanceMethod yX0_skewOf, Cond.selects RX0 yX0_skewOf yX0_skewOf, Cond.code yX0_skewOf cX0_skewOf 3 (some .int), Cond.methodLink RX0 74 yX0_advertise, Cond.instanceMethod yX0_advertise, Cond.selects RX0 yX0_advertise yX0_advertise, Cond.code yX0_advertise cX0_advertise 6 none]
def wsX0_handOver_r3 : List Cond := [Cond.fieldLink RX0 35 "StandbyPair" "advertisements" "[I", Cond.fieldLink RX0 13 "StandbyPair" "joinedPairs" "[Z", Cond.methodLink RX0 134 yX0_receiveAsMaster, Cond.instanceMethod yX0_receiveAsMaster, Cond.selects RX0 yX0_receiveAsMaster yX0_receiveAsMaster, Cond.code yX0_receiveAsMaster cX0_receiveAsMaster 6 none, Cond.methodLink RX0 141 yX0_copyServed, Cond.instanceMethod yX0_copyServed, Cond.selects RX0 yX0_copyServed yX0_copyServed, Cond.code yX0_copyServed cX0_copyServed 6 none, Cond.fieldLink RX0 50 "StandbyPair" "served" "[I", Cond.fieldLink RX0 56 "StandbyPair" "repairAsked" "[Z", Cond.fieldLink RX0 127 "StandbyPair" "bulkRepairs" "I", Cond.methodLink RX0 138 yX0_receiveAsBackup, Cond.instanceMethod yX0_receiveAsBackup, Cond.selects RX0 yX0_receiveAsBackup yX0_receiveAsBackup, Cond.code yX0_receiveAsBackup cX0_receiveAsBackup 7 none, Cond.fieldLink RX0 26 "StandbyPair" "preempting" "[Z", Cond.fieldLink RX0 29 "StandbyPair" "delays" "[I"]
def wsX0_handOver : List Cond := .code yX0_handOver cX0_handOver 3 none :: ((wsX0_handOver_r1 ++ (wsX0_handOver_r2 ++ wsX0_handOver_r3)) ++ wsX00 ++ (vx_atS RX0 98 "java/lang/IllegalStateException" ["java/lang/RuntimeException", "java/lang/Exception"]).filter goodWord ++ (vx_atS RX0 91 "java/lang/IllegalArgumentException" ["java/lang/RuntimeException", "java/lang/Exception"]).filter goodWord)
def wsX0_serve : List Cond := .code yX0_serve cX0_serve 6 (some .int) :: ([.fieldLink RX0 41 "StandbyPair" "roles" "[I", .fieldLink RX0 50 "StandbyPair" "served" "[I", .methodLink RX0 63 yX0_checkGroup, .static yX0_checkGroup, .initialized RX0, .code yX0_checkGroup cX0_checkGroup 1 none, .classLink RX0 87 "java/lang/IllegalArgumentException", .initialized "java/lang/IllegalArgumentException", .methodLink RX0 66 yX0_checkRange, .static yX0_checkRange, .code yX0_checkRange cX0_checkRange 3 none, .methodLink RX0 70 yX0_placeOf, .static yX0_placeOf, .code yX0_placeOf cX0_placeOf 2 (some .int)] ++ wsX00 ++ (vx_atS RX0 91 "java/lang/IllegalArgumentException" ["java/lang/RuntimeException", "java/lang/Exception"]).filter goodWord)
def wsX0_runMasters_r1 : List Cond := [Cond.fieldLink RX0 41 "StandbyPair" "roles" "[I", Cond.fieldLink RX0 44 "StandbyPair" "timers" "[I", Cond.fieldLink RX0 23 "StandbyPair" "periods" "[I", Cond.methodLink RX0 70 yX0_placeOf, Cond.static yX0_placeOf, Cond.initialized RX0, Cond.code yX0_placeOf cX0_placeOf 2 (some .int), Cond.methodLink RX0 119 yX0_loweredPriority, Cond.instanceMethod yX0_loweredPriority, Cond.selects RX0 yX0_loweredPriority yX0_loweredPriority, Cond.code yX0_loweredPriority cX0_loweredPriority 6 (some .int), Cond.fieldLink RX0 38 "StandbyPair" "basePriorities" "[I", Cond.fieldLink RX0 16 "StandbyPair" "linkUp" "[Z", Cond.fieldLink RX0 19 "StandbyPair" "decrements" "[I", Cond.methodLink RX0 150 Lib.Math.max.name, Cond.static Lib.Math.max.name, Cond.initialized "java/lang/Math", Cond.code Lib.Math.max.name Lib.Math.max.code 2 (some .int), Cond.methodLink RX0 84 yX0_linkOf, Cond.static yX0_linkOf, Cond.code yX0_linkOf cX0_linkOf 2 (some .int), Cond.methodLink RX0 74 yX0_advertise, Cond.instanceMethod yX0_advertise, Cond.selects RX0 yX0_advertise yX0_advertise]
def wsX0_runMasters_r2 : List Cond := [Cond.code yX0_advertise cX0_advertise 6 none, Cond.fieldLink RX0 35 "StandbyPair" "advertisements" "[I", Cond.fieldLink RX0 13 "StandbyPair" "joinedPairs" "[Z", Cond.methodLink RX0 134 yX0_receiveAsMaster, Cond.instanceMethod yX0_receiveAsMaster, Cond.selects RX0 yX0_receiveAsMaster yX0_receiveAsMaster, Cond.code yX0_receiveAsMaster cX0_receiveAsMaster 6 none, Cond.methodLink RX0 103 yX0_becomeBackup, Cond.instanceMethod yX0_becomeBackup, Cond.selects RX0 yX0_becomeBackup yX0_becomeBackup, Cond.code yX0_becomeBackup cX0_becomeBackup 4 none, Cond.fieldLink RX0 47 "StandbyPair" "heard" "[I", Cond.methodLink RX0 147 yX0_waitOf, Cond.instanceMethod yX0_waitOf, Cond.selects RX0 yX0_waitOf yX0_waitOf, Cond.code yX0_waitOf cX0_waitOf 3 (some .int), Cond.methodLink RX0 144 yX0_skewOf, Cond.instanceMethod yX0_skewOf, Cond.selects RX0 yX0_skewOf yX0_skewOf, Cond.code yX0_skewOf cX0_skewOf 3 (some .int), Cond.methodLink RX0 141 yX0_copyServed, Cond.instanceMethod yX0_copyServed, Cond.selects RX0 yX0_copyServed yX0_copyServed, Cond.code yX0_copyServed cX0_copyServed 6 none]
def wsX0_runMasters_r3 : List Cond := [Cond.fieldLink RX0 50 "StandbyPair" "served" "[I", Cond.fieldLink RX0 56 "StandbyPair" "repairAsked" "[Z", Cond.fieldLink RX0 127 "StandbyPair" "bulkRepairs" "I", Cond.methodLink RX0 138 yX0_receiveAsBackup, Cond.instanceMethod yX0_receiveAsBackup, Cond.selects RX0 yX0_receiveAsBackup yX0_receiveAsBackup, Cond.code yX0_receiveAsBackup cX0_receiveAsBackup 7 none, Cond.fieldLink RX0 26 "StandbyPair" "preempting" "[Z", Cond.fieldLink RX0 29 "StandbyPair" "delays" "[I"]
def wsX0_runMasters : List Cond := .code yX0_runMasters cX0_runMasters 4 none :: ((wsX0_runMasters_r1 ++ (wsX0_runMasters_r2 ++ wsX0_runMasters_r3)) ++ wsX00)
def wsX0_runBackups_r1 : List Cond := [Cond.fieldLink RX0 41 "StandbyPair" "roles" "[I", Cond.fieldLink RX0 44 "StandbyPair" "timers" "[I", Cond.fieldLink RX0 53 "StandbyPair" "promotions" "[I", Cond.fieldLink RX0 23 "StandbyPair" "periods" "[I", Cond.methodLink RX0 70 yX0_placeOf, Cond.static yX0_placeOf, Cond.initialized RX0, Cond.code yX0_placeOf cX0_placeOf 2 (some .int), Cond.methodLink RX0 119 yX0_loweredPriority, Cond.instanceMethod yX0_loweredPriority, Cond.selects RX0 yX0_loweredPriority yX0_loweredPriority, Cond.code yX0_loweredPriority cX0_loweredPriority 6 (some .int), Cond.fieldLink RX0 38 "StandbyPair" "basePriorities" "[I", Cond.fieldLink RX0 16 "StandbyPair" "linkUp" "[Z", Cond.fieldLink RX0 19 "StandbyPair" "decrements" "[I", Cond.methodLink RX0 150 Lib.Math.max.name, Cond.static Lib.Math.max.name, Cond.initialized "java/lang/Math", Cond.code Lib.Math.max.name Lib.Math.max.code 2 (some .int), Cond.methodLink RX0 84 yX0_linkOf, Cond.static yX0_linkOf, Cond.code yX0_linkOf cX0_linkOf 2 (some .int), Cond.methodLink RX0 74 yX0_advertise, Cond.instanceMethod yX0_advertise]
def wsX0_runBackups_r2 : List Cond := [Cond.selects RX0 yX0_advertise yX0_advertise, Cond.code yX0_advertise cX0_advertise 6 none, Cond.fieldLink RX0 35 "StandbyPair" "advertisements" "[I", Cond.fieldLink RX0 13 "StandbyPair" "joinedPairs" "[Z", Cond.methodLink RX0 134 yX0_receiveAsMaster, Cond.instanceMethod yX0_receiveAsMaster, Cond.selects RX0 yX0_receiveAsMaster yX0_receiveAsMaster, Cond.code yX0_receiveAsMaster cX0_receiveAsMaster 6 none, Cond.methodLink RX0 103 yX0_becomeBackup, Cond.instanceMethod yX0_becomeBackup, Cond.selects RX0 yX0_becomeBackup yX0_becomeBackup, Cond.code yX0_becomeBackup cX0_becomeBackup 4 none, Cond.fieldLink RX0 47 "StandbyPair" "heard" "[I", Cond.methodLink RX0 147 yX0_waitOf, Cond.instanceMethod yX0_waitOf, Cond.selects RX0 yX0_waitOf yX0_waitOf, Cond.code yX0_waitOf cX0_waitOf 3 (some .int), Cond.methodLink RX0 144 yX0_skewOf, Cond.instanceMethod yX0_skewOf, Cond.selects RX0 yX0_skewOf yX0_skewOf, Cond.code yX0_skewOf cX0_skewOf 3 (some .int), Cond.methodLink RX0 141 yX0_copyServed, Cond.instanceMethod yX0_copyServed, Cond.selects RX0 yX0_copyServed yX0_copyServed]
def wsX0_runBackups_r3 : List Cond := [Cond.code yX0_copyServed cX0_copyServed 6 none, Cond.fieldLink RX0 50 "StandbyPair" "served" "[I", Cond.fieldLink RX0 56 "StandbyPair" "repairAsked" "[Z", Cond.fieldLink RX0 127 "StandbyPair" "bulkRepairs" "I", Cond.methodLink RX0 138 yX0_receiveAsBackup, Cond.instanceMethod yX0_receiveAsBackup, Cond.selects RX0 yX0_receiveAsBackup yX0_receiveAsBackup, Cond.code yX0_receiveAsBackup cX0_receiveAsBackup 7 none, Cond.fieldLink RX0 26 "StandbyPair" "preempting" "[Z", Cond.fieldLink RX0 29 "StandbyPair" "delays" "[I"]
def wsX0_runBackups : List Cond := .code yX0_runBackups cX0_runBackups 4 none :: ((wsX0_runBackups_r1 ++ (wsX0_runBackups_r2 ++ wsX0_runBackups_r3)) ++ wsX00)
def wsX0_membersWith : List Cond := .code yX0_membersWith cX0_membersWith 5 (some .int) :: ([.fieldLink RX0 41 "StandbyPair" "roles" "[I", .methodLink RX0 70 yX0_placeOf, .static yX0_placeOf, .initialized RX0, .code yX0_placeOf cX0_placeOf 2 (some .int)] ++ wsX00)
def wsX0_noteGap : List Cond := .code yX0_noteGap cX0_noteGap 2 none :: ([.fieldLink RX0 32 "StandbyPair" "gapTicks" "[I", .methodLink RX0 124 yX0_membersWith, .instanceMethod yX0_membersWith, .selects RX0 yX0_membersWith yX0_membersWith, .initialized RX0, .code yX0_membersWith cX0_membersWith 5 (some .int), .fieldLink RX0 41 "StandbyPair" "roles" "[I", .methodLink RX0 70 yX0_placeOf, .static yX0_placeOf, .code yX0_placeOf cX0_placeOf 2 (some .int)] ++ wsX00)
def wsX0_tick_r1 : List Cond := [Cond.fieldLink RX0 115 "StandbyPair" "time" "I", Cond.methodLink RX0 66 yX0_checkRange, Cond.static yX0_checkRange, Cond.initialized RX0, Cond.code yX0_checkRange cX0_checkRange 3 none, Cond.classLink RX0 87 "java/lang/IllegalArgumentException", Cond.initialized "java/lang/IllegalArgumentException", Cond.methodLink RX0 106 yX0_runMasters, Cond.instanceMethod yX0_runMasters, Cond.selects RX0 yX0_runMasters yX0_runMasters, Cond.code yX0_runMasters cX0_runMasters 4 none, Cond.fieldLink RX0 41 "StandbyPair" "roles" "[I", Cond.fieldLink RX0 44 "StandbyPair" "timers" "[I", Cond.fieldLink RX0 23 "StandbyPair" "periods" "[I", Cond.methodLink RX0 70 yX0_placeOf, Cond.static yX0_placeOf, Cond.code yX0_placeOf cX0_placeOf 2 (some .int), Cond.methodLink RX0 119 yX0_loweredPriority, Cond.instanceMethod yX0_loweredPriority, Cond.selects RX0 yX0_loweredPriority yX0_loweredPriority, Cond.code yX0_loweredPriority cX0_loweredPriority 6 (some .int), Cond.fieldLink RX0 38 "StandbyPair" "basePriorities" "[I", Cond.fieldLink RX0 16 "StandbyPair" "linkUp" "[Z", Cond.fieldLink RX0 19 "StandbyPair" "decrements" "[I"]
def wsX0_tick_r2 : List Cond := [Cond.methodLink RX0 150 Lib.Math.max.name, Cond.static Lib.Math.max.name, Cond.initialized "java/lang/Math", Cond.code Lib.Math.max.name Lib.Math.max.code 2 (some .int), Cond.methodLink RX0 84 yX0_linkOf, Cond.static yX0_linkOf, Cond.code yX0_linkOf cX0_linkOf 2 (some .int), Cond.methodLink RX0 74 yX0_advertise, Cond.instanceMethod yX0_advertise, Cond.selects RX0 yX0_advertise yX0_advertise, Cond.code yX0_advertise cX0_advertise 6 none, Cond.fieldLink RX0 35 "StandbyPair" "advertisements" "[I", Cond.fieldLink RX0 13 "StandbyPair" "joinedPairs" "[Z", Cond.methodLink RX0 134 yX0_receiveAsMaster, Cond.instanceMethod yX0_receiveAsMaster, Cond.selects RX0 yX0_receiveAsMaster yX0_receiveAsMaster, Cond.code yX0_receiveAsMaster cX0_receiveAsMaster 6 none, Cond.methodLink RX0 103 yX0_becomeBackup, Cond.instanceMethod yX0_becomeBackup, Cond.selects RX0 yX0_becomeBackup yX0_becomeBackup, Cond.code yX0_becomeBackup cX0_becomeBackup 4 none, Cond.fieldLink RX0 47 "StandbyPair" "heard" "[I", Cond.methodLink RX0 147 yX0_waitOf, Cond.instanceMethod yX0_waitOf]
def wsX0_tick_r3 : List Cond := [Cond.selects RX0 yX0_waitOf yX0_waitOf, Cond.code yX0_waitOf cX0_waitOf 3 (some .int), Cond.methodLink RX0 144 yX0_skewOf, Cond.instanceMethod yX0_skewOf, Cond.selects RX0 yX0_skewOf yX0_skewOf, Cond.code yX0_skewOf cX0_skewOf 3 (some .int), Cond.methodLink RX0 141 yX0_copyServed, Cond.instanceMethod yX0_copyServed, Cond.selects RX0 yX0_copyServed yX0_copyServed, Cond.code yX0_copyServed cX0_copyServed 6 none, Cond.fieldLink RX0 50 "StandbyPair" "served" "[I", Cond.fieldLink RX0 56 "StandbyPair" "repairAsked" "[Z", Cond.fieldLink RX0 127 "StandbyPair" "bulkRepairs" "I", Cond.methodLink RX0 138 yX0_receiveAsBackup, Cond.instanceMethod yX0_receiveAsBackup, Cond.selects RX0 yX0_receiveAsBackup yX0_receiveAsBackup, Cond.code yX0_receiveAsBackup cX0_receiveAsBackup 7 none, Cond.fieldLink RX0 26 "StandbyPair" "preempting" "[Z", Cond.fieldLink RX0 29 "StandbyPair" "delays" "[I", Cond.methodLink RX0 109 yX0_runBackups, Cond.instanceMethod yX0_runBackups, Cond.selects RX0 yX0_runBackups yX0_runBackups, Cond.code yX0_runBackups cX0_runBackups 4 none, Cond.fieldLink RX0 53 "StandbyPair" "promotions" "[I"]
def wsX0_tick_r4 : List Cond := [Cond.methodLink RX0 112 yX0_noteGap, Cond.instanceMethod yX0_noteGap, Cond.selects RX0 yX0_noteGap yX0_noteGap, Cond.code yX0_noteGap cX0_noteGap 2 none, Cond.fieldLink RX0 32 "StandbyPair" "gapTicks" "[I", Cond.methodLink RX0 124 yX0_membersWith, Cond.instanceMethod yX0_membersWith, Cond.selects RX0 yX0_membersWith yX0_membersWith, Cond.code yX0_membersWith cX0_membersWith 5 (some .int)]
def wsX0_tick : List Cond := .code yX0_tick cX0_tick 4 (some .int) :: ((wsX0_tick_r1 ++ (wsX0_tick_r2 ++ (wsX0_tick_r3 ++ wsX0_tick_r4))) ++ wsX00 ++ (vx_atS RX0 91 "java/lang/IllegalArgumentException" ["java/lang/RuntimeException", "java/lang/Exception"]).filter goodWord)
def wsX0_state : List Cond := .code yX0_state cX0_state 3 (some .int) :: ([.fieldLink RX0 41 "StandbyPair" "roles" "[I", .methodLink RX0 59 yX0_checkRouter, .static yX0_checkRouter, .initialized RX0, .code yX0_checkRouter cX0_checkRouter 1 none, .classLink RX0 87 "java/lang/IllegalArgumentException", .initialized "java/lang/IllegalArgumentException", .methodLink RX0 63 yX0_checkGroup, .static yX0_checkGroup, .code yX0_checkGroup cX0_checkGroup 1 none, .methodLink RX0 70 yX0_placeOf, .static yX0_placeOf, .code yX0_placeOf cX0_placeOf 2 (some .int)] ++ wsX00 ++ (vx_atS RX0 91 "java/lang/IllegalArgumentException" ["java/lang/RuntimeException", "java/lang/Exception"]).filter goodWord)
def wsX0_priority_r1 : List Cond := [Cond.fieldLink RX0 41 "StandbyPair" "roles" "[I", Cond.methodLink RX0 59 yX0_checkRouter, Cond.static yX0_checkRouter, Cond.initialized RX0, Cond.code yX0_checkRouter cX0_checkRouter 1 none, Cond.classLink RX0 87 "java/lang/IllegalArgumentException", Cond.initialized "java/lang/IllegalArgumentException", Cond.methodLink RX0 63 yX0_checkGroup, Cond.static yX0_checkGroup, Cond.code yX0_checkGroup cX0_checkGroup 1 none, Cond.methodLink RX0 70 yX0_placeOf, Cond.static yX0_placeOf, Cond.code yX0_placeOf cX0_placeOf 2 (some .int), Cond.methodLink RX0 119 yX0_loweredPriority, Cond.instanceMethod yX0_loweredPriority, Cond.selects RX0 yX0_loweredPriority yX0_loweredPriority, Cond.code yX0_loweredPriority cX0_loweredPriority 6 (some .int), Cond.fieldLink RX0 38 "StandbyPair" "basePriorities" "[I", Cond.fieldLink RX0 16 "StandbyPair" "linkUp" "[Z", Cond.fieldLink RX0 19 "StandbyPair" "decrements" "[I", Cond.methodLink RX0 150 Lib.Math.max.name, Cond.static Lib.Math.max.name, Cond.initialized "java/lang/Math", Cond.code Lib.Math.max.name Lib.Math.max.code 2 (some .int)]
def wsX0_priority_r2 : List Cond := [Cond.methodLink RX0 84 yX0_linkOf, Cond.static yX0_linkOf, Cond.code yX0_linkOf cX0_linkOf 2 (some .int)]
def wsX0_priority : List Cond := .code yX0_priority cX0_priority 3 (some .int) :: ((wsX0_priority_r1 ++ wsX0_priority_r2) ++ wsX00 ++ (vx_atS RX0 91 "java/lang/IllegalArgumentException" ["java/lang/RuntimeException", "java/lang/Exception"]).filter goodWord)
def wsX0_timer : List Cond := .code yX0_timer cX0_timer 3 (some .int) :: ([.classLink RX0 94 "java/lang/IllegalStateException", .initialized "java/lang/IllegalStateException", .fieldLink RX0 41 "StandbyPair" "roles" "[I", .fieldLink RX0 44 "StandbyPair" "timers" "[I", .methodLink RX0 59 yX0_checkRouter, .static yX0_checkRouter, .initialized RX0, .code yX0_checkRouter cX0_checkRouter 1 none, .classLink RX0 87 "java/lang/IllegalArgumentException", .initialized "java/lang/IllegalArgumentException", .methodLink RX0 63 yX0_checkGroup, .static yX0_checkGroup, .code yX0_checkGroup cX0_checkGroup 1 none, .methodLink RX0 70 yX0_placeOf, .static yX0_placeOf, .code yX0_placeOf cX0_placeOf 2 (some .int)] ++ wsX00 ++ (vx_atS RX0 98 "java/lang/IllegalStateException" ["java/lang/RuntimeException", "java/lang/Exception"]).filter goodWord ++ (vx_atS RX0 91 "java/lang/IllegalArgumentException" ["java/lang/RuntimeException", "java/lang/Exception"]).filter goodWord)
def wsX0_masters : List Cond := .code yX0_masters cX0_masters 2 (some .int) :: ([.methodLink RX0 63 yX0_checkGroup, .static yX0_checkGroup, .initialized RX0, .code yX0_checkGroup cX0_checkGroup 1 none, .classLink RX0 87 "java/lang/IllegalArgumentException", .initialized "java/lang/IllegalArgumentException", .methodLink RX0 124 yX0_membersWith, .instanceMethod yX0_membersWith, .selects RX0 yX0_membersWith yX0_membersWith, .code yX0_membersWith cX0_membersWith 5 (some .int), .fieldLink RX0 41 "StandbyPair" "roles" "[I", .methodLink RX0 70 yX0_placeOf, .static yX0_placeOf, .code yX0_placeOf cX0_placeOf 2 (some .int)] ++ wsX00 ++ (vx_atS RX0 91 "java/lang/IllegalArgumentException" ["java/lang/RuntimeException", "java/lang/Exception"]).filter goodWord)
def wsX0_changes : List Cond := .code yX0_changes cX0_changes 3 (some .int) :: ([.fieldLink RX0 53 "StandbyPair" "promotions" "[I", .methodLink RX0 59 yX0_checkRouter, .static yX0_checkRouter, .initialized RX0, .code yX0_checkRouter cX0_checkRouter 1 none, .classLink RX0 87 "java/lang/IllegalArgumentException", .initialized "java/lang/IllegalArgumentException", .methodLink RX0 63 yX0_checkGroup, .static yX0_checkGroup, .code yX0_checkGroup cX0_checkGroup 1 none, .methodLink RX0 70 yX0_placeOf, .static yX0_placeOf, .code yX0_placeOf cX0_placeOf 2 (some .int)] ++ wsX00 ++ (vx_atS RX0 91 "java/lang/IllegalArgumentException" ["java/lang/RuntimeException", "java/lang/Exception"]).filter goodWord)
def wsX0_gaps : List Cond := .code yX0_gaps cX0_gaps 2 (some .int) :: ([.fieldLink RX0 32 "StandbyPair" "gapTicks" "[I", .methodLink RX0 63 yX0_checkGroup, .static yX0_checkGroup, .initialized RX0, .code yX0_checkGroup cX0_checkGroup 1 none, .classLink RX0 87 "java/lang/IllegalArgumentException", .initialized "java/lang/IllegalArgumentException"] ++ wsX00 ++ (vx_atS RX0 91 "java/lang/IllegalArgumentException" ["java/lang/RuntimeException", "java/lang/Exception"]).filter goodWord)
def wsX0_sent : List Cond := .code yX0_sent cX0_sent 2 (some .int) :: ([.fieldLink RX0 35 "StandbyPair" "advertisements" "[I", .methodLink RX0 63 yX0_checkGroup, .static yX0_checkGroup, .initialized RX0, .code yX0_checkGroup cX0_checkGroup 1 none, .classLink RX0 87 "java/lang/IllegalArgumentException", .initialized "java/lang/IllegalArgumentException"] ++ wsX00 ++ (vx_atS RX0 91 "java/lang/IllegalArgumentException" ["java/lang/RuntimeException", "java/lang/Exception"]).filter goodWord)
def wsX0_known : List Cond := .code yX0_known cX0_known 3 (some .int) :: ([.fieldLink RX0 50 "StandbyPair" "served" "[I", .methodLink RX0 59 yX0_checkRouter, .static yX0_checkRouter, .initialized RX0, .code yX0_checkRouter cX0_checkRouter 1 none, .classLink RX0 87 "java/lang/IllegalArgumentException", .initialized "java/lang/IllegalArgumentException", .methodLink RX0 63 yX0_checkGroup, .static yX0_checkGroup, .code yX0_checkGroup cX0_checkGroup 1 none, .methodLink RX0 70 yX0_placeOf, .static yX0_placeOf, .code yX0_placeOf cX0_placeOf 2 (some .int)] ++ wsX00 ++ (vx_atS RX0 91 "java/lang/IllegalArgumentException" ["java/lang/RuntimeException", "java/lang/Exception"]).filter goodWord)
def wsX0_repairs : List Cond := .code yX0_repairs cX0_repairs 1 (some .int) :: ([.fieldLink RX0 127 "StandbyPair" "bulkRepairs" "I"] ++ wsX00)
def wsX0_hasJoinedMasters : List Cond := .code yX0_hasJoinedMasters cX0_hasJoinedMasters 4 (some .boolean) :: ([.fieldLink RX0 41 "StandbyPair" "roles" "[I", .fieldLink RX0 13 "StandbyPair" "joinedPairs" "[Z", .methodLink RX0 70 yX0_placeOf, .static yX0_placeOf, .initialized RX0, .code yX0_placeOf cX0_placeOf 2 (some .int)] ++ wsX00)
def wsX0_isSettled : List Cond := .code yX0_isSettled cX0_isSettled 2 (some .boolean) :: ([.methodLink RX0 63 yX0_checkGroup, .static yX0_checkGroup, .initialized RX0, .code yX0_checkGroup cX0_checkGroup 1 none, .classLink RX0 87 "java/lang/IllegalArgumentException", .initialized "java/lang/IllegalArgumentException", .methodLink RX0 124 yX0_membersWith, .instanceMethod yX0_membersWith, .selects RX0 yX0_membersWith yX0_membersWith, .code yX0_membersWith cX0_membersWith 5 (some .int), .fieldLink RX0 41 "StandbyPair" "roles" "[I", .methodLink RX0 70 yX0_placeOf, .static yX0_placeOf, .code yX0_placeOf cX0_placeOf 2 (some .int), .methodLink RX0 130 yX0_hasJoinedMasters, .instanceMethod yX0_hasJoinedMasters, .selects RX0 yX0_hasJoinedMasters yX0_hasJoinedMasters, .code yX0_hasJoinedMasters cX0_hasJoinedMasters 4 (some .boolean), .fieldLink RX0 13 "StandbyPair" "joinedPairs" "[Z"] ++ wsX00 ++ (vx_atS RX0 91 "java/lang/IllegalArgumentException" ["java/lang/RuntimeException", "java/lang/Exception"]).filter goodWord)
def wsJ9_max_7cf53 : List Cond := .code yJ9_max_7cf53 cJ9_max_7cf53 2 (some .int) :: ([])
def wsL_cell : List Cond := .code yL_cell cL_cell 2 (some .int) :: ([])
def wsL_low : List Cond := .code yL_low cL_low 2 (some .int) :: ([.constant RL 7 (2147483647)])
def wsL_setPriority_r1 : List Cond := [Cond.classLink RL 14 "java/lang/IllegalArgumentException", Cond.constant RL 16 (-99999), Cond.methodLink RL 8 yX0_setPriority, Cond.instanceMethod yX0_setPriority, Cond.selects RX0 yX0_setPriority yX0_setPriority, Cond.initialized RX0, Cond.code yX0_setPriority cX0_setPriority 6 (some .int), Cond.fieldLink RX0 38 "StandbyPair" "basePriorities" "[I", Cond.fieldLink RX0 41 "StandbyPair" "roles" "[I", Cond.fieldLink RX0 9 "StandbyPair" "alive" "[Z", Cond.methodLink RX0 59 yX0_checkRouter, Cond.static yX0_checkRouter, Cond.code yX0_checkRouter cX0_checkRouter 1 none, Cond.classLink RX0 87 "java/lang/IllegalArgumentException", Cond.initialized "java/lang/IllegalArgumentException", Cond.methodLink RX0 63 yX0_checkGroup, Cond.static yX0_checkGroup, Cond.code yX0_checkGroup cX0_checkGroup 1 none, Cond.methodLink RX0 66 yX0_checkRange, Cond.static yX0_checkRange, Cond.code yX0_checkRange cX0_checkRange 3 none, Cond.methodLink RX0 70 yX0_placeOf, Cond.static yX0_placeOf, Cond.code yX0_placeOf cX0_placeOf 2 (some .int)]
def wsL_setPriority_r2 : List Cond := [Cond.methodLink RX0 74 yX0_advertise, Cond.instanceMethod yX0_advertise, Cond.selects RX0 yX0_advertise yX0_advertise, Cond.code yX0_advertise cX0_advertise 6 none, Cond.fieldLink RX0 35 "StandbyPair" "advertisements" "[I", Cond.fieldLink RX0 13 "StandbyPair" "joinedPairs" "[Z", Cond.methodLink RX0 134 yX0_receiveAsMaster, Cond.instanceMethod yX0_receiveAsMaster, Cond.selects RX0 yX0_receiveAsMaster yX0_receiveAsMaster, Cond.code yX0_receiveAsMaster cX0_receiveAsMaster 6 none, Cond.methodLink RX0 119 yX0_loweredPriority, Cond.instanceMethod yX0_loweredPriority, Cond.selects RX0 yX0_loweredPriority yX0_loweredPriority, Cond.code yX0_loweredPriority cX0_loweredPriority 6 (some .int), Cond.fieldLink RX0 16 "StandbyPair" "linkUp" "[Z", Cond.fieldLink RX0 19 "StandbyPair" "decrements" "[I", Cond.methodLink RX0 150 Lib.Math.max.name, Cond.static Lib.Math.max.name, Cond.initialized "java/lang/Math", Cond.code Lib.Math.max.name Lib.Math.max.code 2 (some .int), Cond.methodLink RX0 84 yX0_linkOf, Cond.static yX0_linkOf, Cond.code yX0_linkOf cX0_linkOf 2 (some .int), Cond.methodLink RX0 103 yX0_becomeBackup]
def wsL_setPriority_r3 : List Cond := [Cond.instanceMethod yX0_becomeBackup, Cond.selects RX0 yX0_becomeBackup yX0_becomeBackup, Cond.code yX0_becomeBackup cX0_becomeBackup 4 none, Cond.fieldLink RX0 47 "StandbyPair" "heard" "[I", Cond.fieldLink RX0 44 "StandbyPair" "timers" "[I", Cond.methodLink RX0 147 yX0_waitOf, Cond.instanceMethod yX0_waitOf, Cond.selects RX0 yX0_waitOf yX0_waitOf, Cond.code yX0_waitOf cX0_waitOf 3 (some .int), Cond.fieldLink RX0 23 "StandbyPair" "periods" "[I", Cond.methodLink RX0 144 yX0_skewOf, Cond.instanceMethod yX0_skewOf, Cond.selects RX0 yX0_skewOf yX0_skewOf, Cond.code yX0_skewOf cX0_skewOf 3 (some .int), Cond.methodLink RX0 141 yX0_copyServed, Cond.instanceMethod yX0_copyServed, Cond.selects RX0 yX0_copyServed yX0_copyServed, Cond.code yX0_copyServed cX0_copyServed 6 none, Cond.fieldLink RX0 50 "StandbyPair" "served" "[I", Cond.fieldLink RX0 56 "StandbyPair" "repairAsked" "[Z", Cond.fieldLink RX0 127 "StandbyPair" "bulkRepairs" "I", Cond.methodLink RX0 138 yX0_receiveAsBackup, Cond.instanceMethod yX0_receiveAsBackup, Cond.selects RX0 yX0_receiveAsBackup yX0_receiveAsBackup]
def wsL_setPriority_r4 : List Cond := [Cond.code yX0_receiveAsBackup cX0_receiveAsBackup 7 none, Cond.fieldLink RX0 26 "StandbyPair" "preempting" "[Z", Cond.fieldLink RX0 29 "StandbyPair" "delays" "[I", Cond.methodLink RX0 77 yX0_beginPart, Cond.instanceMethod yX0_beginPart, Cond.selects RX0 yX0_beginPart yX0_beginPart, Cond.code yX0_beginPart cX0_beginPart 3 none]
def wsL_setPriority : List Cond := .codeWith yL_setPriority cL_setPriority 5 (some .int) [(0, 7, 8, 14)] :: ((wsL_setPriority_r1 ++ (wsL_setPriority_r2 ++ (wsL_setPriority_r3 ++ wsL_setPriority_r4))) ++ wsX00 ++ (vx_atS RX0 91 "java/lang/IllegalArgumentException" ["java/lang/RuntimeException", "java/lang/Exception"]).filter goodWord)
def wsL_track : List Cond := .codeWith yL_track cL_track 5 (some .int) [(0, 7, 8, 14)] :: ([.classLink RL 14 "java/lang/IllegalArgumentException", .constant RL 16 (-99999), .methodLink RL 17 yX0_track, .instanceMethod yX0_track, .selects RX0 yX0_track yX0_track, .initialized RX0, .code yX0_track cX0_track 6 (some .int), .fieldLink RX0 19 "StandbyPair" "decrements" "[I", .methodLink RX0 59 yX0_checkRouter, .static yX0_checkRouter, .code yX0_checkRouter cX0_checkRouter 1 none, .classLink RX0 87 "java/lang/IllegalArgumentException", .initialized "java/lang/IllegalArgumentException", .methodLink RX0 81 yX0_checkLink, .static yX0_checkLink, .code yX0_checkLink cX0_checkLink 1 none, .methodLink RX0 66 yX0_checkRange, .static yX0_checkRange, .code yX0_checkRange cX0_checkRange 3 none, .methodLink RX0 84 yX0_linkOf, .static yX0_linkOf, .code yX0_linkOf cX0_linkOf 2 (some .int)] ++ wsX00 ++ (vx_atS RX0 91 "java/lang/IllegalArgumentException" ["java/lang/RuntimeException", "java/lang/Exception"]).filter goodWord)
def wsL_setLink : List Cond := .codeWith yL_setLink cL_setLink 5 (some .int) [(0, 15, 16, 14)] :: ([.classLink RL 14 "java/lang/IllegalArgumentException", .constant RL 16 (-99999), .methodLink RL 20 yX0_setLink, .instanceMethod yX0_setLink, .selects RX0 yX0_setLink yX0_setLink, .initialized RX0, .code yX0_setLink cX0_setLink 6 (some .boolean), .fieldLink RX0 16 "StandbyPair" "linkUp" "[Z", .methodLink RX0 59 yX0_checkRouter, .static yX0_checkRouter, .code yX0_checkRouter cX0_checkRouter 1 none, .classLink RX0 87 "java/lang/IllegalArgumentException", .initialized "java/lang/IllegalArgumentException", .methodLink RX0 81 yX0_checkLink, .static yX0_checkLink, .code yX0_checkLink cX0_checkLink 1 none, .methodLink RX0 84 yX0_linkOf, .static yX0_linkOf, .code yX0_linkOf cX0_linkOf 2 (some .int)] ++ wsX00 ++ (vx_atS RX0 91 "java/lang/IllegalArgumentException" ["java/lang/RuntimeException", "java/lang/Exception"]).filter goodWord)
def wsL_setPeriod : List Cond := .codeWith yL_setPeriod cL_setPeriod 4 (some .int) [(0, 6, 7, 14)] :: ([.classLink RL 14 "java/lang/IllegalArgumentException", .constant RL 16 (-99999), .methodLink RL 24 yX0_setPeriod, .instanceMethod yX0_setPeriod, .selects RX0 yX0_setPeriod yX0_setPeriod, .initialized RX0, .code yX0_setPeriod cX0_setPeriod 4 (some .int), .fieldLink RX0 23 "StandbyPair" "periods" "[I", .methodLink RX0 63 yX0_checkGroup, .static yX0_checkGroup, .code yX0_checkGroup cX0_checkGroup 1 none, .classLink RX0 87 "java/lang/IllegalArgumentException", .initialized "java/lang/IllegalArgumentException", .methodLink RX0 66 yX0_checkRange, .static yX0_checkRange, .code yX0_checkRange cX0_checkRange 3 none] ++ wsX00 ++ (vx_atS RX0 91 "java/lang/IllegalArgumentException" ["java/lang/RuntimeException", "java/lang/Exception"]).filter goodWord)
def wsL_setPreemption : List Cond := .codeWith yL_setPreemption cL_setPreemption 5 (some .int) [(0, 8, 9, 14)] :: ([.classLink RL 14 "java/lang/IllegalArgumentException", .constant RL 16 (-99999), .methodLink RL 28 yX0_setPreemption, .instanceMethod yX0_setPreemption, .selects RX0 yX0_setPreemption yX0_setPreemption, .initialized RX0, .code yX0_setPreemption cX0_setPreemption 4 none, .fieldLink RX0 26 "StandbyPair" "preempting" "[Z", .fieldLink RX0 29 "StandbyPair" "delays" "[I", .methodLink RX0 63 yX0_checkGroup, .static yX0_checkGroup, .code yX0_checkGroup cX0_checkGroup 1 none, .classLink RX0 87 "java/lang/IllegalArgumentException", .initialized "java/lang/IllegalArgumentException", .methodLink RX0 66 yX0_checkRange, .static yX0_checkRange, .code yX0_checkRange cX0_checkRange 3 none] ++ wsX00 ++ (vx_atS RX0 91 "java/lang/IllegalArgumentException" ["java/lang/RuntimeException", "java/lang/Exception"]).filter goodWord)
def wsL_join : List Cond := .codeWith yL_join cL_join 5 (some .int) [(0, 15, 16, 14)] :: ([.classLink RL 14 "java/lang/IllegalArgumentException", .constant RL 16 (-99999), .methodLink RL 32 yX0_join, .instanceMethod yX0_join, .selects RX0 yX0_join yX0_join, .initialized RX0, .code yX0_join cX0_join 5 (some .boolean), .classLink RX0 87 "java/lang/IllegalArgumentException", .initialized "java/lang/IllegalArgumentException", .fieldLink RX0 13 "StandbyPair" "joinedPairs" "[Z", .methodLink RX0 59 yX0_checkRouter, .static yX0_checkRouter, .code yX0_checkRouter cX0_checkRouter 1 none] ++ wsX00 ++ (vx_atS RX0 91 "java/lang/IllegalArgumentException" ["java/lang/RuntimeException", "java/lang/Exception"]).filter goodWord)
def wsL_die : List Cond := .codeWith yL_die cL_die 3 (some .int) [(0, 5, 6, 14), (0, 5, 10, 39)] :: ([.classLink RL 14 "java/lang/IllegalArgumentException", .classLink RL 39 "java/lang/IllegalStateException", .constant RL 16 (-99999), .methodLink RL 35 yX0_die, .instanceMethod yX0_die, .selects RX0 yX0_die yX0_die, .initialized RX0, .code yX0_die cX0_die 5 (some .int), .classLink RX0 94 "java/lang/IllegalStateException", .initialized "java/lang/IllegalStateException", .fieldLink RX0 9 "StandbyPair" "alive" "[Z", .fieldLink RX0 41 "StandbyPair" "roles" "[I", .methodLink RX0 59 yX0_checkRouter, .static yX0_checkRouter, .code yX0_checkRouter cX0_checkRouter 1 none, .classLink RX0 87 "java/lang/IllegalArgumentException", .initialized "java/lang/IllegalArgumentException", .methodLink RX0 70 yX0_placeOf, .static yX0_placeOf, .code yX0_placeOf cX0_placeOf 2 (some .int)] ++ wsX00 ++ (vx_atS RX0 98 "java/lang/IllegalStateException" ["java/lang/RuntimeException", "java/lang/Exception"]).filter goodWord ++ (vx_atS RX0 91 "java/lang/IllegalArgumentException" ["java/lang/RuntimeException", "java/lang/Exception"]).filter goodWord)
def wsL_live_r1 : List Cond := [Cond.classLink RL 14 "java/lang/IllegalArgumentException", Cond.classLink RL 39 "java/lang/IllegalStateException", Cond.constant RL 16 (-99999), Cond.methodLink RL 41 yX0_live, Cond.instanceMethod yX0_live, Cond.selects RX0 yX0_live yX0_live, Cond.initialized RX0, Cond.code yX0_live cX0_live 4 (some .int), Cond.classLink RX0 94 "java/lang/IllegalStateException", Cond.initialized "java/lang/IllegalStateException", Cond.fieldLink RX0 9 "StandbyPair" "alive" "[Z", Cond.fieldLink RX0 38 "StandbyPair" "basePriorities" "[I", Cond.methodLink RX0 59 yX0_checkRouter, Cond.static yX0_checkRouter, Cond.code yX0_checkRouter cX0_checkRouter 1 none, Cond.classLink RX0 87 "java/lang/IllegalArgumentException", Cond.initialized "java/lang/IllegalArgumentException", Cond.methodLink RX0 70 yX0_placeOf, Cond.static yX0_placeOf, Cond.code yX0_placeOf cX0_placeOf 2 (some .int), Cond.methodLink RX0 77 yX0_beginPart, Cond.instanceMethod yX0_beginPart, Cond.selects RX0 yX0_beginPart yX0_beginPart, Cond.code yX0_beginPart cX0_beginPart 3 none]
def wsL_live_r2 : List Cond := [Cond.fieldLink RX0 56 "StandbyPair" "repairAsked" "[Z", Cond.methodLink RX0 103 yX0_becomeBackup, Cond.instanceMethod yX0_becomeBackup, Cond.selects RX0 yX0_becomeBackup yX0_becomeBackup, Cond.code yX0_becomeBackup cX0_becomeBackup 4 none, Cond.fieldLink RX0 41 "StandbyPair" "roles" "[I", Cond.fieldLink RX0 47 "StandbyPair" "heard" "[I", Cond.fieldLink RX0 44 "StandbyPair" "timers" "[I", Cond.methodLink RX0 119 yX0_loweredPriority, Cond.instanceMethod yX0_loweredPriority, Cond.selects RX0 yX0_loweredPriority yX0_loweredPriority, Cond.code yX0_loweredPriority cX0_loweredPriority 6 (some .int), Cond.fieldLink RX0 16 "StandbyPair" "linkUp" "[Z", Cond.fieldLink RX0 19 "StandbyPair" "decrements" "[I", Cond.methodLink RX0 150 Lib.Math.max.name, Cond.static Lib.Math.max.name, Cond.initialized "java/lang/Math", Cond.code Lib.Math.max.name Lib.Math.max.code 2 (some .int), Cond.methodLink RX0 84 yX0_linkOf, Cond.static yX0_linkOf, Cond.code yX0_linkOf cX0_linkOf 2 (some .int), Cond.methodLink RX0 147 yX0_waitOf, Cond.instanceMethod yX0_waitOf, Cond.selects RX0 yX0_waitOf yX0_waitOf]
def wsL_live_r3 : List Cond := [Cond.code yX0_waitOf cX0_waitOf 3 (some .int), Cond.fieldLink RX0 23 "StandbyPair" "periods" "[I", Cond.methodLink RX0 144 yX0_skewOf, Cond.instanceMethod yX0_skewOf, Cond.selects RX0 yX0_skewOf yX0_skewOf, Cond.code yX0_skewOf cX0_skewOf 3 (some .int)]
def wsL_live : List Cond := .codeWith yL_live cL_live 3 (some .int) [(0, 5, 6, 14), (0, 5, 10, 39)] :: ((wsL_live_r1 ++ (wsL_live_r2 ++ wsL_live_r3)) ++ wsX00 ++ (vx_atS RX0 98 "java/lang/IllegalStateException" ["java/lang/RuntimeException", "java/lang/Exception"]).filter goodWord ++ (vx_atS RX0 91 "java/lang/IllegalArgumentException" ["java/lang/RuntimeException", "java/lang/Exception"]).filter goodWord)
def wsL_handOver_r1 : List Cond := [Cond.classLink RL 14 "java/lang/IllegalArgumentException", Cond.classLink RL 39 "java/lang/IllegalStateException", Cond.constant RL 16 (-99999), Cond.methodLink RL 44 yX0_handOver, Cond.instanceMethod yX0_handOver, Cond.selects RX0 yX0_handOver yX0_handOver, Cond.initialized RX0, Cond.code yX0_handOver cX0_handOver 3 none, Cond.classLink RX0 94 "java/lang/IllegalStateException", Cond.initialized "java/lang/IllegalStateException", Cond.fieldLink RX0 41 "StandbyPair" "roles" "[I", Cond.methodLink RX0 59 yX0_checkRouter, Cond.static yX0_checkRouter, Cond.code yX0_checkRouter cX0_checkRouter 1 none, Cond.classLink RX0 87 "java/lang/IllegalArgumentException", Cond.initialized "java/lang/IllegalArgumentException", Cond.methodLink RX0 63 yX0_checkGroup, Cond.static yX0_checkGroup, Cond.code yX0_checkGroup cX0_checkGroup 1 none, Cond.methodLink RX0 70 yX0_placeOf, Cond.static yX0_placeOf, Cond.code yX0_placeOf cX0_placeOf 2 (some .int), Cond.methodLink RX0 103 yX0_becomeBackup, Cond.instanceMethod yX0_becomeBackup]
def wsL_handOver_r2 : List Cond := [Cond.selects RX0 yX0_becomeBackup yX0_becomeBackup, Cond.code yX0_becomeBackup cX0_becomeBackup 4 none, Cond.fieldLink RX0 47 "StandbyPair" "heard" "[I", Cond.fieldLink RX0 44 "StandbyPair" "timers" "[I", Cond.methodLink RX0 119 yX0_loweredPriority, Cond.instanceMethod yX0_loweredPriority, Cond.selects RX0 yX0_loweredPriority yX0_loweredPriority, Cond.code yX0_loweredPriority cX0_loweredPriority 6 (some .int), Cond.fieldLink RX0 38 "StandbyPair" "basePriorities" "[I", Cond.fieldLink RX0 16 "StandbyPair" "linkUp" "[Z", Cond.fieldLink RX0 19 "StandbyPair" "decrements" "[I", Cond.methodLink RX0 150 Lib.Math.max.name, Cond.static Lib.Math.max.name, Cond.initialized "java/lang/Math", Cond.code Lib.Math.max.name Lib.Math.max.code 2 (some .int), Cond.methodLink RX0 84 yX0_linkOf, Cond.static yX0_linkOf, Cond.code yX0_linkOf cX0_linkOf 2 (some .int), Cond.methodLink RX0 147 yX0_waitOf, Cond.instanceMethod yX0_waitOf, Cond.selects RX0 yX0_waitOf yX0_waitOf, Cond.code yX0_waitOf cX0_waitOf 3 (some .int), Cond.fieldLink RX0 23 "StandbyPair" "periods" "[I", Cond.methodLink RX0 144 yX0_skewOf]
def wsL_handOver_r3 : List Cond := [Cond.instanceMethod yX0_skewOf, Cond.selects RX0 yX0_skewOf yX0_skewOf, Cond.code yX0_skewOf cX0_skewOf 3 (some .int), Cond.methodLink RX0 74 yX0_advertise, Cond.instanceMethod yX0_advertise, Cond.selects RX0 yX0_advertise yX0_advertise, Cond.code yX0_advertise cX0_advertise 6 none, Cond.fieldLink RX0 35 "StandbyPair" "advertisements" "[I", Cond.fieldLink RX0 13 "StandbyPair" "joinedPairs" "[Z", Cond.methodLink RX0 134 yX0_receiveAsMaster, Cond.instanceMethod yX0_receiveAsMaster, Cond.selects RX0 yX0_receiveAsMaster yX0_receiveAsMaster, Cond.code yX0_receiveAsMaster cX0_receiveAsMaster 6 none, Cond.methodLink RX0 141 yX0_copyServed, Cond.instanceMethod yX0_copyServed, Cond.selects RX0 yX0_copyServed yX0_copyServed, Cond.code yX0_copyServed cX0_copyServed 6 none, Cond.fieldLink RX0 50 "StandbyPair" "served" "[I", Cond.fieldLink RX0 56 "StandbyPair" "repairAsked" "[Z", Cond.fieldLink RX0 127 "StandbyPair" "bulkRepairs" "I", Cond.methodLink RX0 138 yX0_receiveAsBackup, Cond.instanceMethod yX0_receiveAsBackup, Cond.selects RX0 yX0_receiveAsBackup yX0_receiveAsBackup, Cond.code yX0_receiveAsBackup cX0_receiveAsBackup 7 none]
def wsL_handOver_r4 : List Cond := [Cond.fieldLink RX0 26 "StandbyPair" "preempting" "[Z", Cond.fieldLink RX0 29 "StandbyPair" "delays" "[I"]
def wsL_handOver : List Cond := .codeWith yL_handOver cL_handOver 4 (some .int) [(0, 7, 8, 14), (0, 7, 12, 39)] :: ((wsL_handOver_r1 ++ (wsL_handOver_r2 ++ (wsL_handOver_r3 ++ wsL_handOver_r4))) ++ wsX00 ++ (vx_atS RX0 98 "java/lang/IllegalStateException" ["java/lang/RuntimeException", "java/lang/Exception"]).filter goodWord ++ (vx_atS RX0 91 "java/lang/IllegalArgumentException" ["java/lang/RuntimeException", "java/lang/Exception"]).filter goodWord)
def wsL_serve : List Cond := .codeWith yL_serve cL_serve 4 (some .int) [(0, 6, 7, 14)] :: ([.classLink RL 14 "java/lang/IllegalArgumentException", .constant RL 16 (-99999), .methodLink RL 48 yX0_serve, .instanceMethod yX0_serve, .selects RX0 yX0_serve yX0_serve, .initialized RX0, .code yX0_serve cX0_serve 6 (some .int), .fieldLink RX0 41 "StandbyPair" "roles" "[I", .fieldLink RX0 50 "StandbyPair" "served" "[I", .methodLink RX0 63 yX0_checkGroup, .static yX0_checkGroup, .code yX0_checkGroup cX0_checkGroup 1 none, .classLink RX0 87 "java/lang/IllegalArgumentException", .initialized "java/lang/IllegalArgumentException", .methodLink RX0 66 yX0_checkRange, .static yX0_checkRange, .code yX0_checkRange cX0_checkRange 3 none, .methodLink RX0 70 yX0_placeOf, .static yX0_placeOf, .code yX0_placeOf cX0_placeOf 2 (some .int)] ++ wsX00 ++ (vx_atS RX0 91 "java/lang/IllegalArgumentException" ["java/lang/RuntimeException", "java/lang/Exception"]).filter goodWord)
def wsL_tick_r1 : List Cond := [Cond.classLink RL 14 "java/lang/IllegalArgumentException", Cond.constant RL 16 (-99999), Cond.methodLink RL 51 yX0_tick, Cond.instanceMethod yX0_tick, Cond.selects RX0 yX0_tick yX0_tick, Cond.initialized RX0, Cond.code yX0_tick cX0_tick 4 (some .int), Cond.fieldLink RX0 115 "StandbyPair" "time" "I", Cond.methodLink RX0 66 yX0_checkRange, Cond.static yX0_checkRange, Cond.code yX0_checkRange cX0_checkRange 3 none, Cond.classLink RX0 87 "java/lang/IllegalArgumentException", Cond.initialized "java/lang/IllegalArgumentException", Cond.methodLink RX0 106 yX0_runMasters, Cond.instanceMethod yX0_runMasters, Cond.selects RX0 yX0_runMasters yX0_runMasters, Cond.code yX0_runMasters cX0_runMasters 4 none, Cond.fieldLink RX0 41 "StandbyPair" "roles" "[I", Cond.fieldLink RX0 44 "StandbyPair" "timers" "[I", Cond.fieldLink RX0 23 "StandbyPair" "periods" "[I", Cond.methodLink RX0 70 yX0_placeOf, Cond.static yX0_placeOf, Cond.code yX0_placeOf cX0_placeOf 2 (some .int), Cond.methodLink RX0 119 yX0_loweredPriority]
def wsL_tick_r2 : List Cond := [Cond.instanceMethod yX0_loweredPriority, Cond.selects RX0 yX0_loweredPriority yX0_loweredPriority, Cond.code yX0_loweredPriority cX0_loweredPriority 6 (some .int), Cond.fieldLink RX0 38 "StandbyPair" "basePriorities" "[I", Cond.fieldLink RX0 16 "StandbyPair" "linkUp" "[Z", Cond.fieldLink RX0 19 "StandbyPair" "decrements" "[I", Cond.methodLink RX0 150 Lib.Math.max.name, Cond.static Lib.Math.max.name, Cond.initialized "java/lang/Math", Cond.code Lib.Math.max.name Lib.Math.max.code 2 (some .int), Cond.methodLink RX0 84 yX0_linkOf, Cond.static yX0_linkOf, Cond.code yX0_linkOf cX0_linkOf 2 (some .int), Cond.methodLink RX0 74 yX0_advertise, Cond.instanceMethod yX0_advertise, Cond.selects RX0 yX0_advertise yX0_advertise, Cond.code yX0_advertise cX0_advertise 6 none, Cond.fieldLink RX0 35 "StandbyPair" "advertisements" "[I", Cond.fieldLink RX0 13 "StandbyPair" "joinedPairs" "[Z", Cond.methodLink RX0 134 yX0_receiveAsMaster, Cond.instanceMethod yX0_receiveAsMaster, Cond.selects RX0 yX0_receiveAsMaster yX0_receiveAsMaster, Cond.code yX0_receiveAsMaster cX0_receiveAsMaster 6 none, Cond.methodLink RX0 103 yX0_becomeBackup]
def wsL_tick_r3 : List Cond := [Cond.instanceMethod yX0_becomeBackup, Cond.selects RX0 yX0_becomeBackup yX0_becomeBackup, Cond.code yX0_becomeBackup cX0_becomeBackup 4 none, Cond.fieldLink RX0 47 "StandbyPair" "heard" "[I", Cond.methodLink RX0 147 yX0_waitOf, Cond.instanceMethod yX0_waitOf, Cond.selects RX0 yX0_waitOf yX0_waitOf, Cond.code yX0_waitOf cX0_waitOf 3 (some .int), Cond.methodLink RX0 144 yX0_skewOf, Cond.instanceMethod yX0_skewOf, Cond.selects RX0 yX0_skewOf yX0_skewOf, Cond.code yX0_skewOf cX0_skewOf 3 (some .int), Cond.methodLink RX0 141 yX0_copyServed, Cond.instanceMethod yX0_copyServed, Cond.selects RX0 yX0_copyServed yX0_copyServed, Cond.code yX0_copyServed cX0_copyServed 6 none, Cond.fieldLink RX0 50 "StandbyPair" "served" "[I", Cond.fieldLink RX0 56 "StandbyPair" "repairAsked" "[Z", Cond.fieldLink RX0 127 "StandbyPair" "bulkRepairs" "I", Cond.methodLink RX0 138 yX0_receiveAsBackup, Cond.instanceMethod yX0_receiveAsBackup, Cond.selects RX0 yX0_receiveAsBackup yX0_receiveAsBackup, Cond.code yX0_receiveAsBackup cX0_receiveAsBackup 7 none, Cond.fieldLink RX0 26 "StandbyPair" "preempting" "[Z"]
def wsL_tick_r4 : List Cond := [Cond.fieldLink RX0 29 "StandbyPair" "delays" "[I", Cond.methodLink RX0 109 yX0_runBackups, Cond.instanceMethod yX0_runBackups, Cond.selects RX0 yX0_runBackups yX0_runBackups, Cond.code yX0_runBackups cX0_runBackups 4 none, Cond.fieldLink RX0 53 "StandbyPair" "promotions" "[I", Cond.methodLink RX0 112 yX0_noteGap, Cond.instanceMethod yX0_noteGap, Cond.selects RX0 yX0_noteGap yX0_noteGap, Cond.code yX0_noteGap cX0_noteGap 2 none, Cond.fieldLink RX0 32 "StandbyPair" "gapTicks" "[I", Cond.methodLink RX0 124 yX0_membersWith, Cond.instanceMethod yX0_membersWith, Cond.selects RX0 yX0_membersWith yX0_membersWith, Cond.code yX0_membersWith cX0_membersWith 5 (some .int)]
def wsL_tick : List Cond := .codeWith yL_tick cL_tick 3 (some .int) [(0, 5, 6, 14)] :: ((wsL_tick_r1 ++ (wsL_tick_r2 ++ (wsL_tick_r3 ++ wsL_tick_r4))) ++ wsX00 ++ (vx_atS RX0 91 "java/lang/IllegalArgumentException" ["java/lang/RuntimeException", "java/lang/Exception"]).filter goodWord)
def wsL_timer : List Cond := .codeWith yL_timer cL_timer 4 (some .int) [(0, 6, 7, 14), (0, 6, 11, 39)] :: ([.classLink RL 14 "java/lang/IllegalArgumentException", .classLink RL 39 "java/lang/IllegalStateException", .constant RL 16 (-99999), .methodLink RL 54 yX0_timer, .instanceMethod yX0_timer, .selects RX0 yX0_timer yX0_timer, .initialized RX0, .code yX0_timer cX0_timer 3 (some .int), .classLink RX0 94 "java/lang/IllegalStateException", .initialized "java/lang/IllegalStateException", .fieldLink RX0 41 "StandbyPair" "roles" "[I", .fieldLink RX0 44 "StandbyPair" "timers" "[I", .methodLink RX0 59 yX0_checkRouter, .static yX0_checkRouter, .code yX0_checkRouter cX0_checkRouter 1 none, .classLink RX0 87 "java/lang/IllegalArgumentException", .initialized "java/lang/IllegalArgumentException", .methodLink RX0 63 yX0_checkGroup, .static yX0_checkGroup, .code yX0_checkGroup cX0_checkGroup 1 none, .methodLink RX0 70 yX0_placeOf, .static yX0_placeOf, .code yX0_placeOf cX0_placeOf 2 (some .int)] ++ wsX00 ++ (vx_atS RX0 98 "java/lang/IllegalStateException" ["java/lang/RuntimeException", "java/lang/Exception"]).filter goodWord ++ (vx_atS RX0 91 "java/lang/IllegalArgumentException" ["java/lang/RuntimeException", "java/lang/Exception"]).filter goodWord)
def wsL_act_r1 : List Cond := [Cond.methodLink RL 57 yL_low, Cond.static yL_low, Cond.initialized RL, Cond.code yL_low cL_low 2 (some .int), Cond.constant RL 7 (2147483647), Cond.methodLink RL 62 yL_setPriority, Cond.static yL_setPriority, Cond.codeWith yL_setPriority cL_setPriority 5 (some .int) [(0, 7, 8, 14)], Cond.classLink RL 14 "java/lang/IllegalArgumentException", Cond.constant RL 16 (-99999), Cond.methodLink RL 8 yX0_setPriority, Cond.instanceMethod yX0_setPriority, Cond.selects RX0 yX0_setPriority yX0_setPriority, Cond.initialized RX0, Cond.code yX0_setPriority cX0_setPriority 6 (some .int), Cond.fieldLink RX0 38 "StandbyPair" "basePriorities" "[I", Cond.fieldLink RX0 41 "StandbyPair" "roles" "[I", Cond.fieldLink RX0 9 "StandbyPair" "alive" "[Z", Cond.methodLink RX0 59 yX0_checkRouter, Cond.static yX0_checkRouter, Cond.code yX0_checkRouter cX0_checkRouter 1 none, Cond.classLink RX0 87 "java/lang/IllegalArgumentException", Cond.initialized "java/lang/IllegalArgumentException", Cond.methodLink RX0 63 yX0_checkGroup]
def wsL_act_r2 : List Cond := [Cond.static yX0_checkGroup, Cond.code yX0_checkGroup cX0_checkGroup 1 none, Cond.methodLink RX0 66 yX0_checkRange, Cond.static yX0_checkRange, Cond.code yX0_checkRange cX0_checkRange 3 none, Cond.methodLink RX0 70 yX0_placeOf, Cond.static yX0_placeOf, Cond.code yX0_placeOf cX0_placeOf 2 (some .int), Cond.methodLink RX0 74 yX0_advertise, Cond.instanceMethod yX0_advertise, Cond.selects RX0 yX0_advertise yX0_advertise, Cond.code yX0_advertise cX0_advertise 6 none, Cond.fieldLink RX0 35 "StandbyPair" "advertisements" "[I", Cond.fieldLink RX0 13 "StandbyPair" "joinedPairs" "[Z", Cond.methodLink RX0 134 yX0_receiveAsMaster, Cond.instanceMethod yX0_receiveAsMaster, Cond.selects RX0 yX0_receiveAsMaster yX0_receiveAsMaster, Cond.code yX0_receiveAsMaster cX0_receiveAsMaster 6 none, Cond.methodLink RX0 119 yX0_loweredPriority, Cond.instanceMethod yX0_loweredPriority, Cond.selects RX0 yX0_loweredPriority yX0_loweredPriority, Cond.code yX0_loweredPriority cX0_loweredPriority 6 (some .int), Cond.fieldLink RX0 16 "StandbyPair" "linkUp" "[Z", Cond.fieldLink RX0 19 "StandbyPair" "decrements" "[I"]
def wsL_act_r3 : List Cond := [Cond.methodLink RX0 150 Lib.Math.max.name, Cond.static Lib.Math.max.name, Cond.initialized "java/lang/Math", Cond.code Lib.Math.max.name Lib.Math.max.code 2 (some .int), Cond.methodLink RX0 84 yX0_linkOf, Cond.static yX0_linkOf, Cond.code yX0_linkOf cX0_linkOf 2 (some .int), Cond.methodLink RX0 103 yX0_becomeBackup, Cond.instanceMethod yX0_becomeBackup, Cond.selects RX0 yX0_becomeBackup yX0_becomeBackup, Cond.code yX0_becomeBackup cX0_becomeBackup 4 none, Cond.fieldLink RX0 47 "StandbyPair" "heard" "[I", Cond.fieldLink RX0 44 "StandbyPair" "timers" "[I", Cond.methodLink RX0 147 yX0_waitOf, Cond.instanceMethod yX0_waitOf, Cond.selects RX0 yX0_waitOf yX0_waitOf, Cond.code yX0_waitOf cX0_waitOf 3 (some .int), Cond.fieldLink RX0 23 "StandbyPair" "periods" "[I", Cond.methodLink RX0 144 yX0_skewOf, Cond.instanceMethod yX0_skewOf, Cond.selects RX0 yX0_skewOf yX0_skewOf, Cond.code yX0_skewOf cX0_skewOf 3 (some .int), Cond.methodLink RX0 141 yX0_copyServed, Cond.instanceMethod yX0_copyServed]
def wsL_act_r4 : List Cond := [Cond.selects RX0 yX0_copyServed yX0_copyServed, Cond.code yX0_copyServed cX0_copyServed 6 none, Cond.fieldLink RX0 50 "StandbyPair" "served" "[I", Cond.fieldLink RX0 56 "StandbyPair" "repairAsked" "[Z", Cond.fieldLink RX0 127 "StandbyPair" "bulkRepairs" "I", Cond.methodLink RX0 138 yX0_receiveAsBackup, Cond.instanceMethod yX0_receiveAsBackup, Cond.selects RX0 yX0_receiveAsBackup yX0_receiveAsBackup, Cond.code yX0_receiveAsBackup cX0_receiveAsBackup 7 none, Cond.fieldLink RX0 26 "StandbyPair" "preempting" "[Z", Cond.fieldLink RX0 29 "StandbyPair" "delays" "[I", Cond.methodLink RX0 77 yX0_beginPart, Cond.instanceMethod yX0_beginPart, Cond.selects RX0 yX0_beginPart yX0_beginPart, Cond.code yX0_beginPart cX0_beginPart 3 none, Cond.methodLink RL 65 yL_track, Cond.static yL_track, Cond.codeWith yL_track cL_track 5 (some .int) [(0, 7, 8, 14)], Cond.methodLink RL 17 yX0_track, Cond.instanceMethod yX0_track, Cond.selects RX0 yX0_track yX0_track, Cond.code yX0_track cX0_track 6 (some .int), Cond.methodLink RX0 81 yX0_checkLink, Cond.static yX0_checkLink]
def wsL_act_r5 : List Cond := [Cond.code yX0_checkLink cX0_checkLink 1 none, Cond.methodLink RL 67 yL_setLink, Cond.static yL_setLink, Cond.codeWith yL_setLink cL_setLink 5 (some .int) [(0, 15, 16, 14)], Cond.methodLink RL 20 yX0_setLink, Cond.instanceMethod yX0_setLink, Cond.selects RX0 yX0_setLink yX0_setLink, Cond.code yX0_setLink cX0_setLink 6 (some .boolean), Cond.methodLink RL 70 yL_setPeriod, Cond.static yL_setPeriod, Cond.codeWith yL_setPeriod cL_setPeriod 4 (some .int) [(0, 6, 7, 14)], Cond.methodLink RL 24 yX0_setPeriod, Cond.instanceMethod yX0_setPeriod, Cond.selects RX0 yX0_setPeriod yX0_setPeriod, Cond.code yX0_setPeriod cX0_setPeriod 4 (some .int), Cond.methodLink RL 73 yL_setPreemption, Cond.static yL_setPreemption, Cond.codeWith yL_setPreemption cL_setPreemption 5 (some .int) [(0, 8, 9, 14)], Cond.methodLink RL 28 yX0_setPreemption, Cond.instanceMethod yX0_setPreemption, Cond.selects RX0 yX0_setPreemption yX0_setPreemption, Cond.code yX0_setPreemption cX0_setPreemption 4 none, Cond.methodLink RL 76 yL_join, Cond.static yL_join]
def wsL_act_r6 : List Cond := [Cond.codeWith yL_join cL_join 5 (some .int) [(0, 15, 16, 14)], Cond.methodLink RL 32 yX0_join, Cond.instanceMethod yX0_join, Cond.selects RX0 yX0_join yX0_join, Cond.code yX0_join cX0_join 5 (some .boolean), Cond.methodLink RL 78 yL_die, Cond.static yL_die, Cond.codeWith yL_die cL_die 3 (some .int) [(0, 5, 6, 14), (0, 5, 10, 39)], Cond.classLink RL 39 "java/lang/IllegalStateException", Cond.methodLink RL 35 yX0_die, Cond.instanceMethod yX0_die, Cond.selects RX0 yX0_die yX0_die, Cond.code yX0_die cX0_die 5 (some .int), Cond.classLink RX0 94 "java/lang/IllegalStateException", Cond.initialized "java/lang/IllegalStateException", Cond.methodLink RL 81 yL_live, Cond.static yL_live, Cond.codeWith yL_live cL_live 3 (some .int) [(0, 5, 6, 14), (0, 5, 10, 39)], Cond.methodLink RL 41 yX0_live, Cond.instanceMethod yX0_live, Cond.selects RX0 yX0_live yX0_live, Cond.code yX0_live cX0_live 4 (some .int), Cond.methodLink RL 83 yL_handOver, Cond.static yL_handOver]
def wsL_act_r7 : List Cond := [Cond.codeWith yL_handOver cL_handOver 4 (some .int) [(0, 7, 8, 14), (0, 7, 12, 39)], Cond.methodLink RL 44 yX0_handOver, Cond.instanceMethod yX0_handOver, Cond.selects RX0 yX0_handOver yX0_handOver, Cond.code yX0_handOver cX0_handOver 3 none, Cond.methodLink RL 85 yL_serve, Cond.static yL_serve, Cond.codeWith yL_serve cL_serve 4 (some .int) [(0, 6, 7, 14)], Cond.methodLink RL 48 yX0_serve, Cond.instanceMethod yX0_serve, Cond.selects RX0 yX0_serve yX0_serve, Cond.code yX0_serve cX0_serve 6 (some .int), Cond.methodLink RL 87 yL_tick, Cond.static yL_tick, Cond.codeWith yL_tick cL_tick 3 (some .int) [(0, 5, 6, 14)], Cond.methodLink RL 51 yX0_tick, Cond.instanceMethod yX0_tick, Cond.selects RX0 yX0_tick yX0_tick, Cond.code yX0_tick cX0_tick 4 (some .int), Cond.fieldLink RX0 115 "StandbyPair" "time" "I", Cond.methodLink RX0 106 yX0_runMasters, Cond.instanceMethod yX0_runMasters, Cond.selects RX0 yX0_runMasters yX0_runMasters, Cond.code yX0_runMasters cX0_runMasters 4 none]
def wsL_act_r8 : List Cond := [Cond.methodLink RX0 109 yX0_runBackups, Cond.instanceMethod yX0_runBackups, Cond.selects RX0 yX0_runBackups yX0_runBackups, Cond.code yX0_runBackups cX0_runBackups 4 none, Cond.fieldLink RX0 53 "StandbyPair" "promotions" "[I", Cond.methodLink RX0 112 yX0_noteGap, Cond.instanceMethod yX0_noteGap, Cond.selects RX0 yX0_noteGap yX0_noteGap, Cond.code yX0_noteGap cX0_noteGap 2 none, Cond.fieldLink RX0 32 "StandbyPair" "gapTicks" "[I", Cond.methodLink RX0 124 yX0_membersWith, Cond.instanceMethod yX0_membersWith, Cond.selects RX0 yX0_membersWith yX0_membersWith, Cond.code yX0_membersWith cX0_membersWith 5 (some .int)]
def wsL_act : List Cond := .code yL_act cL_act 5 (some .int) :: ((wsL_act_r1 ++ (wsL_act_r2 ++ (wsL_act_r3 ++ (wsL_act_r4 ++ (wsL_act_r5 ++ (wsL_act_r6 ++ (wsL_act_r7 ++ wsL_act_r8))))))) ++ wsX00 ++ (vx_atS RX0 91 "java/lang/IllegalArgumentException" ["java/lang/RuntimeException", "java/lang/Exception"]).filter goodWord ++ (vx_atS RX0 98 "java/lang/IllegalStateException" ["java/lang/RuntimeException", "java/lang/Exception"]).filter goodWord)
def wsL_areAlike_r1 : List Cond := [Cond.methodLink RL 89 yX0_repairs, Cond.instanceMethod yX0_repairs, Cond.selects RX0 yX0_repairs yX0_repairs, Cond.initialized RX0, Cond.code yX0_repairs cX0_repairs 1 (some .int), Cond.fieldLink RX0 127 "StandbyPair" "bulkRepairs" "I", Cond.methodLink RL 93 yX0_masters, Cond.instanceMethod yX0_masters, Cond.selects RX0 yX0_masters yX0_masters, Cond.code yX0_masters cX0_masters 2 (some .int), Cond.methodLink RX0 63 yX0_checkGroup, Cond.static yX0_checkGroup, Cond.code yX0_checkGroup cX0_checkGroup 1 none, Cond.classLink RX0 87 "java/lang/IllegalArgumentException", Cond.initialized "java/lang/IllegalArgumentException", Cond.methodLink RX0 124 yX0_membersWith, Cond.instanceMethod yX0_membersWith, Cond.selects RX0 yX0_membersWith yX0_membersWith, Cond.code yX0_membersWith cX0_membersWith 5 (some .int), Cond.fieldLink RX0 41 "StandbyPair" "roles" "[I", Cond.methodLink RX0 70 yX0_placeOf, Cond.static yX0_placeOf, Cond.code yX0_placeOf cX0_placeOf 2 (some .int), Cond.methodLink RL 96 yX0_gaps]
def wsL_areAlike_r2 : List Cond := [Cond.instanceMethod yX0_gaps, Cond.selects RX0 yX0_gaps yX0_gaps, Cond.code yX0_gaps cX0_gaps 2 (some .int), Cond.fieldLink RX0 32 "StandbyPair" "gapTicks" "[I", Cond.methodLink RL 99 yX0_sent, Cond.instanceMethod yX0_sent, Cond.selects RX0 yX0_sent yX0_sent, Cond.code yX0_sent cX0_sent 2 (some .int), Cond.fieldLink RX0 35 "StandbyPair" "advertisements" "[I", Cond.methodLink RL 102 yX0_state, Cond.instanceMethod yX0_state, Cond.selects RX0 yX0_state yX0_state, Cond.code yX0_state cX0_state 3 (some .int), Cond.methodLink RX0 59 yX0_checkRouter, Cond.static yX0_checkRouter, Cond.code yX0_checkRouter cX0_checkRouter 1 none, Cond.methodLink RL 105 yL_timer, Cond.static yL_timer, Cond.initialized RL, Cond.codeWith yL_timer cL_timer 4 (some .int) [(0, 6, 7, 14), (0, 6, 11, 39)], Cond.classLink RL 14 "java/lang/IllegalArgumentException", Cond.classLink RL 39 "java/lang/IllegalStateException", Cond.constant RL 16 (-99999), Cond.methodLink RL 54 yX0_timer]
def wsL_areAlike_r3 : List Cond := [Cond.instanceMethod yX0_timer, Cond.selects RX0 yX0_timer yX0_timer, Cond.code yX0_timer cX0_timer 3 (some .int), Cond.classLink RX0 94 "java/lang/IllegalStateException", Cond.initialized "java/lang/IllegalStateException", Cond.fieldLink RX0 44 "StandbyPair" "timers" "[I", Cond.methodLink RL 107 yX0_known, Cond.instanceMethod yX0_known, Cond.selects RX0 yX0_known yX0_known, Cond.code yX0_known cX0_known 3 (some .int), Cond.fieldLink RX0 50 "StandbyPair" "served" "[I", Cond.methodLink RL 110 yX0_changes, Cond.instanceMethod yX0_changes, Cond.selects RX0 yX0_changes yX0_changes, Cond.code yX0_changes cX0_changes 3 (some .int), Cond.fieldLink RX0 53 "StandbyPair" "promotions" "[I"]
def wsL_areAlike : List Cond := .code yL_areAlike cL_areAlike 5 (some .boolean) :: ((wsL_areAlike_r1 ++ (wsL_areAlike_r2 ++ wsL_areAlike_r3)) ++ wsX00 ++ (vx_atS RX0 91 "java/lang/IllegalArgumentException" ["java/lang/RuntimeException", "java/lang/Exception"]).filter goodWord ++ (vx_atS RX0 98 "java/lang/IllegalStateException" ["java/lang/RuntimeException", "java/lang/Exception"]).filter goodWord)
def wsL_isGroupSo_r1 : List Cond := [Cond.methodLink RL 102 yX0_state, Cond.instanceMethod yX0_state, Cond.selects RX0 yX0_state yX0_state, Cond.initialized RX0, Cond.code yX0_state cX0_state 3 (some .int), Cond.fieldLink RX0 41 "StandbyPair" "roles" "[I", Cond.methodLink RX0 59 yX0_checkRouter, Cond.static yX0_checkRouter, Cond.code yX0_checkRouter cX0_checkRouter 1 none, Cond.classLink RX0 87 "java/lang/IllegalArgumentException", Cond.initialized "java/lang/IllegalArgumentException", Cond.methodLink RX0 63 yX0_checkGroup, Cond.static yX0_checkGroup, Cond.code yX0_checkGroup cX0_checkGroup 1 none, Cond.methodLink RX0 70 yX0_placeOf, Cond.static yX0_placeOf, Cond.code yX0_placeOf cX0_placeOf 2 (some .int), Cond.methodLink RL 105 yL_timer, Cond.static yL_timer, Cond.initialized RL, Cond.codeWith yL_timer cL_timer 4 (some .int) [(0, 6, 7, 14), (0, 6, 11, 39)], Cond.classLink RL 14 "java/lang/IllegalArgumentException", Cond.classLink RL 39 "java/lang/IllegalStateException", Cond.constant RL 16 (-99999)]
def wsL_isGroupSo_r2 : List Cond := [Cond.methodLink RL 54 yX0_timer, Cond.instanceMethod yX0_timer, Cond.selects RX0 yX0_timer yX0_timer, Cond.code yX0_timer cX0_timer 3 (some .int), Cond.classLink RX0 94 "java/lang/IllegalStateException", Cond.initialized "java/lang/IllegalStateException", Cond.fieldLink RX0 44 "StandbyPair" "timers" "[I", Cond.methodLink RL 113 yX0_priority, Cond.instanceMethod yX0_priority, Cond.selects RX0 yX0_priority yX0_priority, Cond.code yX0_priority cX0_priority 3 (some .int), Cond.methodLink RX0 119 yX0_loweredPriority, Cond.instanceMethod yX0_loweredPriority, Cond.selects RX0 yX0_loweredPriority yX0_loweredPriority, Cond.code yX0_loweredPriority cX0_loweredPriority 6 (some .int), Cond.fieldLink RX0 38 "StandbyPair" "basePriorities" "[I", Cond.fieldLink RX0 16 "StandbyPair" "linkUp" "[Z", Cond.fieldLink RX0 19 "StandbyPair" "decrements" "[I", Cond.methodLink RX0 150 Lib.Math.max.name, Cond.static Lib.Math.max.name, Cond.initialized "java/lang/Math", Cond.code Lib.Math.max.name Lib.Math.max.code 2 (some .int), Cond.methodLink RX0 84 yX0_linkOf, Cond.static yX0_linkOf]
def wsL_isGroupSo_r3 : List Cond := [Cond.code yX0_linkOf cX0_linkOf 2 (some .int), Cond.methodLink RL 107 yX0_known, Cond.instanceMethod yX0_known, Cond.selects RX0 yX0_known yX0_known, Cond.code yX0_known cX0_known 3 (some .int), Cond.fieldLink RX0 50 "StandbyPair" "served" "[I", Cond.methodLink RL 110 yX0_changes, Cond.instanceMethod yX0_changes, Cond.selects RX0 yX0_changes yX0_changes, Cond.code yX0_changes cX0_changes 3 (some .int), Cond.fieldLink RX0 53 "StandbyPair" "promotions" "[I", Cond.methodLink RL 93 yX0_masters, Cond.instanceMethod yX0_masters, Cond.selects RX0 yX0_masters yX0_masters, Cond.code yX0_masters cX0_masters 2 (some .int), Cond.methodLink RX0 124 yX0_membersWith, Cond.instanceMethod yX0_membersWith, Cond.selects RX0 yX0_membersWith yX0_membersWith, Cond.code yX0_membersWith cX0_membersWith 5 (some .int), Cond.methodLink RL 116 yX0_isSettled, Cond.instanceMethod yX0_isSettled, Cond.selects RX0 yX0_isSettled yX0_isSettled, Cond.code yX0_isSettled cX0_isSettled 2 (some .boolean), Cond.methodLink RX0 130 yX0_hasJoinedMasters]
def wsL_isGroupSo_r4 : List Cond := [Cond.instanceMethod yX0_hasJoinedMasters, Cond.selects RX0 yX0_hasJoinedMasters yX0_hasJoinedMasters, Cond.code yX0_hasJoinedMasters cX0_hasJoinedMasters 4 (some .boolean), Cond.fieldLink RX0 13 "StandbyPair" "joinedPairs" "[Z", Cond.methodLink RL 99 yX0_sent, Cond.instanceMethod yX0_sent, Cond.selects RX0 yX0_sent yX0_sent, Cond.code yX0_sent cX0_sent 2 (some .int), Cond.fieldLink RX0 35 "StandbyPair" "advertisements" "[I"]
def wsL_isGroupSo : List Cond := .code yL_isGroupSo cL_isGroupSo 10 (some .boolean) :: ((wsL_isGroupSo_r1 ++ (wsL_isGroupSo_r2 ++ (wsL_isGroupSo_r3 ++ wsL_isGroupSo_r4))) ++ wsX00 ++ (vx_atS RX0 91 "java/lang/IllegalArgumentException" ["java/lang/RuntimeException", "java/lang/Exception"]).filter goodWord ++ (vx_atS RX0 98 "java/lang/IllegalStateException" ["java/lang/RuntimeException", "java/lang/Exception"]).filter goodWord)
def wsL_law0_r1 : List Cond := [Cond.classLink RL 9 RX0, Cond.instantiable RX0 18, Cond.initialized RX0, Cond.constant RL 16 (-99999), Cond.methodLink RL 120 yX0_init, Cond.instanceMethod yX0_init, Cond.code yX0_init cX0_init 2 none, Cond.methodLink RX0 1 objectInit, Cond.instanceMethod objectInit, Cond.code objectInit ⟨#[0xb1]⟩ 1 none, Cond.arrayClass .boolean, Cond.fieldLink RX0 9 "StandbyPair" "alive" "[Z", Cond.fieldLink RX0 13 "StandbyPair" "joinedPairs" "[Z", Cond.fieldLink RX0 16 "StandbyPair" "linkUp" "[Z", Cond.arrayClass .int, Cond.fieldLink RX0 19 "StandbyPair" "decrements" "[I", Cond.fieldLink RX0 23 "StandbyPair" "periods" "[I", Cond.fieldLink RX0 26 "StandbyPair" "preempting" "[Z", Cond.fieldLink RX0 29 "StandbyPair" "delays" "[I", Cond.fieldLink RX0 32 "StandbyPair" "gapTicks" "[I", Cond.fieldLink RX0 35 "StandbyPair" "advertisements" "[I", Cond.fieldLink RX0 38 "StandbyPair" "basePriorities" "[I", Cond.fieldLink RX0 41 "StandbyPair" "roles" "[I", Cond.fieldLink RX0 44 "StandbyPair" "timers" "[I"]
def wsL_law0_r2 : List Cond := [Cond.fieldLink RX0 47 "StandbyPair" "heard" "[I", Cond.fieldLink RX0 50 "StandbyPair" "served" "[I", Cond.fieldLink RX0 53 "StandbyPair" "promotions" "[I", Cond.fieldLink RX0 56 "StandbyPair" "repairAsked" "[Z", Cond.methodLink RL 121 yL_cell, Cond.static yL_cell, Cond.initialized RL, Cond.code yL_cell cL_cell 2 (some .int), Cond.methodLink RL 125 yL_act, Cond.static yL_act, Cond.code yL_act cL_act 5 (some .int), Cond.methodLink RL 57 yL_low, Cond.static yL_low, Cond.code yL_low cL_low 2 (some .int), Cond.constant RL 7 (2147483647), Cond.methodLink RL 62 yL_setPriority, Cond.static yL_setPriority, Cond.codeWith yL_setPriority cL_setPriority 5 (some .int) [(0, 7, 8, 14)], Cond.classLink RL 14 "java/lang/IllegalArgumentException", Cond.methodLink RL 8 yX0_setPriority, Cond.instanceMethod yX0_setPriority, Cond.selects RX0 yX0_setPriority yX0_setPriority, Cond.code yX0_setPriority cX0_setPriority 6 (some .int), Cond.methodLink RX0 59 yX0_checkRouter]
def wsL_law0_r3 : List Cond := [Cond.static yX0_checkRouter, Cond.code yX0_checkRouter cX0_checkRouter 1 none, Cond.classLink RX0 87 "java/lang/IllegalArgumentException", Cond.initialized "java/lang/IllegalArgumentException", Cond.methodLink RX0 63 yX0_checkGroup, Cond.static yX0_checkGroup, Cond.code yX0_checkGroup cX0_checkGroup 1 none, Cond.methodLink RX0 66 yX0_checkRange, Cond.static yX0_checkRange, Cond.code yX0_checkRange cX0_checkRange 3 none, Cond.methodLink RX0 70 yX0_placeOf, Cond.static yX0_placeOf, Cond.code yX0_placeOf cX0_placeOf 2 (some .int), Cond.methodLink RX0 74 yX0_advertise, Cond.instanceMethod yX0_advertise, Cond.selects RX0 yX0_advertise yX0_advertise, Cond.code yX0_advertise cX0_advertise 6 none, Cond.methodLink RX0 134 yX0_receiveAsMaster, Cond.instanceMethod yX0_receiveAsMaster, Cond.selects RX0 yX0_receiveAsMaster yX0_receiveAsMaster, Cond.code yX0_receiveAsMaster cX0_receiveAsMaster 6 none, Cond.methodLink RX0 119 yX0_loweredPriority, Cond.instanceMethod yX0_loweredPriority, Cond.selects RX0 yX0_loweredPriority yX0_loweredPriority]
def wsL_law0_r4 : List Cond := [Cond.code yX0_loweredPriority cX0_loweredPriority 6 (some .int), Cond.methodLink RX0 150 Lib.Math.max.name, Cond.static Lib.Math.max.name, Cond.initialized "java/lang/Math", Cond.code Lib.Math.max.name Lib.Math.max.code 2 (some .int), Cond.methodLink RX0 84 yX0_linkOf, Cond.static yX0_linkOf, Cond.code yX0_linkOf cX0_linkOf 2 (some .int), Cond.methodLink RX0 103 yX0_becomeBackup, Cond.instanceMethod yX0_becomeBackup, Cond.selects RX0 yX0_becomeBackup yX0_becomeBackup, Cond.code yX0_becomeBackup cX0_becomeBackup 4 none, Cond.methodLink RX0 147 yX0_waitOf, Cond.instanceMethod yX0_waitOf, Cond.selects RX0 yX0_waitOf yX0_waitOf, Cond.code yX0_waitOf cX0_waitOf 3 (some .int), Cond.methodLink RX0 144 yX0_skewOf, Cond.instanceMethod yX0_skewOf, Cond.selects RX0 yX0_skewOf yX0_skewOf, Cond.code yX0_skewOf cX0_skewOf 3 (some .int), Cond.methodLink RX0 141 yX0_copyServed, Cond.instanceMethod yX0_copyServed, Cond.selects RX0 yX0_copyServed yX0_copyServed, Cond.code yX0_copyServed cX0_copyServed 6 none]
def wsL_law0_r5 : List Cond := [Cond.fieldLink RX0 127 "StandbyPair" "bulkRepairs" "I", Cond.methodLink RX0 138 yX0_receiveAsBackup, Cond.instanceMethod yX0_receiveAsBackup, Cond.selects RX0 yX0_receiveAsBackup yX0_receiveAsBackup, Cond.code yX0_receiveAsBackup cX0_receiveAsBackup 7 none, Cond.methodLink RX0 77 yX0_beginPart, Cond.instanceMethod yX0_beginPart, Cond.selects RX0 yX0_beginPart yX0_beginPart, Cond.code yX0_beginPart cX0_beginPart 3 none, Cond.methodLink RL 65 yL_track, Cond.static yL_track, Cond.codeWith yL_track cL_track 5 (some .int) [(0, 7, 8, 14)], Cond.methodLink RL 17 yX0_track, Cond.instanceMethod yX0_track, Cond.selects RX0 yX0_track yX0_track, Cond.code yX0_track cX0_track 6 (some .int), Cond.methodLink RX0 81 yX0_checkLink, Cond.static yX0_checkLink, Cond.code yX0_checkLink cX0_checkLink 1 none, Cond.methodLink RL 67 yL_setLink, Cond.static yL_setLink, Cond.codeWith yL_setLink cL_setLink 5 (some .int) [(0, 15, 16, 14)], Cond.methodLink RL 20 yX0_setLink, Cond.instanceMethod yX0_setLink]
def wsL_law0_r6 : List Cond := [Cond.selects RX0 yX0_setLink yX0_setLink, Cond.code yX0_setLink cX0_setLink 6 (some .boolean), Cond.methodLink RL 70 yL_setPeriod, Cond.static yL_setPeriod, Cond.codeWith yL_setPeriod cL_setPeriod 4 (some .int) [(0, 6, 7, 14)], Cond.methodLink RL 24 yX0_setPeriod, Cond.instanceMethod yX0_setPeriod, Cond.selects RX0 yX0_setPeriod yX0_setPeriod, Cond.code yX0_setPeriod cX0_setPeriod 4 (some .int), Cond.methodLink RL 73 yL_setPreemption, Cond.static yL_setPreemption, Cond.codeWith yL_setPreemption cL_setPreemption 5 (some .int) [(0, 8, 9, 14)], Cond.methodLink RL 28 yX0_setPreemption, Cond.instanceMethod yX0_setPreemption, Cond.selects RX0 yX0_setPreemption yX0_setPreemption, Cond.code yX0_setPreemption cX0_setPreemption 4 none, Cond.methodLink RL 76 yL_join, Cond.static yL_join, Cond.codeWith yL_join cL_join 5 (some .int) [(0, 15, 16, 14)], Cond.methodLink RL 32 yX0_join, Cond.instanceMethod yX0_join, Cond.selects RX0 yX0_join yX0_join, Cond.code yX0_join cX0_join 5 (some .boolean), Cond.methodLink RL 78 yL_die]
def wsL_law0_r7 : List Cond := [Cond.static yL_die, Cond.codeWith yL_die cL_die 3 (some .int) [(0, 5, 6, 14), (0, 5, 10, 39)], Cond.classLink RL 39 "java/lang/IllegalStateException", Cond.methodLink RL 35 yX0_die, Cond.instanceMethod yX0_die, Cond.selects RX0 yX0_die yX0_die, Cond.code yX0_die cX0_die 5 (some .int), Cond.classLink RX0 94 "java/lang/IllegalStateException", Cond.initialized "java/lang/IllegalStateException", Cond.methodLink RL 81 yL_live, Cond.static yL_live, Cond.codeWith yL_live cL_live 3 (some .int) [(0, 5, 6, 14), (0, 5, 10, 39)], Cond.methodLink RL 41 yX0_live, Cond.instanceMethod yX0_live, Cond.selects RX0 yX0_live yX0_live, Cond.code yX0_live cX0_live 4 (some .int), Cond.methodLink RL 83 yL_handOver, Cond.static yL_handOver, Cond.codeWith yL_handOver cL_handOver 4 (some .int) [(0, 7, 8, 14), (0, 7, 12, 39)], Cond.methodLink RL 44 yX0_handOver, Cond.instanceMethod yX0_handOver, Cond.selects RX0 yX0_handOver yX0_handOver, Cond.code yX0_handOver cX0_handOver 3 none, Cond.methodLink RL 85 yL_serve]
def wsL_law0_r8 : List Cond := [Cond.static yL_serve, Cond.codeWith yL_serve cL_serve 4 (some .int) [(0, 6, 7, 14)], Cond.methodLink RL 48 yX0_serve, Cond.instanceMethod yX0_serve, Cond.selects RX0 yX0_serve yX0_serve, Cond.code yX0_serve cX0_serve 6 (some .int), Cond.methodLink RL 87 yL_tick, Cond.static yL_tick, Cond.codeWith yL_tick cL_tick 3 (some .int) [(0, 5, 6, 14)], Cond.methodLink RL 51 yX0_tick, Cond.instanceMethod yX0_tick, Cond.selects RX0 yX0_tick yX0_tick, Cond.code yX0_tick cX0_tick 4 (some .int), Cond.fieldLink RX0 115 "StandbyPair" "time" "I", Cond.methodLink RX0 106 yX0_runMasters, Cond.instanceMethod yX0_runMasters, Cond.selects RX0 yX0_runMasters yX0_runMasters, Cond.code yX0_runMasters cX0_runMasters 4 none, Cond.methodLink RX0 109 yX0_runBackups, Cond.instanceMethod yX0_runBackups, Cond.selects RX0 yX0_runBackups yX0_runBackups, Cond.code yX0_runBackups cX0_runBackups 4 none, Cond.methodLink RX0 112 yX0_noteGap, Cond.instanceMethod yX0_noteGap]
def wsL_law0_r9 : List Cond := [Cond.selects RX0 yX0_noteGap yX0_noteGap, Cond.code yX0_noteGap cX0_noteGap 2 none, Cond.methodLink RX0 124 yX0_membersWith, Cond.instanceMethod yX0_membersWith, Cond.selects RX0 yX0_membersWith yX0_membersWith, Cond.code yX0_membersWith cX0_membersWith 5 (some .int), Cond.methodLink RL 128 yL_areAlike, Cond.static yL_areAlike, Cond.code yL_areAlike cL_areAlike 5 (some .boolean), Cond.methodLink RL 89 yX0_repairs, Cond.instanceMethod yX0_repairs, Cond.selects RX0 yX0_repairs yX0_repairs, Cond.code yX0_repairs cX0_repairs 1 (some .int), Cond.methodLink RL 93 yX0_masters, Cond.instanceMethod yX0_masters, Cond.selects RX0 yX0_masters yX0_masters, Cond.code yX0_masters cX0_masters 2 (some .int), Cond.methodLink RL 96 yX0_gaps, Cond.instanceMethod yX0_gaps, Cond.selects RX0 yX0_gaps yX0_gaps, Cond.code yX0_gaps cX0_gaps 2 (some .int), Cond.methodLink RL 99 yX0_sent, Cond.instanceMethod yX0_sent, Cond.selects RX0 yX0_sent yX0_sent]
def wsL_law0_r10 : List Cond := [Cond.code yX0_sent cX0_sent 2 (some .int), Cond.methodLink RL 102 yX0_state, Cond.instanceMethod yX0_state, Cond.selects RX0 yX0_state yX0_state, Cond.code yX0_state cX0_state 3 (some .int), Cond.methodLink RL 105 yL_timer, Cond.static yL_timer, Cond.codeWith yL_timer cL_timer 4 (some .int) [(0, 6, 7, 14), (0, 6, 11, 39)], Cond.methodLink RL 54 yX0_timer, Cond.instanceMethod yX0_timer, Cond.selects RX0 yX0_timer yX0_timer, Cond.code yX0_timer cX0_timer 3 (some .int), Cond.methodLink RL 107 yX0_known, Cond.instanceMethod yX0_known, Cond.selects RX0 yX0_known yX0_known, Cond.code yX0_known cX0_known 3 (some .int), Cond.methodLink RL 110 yX0_changes, Cond.instanceMethod yX0_changes, Cond.selects RX0 yX0_changes yX0_changes, Cond.code yX0_changes cX0_changes 3 (some .int), Cond.methodLink RL 132 yL_isGroupSo, Cond.static yL_isGroupSo, Cond.code yL_isGroupSo cL_isGroupSo 10 (some .boolean), Cond.methodLink RL 113 yX0_priority]
def wsL_law0_r11 : List Cond := [Cond.instanceMethod yX0_priority, Cond.selects RX0 yX0_priority yX0_priority, Cond.code yX0_priority cX0_priority 3 (some .int), Cond.methodLink RL 116 yX0_isSettled, Cond.instanceMethod yX0_isSettled, Cond.selects RX0 yX0_isSettled yX0_isSettled, Cond.code yX0_isSettled cX0_isSettled 2 (some .boolean), Cond.methodLink RX0 130 yX0_hasJoinedMasters, Cond.instanceMethod yX0_hasJoinedMasters, Cond.selects RX0 yX0_hasJoinedMasters yX0_hasJoinedMasters, Cond.code yX0_hasJoinedMasters cX0_hasJoinedMasters 4 (some .boolean)]
def wsL_law0 : List Cond := (wsL_law0_r1 ++ (wsL_law0_r2 ++ (wsL_law0_r3 ++ (wsL_law0_r4 ++ (wsL_law0_r5 ++ (wsL_law0_r6 ++ (wsL_law0_r7 ++ (wsL_law0_r8 ++ (wsL_law0_r9 ++ (wsL_law0_r10 ++ wsL_law0_r11)))))))))) ++ wsX00 ++ ([] : List Cond)
def wsL_law : List Cond := wsL_law0 ++ (vx_atS RX0 91 "java/lang/IllegalArgumentException" ["java/lang/RuntimeException", "java/lang/Exception"]).filter goodWord ++ (vx_atS RX0 98 "java/lang/IllegalStateException" ["java/lang/RuntimeException", "java/lang/Exception"]).filter goodWord
end
section
set_option maxRecDepth 20000 in
theorem wsLin_wsL_law0_r1 : ∀ w ∈ wsL_law0_r1, w ∈ lw_tbl := fun w h => (goodIn_p wsL_law0_r1 [27, 30] (by decide +kernel) (by decide +kernel) w h).1
set_option maxRecDepth 20000 in
theorem wsLin_wsL_law0_r2 : ∀ w ∈ wsL_law0_r2, w ∈ lw_tbl := fun w h => (goodIn_p wsL_law0_r2 [221, 228, 224, 236] (by decide +kernel) (by decide +kernel) w h).1
set_option maxRecDepth 20000 in
theorem wsLin_wsL_law0_r3 : ∀ w ∈ wsL_law0_r3, w ∈ lw_tbl := fun w h => (goodIn_p wsL_law0_r3 [239, 243, 94, 168, 182, 186] (by decide +kernel) (by decide +kernel) w h).1
set_option maxRecDepth 20000 in
theorem wsLin_wsL_law0_r4 : ∀ w ∈ wsL_law0_r4, w ∈ lw_tbl := fun w h => (goodIn_p wsL_law0_r4 [172, 178, 175, 190, 194, 198, 202] (by decide +kernel) (by decide +kernel) w h).1
set_option maxRecDepth 20000 in
theorem wsLin_wsL_law0_r5 : ∀ w ∈ wsL_law0_r5, w ∈ lw_tbl := fun w h => (goodIn_p wsL_law0_r5 [206, 248, 256, 259] (by decide +kernel) (by decide +kernel) w h).1
set_option maxRecDepth 20000 in
theorem wsLin_wsL_law0_r6 : ∀ w ∈ wsL_law0_r6, w ∈ lw_tbl := fun w h => (goodIn_p wsL_law0_r6 [267, 274, 281, 288] (by decide +kernel) (by decide +kernel) w h).1
end
section
set_option maxRecDepth 20000 in
theorem wsLin_wsL_law0_r7 : ∀ w ∈ wsL_law0_r7, w ∈ lw_tbl := fun w h => (goodIn_p wsL_law0_r7 [297, 320, 328] (by decide +kernel) (by decide +kernel) w h).1
set_option maxRecDepth 20000 in
theorem wsLin_wsL_law0_r8 : ∀ w ∈ wsL_law0_r8, w ∈ lw_tbl := fun w h => (goodIn_p wsL_law0_r8 [336, 91, 165, 210] (by decide +kernel) (by decide +kernel) w h).1
set_option maxRecDepth 20000 in
theorem wsLin_wsL_law0_r9 : ∀ w ∈ wsL_law0_r9, w ∈ lw_tbl := fun w h => (goodIn_p wsL_law0_r9 [214, 218, 342, 346, 350, 354] (by decide +kernel) (by decide +kernel) w h).1
set_option maxRecDepth 20000 in
theorem wsLin_wsL_law0_r10 : ∀ w ∈ wsL_law0_r10, w ∈ lw_tbl := fun w h => (goodIn_p wsL_law0_r10 [358, 362, 369, 374, 378, 381] (by decide +kernel) (by decide +kernel) w h).1
set_option maxRecDepth 20000 in
theorem wsLin_wsL_law0_r11 : ∀ w ∈ wsL_law0_r11, w ∈ lw_tbl := fun w h => (goodIn_p wsL_law0_r11 [385, 389, 393] (by decide +kernel) (by decide +kernel) w h).1
set_option maxRecDepth 20000 in
theorem wsLin_wsX00 : ∀ w ∈ wsX00, w ∈ lw_tbl := fun w h => (goodIn_p wsX00 [] (by decide +kernel) (by decide +kernel) w h).1
end
section
theorem wsL_law_in0 : ∀ w ∈ wsL_law0, w ∈ lw_tbl := by
  intro w h
  rcases List.mem_append.mp h with h | h
  · rcases List.mem_append.mp h with h | h
    · rcases List.mem_append.mp h with h | h
      · exact wsLin_wsL_law0_r1 w h
      rcases List.mem_append.mp h with h | h
      · exact wsLin_wsL_law0_r2 w h
      rcases List.mem_append.mp h with h | h
      · exact wsLin_wsL_law0_r3 w h
      rcases List.mem_append.mp h with h | h
      · exact wsLin_wsL_law0_r4 w h
      rcases List.mem_append.mp h with h | h
      · exact wsLin_wsL_law0_r5 w h
      rcases List.mem_append.mp h with h | h
      · exact wsLin_wsL_law0_r6 w h
      rcases List.mem_append.mp h with h | h
      · exact wsLin_wsL_law0_r7 w h
      rcases List.mem_append.mp h with h | h
      · exact wsLin_wsL_law0_r8 w h
      rcases List.mem_append.mp h with h | h
      · exact wsLin_wsL_law0_r9 w h
      rcases List.mem_append.mp h with h | h
      · exact wsLin_wsL_law0_r10 w h
      exact wsLin_wsL_law0_r11 w h
    · exact wsLin_wsX00 w h
  · exact absurd h List.not_mem_nil
theorem wsL_law_x0 : ∀ w ∈ (vx_atS RX0 91 "java/lang/IllegalArgumentException" ["java/lang/RuntimeException", "java/lang/Exception"]).filter goodWord, w ∈ lw_tbl := by decide +kernel
theorem wsL_law_x1 : ∀ w ∈ (vx_atS RX0 98 "java/lang/IllegalStateException" ["java/lang/RuntimeException", "java/lang/Exception"]).filter goodWord, w ∈ lw_tbl := by decide +kernel
theorem wsL_law_in : ∀ w ∈ wsL_law, w ∈ lw_tbl := fun w h => (List.mem_append.mp h).elim (fun h => (List.mem_append.mp h).elim (fun h => wsL_law_in0 w h) (fun h => wsL_law_x0 w h)) (fun h => wsL_law_x1 w h)
theorem inlX0 : ∀ w ∈ wsX00, w ∈ wsL_law := fun _ h => List.mem_append_left _ (List.mem_append_left _ (List.mem_append_left _ (List.mem_append_right _ h)))
theorem inX0 : ∀ w ∈ wsX00, w ∈ lw_tbl := fun w h => wsL_law_in w (inlX0 w h)
theorem inX1 : ∀ w ∈ wsX10, w ∈ lw_tbl := by decide +kernel
theorem inJ9 : ∀ w ∈ wsJ90, w ∈ lw_tbl := by decide +kernel
theorem inJ0 : ∀ w ∈ wsJ00, w ∈ lw_tbl := by decide +kernel
abbrev vwCl : List vw_C := [(RX0, TX0, 18)]
end
section
theorem dX0_init_0 : decode cX0_init 0 = .ok (.aload_n 0, 1) := by decide +kernel
theorem dX0_init_1 : decode cX0_init 1 = .ok (.invokespecial 1, 3) := by decide +kernel
theorem dX0_init_4 : decode cX0_init 4 = .ok (.aload_n 0, 1) := by decide +kernel
theorem dX0_init_5 : decode cX0_init 5 = .ok (.iconst 4, 1) := by decide +kernel
theorem dX0_init_6 : decode cX0_init 6 = .ok (.newarray .boolean, 2) := by decide +kernel
theorem dX0_init_8 : decode cX0_init 8 = .ok (.putfield 9, 3) := by decide +kernel
theorem dX0_init_11 : decode cX0_init 11 = .ok (.aload_n 0, 1) := by decide +kernel
theorem dX0_init_12 : decode cX0_init 12 = .ok (.bipush 16, 2) := by decide +kernel
theorem dX0_init_14 : decode cX0_init 14 = .ok (.newarray .boolean, 2) := by decide +kernel
theorem dX0_init_16 : decode cX0_init 16 = .ok (.putfield 13, 3) := by decide +kernel
theorem dX0_init_19 : decode cX0_init 19 = .ok (.aload_n 0, 1) := by decide +kernel
theorem dX0_init_20 : decode cX0_init 20 = .ok (.bipush 8, 2) := by decide +kernel
theorem dX0_init_22 : decode cX0_init 22 = .ok (.newarray .boolean, 2) := by decide +kernel
theorem dX0_init_24 : decode cX0_init 24 = .ok (.putfield 16, 3) := by decide +kernel
theorem dX0_init_27 : decode cX0_init 27 = .ok (.aload_n 0, 1) := by decide +kernel
theorem dX0_init_28 : decode cX0_init 28 = .ok (.bipush 8, 2) := by decide +kernel
theorem dX0_init_30 : decode cX0_init 30 = .ok (.newarray .int, 2) := by decide +kernel
theorem dX0_init_32 : decode cX0_init 32 = .ok (.putfield 19, 3) := by decide +kernel
theorem dX0_init_35 : decode cX0_init 35 = .ok (.aload_n 0, 1) := by decide +kernel
theorem dX0_init_36 : decode cX0_init 36 = .ok (.iconst 3, 1) := by decide +kernel
theorem dX0_init_37 : decode cX0_init 37 = .ok (.newarray .int, 2) := by decide +kernel
theorem dX0_init_39 : decode cX0_init 39 = .ok (.putfield 23, 3) := by decide +kernel
theorem dX0_init_42 : decode cX0_init 42 = .ok (.aload_n 0, 1) := by decide +kernel
theorem dX0_init_43 : decode cX0_init 43 = .ok (.iconst 3, 1) := by decide +kernel
theorem dX0_init_44 : decode cX0_init 44 = .ok (.newarray .boolean, 2) := by decide +kernel
theorem dX0_init_46 : decode cX0_init 46 = .ok (.putfield 26, 3) := by decide +kernel
theorem dX0_init_49 : decode cX0_init 49 = .ok (.aload_n 0, 1) := by decide +kernel
theorem dX0_init_50 : decode cX0_init 50 = .ok (.iconst 3, 1) := by decide +kernel
theorem dX0_init_51 : decode cX0_init 51 = .ok (.newarray .int, 2) := by decide +kernel
theorem dX0_init_53 : decode cX0_init 53 = .ok (.putfield 29, 3) := by decide +kernel
theorem dX0_init_56 : decode cX0_init 56 = .ok (.aload_n 0, 1) := by decide +kernel
theorem dX0_init_57 : decode cX0_init 57 = .ok (.iconst 3, 1) := by decide +kernel
theorem dX0_init_58 : decode cX0_init 58 = .ok (.newarray .int, 2) := by decide +kernel
theorem dX0_init_60 : decode cX0_init 60 = .ok (.putfield 32, 3) := by decide +kernel
theorem dX0_init_63 : decode cX0_init 63 = .ok (.aload_n 0, 1) := by decide +kernel
theorem dX0_init_64 : decode cX0_init 64 = .ok (.iconst 3, 1) := by decide +kernel
theorem dX0_init_65 : decode cX0_init 65 = .ok (.newarray .int, 2) := by decide +kernel
theorem dX0_init_67 : decode cX0_init 67 = .ok (.putfield 35, 3) := by decide +kernel
theorem dX0_init_70 : decode cX0_init 70 = .ok (.aload_n 0, 1) := by decide +kernel
theorem dX0_init_71 : decode cX0_init 71 = .ok (.bipush 12, 2) := by decide +kernel
theorem dX0_init_73 : decode cX0_init 73 = .ok (.newarray .int, 2) := by decide +kernel
theorem dX0_init_75 : decode cX0_init 75 = .ok (.putfield 38, 3) := by decide +kernel
theorem dX0_init_78 : decode cX0_init 78 = .ok (.aload_n 0, 1) := by decide +kernel
theorem dX0_init_79 : decode cX0_init 79 = .ok (.bipush 12, 2) := by decide +kernel
theorem dX0_init_81 : decode cX0_init 81 = .ok (.newarray .int, 2) := by decide +kernel
theorem dX0_init_83 : decode cX0_init 83 = .ok (.putfield 41, 3) := by decide +kernel
theorem dX0_init_86 : decode cX0_init 86 = .ok (.aload_n 0, 1) := by decide +kernel
theorem dX0_init_87 : decode cX0_init 87 = .ok (.bipush 12, 2) := by decide +kernel
theorem dX0_init_89 : decode cX0_init 89 = .ok (.newarray .int, 2) := by decide +kernel
theorem dX0_init_91 : decode cX0_init 91 = .ok (.putfield 44, 3) := by decide +kernel
theorem dX0_init_94 : decode cX0_init 94 = .ok (.aload_n 0, 1) := by decide +kernel
theorem dX0_init_95 : decode cX0_init 95 = .ok (.bipush 12, 2) := by decide +kernel
theorem dX0_init_97 : decode cX0_init 97 = .ok (.newarray .int, 2) := by decide +kernel
theorem dX0_init_99 : decode cX0_init 99 = .ok (.putfield 47, 3) := by decide +kernel
theorem dX0_init_102 : decode cX0_init 102 = .ok (.aload_n 0, 1) := by decide +kernel
theorem dX0_init_103 : decode cX0_init 103 = .ok (.bipush 12, 2) := by decide +kernel
theorem dX0_init_105 : decode cX0_init 105 = .ok (.newarray .int, 2) := by decide +kernel
theorem dX0_init_107 : decode cX0_init 107 = .ok (.putfield 50, 3) := by decide +kernel
theorem dX0_init_110 : decode cX0_init 110 = .ok (.aload_n 0, 1) := by decide +kernel
theorem dX0_init_111 : decode cX0_init 111 = .ok (.bipush 12, 2) := by decide +kernel
theorem dX0_init_113 : decode cX0_init 113 = .ok (.newarray .int, 2) := by decide +kernel
theorem dX0_init_115 : decode cX0_init 115 = .ok (.putfield 53, 3) := by decide +kernel
theorem dX0_init_118 : decode cX0_init 118 = .ok (.aload_n 0, 1) := by decide +kernel
theorem dX0_init_119 : decode cX0_init 119 = .ok (.bipush 12, 2) := by decide +kernel
theorem dX0_init_121 : decode cX0_init 121 = .ok (.newarray .boolean, 2) := by decide +kernel
theorem dX0_init_123 : decode cX0_init 123 = .ok (.putfield 56, 3) := by decide +kernel
theorem dX0_init_126 : decode cX0_init 126 = .ok (.iconst 0, 1) := by decide +kernel
theorem dX0_init_127 : decode cX0_init 127 = .ok (.istore_n 1, 1) := by decide +kernel
theorem dX0_init_128 : decode cX0_init 128 = .ok (.iload_n 1, 1) := by decide +kernel
theorem dX0_init_129 : decode cX0_init 129 = .ok (.iconst 4, 1) := by decide +kernel
theorem dX0_init_130 : decode cX0_init 130 = .ok (.if_icmp .ge 16, 3) := by decide +kernel
theorem dX0_init_133 : decode cX0_init 133 = .ok (.aload_n 0, 1) := by decide +kernel
theorem dX0_init_134 : decode cX0_init 134 = .ok (.getfield 9, 3) := by decide +kernel
theorem dX0_init_137 : decode cX0_init 137 = .ok (.iload_n 1, 1) := by decide +kernel
theorem dX0_init_138 : decode cX0_init 138 = .ok (.iconst 1, 1) := by decide +kernel
theorem dX0_init_139 : decode cX0_init 139 = .ok (.bastore, 1) := by decide +kernel
theorem dX0_init_140 : decode cX0_init 140 = .ok (.iinc 1 1, 3) := by decide +kernel
theorem dX0_init_143 : decode cX0_init 143 = .ok (.goto (-15), 3) := by decide +kernel
theorem dX0_init_146 : decode cX0_init 146 = .ok (.iconst 0, 1) := by decide +kernel
theorem dX0_init_147 : decode cX0_init 147 = .ok (.istore_n 1, 1) := by decide +kernel
theorem dX0_init_148 : decode cX0_init 148 = .ok (.iload_n 1, 1) := by decide +kernel
theorem dX0_init_149 : decode cX0_init 149 = .ok (.bipush 16, 2) := by decide +kernel
theorem dX0_init_151 : decode cX0_init 151 = .ok (.if_icmp .ge 16, 3) := by decide +kernel
theorem dX0_init_154 : decode cX0_init 154 = .ok (.aload_n 0, 1) := by decide +kernel
theorem dX0_init_155 : decode cX0_init 155 = .ok (.getfield 13, 3) := by decide +kernel
theorem dX0_init_158 : decode cX0_init 158 = .ok (.iload_n 1, 1) := by decide +kernel
theorem dX0_init_159 : decode cX0_init 159 = .ok (.iconst 1, 1) := by decide +kernel
theorem dX0_init_160 : decode cX0_init 160 = .ok (.bastore, 1) := by decide +kernel
theorem dX0_init_161 : decode cX0_init 161 = .ok (.iinc 1 1, 3) := by decide +kernel
theorem dX0_init_164 : decode cX0_init 164 = .ok (.goto (-16), 3) := by decide +kernel
theorem dX0_init_167 : decode cX0_init 167 = .ok (.iconst 0, 1) := by decide +kernel
theorem dX0_init_168 : decode cX0_init 168 = .ok (.istore_n 1, 1) := by decide +kernel
theorem dX0_init_169 : decode cX0_init 169 = .ok (.iload_n 1, 1) := by decide +kernel
theorem dX0_init_170 : decode cX0_init 170 = .ok (.bipush 8, 2) := by decide +kernel
theorem dX0_init_172 : decode cX0_init 172 = .ok (.if_icmp .ge 16, 3) := by decide +kernel
theorem dX0_init_175 : decode cX0_init 175 = .ok (.aload_n 0, 1) := by decide +kernel
theorem dX0_init_176 : decode cX0_init 176 = .ok (.getfield 16, 3) := by decide +kernel
theorem dX0_init_179 : decode cX0_init 179 = .ok (.iload_n 1, 1) := by decide +kernel
theorem dX0_init_180 : decode cX0_init 180 = .ok (.iconst 1, 1) := by decide +kernel
theorem dX0_init_181 : decode cX0_init 181 = .ok (.bastore, 1) := by decide +kernel
theorem dX0_init_182 : decode cX0_init 182 = .ok (.iinc 1 1, 3) := by decide +kernel
theorem dX0_init_185 : decode cX0_init 185 = .ok (.goto (-16), 3) := by decide +kernel
theorem dX0_init_188 : decode cX0_init 188 = .ok (.iconst 0, 1) := by decide +kernel
theorem dX0_init_189 : decode cX0_init 189 = .ok (.istore_n 1, 1) := by decide +kernel
theorem dX0_init_190 : decode cX0_init 190 = .ok (.iload_n 1, 1) := by decide +kernel
theorem dX0_init_191 : decode cX0_init 191 = .ok (.iconst 3, 1) := by decide +kernel
theorem dX0_init_192 : decode cX0_init 192 = .ok (.if_icmp .ge 23, 3) := by decide +kernel
theorem dX0_init_195 : decode cX0_init 195 = .ok (.aload_n 0, 1) := by decide +kernel
theorem dX0_init_196 : decode cX0_init 196 = .ok (.getfield 23, 3) := by decide +kernel
theorem dX0_init_199 : decode cX0_init 199 = .ok (.iload_n 1, 1) := by decide +kernel
theorem dX0_init_200 : decode cX0_init 200 = .ok (.iconst 4, 1) := by decide +kernel
theorem dX0_init_201 : decode cX0_init 201 = .ok (.iastore, 1) := by decide +kernel
theorem dX0_init_202 : decode cX0_init 202 = .ok (.aload_n 0, 1) := by decide +kernel
theorem dX0_init_203 : decode cX0_init 203 = .ok (.getfield 26, 3) := by decide +kernel
theorem dX0_init_206 : decode cX0_init 206 = .ok (.iload_n 1, 1) := by decide +kernel
theorem dX0_init_207 : decode cX0_init 207 = .ok (.iconst 1, 1) := by decide +kernel
theorem dX0_init_208 : decode cX0_init 208 = .ok (.bastore, 1) := by decide +kernel
theorem dX0_init_209 : decode cX0_init 209 = .ok (.iinc 1 1, 3) := by decide +kernel
theorem dX0_init_212 : decode cX0_init 212 = .ok (.goto (-22), 3) := by decide +kernel
theorem dX0_init_215 : decode cX0_init 215 = .ok (.return_, 1) := by decide +kernel
set_option maxRecDepth 20000 in
theorem ggX0_setPriority_X0_checkRouter : GoodIn wsX0_setPriority wsX0_checkRouter := goodIn_ca (goodIn_r _ [7, 8, 9] (by decide +kernel) (by decide +kernel)) (goodIn_sub (fun _ h => List.mem_cons_of_mem _ (List.mem_append_right _ h)) (by decide +kernel))
set_option maxRecDepth 20000 in
theorem gX0_setPriority_X0_checkRouter : GoodIn wsX0_setPriority (va_wsS RX0 59 yX0_checkRouter wsX0_checkRouter) := goodIn_app (goodIn_of _ (by decide +kernel)) ggX0_setPriority_X0_checkRouter
set_option maxRecDepth 20000 in
theorem ggX0_setPriority_X0_checkGroup : GoodIn wsX0_setPriority wsX0_checkGroup := goodIn_ca (goodIn_r _ [12, 8, 9] (by decide +kernel) (by decide +kernel)) (goodIn_sub (fun _ h => List.mem_cons_of_mem _ (List.mem_append_right _ h)) (by decide +kernel))
set_option maxRecDepth 20000 in
theorem gX0_setPriority_X0_checkGroup : GoodIn wsX0_setPriority (va_wsS RX0 63 yX0_checkGroup wsX0_checkGroup) := goodIn_app (goodIn_of _ (by decide +kernel)) ggX0_setPriority_X0_checkGroup
set_option maxRecDepth 20000 in
theorem ggX0_setPriority_X0_checkRange : GoodIn wsX0_setPriority wsX0_checkRange := goodIn_ca (goodIn_r _ [15, 8, 9] (by decide +kernel) (by decide +kernel)) (goodIn_sub (fun _ h => List.mem_cons_of_mem _ (List.mem_append_right _ h)) (by decide +kernel))
set_option maxRecDepth 20000 in
theorem gX0_setPriority_X0_checkRange : GoodIn wsX0_setPriority (va_wsS RX0 66 yX0_checkRange wsX0_checkRange) := goodIn_app (goodIn_of _ (by decide +kernel)) ggX0_setPriority_X0_checkRange
set_option maxRecDepth 20000 in
theorem ggX0_setPriority_X0_placeOf : GoodIn wsX0_setPriority wsX0_placeOf := goodIn_r _ [18] (by decide +kernel) (by decide +kernel)
set_option maxRecDepth 20000 in
theorem gX0_setPriority_X0_placeOf : GoodIn wsX0_setPriority (va_wsS RX0 70 yX0_placeOf wsX0_placeOf) := goodIn_app (goodIn_of _ (by decide +kernel)) ggX0_setPriority_X0_placeOf
set_option maxRecDepth 20000 in
theorem ggX0_setPriority_X0_advertise : GoodIn wsX0_setPriority wsX0_advertise := goodIn_r _ [22, 23, 24, 2, 16, 17, 6, 18, 25, 26, 27, 28, 29, 30, 31, 32, 1, 33, 34, 35, 36, 37, 38, 39, 40, 41, 42, 43, 44, 45, 46, 47, 48, 49, 50, 51, 52, 53, 54, 55, 56, 57, 58, 59, 60, 61, 62, 63, 64, 65, 66, 67, 68, 69, 74, 75, 76, 77, 78, 79, 80, 81, 82, 83, 84, 85, 86, 87, 88, 89, 90, 91] (by decide +kernel) (by decide +kernel)
set_option maxRecDepth 20000 in
theorem gX0_setPriority_X0_advertise : GoodIn wsX0_setPriority (wsV RX0 74 RX0 yX0_advertise wsX0_advertise) := goodIn_app (goodIn_of _ (by decide +kernel)) ggX0_setPriority_X0_advertise
set_option maxRecDepth 20000 in
theorem ggX0_setPriority_X0_beginPart : GoodIn wsX0_setPriority wsX0_beginPart := goodIn_r _ [73, 62, 42, 43, 44, 6, 45, 2, 46, 47, 16, 17, 18, 29, 30, 31, 32, 1, 33, 34, 35, 36, 37, 38, 39, 40, 41, 48, 49, 50, 51, 52, 53, 54, 55, 56, 74, 75, 76, 77, 78, 79, 80, 81, 82, 83, 84, 85, 86, 87, 88, 89, 90, 91] (by decide +kernel) (by decide +kernel)
set_option maxRecDepth 20000 in
theorem gX0_setPriority_X0_beginPart : GoodIn wsX0_setPriority (wsV RX0 77 RX0 yX0_beginPart wsX0_beginPart) := goodIn_app (goodIn_of _ (by decide +kernel)) ggX0_setPriority_X0_beginPart
theorem dX0_setPriority_0 : decode cX0_setPriority 0 = .ok (.iload_n 1, 1) := by decide +kernel
theorem dX0_setPriority_1 : decode cX0_setPriority 1 = .ok (.invokestatic 59, 3) := by decide +kernel
theorem dX0_setPriority_4 : decode cX0_setPriority 4 = .ok (.iload_n 2, 1) := by decide +kernel
theorem dX0_setPriority_5 : decode cX0_setPriority 5 = .ok (.invokestatic 63, 3) := by decide +kernel
theorem dX0_setPriority_8 : decode cX0_setPriority 8 = .ok (.iload_n 3, 1) := by decide +kernel
theorem dX0_setPriority_9 : decode cX0_setPriority 9 = .ok (.iconst 0, 1) := by decide +kernel
theorem dX0_setPriority_10 : decode cX0_setPriority 10 = .ok (.sipush 254, 3) := by decide +kernel
theorem dX0_setPriority_13 : decode cX0_setPriority 13 = .ok (.invokestatic 66, 3) := by decide +kernel
theorem dX0_setPriority_16 : decode cX0_setPriority 16 = .ok (.iload_n 1, 1) := by decide +kernel
theorem dX0_setPriority_17 : decode cX0_setPriority 17 = .ok (.iload_n 2, 1) := by decide +kernel
theorem dX0_setPriority_18 : decode cX0_setPriority 18 = .ok (.invokestatic 70, 3) := by decide +kernel
theorem dX0_setPriority_21 : decode cX0_setPriority 21 = .ok (.istore 4, 2) := by decide +kernel
theorem dX0_setPriority_23 : decode cX0_setPriority 23 = .ok (.aload_n 0, 1) := by decide +kernel
theorem dX0_setPriority_24 : decode cX0_setPriority 24 = .ok (.getfield 38, 3) := by decide +kernel
theorem dX0_setPriority_27 : decode cX0_setPriority 27 = .ok (.iload 4, 2) := by decide +kernel
theorem dX0_setPriority_29 : decode cX0_setPriority 29 = .ok (.iaload, 1) := by decide +kernel
theorem dX0_setPriority_30 : decode cX0_setPriority 30 = .ok (.istore 5, 2) := by decide +kernel
theorem dX0_setPriority_32 : decode cX0_setPriority 32 = .ok (.iload_n 3, 1) := by decide +kernel
theorem dX0_setPriority_33 : decode cX0_setPriority 33 = .ok (.ifCond .ne 21, 3) := by decide +kernel
theorem dX0_setPriority_36 : decode cX0_setPriority 36 = .ok (.aload_n 0, 1) := by decide +kernel
theorem dX0_setPriority_37 : decode cX0_setPriority 37 = .ok (.getfield 41, 3) := by decide +kernel
theorem dX0_setPriority_40 : decode cX0_setPriority 40 = .ok (.iload 4, 2) := by decide +kernel
theorem dX0_setPriority_42 : decode cX0_setPriority 42 = .ok (.iaload, 1) := by decide +kernel
theorem dX0_setPriority_43 : decode cX0_setPriority 43 = .ok (.iconst 2, 1) := by decide +kernel
theorem dX0_setPriority_44 : decode cX0_setPriority 44 = .ok (.if_icmp .ne 10, 3) := by decide +kernel
theorem dX0_setPriority_47 : decode cX0_setPriority 47 = .ok (.aload_n 0, 1) := by decide +kernel
theorem dX0_setPriority_48 : decode cX0_setPriority 48 = .ok (.iload_n 1, 1) := by decide +kernel
theorem dX0_setPriority_49 : decode cX0_setPriority 49 = .ok (.iload_n 2, 1) := by decide +kernel
theorem dX0_setPriority_50 : decode cX0_setPriority 50 = .ok (.iconst 0, 1) := by decide +kernel
theorem dX0_setPriority_51 : decode cX0_setPriority 51 = .ok (.invokevirtual 74, 3) := by decide +kernel
theorem dX0_setPriority_54 : decode cX0_setPriority 54 = .ok (.aload_n 0, 1) := by decide +kernel
theorem dX0_setPriority_55 : decode cX0_setPriority 55 = .ok (.getfield 38, 3) := by decide +kernel
theorem dX0_setPriority_58 : decode cX0_setPriority 58 = .ok (.iload 4, 2) := by decide +kernel
theorem dX0_setPriority_60 : decode cX0_setPriority 60 = .ok (.iload_n 3, 1) := by decide +kernel
theorem dX0_setPriority_61 : decode cX0_setPriority 61 = .ok (.iastore, 1) := by decide +kernel
theorem dX0_setPriority_62 : decode cX0_setPriority 62 = .ok (.iload_n 3, 1) := by decide +kernel
theorem dX0_setPriority_63 : decode cX0_setPriority 63 = .ok (.ifCond .ne 14, 3) := by decide +kernel
theorem dX0_setPriority_66 : decode cX0_setPriority 66 = .ok (.aload_n 0, 1) := by decide +kernel
theorem dX0_setPriority_67 : decode cX0_setPriority 67 = .ok (.getfield 41, 3) := by decide +kernel
theorem dX0_setPriority_70 : decode cX0_setPriority 70 = .ok (.iload 4, 2) := by decide +kernel
theorem dX0_setPriority_72 : decode cX0_setPriority 72 = .ok (.iconst 0, 1) := by decide +kernel
theorem dX0_setPriority_73 : decode cX0_setPriority 73 = .ok (.iastore, 1) := by decide +kernel
theorem dX0_setPriority_74 : decode cX0_setPriority 74 = .ok (.goto 28, 3) := by decide +kernel
theorem dX0_setPriority_77 : decode cX0_setPriority 77 = .ok (.aload_n 0, 1) := by decide +kernel
theorem dX0_setPriority_78 : decode cX0_setPriority 78 = .ok (.getfield 9, 3) := by decide +kernel
theorem dX0_setPriority_81 : decode cX0_setPriority 81 = .ok (.iload_n 1, 1) := by decide +kernel
theorem dX0_setPriority_82 : decode cX0_setPriority 82 = .ok (.baload, 1) := by decide +kernel
theorem dX0_setPriority_83 : decode cX0_setPriority 83 = .ok (.ifCond .eq 19, 3) := by decide +kernel
theorem dX0_setPriority_86 : decode cX0_setPriority 86 = .ok (.aload_n 0, 1) := by decide +kernel
theorem dX0_setPriority_87 : decode cX0_setPriority 87 = .ok (.getfield 41, 3) := by decide +kernel
theorem dX0_setPriority_90 : decode cX0_setPriority 90 = .ok (.iload 4, 2) := by decide +kernel
theorem dX0_setPriority_92 : decode cX0_setPriority 92 = .ok (.iaload, 1) := by decide +kernel
theorem dX0_setPriority_93 : decode cX0_setPriority 93 = .ok (.ifCond .ne 9, 3) := by decide +kernel
theorem dX0_setPriority_96 : decode cX0_setPriority 96 = .ok (.aload_n 0, 1) := by decide +kernel
theorem dX0_setPriority_97 : decode cX0_setPriority 97 = .ok (.iload_n 1, 1) := by decide +kernel
theorem dX0_setPriority_98 : decode cX0_setPriority 98 = .ok (.iload_n 2, 1) := by decide +kernel
theorem dX0_setPriority_99 : decode cX0_setPriority 99 = .ok (.invokevirtual 77, 3) := by decide +kernel
theorem dX0_setPriority_102 : decode cX0_setPriority 102 = .ok (.iload 5, 2) := by decide +kernel
theorem dX0_setPriority_104 : decode cX0_setPriority 104 = .ok (.ireturn, 1) := by decide +kernel
set_option maxRecDepth 20000 in
theorem ggX0_track_X0_checkRouter : GoodIn wsX0_track wsX0_checkRouter := goodIn_ca (goodIn_r _ [5, 6, 7] (by decide +kernel) (by decide +kernel)) (goodIn_sub (fun _ h => List.mem_cons_of_mem _ (List.mem_append_right _ h)) (by decide +kernel))
set_option maxRecDepth 20000 in
theorem gX0_track_X0_checkRouter : GoodIn wsX0_track (va_wsS RX0 59 yX0_checkRouter wsX0_checkRouter) := goodIn_app (goodIn_of _ (by decide +kernel)) ggX0_track_X0_checkRouter
set_option maxRecDepth 20000 in
theorem ggX0_track_X0_checkLink : GoodIn wsX0_track wsX0_checkLink := goodIn_ca (goodIn_r _ [10, 6, 7] (by decide +kernel) (by decide +kernel)) (goodIn_sub (fun _ h => List.mem_cons_of_mem _ (List.mem_append_right _ h)) (by decide +kernel))
set_option maxRecDepth 20000 in
theorem gX0_track_X0_checkLink : GoodIn wsX0_track (va_wsS RX0 81 yX0_checkLink wsX0_checkLink) := goodIn_app (goodIn_of _ (by decide +kernel)) ggX0_track_X0_checkLink
set_option maxRecDepth 20000 in
theorem ggX0_track_X0_checkRange : GoodIn wsX0_track wsX0_checkRange := goodIn_ca (goodIn_r _ [13, 6, 7] (by decide +kernel) (by decide +kernel)) (goodIn_sub (fun _ h => List.mem_cons_of_mem _ (List.mem_append_right _ h)) (by decide +kernel))
set_option maxRecDepth 20000 in
theorem gX0_track_X0_checkRange : GoodIn wsX0_track (va_wsS RX0 66 yX0_checkRange wsX0_checkRange) := goodIn_app (goodIn_of _ (by decide +kernel)) ggX0_track_X0_checkRange
set_option maxRecDepth 20000 in
theorem ggX0_track_X0_linkOf : GoodIn wsX0_track wsX0_linkOf := goodIn_r _ [16] (by decide +kernel) (by decide +kernel)
set_option maxRecDepth 20000 in
theorem gX0_track_X0_linkOf : GoodIn wsX0_track (va_wsS RX0 84 yX0_linkOf wsX0_linkOf) := goodIn_app (goodIn_of _ (by decide +kernel)) ggX0_track_X0_linkOf
theorem dX0_track_0 : decode cX0_track 0 = .ok (.iload_n 1, 1) := by decide +kernel
theorem dX0_track_1 : decode cX0_track 1 = .ok (.invokestatic 59, 3) := by decide +kernel
theorem dX0_track_4 : decode cX0_track 4 = .ok (.iload_n 2, 1) := by decide +kernel
theorem dX0_track_5 : decode cX0_track 5 = .ok (.invokestatic 81, 3) := by decide +kernel
theorem dX0_track_8 : decode cX0_track 8 = .ok (.iload_n 3, 1) := by decide +kernel
theorem dX0_track_9 : decode cX0_track 9 = .ok (.iconst 0, 1) := by decide +kernel
theorem dX0_track_10 : decode cX0_track 10 = .ok (.bipush 100, 2) := by decide +kernel
theorem dX0_track_12 : decode cX0_track 12 = .ok (.invokestatic 66, 3) := by decide +kernel
theorem dX0_track_15 : decode cX0_track 15 = .ok (.iload_n 1, 1) := by decide +kernel
theorem dX0_track_16 : decode cX0_track 16 = .ok (.iload_n 2, 1) := by decide +kernel
theorem dX0_track_17 : decode cX0_track 17 = .ok (.invokestatic 84, 3) := by decide +kernel
theorem dX0_track_20 : decode cX0_track 20 = .ok (.istore 4, 2) := by decide +kernel
theorem dX0_track_22 : decode cX0_track 22 = .ok (.aload_n 0, 1) := by decide +kernel
theorem dX0_track_23 : decode cX0_track 23 = .ok (.getfield 19, 3) := by decide +kernel
theorem dX0_track_26 : decode cX0_track 26 = .ok (.iload 4, 2) := by decide +kernel
theorem dX0_track_28 : decode cX0_track 28 = .ok (.iaload, 1) := by decide +kernel
theorem dX0_track_29 : decode cX0_track 29 = .ok (.istore 5, 2) := by decide +kernel
theorem dX0_track_31 : decode cX0_track 31 = .ok (.aload_n 0, 1) := by decide +kernel
theorem dX0_track_32 : decode cX0_track 32 = .ok (.getfield 19, 3) := by decide +kernel
theorem dX0_track_35 : decode cX0_track 35 = .ok (.iload 4, 2) := by decide +kernel
theorem dX0_track_37 : decode cX0_track 37 = .ok (.iload_n 3, 1) := by decide +kernel
theorem dX0_track_38 : decode cX0_track 38 = .ok (.iastore, 1) := by decide +kernel
theorem dX0_track_39 : decode cX0_track 39 = .ok (.iload 5, 2) := by decide +kernel
theorem dX0_track_41 : decode cX0_track 41 = .ok (.ireturn, 1) := by decide +kernel
set_option maxRecDepth 20000 in
theorem ggX0_setLink_X0_checkRouter : GoodIn wsX0_setLink wsX0_checkRouter := goodIn_ca (goodIn_r _ [5, 6, 7] (by decide +kernel) (by decide +kernel)) (goodIn_sub (fun _ h => List.mem_cons_of_mem _ (List.mem_append_right _ h)) (by decide +kernel))
set_option maxRecDepth 20000 in
theorem gX0_setLink_X0_checkRouter : GoodIn wsX0_setLink (va_wsS RX0 59 yX0_checkRouter wsX0_checkRouter) := goodIn_app (goodIn_of _ (by decide +kernel)) ggX0_setLink_X0_checkRouter
set_option maxRecDepth 20000 in
theorem ggX0_setLink_X0_checkLink : GoodIn wsX0_setLink wsX0_checkLink := goodIn_ca (goodIn_r _ [10, 6, 7] (by decide +kernel) (by decide +kernel)) (goodIn_sub (fun _ h => List.mem_cons_of_mem _ (List.mem_append_right _ h)) (by decide +kernel))
set_option maxRecDepth 20000 in
theorem gX0_setLink_X0_checkLink : GoodIn wsX0_setLink (va_wsS RX0 81 yX0_checkLink wsX0_checkLink) := goodIn_app (goodIn_of _ (by decide +kernel)) ggX0_setLink_X0_checkLink
set_option maxRecDepth 20000 in
theorem ggX0_setLink_X0_linkOf : GoodIn wsX0_setLink wsX0_linkOf := goodIn_r _ [13] (by decide +kernel) (by decide +kernel)
set_option maxRecDepth 20000 in
theorem gX0_setLink_X0_linkOf : GoodIn wsX0_setLink (va_wsS RX0 84 yX0_linkOf wsX0_linkOf) := goodIn_app (goodIn_of _ (by decide +kernel)) ggX0_setLink_X0_linkOf
theorem dX0_setLink_0 : decode cX0_setLink 0 = .ok (.iload_n 1, 1) := by decide +kernel
theorem dX0_setLink_1 : decode cX0_setLink 1 = .ok (.invokestatic 59, 3) := by decide +kernel
theorem dX0_setLink_4 : decode cX0_setLink 4 = .ok (.iload_n 2, 1) := by decide +kernel
theorem dX0_setLink_5 : decode cX0_setLink 5 = .ok (.invokestatic 81, 3) := by decide +kernel
theorem dX0_setLink_8 : decode cX0_setLink 8 = .ok (.iload_n 1, 1) := by decide +kernel
theorem dX0_setLink_9 : decode cX0_setLink 9 = .ok (.iload_n 2, 1) := by decide +kernel
theorem dX0_setLink_10 : decode cX0_setLink 10 = .ok (.invokestatic 84, 3) := by decide +kernel
theorem dX0_setLink_13 : decode cX0_setLink 13 = .ok (.istore 4, 2) := by decide +kernel
theorem dX0_setLink_15 : decode cX0_setLink 15 = .ok (.aload_n 0, 1) := by decide +kernel
theorem dX0_setLink_16 : decode cX0_setLink 16 = .ok (.getfield 16, 3) := by decide +kernel
theorem dX0_setLink_19 : decode cX0_setLink 19 = .ok (.iload 4, 2) := by decide +kernel
theorem dX0_setLink_21 : decode cX0_setLink 21 = .ok (.baload, 1) := by decide +kernel
theorem dX0_setLink_22 : decode cX0_setLink 22 = .ok (.istore 5, 2) := by decide +kernel
theorem dX0_setLink_24 : decode cX0_setLink 24 = .ok (.aload_n 0, 1) := by decide +kernel
theorem dX0_setLink_25 : decode cX0_setLink 25 = .ok (.getfield 16, 3) := by decide +kernel
theorem dX0_setLink_28 : decode cX0_setLink 28 = .ok (.iload 4, 2) := by decide +kernel
theorem dX0_setLink_30 : decode cX0_setLink 30 = .ok (.iload_n 3, 1) := by decide +kernel
theorem dX0_setLink_31 : decode cX0_setLink 31 = .ok (.bastore, 1) := by decide +kernel
theorem dX0_setLink_32 : decode cX0_setLink 32 = .ok (.iload 5, 2) := by decide +kernel
theorem dX0_setLink_34 : decode cX0_setLink 34 = .ok (.ireturn, 1) := by decide +kernel
set_option maxRecDepth 20000 in
theorem ggX0_setPeriod_X0_checkGroup : GoodIn wsX0_setPeriod wsX0_checkGroup := goodIn_ca (goodIn_r _ [5, 6, 7] (by decide +kernel) (by decide +kernel)) (goodIn_sub (fun _ h => List.mem_cons_of_mem _ (List.mem_append_right _ h)) (by decide +kernel))
set_option maxRecDepth 20000 in
theorem gX0_setPeriod_X0_checkGroup : GoodIn wsX0_setPeriod (va_wsS RX0 63 yX0_checkGroup wsX0_checkGroup) := goodIn_app (goodIn_of _ (by decide +kernel)) ggX0_setPeriod_X0_checkGroup
set_option maxRecDepth 20000 in
theorem ggX0_setPeriod_X0_checkRange : GoodIn wsX0_setPeriod wsX0_checkRange := goodIn_ca (goodIn_r _ [10, 6, 7] (by decide +kernel) (by decide +kernel)) (goodIn_sub (fun _ h => List.mem_cons_of_mem _ (List.mem_append_right _ h)) (by decide +kernel))
set_option maxRecDepth 20000 in
theorem gX0_setPeriod_X0_checkRange : GoodIn wsX0_setPeriod (va_wsS RX0 66 yX0_checkRange wsX0_checkRange) := goodIn_app (goodIn_of _ (by decide +kernel)) ggX0_setPeriod_X0_checkRange
theorem dX0_setPeriod_0 : decode cX0_setPeriod 0 = .ok (.iload_n 1, 1) := by decide +kernel
theorem dX0_setPeriod_1 : decode cX0_setPeriod 1 = .ok (.invokestatic 63, 3) := by decide +kernel
theorem dX0_setPeriod_4 : decode cX0_setPeriod 4 = .ok (.iload_n 2, 1) := by decide +kernel
theorem dX0_setPeriod_5 : decode cX0_setPeriod 5 = .ok (.iconst 1, 1) := by decide +kernel
theorem dX0_setPeriod_6 : decode cX0_setPeriod 6 = .ok (.bipush 10, 2) := by decide +kernel
theorem dX0_setPeriod_8 : decode cX0_setPeriod 8 = .ok (.invokestatic 66, 3) := by decide +kernel
theorem dX0_setPeriod_11 : decode cX0_setPeriod 11 = .ok (.aload_n 0, 1) := by decide +kernel
theorem dX0_setPeriod_12 : decode cX0_setPeriod 12 = .ok (.getfield 23, 3) := by decide +kernel
theorem dX0_setPeriod_15 : decode cX0_setPeriod 15 = .ok (.iload_n 1, 1) := by decide +kernel
theorem dX0_setPeriod_16 : decode cX0_setPeriod 16 = .ok (.iaload, 1) := by decide +kernel
theorem dX0_setPeriod_17 : decode cX0_setPeriod 17 = .ok (.istore_n 3, 1) := by decide +kernel
theorem dX0_setPeriod_18 : decode cX0_setPeriod 18 = .ok (.aload_n 0, 1) := by decide +kernel
theorem dX0_setPeriod_19 : decode cX0_setPeriod 19 = .ok (.getfield 23, 3) := by decide +kernel
theorem dX0_setPeriod_22 : decode cX0_setPeriod 22 = .ok (.iload_n 1, 1) := by decide +kernel
theorem dX0_setPeriod_23 : decode cX0_setPeriod 23 = .ok (.iload_n 2, 1) := by decide +kernel
theorem dX0_setPeriod_24 : decode cX0_setPeriod 24 = .ok (.iastore, 1) := by decide +kernel
theorem dX0_setPeriod_25 : decode cX0_setPeriod 25 = .ok (.iload_n 3, 1) := by decide +kernel
theorem dX0_setPeriod_26 : decode cX0_setPeriod 26 = .ok (.ireturn, 1) := by decide +kernel
set_option maxRecDepth 20000 in
theorem ggX0_setPreemption_X0_checkGroup : GoodIn wsX0_setPreemption wsX0_checkGroup := goodIn_ca (goodIn_r _ [6, 7, 8] (by decide +kernel) (by decide +kernel)) (goodIn_sub (fun _ h => List.mem_cons_of_mem _ (List.mem_append_right _ h)) (by decide +kernel))
set_option maxRecDepth 20000 in
theorem gX0_setPreemption_X0_checkGroup : GoodIn wsX0_setPreemption (va_wsS RX0 63 yX0_checkGroup wsX0_checkGroup) := goodIn_app (goodIn_of _ (by decide +kernel)) ggX0_setPreemption_X0_checkGroup
set_option maxRecDepth 20000 in
theorem ggX0_setPreemption_X0_checkRange : GoodIn wsX0_setPreemption wsX0_checkRange := goodIn_ca (goodIn_r _ [11, 7, 8] (by decide +kernel) (by decide +kernel)) (goodIn_sub (fun _ h => List.mem_cons_of_mem _ (List.mem_append_right _ h)) (by decide +kernel))
set_option maxRecDepth 20000 in
theorem gX0_setPreemption_X0_checkRange : GoodIn wsX0_setPreemption (va_wsS RX0 66 yX0_checkRange wsX0_checkRange) := goodIn_app (goodIn_of _ (by decide +kernel)) ggX0_setPreemption_X0_checkRange
theorem dX0_setPreemption_0 : decode cX0_setPreemption 0 = .ok (.iload_n 1, 1) := by decide +kernel
theorem dX0_setPreemption_1 : decode cX0_setPreemption 1 = .ok (.invokestatic 63, 3) := by decide +kernel
theorem dX0_setPreemption_4 : decode cX0_setPreemption 4 = .ok (.iload_n 3, 1) := by decide +kernel
theorem dX0_setPreemption_5 : decode cX0_setPreemption 5 = .ok (.iconst 0, 1) := by decide +kernel
theorem dX0_setPreemption_6 : decode cX0_setPreemption 6 = .ok (.bipush 10, 2) := by decide +kernel
theorem dX0_setPreemption_8 : decode cX0_setPreemption 8 = .ok (.invokestatic 66, 3) := by decide +kernel
theorem dX0_setPreemption_11 : decode cX0_setPreemption 11 = .ok (.aload_n 0, 1) := by decide +kernel
theorem dX0_setPreemption_12 : decode cX0_setPreemption 12 = .ok (.getfield 26, 3) := by decide +kernel
theorem dX0_setPreemption_15 : decode cX0_setPreemption 15 = .ok (.iload_n 1, 1) := by decide +kernel
theorem dX0_setPreemption_16 : decode cX0_setPreemption 16 = .ok (.iload_n 2, 1) := by decide +kernel
theorem dX0_setPreemption_17 : decode cX0_setPreemption 17 = .ok (.bastore, 1) := by decide +kernel
theorem dX0_setPreemption_18 : decode cX0_setPreemption 18 = .ok (.aload_n 0, 1) := by decide +kernel
theorem dX0_setPreemption_19 : decode cX0_setPreemption 19 = .ok (.getfield 29, 3) := by decide +kernel
theorem dX0_setPreemption_22 : decode cX0_setPreemption 22 = .ok (.iload_n 1, 1) := by decide +kernel
theorem dX0_setPreemption_23 : decode cX0_setPreemption 23 = .ok (.iload_n 3, 1) := by decide +kernel
theorem dX0_setPreemption_24 : decode cX0_setPreemption 24 = .ok (.iastore, 1) := by decide +kernel
theorem dX0_setPreemption_25 : decode cX0_setPreemption 25 = .ok (.return_, 1) := by decide +kernel
set_option maxRecDepth 20000 in
theorem ggX0_join_X0_checkRouter : GoodIn wsX0_join wsX0_checkRouter := goodIn_ca (goodIn_r _ [7, 1, 2] (by decide +kernel) (by decide +kernel)) (goodIn_sub (fun _ h => List.mem_cons_of_mem _ (List.mem_append_right _ h)) (by decide +kernel))
set_option maxRecDepth 20000 in
theorem gX0_join_X0_checkRouter : GoodIn wsX0_join (va_wsS RX0 59 yX0_checkRouter wsX0_checkRouter) := goodIn_app (goodIn_of _ (by decide +kernel)) ggX0_join_X0_checkRouter
theorem dX0_join_0 : decode cX0_join 0 = .ok (.iload_n 1, 1) := by decide +kernel
theorem dX0_join_1 : decode cX0_join 1 = .ok (.invokestatic 59, 3) := by decide +kernel
theorem dX0_join_4 : decode cX0_join 4 = .ok (.iload_n 2, 1) := by decide +kernel
theorem dX0_join_5 : decode cX0_join 5 = .ok (.invokestatic 59, 3) := by decide +kernel
theorem dX0_join_8 : decode cX0_join 8 = .ok (.iload_n 1, 1) := by decide +kernel
theorem dX0_join_9 : decode cX0_join 9 = .ok (.iload_n 2, 1) := by decide +kernel
theorem dX0_join_10 : decode cX0_join 10 = .ok (.if_icmp .ne 13, 3) := by decide +kernel
theorem dX0_join_13 : decode cX0_join 13 = .ok (.new 87, 3) := by decide +kernel
theorem dX0_join_16 : decode cX0_join 16 = .ok (.dup, 1) := by decide +kernel
theorem dX0_join_17 : decode cX0_join 17 = .ok (.ldc 89, 2) := by decide +kernel
theorem dX0_join_19 : decode cX0_join 19 = .ok (.invokespecial 91, 3) := by decide +kernel
theorem dX0_join_22 : decode cX0_join 22 = .ok (.athrow, 1) := by decide +kernel
theorem dX0_join_23 : decode cX0_join 23 = .ok (.aload_n 0, 1) := by decide +kernel
theorem dX0_join_24 : decode cX0_join 24 = .ok (.getfield 13, 3) := by decide +kernel
theorem dX0_join_27 : decode cX0_join 27 = .ok (.iload_n 1, 1) := by decide +kernel
theorem dX0_join_28 : decode cX0_join 28 = .ok (.iconst 4, 1) := by decide +kernel
theorem dX0_join_29 : decode cX0_join 29 = .ok (.imul, 1) := by decide +kernel
theorem dX0_join_30 : decode cX0_join 30 = .ok (.iload_n 2, 1) := by decide +kernel
theorem dX0_join_31 : decode cX0_join 31 = .ok (.iadd, 1) := by decide +kernel
theorem dX0_join_32 : decode cX0_join 32 = .ok (.baload, 1) := by decide +kernel
theorem dX0_join_33 : decode cX0_join 33 = .ok (.istore 4, 2) := by decide +kernel
theorem dX0_join_35 : decode cX0_join 35 = .ok (.aload_n 0, 1) := by decide +kernel
theorem dX0_join_36 : decode cX0_join 36 = .ok (.getfield 13, 3) := by decide +kernel
theorem dX0_join_39 : decode cX0_join 39 = .ok (.iload_n 1, 1) := by decide +kernel
theorem dX0_join_40 : decode cX0_join 40 = .ok (.iconst 4, 1) := by decide +kernel
theorem dX0_join_41 : decode cX0_join 41 = .ok (.imul, 1) := by decide +kernel
theorem dX0_join_42 : decode cX0_join 42 = .ok (.iload_n 2, 1) := by decide +kernel
theorem dX0_join_43 : decode cX0_join 43 = .ok (.iadd, 1) := by decide +kernel
theorem dX0_join_44 : decode cX0_join 44 = .ok (.iload_n 3, 1) := by decide +kernel
theorem dX0_join_45 : decode cX0_join 45 = .ok (.bastore, 1) := by decide +kernel
theorem dX0_join_46 : decode cX0_join 46 = .ok (.aload_n 0, 1) := by decide +kernel
theorem dX0_join_47 : decode cX0_join 47 = .ok (.getfield 13, 3) := by decide +kernel
theorem dX0_join_50 : decode cX0_join 50 = .ok (.iload_n 2, 1) := by decide +kernel
theorem dX0_join_51 : decode cX0_join 51 = .ok (.iconst 4, 1) := by decide +kernel
theorem dX0_join_52 : decode cX0_join 52 = .ok (.imul, 1) := by decide +kernel
theorem dX0_join_53 : decode cX0_join 53 = .ok (.iload_n 1, 1) := by decide +kernel
theorem dX0_join_54 : decode cX0_join 54 = .ok (.iadd, 1) := by decide +kernel
theorem dX0_join_55 : decode cX0_join 55 = .ok (.iload_n 3, 1) := by decide +kernel
theorem dX0_join_56 : decode cX0_join 56 = .ok (.bastore, 1) := by decide +kernel
theorem dX0_join_57 : decode cX0_join 57 = .ok (.iload 4, 2) := by decide +kernel
theorem dX0_join_59 : decode cX0_join 59 = .ok (.ireturn, 1) := by decide +kernel
set_option maxRecDepth 20000 in
theorem ggX0_die_X0_checkRouter : GoodIn wsX0_die wsX0_checkRouter := goodIn_ca (goodIn_r _ [8, 9, 10] (by decide +kernel) (by decide +kernel)) (goodIn_sub (fun _ h => List.mem_cons_of_mem _ (List.mem_append_right _ h)) (by decide +kernel))
set_option maxRecDepth 20000 in
theorem gX0_die_X0_checkRouter : GoodIn wsX0_die (va_wsS RX0 59 yX0_checkRouter wsX0_checkRouter) := goodIn_app (goodIn_of _ (by decide +kernel)) ggX0_die_X0_checkRouter
set_option maxRecDepth 20000 in
theorem ggX0_die_X0_placeOf : GoodIn wsX0_die wsX0_placeOf := goodIn_r _ [13] (by decide +kernel) (by decide +kernel)
set_option maxRecDepth 20000 in
theorem gX0_die_X0_placeOf : GoodIn wsX0_die (va_wsS RX0 70 yX0_placeOf wsX0_placeOf) := goodIn_app (goodIn_of _ (by decide +kernel)) ggX0_die_X0_placeOf
theorem dX0_die_0 : decode cX0_die 0 = .ok (.iload_n 1, 1) := by decide +kernel
theorem dX0_die_1 : decode cX0_die 1 = .ok (.invokestatic 59, 3) := by decide +kernel
theorem dX0_die_4 : decode cX0_die 4 = .ok (.aload_n 0, 1) := by decide +kernel
theorem dX0_die_5 : decode cX0_die 5 = .ok (.getfield 9, 3) := by decide +kernel
theorem dX0_die_8 : decode cX0_die 8 = .ok (.iload_n 1, 1) := by decide +kernel
theorem dX0_die_9 : decode cX0_die 9 = .ok (.baload, 1) := by decide +kernel
theorem dX0_die_10 : decode cX0_die 10 = .ok (.ifCond .ne 13, 3) := by decide +kernel
theorem dX0_die_13 : decode cX0_die 13 = .ok (.new 94, 3) := by decide +kernel
theorem dX0_die_16 : decode cX0_die 16 = .ok (.dup, 1) := by decide +kernel
theorem dX0_die_17 : decode cX0_die 17 = .ok (.ldc 96, 2) := by decide +kernel
theorem dX0_die_19 : decode cX0_die 19 = .ok (.invokespecial 98, 3) := by decide +kernel
theorem dX0_die_22 : decode cX0_die 22 = .ok (.athrow, 1) := by decide +kernel
theorem dX0_die_23 : decode cX0_die 23 = .ok (.aload_n 0, 1) := by decide +kernel
theorem dX0_die_24 : decode cX0_die 24 = .ok (.getfield 9, 3) := by decide +kernel
theorem dX0_die_27 : decode cX0_die 27 = .ok (.iload_n 1, 1) := by decide +kernel
theorem dX0_die_28 : decode cX0_die 28 = .ok (.iconst 0, 1) := by decide +kernel
theorem dX0_die_29 : decode cX0_die 29 = .ok (.bastore, 1) := by decide +kernel
theorem dX0_die_30 : decode cX0_die 30 = .ok (.iconst 0, 1) := by decide +kernel
theorem dX0_die_31 : decode cX0_die 31 = .ok (.istore_n 2, 1) := by decide +kernel
theorem dX0_die_32 : decode cX0_die 32 = .ok (.iconst 0, 1) := by decide +kernel
theorem dX0_die_33 : decode cX0_die 33 = .ok (.istore_n 3, 1) := by decide +kernel
theorem dX0_die_34 : decode cX0_die 34 = .ok (.iload_n 3, 1) := by decide +kernel
theorem dX0_die_35 : decode cX0_die 35 = .ok (.iconst 3, 1) := by decide +kernel
theorem dX0_die_36 : decode cX0_die 36 = .ok (.if_icmp .ge 38, 3) := by decide +kernel
theorem dX0_die_39 : decode cX0_die 39 = .ok (.iload_n 1, 1) := by decide +kernel
theorem dX0_die_40 : decode cX0_die 40 = .ok (.iload_n 3, 1) := by decide +kernel
theorem dX0_die_41 : decode cX0_die 41 = .ok (.invokestatic 70, 3) := by decide +kernel
theorem dX0_die_44 : decode cX0_die 44 = .ok (.istore 4, 2) := by decide +kernel
theorem dX0_die_46 : decode cX0_die 46 = .ok (.aload_n 0, 1) := by decide +kernel
theorem dX0_die_47 : decode cX0_die 47 = .ok (.getfield 41, 3) := by decide +kernel
theorem dX0_die_50 : decode cX0_die 50 = .ok (.iload 4, 2) := by decide +kernel
theorem dX0_die_52 : decode cX0_die 52 = .ok (.iaload, 1) := by decide +kernel
theorem dX0_die_53 : decode cX0_die 53 = .ok (.iconst 2, 1) := by decide +kernel
theorem dX0_die_54 : decode cX0_die 54 = .ok (.if_icmp .ne 6, 3) := by decide +kernel
theorem dX0_die_57 : decode cX0_die 57 = .ok (.iinc 2 1, 3) := by decide +kernel
theorem dX0_die_60 : decode cX0_die 60 = .ok (.aload_n 0, 1) := by decide +kernel
theorem dX0_die_61 : decode cX0_die 61 = .ok (.getfield 41, 3) := by decide +kernel
theorem dX0_die_64 : decode cX0_die 64 = .ok (.iload 4, 2) := by decide +kernel
theorem dX0_die_66 : decode cX0_die 66 = .ok (.iconst 0, 1) := by decide +kernel
theorem dX0_die_67 : decode cX0_die 67 = .ok (.iastore, 1) := by decide +kernel
theorem dX0_die_68 : decode cX0_die 68 = .ok (.iinc 3 1, 3) := by decide +kernel
theorem dX0_die_71 : decode cX0_die 71 = .ok (.goto (-37), 3) := by decide +kernel
theorem dX0_die_74 : decode cX0_die 74 = .ok (.iload_n 2, 1) := by decide +kernel
theorem dX0_die_75 : decode cX0_die 75 = .ok (.ireturn, 1) := by decide +kernel
set_option maxRecDepth 20000 in
theorem ggX0_live_X0_checkRouter : GoodIn wsX0_live wsX0_checkRouter := goodIn_ca (goodIn_r _ [8, 9, 10] (by decide +kernel) (by decide +kernel)) (goodIn_sub (fun _ h => List.mem_cons_of_mem _ (List.mem_append_right _ h)) (by decide +kernel))
set_option maxRecDepth 20000 in
theorem gX0_live_X0_checkRouter : GoodIn wsX0_live (va_wsS RX0 59 yX0_checkRouter wsX0_checkRouter) := goodIn_app (goodIn_of _ (by decide +kernel)) ggX0_live_X0_checkRouter
set_option maxRecDepth 20000 in
theorem ggX0_live_X0_placeOf : GoodIn wsX0_live wsX0_placeOf := goodIn_r _ [13] (by decide +kernel) (by decide +kernel)
set_option maxRecDepth 20000 in
theorem gX0_live_X0_placeOf : GoodIn wsX0_live (va_wsS RX0 70 yX0_placeOf wsX0_placeOf) := goodIn_app (goodIn_of _ (by decide +kernel)) ggX0_live_X0_placeOf
set_option maxRecDepth 20000 in
theorem ggX0_live_X0_beginPart : GoodIn wsX0_live wsX0_beginPart := goodIn_r _ [17, 18, 19, 20, 21, 7, 22, 23, 24, 25, 11, 12, 13, 26, 27, 28, 29, 4, 30, 31, 32, 33, 34, 35, 36, 37, 38, 39, 40, 41, 42, 43, 44, 45, 46, 47, 48, 49, 50, 51, 52, 53, 54, 55, 56, 57, 58, 59, 60, 61, 62, 63, 64, 65] (by decide +kernel) (by decide +kernel)
set_option maxRecDepth 20000 in
theorem gX0_live_X0_beginPart : GoodIn wsX0_live (wsV RX0 77 RX0 yX0_beginPart wsX0_beginPart) := goodIn_app (goodIn_of _ (by decide +kernel)) ggX0_live_X0_beginPart
theorem dX0_live_0 : decode cX0_live 0 = .ok (.iload_n 1, 1) := by decide +kernel
theorem dX0_live_1 : decode cX0_live 1 = .ok (.invokestatic 59, 3) := by decide +kernel
theorem dX0_live_4 : decode cX0_live 4 = .ok (.aload_n 0, 1) := by decide +kernel
theorem dX0_live_5 : decode cX0_live 5 = .ok (.getfield 9, 3) := by decide +kernel
theorem dX0_live_8 : decode cX0_live 8 = .ok (.iload_n 1, 1) := by decide +kernel
theorem dX0_live_9 : decode cX0_live 9 = .ok (.baload, 1) := by decide +kernel
theorem dX0_live_10 : decode cX0_live 10 = .ok (.ifCond .eq 13, 3) := by decide +kernel
theorem dX0_live_13 : decode cX0_live 13 = .ok (.new 94, 3) := by decide +kernel
theorem dX0_live_16 : decode cX0_live 16 = .ok (.dup, 1) := by decide +kernel
theorem dX0_live_17 : decode cX0_live 17 = .ok (.ldc 99, 2) := by decide +kernel
theorem dX0_live_19 : decode cX0_live 19 = .ok (.invokespecial 98, 3) := by decide +kernel
theorem dX0_live_22 : decode cX0_live 22 = .ok (.athrow, 1) := by decide +kernel
theorem dX0_live_23 : decode cX0_live 23 = .ok (.aload_n 0, 1) := by decide +kernel
theorem dX0_live_24 : decode cX0_live 24 = .ok (.getfield 9, 3) := by decide +kernel
theorem dX0_live_27 : decode cX0_live 27 = .ok (.iload_n 1, 1) := by decide +kernel
theorem dX0_live_28 : decode cX0_live 28 = .ok (.iconst 1, 1) := by decide +kernel
theorem dX0_live_29 : decode cX0_live 29 = .ok (.bastore, 1) := by decide +kernel
theorem dX0_live_30 : decode cX0_live 30 = .ok (.iconst 0, 1) := by decide +kernel
theorem dX0_live_31 : decode cX0_live 31 = .ok (.istore_n 2, 1) := by decide +kernel
theorem dX0_live_32 : decode cX0_live 32 = .ok (.iconst 0, 1) := by decide +kernel
theorem dX0_live_33 : decode cX0_live 33 = .ok (.istore_n 3, 1) := by decide +kernel
theorem dX0_live_34 : decode cX0_live 34 = .ok (.iload_n 3, 1) := by decide +kernel
theorem dX0_live_35 : decode cX0_live 35 = .ok (.iconst 3, 1) := by decide +kernel
theorem dX0_live_36 : decode cX0_live 36 = .ok (.if_icmp .ge 31, 3) := by decide +kernel
theorem dX0_live_39 : decode cX0_live 39 = .ok (.aload_n 0, 1) := by decide +kernel
theorem dX0_live_40 : decode cX0_live 40 = .ok (.getfield 38, 3) := by decide +kernel
theorem dX0_live_43 : decode cX0_live 43 = .ok (.iload_n 1, 1) := by decide +kernel
theorem dX0_live_44 : decode cX0_live 44 = .ok (.iload_n 3, 1) := by decide +kernel
theorem dX0_live_45 : decode cX0_live 45 = .ok (.invokestatic 70, 3) := by decide +kernel
theorem dX0_live_48 : decode cX0_live 48 = .ok (.iaload, 1) := by decide +kernel
theorem dX0_live_49 : decode cX0_live 49 = .ok (.ifCond .le 12, 3) := by decide +kernel
theorem dX0_live_52 : decode cX0_live 52 = .ok (.aload_n 0, 1) := by decide +kernel
theorem dX0_live_53 : decode cX0_live 53 = .ok (.iload_n 1, 1) := by decide +kernel
theorem dX0_live_54 : decode cX0_live 54 = .ok (.iload_n 3, 1) := by decide +kernel
theorem dX0_live_55 : decode cX0_live 55 = .ok (.invokevirtual 77, 3) := by decide +kernel
theorem dX0_live_58 : decode cX0_live 58 = .ok (.iinc 2 1, 3) := by decide +kernel
theorem dX0_live_61 : decode cX0_live 61 = .ok (.iinc 3 1, 3) := by decide +kernel
theorem dX0_live_64 : decode cX0_live 64 = .ok (.goto (-30), 3) := by decide +kernel
theorem dX0_live_67 : decode cX0_live 67 = .ok (.iload_n 2, 1) := by decide +kernel
theorem dX0_live_68 : decode cX0_live 68 = .ok (.ireturn, 1) := by decide +kernel
set_option maxRecDepth 20000 in
theorem ggX0_handOver_X0_checkRouter : GoodIn wsX0_handOver wsX0_checkRouter := goodIn_ca (goodIn_r _ [7, 8, 9] (by decide +kernel) (by decide +kernel)) (goodIn_sub (fun _ h => List.mem_cons_of_mem _ (List.mem_append_right _ h)) (by decide +kernel))
set_option maxRecDepth 20000 in
theorem gX0_handOver_X0_checkRouter : GoodIn wsX0_handOver (va_wsS RX0 59 yX0_checkRouter wsX0_checkRouter) := goodIn_app (goodIn_of _ (by decide +kernel)) ggX0_handOver_X0_checkRouter
set_option maxRecDepth 20000 in
theorem ggX0_handOver_X0_checkGroup : GoodIn wsX0_handOver wsX0_checkGroup := goodIn_ca (goodIn_r _ [12, 8, 9] (by decide +kernel) (by decide +kernel)) (goodIn_sub (fun _ h => List.mem_cons_of_mem _ (List.mem_append_right _ h)) (by decide +kernel))
set_option maxRecDepth 20000 in
theorem gX0_handOver_X0_checkGroup : GoodIn wsX0_handOver (va_wsS RX0 63 yX0_checkGroup wsX0_checkGroup) := goodIn_app (goodIn_of _ (by decide +kernel)) ggX0_handOver_X0_checkGroup
set_option maxRecDepth 20000 in
theorem ggX0_handOver_X0_placeOf : GoodIn wsX0_handOver wsX0_placeOf := goodIn_r _ [15] (by decide +kernel) (by decide +kernel)
set_option maxRecDepth 20000 in
theorem gX0_handOver_X0_placeOf : GoodIn wsX0_handOver (va_wsS RX0 70 yX0_placeOf wsX0_placeOf) := goodIn_app (goodIn_of _ (by decide +kernel)) ggX0_handOver_X0_placeOf
set_option maxRecDepth 20000 in
theorem ggX0_handOver_X0_becomeBackup : GoodIn wsX0_handOver wsX0_becomeBackup := goodIn_r _ [19, 3, 20, 21, 13, 14, 6, 15, 22, 23, 24, 25, 26, 27, 28, 29, 30, 31, 32, 33, 34, 35, 36, 37, 38, 39, 40, 41, 42, 43, 44, 68, 69, 70, 71, 72, 73, 74, 75, 76, 77, 78, 79, 80, 81, 82, 83, 84, 85] (by decide +kernel) (by decide +kernel)
set_option maxRecDepth 20000 in
theorem gX0_handOver_X0_becomeBackup : GoodIn wsX0_handOver (wsV RX0 103 RX0 yX0_becomeBackup wsX0_becomeBackup) := goodIn_app (goodIn_of _ (by decide +kernel)) ggX0_handOver_X0_becomeBackup
set_option maxRecDepth 20000 in
theorem ggX0_handOver_X0_advertise : GoodIn wsX0_handOver wsX0_advertise := goodIn_r _ [48, 49, 50, 3, 13, 14, 6, 15, 51, 52, 53, 54, 22, 23, 24, 25, 26, 27, 28, 29, 30, 31, 32, 33, 34, 35, 16, 17, 18, 19, 20, 21, 36, 37, 38, 39, 40, 41, 42, 43, 44, 55, 56, 57, 58, 59, 60, 61, 62, 63, 64, 65, 66, 67, 68, 69, 70, 71, 72, 73, 74, 75, 76, 77, 78, 79, 80, 81, 82, 83, 84, 85] (by decide +kernel) (by decide +kernel)
set_option maxRecDepth 20000 in
theorem gX0_handOver_X0_advertise : GoodIn wsX0_handOver (wsV RX0 74 RX0 yX0_advertise wsX0_advertise) := goodIn_app (goodIn_of _ (by decide +kernel)) ggX0_handOver_X0_advertise
theorem dX0_handOver_0 : decode cX0_handOver 0 = .ok (.iload_n 1, 1) := by decide +kernel
theorem dX0_handOver_1 : decode cX0_handOver 1 = .ok (.invokestatic 59, 3) := by decide +kernel
theorem dX0_handOver_4 : decode cX0_handOver 4 = .ok (.iload_n 2, 1) := by decide +kernel
theorem dX0_handOver_5 : decode cX0_handOver 5 = .ok (.invokestatic 63, 3) := by decide +kernel
theorem dX0_handOver_8 : decode cX0_handOver 8 = .ok (.aload_n 0, 1) := by decide +kernel
theorem dX0_handOver_9 : decode cX0_handOver 9 = .ok (.getfield 41, 3) := by decide +kernel
theorem dX0_handOver_12 : decode cX0_handOver 12 = .ok (.iload_n 1, 1) := by decide +kernel
theorem dX0_handOver_13 : decode cX0_handOver 13 = .ok (.iload_n 2, 1) := by decide +kernel
theorem dX0_handOver_14 : decode cX0_handOver 14 = .ok (.invokestatic 70, 3) := by decide +kernel
theorem dX0_handOver_17 : decode cX0_handOver 17 = .ok (.iaload, 1) := by decide +kernel
theorem dX0_handOver_18 : decode cX0_handOver 18 = .ok (.iconst 2, 1) := by decide +kernel
theorem dX0_handOver_19 : decode cX0_handOver 19 = .ok (.if_icmp .eq 13, 3) := by decide +kernel
theorem dX0_handOver_22 : decode cX0_handOver 22 = .ok (.new 94, 3) := by decide +kernel
theorem dX0_handOver_25 : decode cX0_handOver 25 = .ok (.dup, 1) := by decide +kernel
theorem dX0_handOver_26 : decode cX0_handOver 26 = .ok (.ldc 101, 2) := by decide +kernel
theorem dX0_handOver_28 : decode cX0_handOver 28 = .ok (.invokespecial 98, 3) := by decide +kernel
theorem dX0_handOver_31 : decode cX0_handOver 31 = .ok (.athrow, 1) := by decide +kernel
theorem dX0_handOver_32 : decode cX0_handOver 32 = .ok (.aload_n 0, 1) := by decide +kernel
theorem dX0_handOver_33 : decode cX0_handOver 33 = .ok (.iload_n 1, 1) := by decide +kernel
theorem dX0_handOver_34 : decode cX0_handOver 34 = .ok (.iload_n 2, 1) := by decide +kernel
theorem dX0_handOver_35 : decode cX0_handOver 35 = .ok (.invokevirtual 103, 3) := by decide +kernel
theorem dX0_handOver_38 : decode cX0_handOver 38 = .ok (.aload_n 0, 1) := by decide +kernel
theorem dX0_handOver_39 : decode cX0_handOver 39 = .ok (.iload_n 1, 1) := by decide +kernel
theorem dX0_handOver_40 : decode cX0_handOver 40 = .ok (.iload_n 2, 1) := by decide +kernel
theorem dX0_handOver_41 : decode cX0_handOver 41 = .ok (.iconst 0, 1) := by decide +kernel
theorem dX0_handOver_42 : decode cX0_handOver 42 = .ok (.invokevirtual 74, 3) := by decide +kernel
theorem dX0_handOver_45 : decode cX0_handOver 45 = .ok (.return_, 1) := by decide +kernel
set_option maxRecDepth 20000 in
theorem ggX0_serve_X0_checkGroup : GoodIn wsX0_serve wsX0_checkGroup := goodIn_ca (goodIn_r _ [6, 7, 8] (by decide +kernel) (by decide +kernel)) (goodIn_sub (fun _ h => List.mem_cons_of_mem _ (List.mem_append_right _ h)) (by decide +kernel))
set_option maxRecDepth 20000 in
theorem gX0_serve_X0_checkGroup : GoodIn wsX0_serve (va_wsS RX0 63 yX0_checkGroup wsX0_checkGroup) := goodIn_app (goodIn_of _ (by decide +kernel)) ggX0_serve_X0_checkGroup
set_option maxRecDepth 20000 in
theorem ggX0_serve_X0_checkRange : GoodIn wsX0_serve wsX0_checkRange := goodIn_ca (goodIn_r _ [11, 7, 8] (by decide +kernel) (by decide +kernel)) (goodIn_sub (fun _ h => List.mem_cons_of_mem _ (List.mem_append_right _ h)) (by decide +kernel))
set_option maxRecDepth 20000 in
theorem gX0_serve_X0_checkRange : GoodIn wsX0_serve (va_wsS RX0 66 yX0_checkRange wsX0_checkRange) := goodIn_app (goodIn_of _ (by decide +kernel)) ggX0_serve_X0_checkRange
set_option maxRecDepth 20000 in
theorem ggX0_serve_X0_placeOf : GoodIn wsX0_serve wsX0_placeOf := goodIn_r _ [14] (by decide +kernel) (by decide +kernel)
set_option maxRecDepth 20000 in
theorem gX0_serve_X0_placeOf : GoodIn wsX0_serve (va_wsS RX0 70 yX0_placeOf wsX0_placeOf) := goodIn_app (goodIn_of _ (by decide +kernel)) ggX0_serve_X0_placeOf
theorem dX0_serve_0 : decode cX0_serve 0 = .ok (.iload_n 1, 1) := by decide +kernel
theorem dX0_serve_1 : decode cX0_serve 1 = .ok (.invokestatic 63, 3) := by decide +kernel
theorem dX0_serve_4 : decode cX0_serve 4 = .ok (.iload_n 2, 1) := by decide +kernel
theorem dX0_serve_5 : decode cX0_serve 5 = .ok (.iconst 1, 1) := by decide +kernel
theorem dX0_serve_6 : decode cX0_serve 6 = .ok (.bipush 100, 2) := by decide +kernel
theorem dX0_serve_8 : decode cX0_serve 8 = .ok (.invokestatic 66, 3) := by decide +kernel
theorem dX0_serve_11 : decode cX0_serve 11 = .ok (.iconst 0, 1) := by decide +kernel
theorem dX0_serve_12 : decode cX0_serve 12 = .ok (.istore_n 3, 1) := by decide +kernel
theorem dX0_serve_13 : decode cX0_serve 13 = .ok (.iconst 0, 1) := by decide +kernel
theorem dX0_serve_14 : decode cX0_serve 14 = .ok (.istore 4, 2) := by decide +kernel
theorem dX0_serve_16 : decode cX0_serve 16 = .ok (.iload 4, 2) := by decide +kernel
theorem dX0_serve_18 : decode cX0_serve 18 = .ok (.iconst 4, 1) := by decide +kernel
theorem dX0_serve_19 : decode cX0_serve 19 = .ok (.if_icmp .ge 42, 3) := by decide +kernel
theorem dX0_serve_22 : decode cX0_serve 22 = .ok (.iload 4, 2) := by decide +kernel
theorem dX0_serve_24 : decode cX0_serve 24 = .ok (.iload_n 1, 1) := by decide +kernel
theorem dX0_serve_25 : decode cX0_serve 25 = .ok (.invokestatic 70, 3) := by decide +kernel
theorem dX0_serve_28 : decode cX0_serve 28 = .ok (.istore 5, 2) := by decide +kernel
theorem dX0_serve_30 : decode cX0_serve 30 = .ok (.aload_n 0, 1) := by decide +kernel
theorem dX0_serve_31 : decode cX0_serve 31 = .ok (.getfield 41, 3) := by decide +kernel
theorem dX0_serve_34 : decode cX0_serve 34 = .ok (.iload 5, 2) := by decide +kernel
theorem dX0_serve_36 : decode cX0_serve 36 = .ok (.iaload, 1) := by decide +kernel
theorem dX0_serve_37 : decode cX0_serve 37 = .ok (.iconst 2, 1) := by decide +kernel
theorem dX0_serve_38 : decode cX0_serve 38 = .ok (.if_icmp .ne 17, 3) := by decide +kernel
theorem dX0_serve_41 : decode cX0_serve 41 = .ok (.aload_n 0, 1) := by decide +kernel
theorem dX0_serve_42 : decode cX0_serve 42 = .ok (.getfield 50, 3) := by decide +kernel
theorem dX0_serve_45 : decode cX0_serve 45 = .ok (.iload 5, 2) := by decide +kernel
theorem dX0_serve_47 : decode cX0_serve 47 = .ok (.dup2, 1) := by decide +kernel
theorem dX0_serve_48 : decode cX0_serve 48 = .ok (.iaload, 1) := by decide +kernel
theorem dX0_serve_49 : decode cX0_serve 49 = .ok (.iload_n 2, 1) := by decide +kernel
theorem dX0_serve_50 : decode cX0_serve 50 = .ok (.iadd, 1) := by decide +kernel
theorem dX0_serve_51 : decode cX0_serve 51 = .ok (.iastore, 1) := by decide +kernel
theorem dX0_serve_52 : decode cX0_serve 52 = .ok (.iinc 3 1, 3) := by decide +kernel
theorem dX0_serve_55 : decode cX0_serve 55 = .ok (.iinc 4 1, 3) := by decide +kernel
theorem dX0_serve_58 : decode cX0_serve 58 = .ok (.goto (-42), 3) := by decide +kernel
theorem dX0_serve_61 : decode cX0_serve 61 = .ok (.iload_n 3, 1) := by decide +kernel
theorem dX0_serve_62 : decode cX0_serve 62 = .ok (.ireturn, 1) := by decide +kernel
set_option maxRecDepth 20000 in
theorem ggX0_tick_X0_checkRange : GoodIn wsX0_tick wsX0_checkRange := goodIn_ca (goodIn_r _ [5, 6, 7] (by decide +kernel) (by decide +kernel)) (goodIn_sub (fun _ h => List.mem_cons_of_mem _ (List.mem_append_right _ h)) (by decide +kernel))
set_option maxRecDepth 20000 in
theorem gX0_tick_X0_checkRange : GoodIn wsX0_tick (va_wsS RX0 66 yX0_checkRange wsX0_checkRange) := goodIn_app (goodIn_of _ (by decide +kernel)) ggX0_tick_X0_checkRange
set_option maxRecDepth 20000 in
theorem ggX0_tick_X0_runMasters : GoodIn wsX0_tick wsX0_runMasters := goodIn_r _ [11, 12, 13, 14, 15, 16, 4, 17, 18, 19, 20, 21, 22, 23, 24, 25, 26, 27, 28, 29, 30, 31, 32, 33, 34, 35, 36, 37, 38, 39, 40, 41, 42, 43, 44, 45, 46, 47, 48, 49, 50, 51, 52, 53, 54, 55, 56, 57, 58, 59, 60, 61, 62, 63, 64, 65, 66, 67, 82, 83, 84, 85, 86, 87, 88, 89, 90, 91, 92, 93, 94, 95, 96, 97, 98, 99] (by decide +kernel) (by decide +kernel)
set_option maxRecDepth 20000 in
theorem gX0_tick_X0_runMasters : GoodIn wsX0_tick (wsV RX0 106 RX0 yX0_runMasters wsX0_runMasters) := goodIn_app (goodIn_of _ (by decide +kernel)) ggX0_tick_X0_runMasters
set_option maxRecDepth 20000 in
theorem ggX0_tick_X0_runBackups : GoodIn wsX0_tick wsX0_runBackups := goodIn_r _ [71, 12, 13, 72, 14, 15, 16, 4, 17, 18, 19, 20, 21, 22, 23, 24, 25, 26, 27, 28, 29, 30, 31, 32, 33, 34, 35, 36, 37, 38, 39, 40, 41, 42, 43, 44, 45, 46, 47, 48, 49, 50, 51, 52, 53, 54, 55, 56, 57, 58, 59, 60, 61, 62, 63, 64, 65, 66, 67, 82, 83, 84, 85, 86, 87, 88, 89, 90, 91, 92, 93, 94, 95, 96, 97, 98, 99] (by decide +kernel) (by decide +kernel)
set_option maxRecDepth 20000 in
theorem gX0_tick_X0_runBackups : GoodIn wsX0_tick (wsV RX0 109 RX0 yX0_runBackups wsX0_runBackups) := goodIn_app (goodIn_of _ (by decide +kernel)) ggX0_tick_X0_runBackups
set_option maxRecDepth 20000 in
theorem ggX0_tick_X0_noteGap : GoodIn wsX0_tick wsX0_noteGap := goodIn_r _ [76, 77, 78, 79, 80, 4, 81, 12, 15, 16, 17, 82, 83, 84, 85, 86, 87, 88, 89, 90, 91, 92, 93, 94, 95, 96, 97, 98, 99] (by decide +kernel) (by decide +kernel)
set_option maxRecDepth 20000 in
theorem gX0_tick_X0_noteGap : GoodIn wsX0_tick (wsV RX0 112 RX0 yX0_noteGap wsX0_noteGap) := goodIn_app (goodIn_of _ (by decide +kernel)) ggX0_tick_X0_noteGap
theorem dX0_tick_0 : decode cX0_tick 0 = .ok (.iload_n 1, 1) := by decide +kernel
theorem dX0_tick_1 : decode cX0_tick 1 = .ok (.iconst 1, 1) := by decide +kernel
theorem dX0_tick_2 : decode cX0_tick 2 = .ok (.bipush 50, 2) := by decide +kernel
theorem dX0_tick_4 : decode cX0_tick 4 = .ok (.invokestatic 66, 3) := by decide +kernel
theorem dX0_tick_7 : decode cX0_tick 7 = .ok (.iconst 0, 1) := by decide +kernel
theorem dX0_tick_8 : decode cX0_tick 8 = .ok (.istore_n 2, 1) := by decide +kernel
theorem dX0_tick_9 : decode cX0_tick 9 = .ok (.iload_n 2, 1) := by decide +kernel
theorem dX0_tick_10 : decode cX0_tick 10 = .ok (.iload_n 1, 1) := by decide +kernel
theorem dX0_tick_11 : decode cX0_tick 11 = .ok (.if_icmp .ge 37, 3) := by decide +kernel
theorem dX0_tick_14 : decode cX0_tick 14 = .ok (.iconst 0, 1) := by decide +kernel
theorem dX0_tick_15 : decode cX0_tick 15 = .ok (.istore_n 3, 1) := by decide +kernel
theorem dX0_tick_16 : decode cX0_tick 16 = .ok (.iload_n 3, 1) := by decide +kernel
theorem dX0_tick_17 : decode cX0_tick 17 = .ok (.iconst 3, 1) := by decide +kernel
theorem dX0_tick_18 : decode cX0_tick 18 = .ok (.if_icmp .ge 24, 3) := by decide +kernel
theorem dX0_tick_21 : decode cX0_tick 21 = .ok (.aload_n 0, 1) := by decide +kernel
theorem dX0_tick_22 : decode cX0_tick 22 = .ok (.iload_n 3, 1) := by decide +kernel
theorem dX0_tick_23 : decode cX0_tick 23 = .ok (.invokevirtual 106, 3) := by decide +kernel
theorem dX0_tick_26 : decode cX0_tick 26 = .ok (.aload_n 0, 1) := by decide +kernel
theorem dX0_tick_27 : decode cX0_tick 27 = .ok (.iload_n 3, 1) := by decide +kernel
theorem dX0_tick_28 : decode cX0_tick 28 = .ok (.invokevirtual 109, 3) := by decide +kernel
theorem dX0_tick_31 : decode cX0_tick 31 = .ok (.aload_n 0, 1) := by decide +kernel
theorem dX0_tick_32 : decode cX0_tick 32 = .ok (.iload_n 3, 1) := by decide +kernel
theorem dX0_tick_33 : decode cX0_tick 33 = .ok (.invokevirtual 112, 3) := by decide +kernel
theorem dX0_tick_36 : decode cX0_tick 36 = .ok (.iinc 3 1, 3) := by decide +kernel
theorem dX0_tick_39 : decode cX0_tick 39 = .ok (.goto (-23), 3) := by decide +kernel
theorem dX0_tick_42 : decode cX0_tick 42 = .ok (.iinc 2 1, 3) := by decide +kernel
theorem dX0_tick_45 : decode cX0_tick 45 = .ok (.goto (-36), 3) := by decide +kernel
theorem dX0_tick_48 : decode cX0_tick 48 = .ok (.aload_n 0, 1) := by decide +kernel
theorem dX0_tick_49 : decode cX0_tick 49 = .ok (.dup, 1) := by decide +kernel
theorem dX0_tick_50 : decode cX0_tick 50 = .ok (.getfield 115, 3) := by decide +kernel
theorem dX0_tick_53 : decode cX0_tick 53 = .ok (.iload_n 1, 1) := by decide +kernel
theorem dX0_tick_54 : decode cX0_tick 54 = .ok (.iadd, 1) := by decide +kernel
theorem dX0_tick_55 : decode cX0_tick 55 = .ok (.putfield 115, 3) := by decide +kernel
theorem dX0_tick_58 : decode cX0_tick 58 = .ok (.aload_n 0, 1) := by decide +kernel
theorem dX0_tick_59 : decode cX0_tick 59 = .ok (.getfield 115, 3) := by decide +kernel
theorem dX0_tick_62 : decode cX0_tick 62 = .ok (.ireturn, 1) := by decide +kernel
set_option maxRecDepth 20000 in
theorem ggX0_state_X0_checkRouter : GoodIn wsX0_state wsX0_checkRouter := goodIn_ca (goodIn_r _ [5, 6, 7] (by decide +kernel) (by decide +kernel)) (goodIn_sub (fun _ h => List.mem_cons_of_mem _ (List.mem_append_right _ h)) (by decide +kernel))
set_option maxRecDepth 20000 in
theorem gX0_state_X0_checkRouter : GoodIn wsX0_state (va_wsS RX0 59 yX0_checkRouter wsX0_checkRouter) := goodIn_app (goodIn_of _ (by decide +kernel)) ggX0_state_X0_checkRouter
set_option maxRecDepth 20000 in
theorem ggX0_state_X0_checkGroup : GoodIn wsX0_state wsX0_checkGroup := goodIn_ca (goodIn_r _ [10, 6, 7] (by decide +kernel) (by decide +kernel)) (goodIn_sub (fun _ h => List.mem_cons_of_mem _ (List.mem_append_right _ h)) (by decide +kernel))
set_option maxRecDepth 20000 in
theorem gX0_state_X0_checkGroup : GoodIn wsX0_state (va_wsS RX0 63 yX0_checkGroup wsX0_checkGroup) := goodIn_app (goodIn_of _ (by decide +kernel)) ggX0_state_X0_checkGroup
set_option maxRecDepth 20000 in
theorem ggX0_state_X0_placeOf : GoodIn wsX0_state wsX0_placeOf := goodIn_r _ [13] (by decide +kernel) (by decide +kernel)
set_option maxRecDepth 20000 in
theorem gX0_state_X0_placeOf : GoodIn wsX0_state (va_wsS RX0 70 yX0_placeOf wsX0_placeOf) := goodIn_app (goodIn_of _ (by decide +kernel)) ggX0_state_X0_placeOf
theorem dX0_state_0 : decode cX0_state 0 = .ok (.iload_n 1, 1) := by decide +kernel
theorem dX0_state_1 : decode cX0_state 1 = .ok (.invokestatic 59, 3) := by decide +kernel
theorem dX0_state_4 : decode cX0_state 4 = .ok (.iload_n 2, 1) := by decide +kernel
theorem dX0_state_5 : decode cX0_state 5 = .ok (.invokestatic 63, 3) := by decide +kernel
theorem dX0_state_8 : decode cX0_state 8 = .ok (.aload_n 0, 1) := by decide +kernel
theorem dX0_state_9 : decode cX0_state 9 = .ok (.getfield 41, 3) := by decide +kernel
theorem dX0_state_12 : decode cX0_state 12 = .ok (.iload_n 1, 1) := by decide +kernel
theorem dX0_state_13 : decode cX0_state 13 = .ok (.iload_n 2, 1) := by decide +kernel
theorem dX0_state_14 : decode cX0_state 14 = .ok (.invokestatic 70, 3) := by decide +kernel
theorem dX0_state_17 : decode cX0_state 17 = .ok (.iaload, 1) := by decide +kernel
theorem dX0_state_18 : decode cX0_state 18 = .ok (.ireturn, 1) := by decide +kernel
set_option maxRecDepth 20000 in
theorem ggX0_priority_X0_checkRouter : GoodIn wsX0_priority wsX0_checkRouter := goodIn_ca (goodIn_r _ [5, 6, 7] (by decide +kernel) (by decide +kernel)) (goodIn_sub (fun _ h => List.mem_cons_of_mem _ (List.mem_append_right _ h)) (by decide +kernel))
set_option maxRecDepth 20000 in
theorem gX0_priority_X0_checkRouter : GoodIn wsX0_priority (va_wsS RX0 59 yX0_checkRouter wsX0_checkRouter) := goodIn_app (goodIn_of _ (by decide +kernel)) ggX0_priority_X0_checkRouter
set_option maxRecDepth 20000 in
theorem ggX0_priority_X0_checkGroup : GoodIn wsX0_priority wsX0_checkGroup := goodIn_ca (goodIn_r _ [10, 6, 7] (by decide +kernel) (by decide +kernel)) (goodIn_sub (fun _ h => List.mem_cons_of_mem _ (List.mem_append_right _ h)) (by decide +kernel))
set_option maxRecDepth 20000 in
theorem gX0_priority_X0_checkGroup : GoodIn wsX0_priority (va_wsS RX0 63 yX0_checkGroup wsX0_checkGroup) := goodIn_app (goodIn_of _ (by decide +kernel)) ggX0_priority_X0_checkGroup
set_option maxRecDepth 20000 in
theorem ggX0_priority_X0_placeOf : GoodIn wsX0_priority wsX0_placeOf := goodIn_r _ [13] (by decide +kernel) (by decide +kernel)
set_option maxRecDepth 20000 in
theorem gX0_priority_X0_placeOf : GoodIn wsX0_priority (va_wsS RX0 70 yX0_placeOf wsX0_placeOf) := goodIn_app (goodIn_of _ (by decide +kernel)) ggX0_priority_X0_placeOf
set_option maxRecDepth 20000 in
theorem ggX0_priority_X0_loweredPriority : GoodIn wsX0_priority wsX0_loweredPriority := goodIn_r _ [17, 18, 19, 20, 21, 22, 23, 24, 11, 12, 4, 13, 25, 26, 27, 28, 29, 30, 31, 32, 33, 34, 35, 36, 37, 38, 39, 40, 41, 42, 43, 44, 45] (by decide +kernel) (by decide +kernel)
set_option maxRecDepth 20000 in
theorem gX0_priority_X0_loweredPriority : GoodIn wsX0_priority (wsV RX0 119 RX0 yX0_loweredPriority wsX0_loweredPriority) := goodIn_app (goodIn_of _ (by decide +kernel)) ggX0_priority_X0_loweredPriority
theorem dX0_priority_0 : decode cX0_priority 0 = .ok (.iload_n 1, 1) := by decide +kernel
theorem dX0_priority_1 : decode cX0_priority 1 = .ok (.invokestatic 59, 3) := by decide +kernel
theorem dX0_priority_4 : decode cX0_priority 4 = .ok (.iload_n 2, 1) := by decide +kernel
theorem dX0_priority_5 : decode cX0_priority 5 = .ok (.invokestatic 63, 3) := by decide +kernel
theorem dX0_priority_8 : decode cX0_priority 8 = .ok (.aload_n 0, 1) := by decide +kernel
theorem dX0_priority_9 : decode cX0_priority 9 = .ok (.getfield 41, 3) := by decide +kernel
theorem dX0_priority_12 : decode cX0_priority 12 = .ok (.iload_n 1, 1) := by decide +kernel
theorem dX0_priority_13 : decode cX0_priority 13 = .ok (.iload_n 2, 1) := by decide +kernel
theorem dX0_priority_14 : decode cX0_priority 14 = .ok (.invokestatic 70, 3) := by decide +kernel
theorem dX0_priority_17 : decode cX0_priority 17 = .ok (.iaload, 1) := by decide +kernel
theorem dX0_priority_18 : decode cX0_priority 18 = .ok (.ifCond .ne 7, 3) := by decide +kernel
theorem dX0_priority_21 : decode cX0_priority 21 = .ok (.iconst 0, 1) := by decide +kernel
theorem dX0_priority_22 : decode cX0_priority 22 = .ok (.goto 9, 3) := by decide +kernel
theorem dX0_priority_25 : decode cX0_priority 25 = .ok (.aload_n 0, 1) := by decide +kernel
theorem dX0_priority_26 : decode cX0_priority 26 = .ok (.iload_n 1, 1) := by decide +kernel
theorem dX0_priority_27 : decode cX0_priority 27 = .ok (.iload_n 2, 1) := by decide +kernel
theorem dX0_priority_28 : decode cX0_priority 28 = .ok (.invokevirtual 119, 3) := by decide +kernel
theorem dX0_priority_31 : decode cX0_priority 31 = .ok (.ireturn, 1) := by decide +kernel
set_option maxRecDepth 20000 in
theorem ggX0_timer_X0_checkRouter : GoodIn wsX0_timer wsX0_checkRouter := goodIn_ca (goodIn_r _ [8, 9, 10] (by decide +kernel) (by decide +kernel)) (goodIn_sub (fun _ h => List.mem_cons_of_mem _ (List.mem_append_right _ h)) (by decide +kernel))
set_option maxRecDepth 20000 in
theorem gX0_timer_X0_checkRouter : GoodIn wsX0_timer (va_wsS RX0 59 yX0_checkRouter wsX0_checkRouter) := goodIn_app (goodIn_of _ (by decide +kernel)) ggX0_timer_X0_checkRouter
set_option maxRecDepth 20000 in
theorem ggX0_timer_X0_checkGroup : GoodIn wsX0_timer wsX0_checkGroup := goodIn_ca (goodIn_r _ [13, 9, 10] (by decide +kernel) (by decide +kernel)) (goodIn_sub (fun _ h => List.mem_cons_of_mem _ (List.mem_append_right _ h)) (by decide +kernel))
set_option maxRecDepth 20000 in
theorem gX0_timer_X0_checkGroup : GoodIn wsX0_timer (va_wsS RX0 63 yX0_checkGroup wsX0_checkGroup) := goodIn_app (goodIn_of _ (by decide +kernel)) ggX0_timer_X0_checkGroup
set_option maxRecDepth 20000 in
theorem ggX0_timer_X0_placeOf : GoodIn wsX0_timer wsX0_placeOf := goodIn_r _ [16] (by decide +kernel) (by decide +kernel)
set_option maxRecDepth 20000 in
theorem gX0_timer_X0_placeOf : GoodIn wsX0_timer (va_wsS RX0 70 yX0_placeOf wsX0_placeOf) := goodIn_app (goodIn_of _ (by decide +kernel)) ggX0_timer_X0_placeOf
theorem dX0_timer_0 : decode cX0_timer 0 = .ok (.iload_n 1, 1) := by decide +kernel
theorem dX0_timer_1 : decode cX0_timer 1 = .ok (.invokestatic 59, 3) := by decide +kernel
theorem dX0_timer_4 : decode cX0_timer 4 = .ok (.iload_n 2, 1) := by decide +kernel
theorem dX0_timer_5 : decode cX0_timer 5 = .ok (.invokestatic 63, 3) := by decide +kernel
theorem dX0_timer_8 : decode cX0_timer 8 = .ok (.aload_n 0, 1) := by decide +kernel
theorem dX0_timer_9 : decode cX0_timer 9 = .ok (.getfield 41, 3) := by decide +kernel
theorem dX0_timer_12 : decode cX0_timer 12 = .ok (.iload_n 1, 1) := by decide +kernel
theorem dX0_timer_13 : decode cX0_timer 13 = .ok (.iload_n 2, 1) := by decide +kernel
theorem dX0_timer_14 : decode cX0_timer 14 = .ok (.invokestatic 70, 3) := by decide +kernel
theorem dX0_timer_17 : decode cX0_timer 17 = .ok (.iaload, 1) := by decide +kernel
theorem dX0_timer_18 : decode cX0_timer 18 = .ok (.ifCond .ne 13, 3) := by decide +kernel
theorem dX0_timer_21 : decode cX0_timer 21 = .ok (.new 94, 3) := by decide +kernel
theorem dX0_timer_24 : decode cX0_timer 24 = .ok (.dup, 1) := by decide +kernel
theorem dX0_timer_25 : decode cX0_timer 25 = .ok (.ldc 122, 2) := by decide +kernel
theorem dX0_timer_27 : decode cX0_timer 27 = .ok (.invokespecial 98, 3) := by decide +kernel
theorem dX0_timer_30 : decode cX0_timer 30 = .ok (.athrow, 1) := by decide +kernel
theorem dX0_timer_31 : decode cX0_timer 31 = .ok (.aload_n 0, 1) := by decide +kernel
theorem dX0_timer_32 : decode cX0_timer 32 = .ok (.getfield 44, 3) := by decide +kernel
theorem dX0_timer_35 : decode cX0_timer 35 = .ok (.iload_n 1, 1) := by decide +kernel
theorem dX0_timer_36 : decode cX0_timer 36 = .ok (.iload_n 2, 1) := by decide +kernel
theorem dX0_timer_37 : decode cX0_timer 37 = .ok (.invokestatic 70, 3) := by decide +kernel
theorem dX0_timer_40 : decode cX0_timer 40 = .ok (.iaload, 1) := by decide +kernel
theorem dX0_timer_41 : decode cX0_timer 41 = .ok (.ireturn, 1) := by decide +kernel
set_option maxRecDepth 20000 in
theorem ggX0_masters_X0_checkGroup : GoodIn wsX0_masters wsX0_checkGroup := goodIn_ca (goodIn_r _ [4, 5, 6] (by decide +kernel) (by decide +kernel)) (goodIn_sub (fun _ h => List.mem_cons_of_mem _ (List.mem_append_right _ h)) (by decide +kernel))
set_option maxRecDepth 20000 in
theorem gX0_masters_X0_checkGroup : GoodIn wsX0_masters (va_wsS RX0 63 yX0_checkGroup wsX0_checkGroup) := goodIn_app (goodIn_of _ (by decide +kernel)) ggX0_masters_X0_checkGroup
set_option maxRecDepth 20000 in
theorem ggX0_masters_X0_membersWith : GoodIn wsX0_masters wsX0_membersWith := goodIn_r _ [10, 11, 12, 13, 3, 14, 15, 16, 17, 18, 19, 20, 21, 22, 23, 24, 25, 26, 27, 28, 29, 30, 31, 32] (by decide +kernel) (by decide +kernel)
set_option maxRecDepth 20000 in
theorem gX0_masters_X0_membersWith : GoodIn wsX0_masters (wsV RX0 124 RX0 yX0_membersWith wsX0_membersWith) := goodIn_app (goodIn_of _ (by decide +kernel)) ggX0_masters_X0_membersWith
theorem dX0_masters_0 : decode cX0_masters 0 = .ok (.iload_n 1, 1) := by decide +kernel
theorem dX0_masters_1 : decode cX0_masters 1 = .ok (.invokestatic 63, 3) := by decide +kernel
theorem dX0_masters_4 : decode cX0_masters 4 = .ok (.aload_n 0, 1) := by decide +kernel
theorem dX0_masters_5 : decode cX0_masters 5 = .ok (.iconst 2, 1) := by decide +kernel
theorem dX0_masters_6 : decode cX0_masters 6 = .ok (.iload_n 1, 1) := by decide +kernel
theorem dX0_masters_7 : decode cX0_masters 7 = .ok (.invokevirtual 124, 3) := by decide +kernel
theorem dX0_masters_10 : decode cX0_masters 10 = .ok (.ireturn, 1) := by decide +kernel
set_option maxRecDepth 20000 in
theorem ggX0_changes_X0_checkRouter : GoodIn wsX0_changes wsX0_checkRouter := goodIn_ca (goodIn_r _ [5, 6, 7] (by decide +kernel) (by decide +kernel)) (goodIn_sub (fun _ h => List.mem_cons_of_mem _ (List.mem_append_right _ h)) (by decide +kernel))
set_option maxRecDepth 20000 in
theorem gX0_changes_X0_checkRouter : GoodIn wsX0_changes (va_wsS RX0 59 yX0_checkRouter wsX0_checkRouter) := goodIn_app (goodIn_of _ (by decide +kernel)) ggX0_changes_X0_checkRouter
set_option maxRecDepth 20000 in
theorem ggX0_changes_X0_checkGroup : GoodIn wsX0_changes wsX0_checkGroup := goodIn_ca (goodIn_r _ [10, 6, 7] (by decide +kernel) (by decide +kernel)) (goodIn_sub (fun _ h => List.mem_cons_of_mem _ (List.mem_append_right _ h)) (by decide +kernel))
set_option maxRecDepth 20000 in
theorem gX0_changes_X0_checkGroup : GoodIn wsX0_changes (va_wsS RX0 63 yX0_checkGroup wsX0_checkGroup) := goodIn_app (goodIn_of _ (by decide +kernel)) ggX0_changes_X0_checkGroup
set_option maxRecDepth 20000 in
theorem ggX0_changes_X0_placeOf : GoodIn wsX0_changes wsX0_placeOf := goodIn_r _ [13] (by decide +kernel) (by decide +kernel)
set_option maxRecDepth 20000 in
theorem gX0_changes_X0_placeOf : GoodIn wsX0_changes (va_wsS RX0 70 yX0_placeOf wsX0_placeOf) := goodIn_app (goodIn_of _ (by decide +kernel)) ggX0_changes_X0_placeOf
theorem dX0_changes_0 : decode cX0_changes 0 = .ok (.iload_n 1, 1) := by decide +kernel
theorem dX0_changes_1 : decode cX0_changes 1 = .ok (.invokestatic 59, 3) := by decide +kernel
theorem dX0_changes_4 : decode cX0_changes 4 = .ok (.iload_n 2, 1) := by decide +kernel
theorem dX0_changes_5 : decode cX0_changes 5 = .ok (.invokestatic 63, 3) := by decide +kernel
theorem dX0_changes_8 : decode cX0_changes 8 = .ok (.aload_n 0, 1) := by decide +kernel
theorem dX0_changes_9 : decode cX0_changes 9 = .ok (.getfield 53, 3) := by decide +kernel
theorem dX0_changes_12 : decode cX0_changes 12 = .ok (.iload_n 1, 1) := by decide +kernel
theorem dX0_changes_13 : decode cX0_changes 13 = .ok (.iload_n 2, 1) := by decide +kernel
theorem dX0_changes_14 : decode cX0_changes 14 = .ok (.invokestatic 70, 3) := by decide +kernel
theorem dX0_changes_17 : decode cX0_changes 17 = .ok (.iaload, 1) := by decide +kernel
theorem dX0_changes_18 : decode cX0_changes 18 = .ok (.ireturn, 1) := by decide +kernel
set_option maxRecDepth 20000 in
theorem ggX0_gaps_X0_checkGroup : GoodIn wsX0_gaps wsX0_checkGroup := goodIn_ca (goodIn_r _ [5, 6, 7] (by decide +kernel) (by decide +kernel)) (goodIn_sub (fun _ h => List.mem_cons_of_mem _ (List.mem_append_right _ h)) (by decide +kernel))
set_option maxRecDepth 20000 in
theorem gX0_gaps_X0_checkGroup : GoodIn wsX0_gaps (va_wsS RX0 63 yX0_checkGroup wsX0_checkGroup) := goodIn_app (goodIn_of _ (by decide +kernel)) ggX0_gaps_X0_checkGroup
theorem dX0_gaps_0 : decode cX0_gaps 0 = .ok (.iload_n 1, 1) := by decide +kernel
theorem dX0_gaps_1 : decode cX0_gaps 1 = .ok (.invokestatic 63, 3) := by decide +kernel
theorem dX0_gaps_4 : decode cX0_gaps 4 = .ok (.aload_n 0, 1) := by decide +kernel
theorem dX0_gaps_5 : decode cX0_gaps 5 = .ok (.getfield 32, 3) := by decide +kernel
theorem dX0_gaps_8 : decode cX0_gaps 8 = .ok (.iload_n 1, 1) := by decide +kernel
theorem dX0_gaps_9 : decode cX0_gaps 9 = .ok (.iaload, 1) := by decide +kernel
theorem dX0_gaps_10 : decode cX0_gaps 10 = .ok (.ireturn, 1) := by decide +kernel
set_option maxRecDepth 20000 in
theorem ggX0_sent_X0_checkGroup : GoodIn wsX0_sent wsX0_checkGroup := goodIn_ca (goodIn_r _ [5, 6, 7] (by decide +kernel) (by decide +kernel)) (goodIn_sub (fun _ h => List.mem_cons_of_mem _ (List.mem_append_right _ h)) (by decide +kernel))
set_option maxRecDepth 20000 in
theorem gX0_sent_X0_checkGroup : GoodIn wsX0_sent (va_wsS RX0 63 yX0_checkGroup wsX0_checkGroup) := goodIn_app (goodIn_of _ (by decide +kernel)) ggX0_sent_X0_checkGroup
theorem dX0_sent_0 : decode cX0_sent 0 = .ok (.iload_n 1, 1) := by decide +kernel
theorem dX0_sent_1 : decode cX0_sent 1 = .ok (.invokestatic 63, 3) := by decide +kernel
theorem dX0_sent_4 : decode cX0_sent 4 = .ok (.aload_n 0, 1) := by decide +kernel
theorem dX0_sent_5 : decode cX0_sent 5 = .ok (.getfield 35, 3) := by decide +kernel
theorem dX0_sent_8 : decode cX0_sent 8 = .ok (.iload_n 1, 1) := by decide +kernel
theorem dX0_sent_9 : decode cX0_sent 9 = .ok (.iaload, 1) := by decide +kernel
theorem dX0_sent_10 : decode cX0_sent 10 = .ok (.ireturn, 1) := by decide +kernel
set_option maxRecDepth 20000 in
theorem ggX0_known_X0_checkRouter : GoodIn wsX0_known wsX0_checkRouter := goodIn_ca (goodIn_r _ [5, 6, 7] (by decide +kernel) (by decide +kernel)) (goodIn_sub (fun _ h => List.mem_cons_of_mem _ (List.mem_append_right _ h)) (by decide +kernel))
set_option maxRecDepth 20000 in
theorem gX0_known_X0_checkRouter : GoodIn wsX0_known (va_wsS RX0 59 yX0_checkRouter wsX0_checkRouter) := goodIn_app (goodIn_of _ (by decide +kernel)) ggX0_known_X0_checkRouter
set_option maxRecDepth 20000 in
theorem ggX0_known_X0_checkGroup : GoodIn wsX0_known wsX0_checkGroup := goodIn_ca (goodIn_r _ [10, 6, 7] (by decide +kernel) (by decide +kernel)) (goodIn_sub (fun _ h => List.mem_cons_of_mem _ (List.mem_append_right _ h)) (by decide +kernel))
set_option maxRecDepth 20000 in
theorem gX0_known_X0_checkGroup : GoodIn wsX0_known (va_wsS RX0 63 yX0_checkGroup wsX0_checkGroup) := goodIn_app (goodIn_of _ (by decide +kernel)) ggX0_known_X0_checkGroup
set_option maxRecDepth 20000 in
theorem ggX0_known_X0_placeOf : GoodIn wsX0_known wsX0_placeOf := goodIn_r _ [13] (by decide +kernel) (by decide +kernel)
set_option maxRecDepth 20000 in
theorem gX0_known_X0_placeOf : GoodIn wsX0_known (va_wsS RX0 70 yX0_placeOf wsX0_placeOf) := goodIn_app (goodIn_of _ (by decide +kernel)) ggX0_known_X0_placeOf
theorem dX0_known_0 : decode cX0_known 0 = .ok (.iload_n 1, 1) := by decide +kernel
theorem dX0_known_1 : decode cX0_known 1 = .ok (.invokestatic 59, 3) := by decide +kernel
theorem dX0_known_4 : decode cX0_known 4 = .ok (.iload_n 2, 1) := by decide +kernel
theorem dX0_known_5 : decode cX0_known 5 = .ok (.invokestatic 63, 3) := by decide +kernel
theorem dX0_known_8 : decode cX0_known 8 = .ok (.aload_n 0, 1) := by decide +kernel
theorem dX0_known_9 : decode cX0_known 9 = .ok (.getfield 50, 3) := by decide +kernel
theorem dX0_known_12 : decode cX0_known 12 = .ok (.iload_n 1, 1) := by decide +kernel
theorem dX0_known_13 : decode cX0_known 13 = .ok (.iload_n 2, 1) := by decide +kernel
theorem dX0_known_14 : decode cX0_known 14 = .ok (.invokestatic 70, 3) := by decide +kernel
theorem dX0_known_17 : decode cX0_known 17 = .ok (.iaload, 1) := by decide +kernel
theorem dX0_known_18 : decode cX0_known 18 = .ok (.ireturn, 1) := by decide +kernel
theorem dX0_repairs_0 : decode cX0_repairs 0 = .ok (.aload_n 0, 1) := by decide +kernel
theorem dX0_repairs_1 : decode cX0_repairs 1 = .ok (.getfield 127, 3) := by decide +kernel
theorem dX0_repairs_4 : decode cX0_repairs 4 = .ok (.ireturn, 1) := by decide +kernel
set_option maxRecDepth 20000 in
theorem ggX0_isSettled_X0_checkGroup : GoodIn wsX0_isSettled wsX0_checkGroup := goodIn_ca (goodIn_r _ [4, 5, 6] (by decide +kernel) (by decide +kernel)) (goodIn_sub (fun _ h => List.mem_cons_of_mem _ (List.mem_append_right _ h)) (by decide +kernel))
set_option maxRecDepth 20000 in
theorem gX0_isSettled_X0_checkGroup : GoodIn wsX0_isSettled (va_wsS RX0 63 yX0_checkGroup wsX0_checkGroup) := goodIn_app (goodIn_of _ (by decide +kernel)) ggX0_isSettled_X0_checkGroup
set_option maxRecDepth 20000 in
theorem ggX0_isSettled_X0_membersWith : GoodIn wsX0_isSettled wsX0_membersWith := goodIn_r _ [10, 11, 12, 13, 3, 14, 20, 21, 22, 23, 24, 25, 26, 27, 28, 29, 30, 31, 32, 33, 34, 35, 36, 37] (by decide +kernel) (by decide +kernel)
set_option maxRecDepth 20000 in
theorem gX0_isSettled_X0_membersWith : GoodIn wsX0_isSettled (wsV RX0 124 RX0 yX0_membersWith wsX0_membersWith) := goodIn_app (goodIn_of _ (by decide +kernel)) ggX0_isSettled_X0_membersWith
set_option maxRecDepth 20000 in
theorem ggX0_isSettled_X0_hasJoinedMasters : GoodIn wsX0_isSettled wsX0_hasJoinedMasters := goodIn_r _ [18, 11, 19, 12, 13, 3, 14, 20, 21, 22, 23, 24, 25, 26, 27, 28, 29, 30, 31, 32, 33, 34, 35, 36, 37] (by decide +kernel) (by decide +kernel)
set_option maxRecDepth 20000 in
theorem gX0_isSettled_X0_hasJoinedMasters : GoodIn wsX0_isSettled (wsV RX0 130 RX0 yX0_hasJoinedMasters wsX0_hasJoinedMasters) := goodIn_app (goodIn_of _ (by decide +kernel)) ggX0_isSettled_X0_hasJoinedMasters
theorem dX0_isSettled_0 : decode cX0_isSettled 0 = .ok (.iload_n 1, 1) := by decide +kernel
theorem dX0_isSettled_1 : decode cX0_isSettled 1 = .ok (.invokestatic 63, 3) := by decide +kernel
theorem dX0_isSettled_4 : decode cX0_isSettled 4 = .ok (.aload_n 0, 1) := by decide +kernel
theorem dX0_isSettled_5 : decode cX0_isSettled 5 = .ok (.iconst 2, 1) := by decide +kernel
theorem dX0_isSettled_6 : decode cX0_isSettled 6 = .ok (.iload_n 1, 1) := by decide +kernel
theorem dX0_isSettled_7 : decode cX0_isSettled 7 = .ok (.invokevirtual 124, 3) := by decide +kernel
theorem dX0_isSettled_10 : decode cX0_isSettled 10 = .ok (.ifCond .ne 18, 3) := by decide +kernel
theorem dX0_isSettled_13 : decode cX0_isSettled 13 = .ok (.aload_n 0, 1) := by decide +kernel
theorem dX0_isSettled_14 : decode cX0_isSettled 14 = .ok (.iconst 1, 1) := by decide +kernel
theorem dX0_isSettled_15 : decode cX0_isSettled 15 = .ok (.iload_n 1, 1) := by decide +kernel
theorem dX0_isSettled_16 : decode cX0_isSettled 16 = .ok (.invokevirtual 124, 3) := by decide +kernel
theorem dX0_isSettled_19 : decode cX0_isSettled 19 = .ok (.ifCond .ne 7, 3) := by decide +kernel
theorem dX0_isSettled_22 : decode cX0_isSettled 22 = .ok (.iconst 1, 1) := by decide +kernel
theorem dX0_isSettled_23 : decode cX0_isSettled 23 = .ok (.goto 4, 3) := by decide +kernel
theorem dX0_isSettled_26 : decode cX0_isSettled 26 = .ok (.iconst 0, 1) := by decide +kernel
theorem dX0_isSettled_27 : decode cX0_isSettled 27 = .ok (.ireturn, 1) := by decide +kernel
theorem dX0_isSettled_28 : decode cX0_isSettled 28 = .ok (.aload_n 0, 1) := by decide +kernel
theorem dX0_isSettled_29 : decode cX0_isSettled 29 = .ok (.iload_n 1, 1) := by decide +kernel
theorem dX0_isSettled_30 : decode cX0_isSettled 30 = .ok (.invokevirtual 130, 3) := by decide +kernel
theorem dX0_isSettled_33 : decode cX0_isSettled 33 = .ok (.ifCond .ne 7, 3) := by decide +kernel
theorem dX0_isSettled_36 : decode cX0_isSettled 36 = .ok (.iconst 1, 1) := by decide +kernel
theorem dX0_isSettled_37 : decode cX0_isSettled 37 = .ok (.goto 4, 3) := by decide +kernel
theorem dX0_isSettled_40 : decode cX0_isSettled 40 = .ok (.iconst 0, 1) := by decide +kernel
theorem dX0_isSettled_41 : decode cX0_isSettled 41 = .ok (.ireturn, 1) := by decide +kernel
set_option maxRecDepth 20000 in
theorem ggX0_runMasters_X0_placeOf : GoodIn wsX0_runMasters wsX0_placeOf := goodIn_r _ [7] (by decide +kernel) (by decide +kernel)
set_option maxRecDepth 20000 in
theorem gX0_runMasters_X0_placeOf : GoodIn wsX0_runMasters (va_wsS RX0 70 yX0_placeOf wsX0_placeOf) := goodIn_app (goodIn_of _ (by decide +kernel)) ggX0_runMasters_X0_placeOf
set_option maxRecDepth 20000 in
theorem ggX0_runMasters_X0_loweredPriority : GoodIn wsX0_runMasters wsX0_loweredPriority := goodIn_r _ [11, 12, 13, 14, 15, 16, 17, 18, 4, 5, 6, 7, 19, 20, 21, 58, 59, 60, 61, 62, 63, 64, 65, 66, 67, 68, 69, 70, 71, 72, 73, 74, 75] (by decide +kernel) (by decide +kernel)
set_option maxRecDepth 20000 in
theorem gX0_runMasters_X0_loweredPriority : GoodIn wsX0_runMasters (wsV RX0 119 RX0 yX0_loweredPriority wsX0_loweredPriority) := goodIn_app (goodIn_of _ (by decide +kernel)) ggX0_runMasters_X0_loweredPriority
set_option maxRecDepth 20000 in
theorem ggX0_runMasters_X0_advertise : GoodIn wsX0_runMasters wsX0_advertise := goodIn_r _ [25, 26, 27, 1, 4, 5, 6, 7, 28, 29, 30, 31, 8, 9, 10, 11, 12, 13, 14, 15, 16, 17, 18, 19, 20, 21, 32, 33, 34, 35, 36, 2, 37, 38, 39, 40, 3, 41, 42, 43, 44, 45, 46, 47, 48, 49, 50, 51, 52, 53, 54, 55, 56, 57, 58, 59, 60, 61, 62, 63, 64, 65, 66, 67, 68, 69, 70, 71, 72, 73, 74, 75] (by decide +kernel) (by decide +kernel)
set_option maxRecDepth 20000 in
theorem gX0_runMasters_X0_advertise : GoodIn wsX0_runMasters (wsV RX0 74 RX0 yX0_advertise wsX0_advertise) := goodIn_app (goodIn_of _ (by decide +kernel)) ggX0_runMasters_X0_advertise
theorem dX0_runMasters_0 : decode cX0_runMasters 0 = .ok (.iconst 0, 1) := by decide +kernel
theorem dX0_runMasters_1 : decode cX0_runMasters 1 = .ok (.istore_n 2, 1) := by decide +kernel
theorem dX0_runMasters_2 : decode cX0_runMasters 2 = .ok (.iload_n 2, 1) := by decide +kernel
theorem dX0_runMasters_3 : decode cX0_runMasters 3 = .ok (.iconst 4, 1) := by decide +kernel
theorem dX0_runMasters_4 : decode cX0_runMasters 4 = .ok (.if_icmp .ge 68, 3) := by decide +kernel
theorem dX0_runMasters_7 : decode cX0_runMasters 7 = .ok (.iload_n 2, 1) := by decide +kernel
theorem dX0_runMasters_8 : decode cX0_runMasters 8 = .ok (.iload_n 1, 1) := by decide +kernel
theorem dX0_runMasters_9 : decode cX0_runMasters 9 = .ok (.invokestatic 70, 3) := by decide +kernel
theorem dX0_runMasters_12 : decode cX0_runMasters 12 = .ok (.istore_n 3, 1) := by decide +kernel
theorem dX0_runMasters_13 : decode cX0_runMasters 13 = .ok (.aload_n 0, 1) := by decide +kernel
theorem dX0_runMasters_14 : decode cX0_runMasters 14 = .ok (.getfield 41, 3) := by decide +kernel
theorem dX0_runMasters_17 : decode cX0_runMasters 17 = .ok (.iload_n 3, 1) := by decide +kernel
theorem dX0_runMasters_18 : decode cX0_runMasters 18 = .ok (.iaload, 1) := by decide +kernel
theorem dX0_runMasters_19 : decode cX0_runMasters 19 = .ok (.iconst 2, 1) := by decide +kernel
theorem dX0_runMasters_20 : decode cX0_runMasters 20 = .ok (.if_icmp .ne 46, 3) := by decide +kernel
theorem dX0_runMasters_23 : decode cX0_runMasters 23 = .ok (.aload_n 0, 1) := by decide +kernel
theorem dX0_runMasters_24 : decode cX0_runMasters 24 = .ok (.getfield 44, 3) := by decide +kernel
theorem dX0_runMasters_27 : decode cX0_runMasters 27 = .ok (.iload_n 3, 1) := by decide +kernel
theorem dX0_runMasters_28 : decode cX0_runMasters 28 = .ok (.dup2, 1) := by decide +kernel
theorem dX0_runMasters_29 : decode cX0_runMasters 29 = .ok (.iaload, 1) := by decide +kernel
theorem dX0_runMasters_30 : decode cX0_runMasters 30 = .ok (.iconst 1, 1) := by decide +kernel
theorem dX0_runMasters_31 : decode cX0_runMasters 31 = .ok (.isub, 1) := by decide +kernel
theorem dX0_runMasters_32 : decode cX0_runMasters 32 = .ok (.iastore, 1) := by decide +kernel
theorem dX0_runMasters_33 : decode cX0_runMasters 33 = .ok (.aload_n 0, 1) := by decide +kernel
theorem dX0_runMasters_34 : decode cX0_runMasters 34 = .ok (.getfield 44, 3) := by decide +kernel
theorem dX0_runMasters_37 : decode cX0_runMasters 37 = .ok (.iload_n 3, 1) := by decide +kernel
theorem dX0_runMasters_38 : decode cX0_runMasters 38 = .ok (.iaload, 1) := by decide +kernel
theorem dX0_runMasters_39 : decode cX0_runMasters 39 = .ok (.ifCond .ne 27, 3) := by decide +kernel
theorem dX0_runMasters_42 : decode cX0_runMasters 42 = .ok (.aload_n 0, 1) := by decide +kernel
theorem dX0_runMasters_43 : decode cX0_runMasters 43 = .ok (.iload_n 2, 1) := by decide +kernel
theorem dX0_runMasters_44 : decode cX0_runMasters 44 = .ok (.iload_n 1, 1) := by decide +kernel
theorem dX0_runMasters_45 : decode cX0_runMasters 45 = .ok (.aload_n 0, 1) := by decide +kernel
theorem dX0_runMasters_46 : decode cX0_runMasters 46 = .ok (.iload_n 2, 1) := by decide +kernel
theorem dX0_runMasters_47 : decode cX0_runMasters 47 = .ok (.iload_n 1, 1) := by decide +kernel
theorem dX0_runMasters_48 : decode cX0_runMasters 48 = .ok (.invokevirtual 119, 3) := by decide +kernel
theorem dX0_runMasters_51 : decode cX0_runMasters 51 = .ok (.invokevirtual 74, 3) := by decide +kernel
theorem dX0_runMasters_54 : decode cX0_runMasters 54 = .ok (.aload_n 0, 1) := by decide +kernel
theorem dX0_runMasters_55 : decode cX0_runMasters 55 = .ok (.getfield 44, 3) := by decide +kernel
theorem dX0_runMasters_58 : decode cX0_runMasters 58 = .ok (.iload_n 3, 1) := by decide +kernel
theorem dX0_runMasters_59 : decode cX0_runMasters 59 = .ok (.aload_n 0, 1) := by decide +kernel
theorem dX0_runMasters_60 : decode cX0_runMasters 60 = .ok (.getfield 23, 3) := by decide +kernel
theorem dX0_runMasters_63 : decode cX0_runMasters 63 = .ok (.iload_n 1, 1) := by decide +kernel
theorem dX0_runMasters_64 : decode cX0_runMasters 64 = .ok (.iaload, 1) := by decide +kernel
theorem dX0_runMasters_65 : decode cX0_runMasters 65 = .ok (.iastore, 1) := by decide +kernel
theorem dX0_runMasters_66 : decode cX0_runMasters 66 = .ok (.iinc 2 1, 3) := by decide +kernel
theorem dX0_runMasters_69 : decode cX0_runMasters 69 = .ok (.goto (-67), 3) := by decide +kernel
theorem dX0_runMasters_72 : decode cX0_runMasters 72 = .ok (.return_, 1) := by decide +kernel
set_option maxRecDepth 20000 in
theorem ggX0_runBackups_X0_placeOf : GoodIn wsX0_runBackups wsX0_placeOf := goodIn_r _ [8] (by decide +kernel) (by decide +kernel)
set_option maxRecDepth 20000 in
theorem gX0_runBackups_X0_placeOf : GoodIn wsX0_runBackups (va_wsS RX0 70 yX0_placeOf wsX0_placeOf) := goodIn_app (goodIn_of _ (by decide +kernel)) ggX0_runBackups_X0_placeOf
set_option maxRecDepth 20000 in
theorem ggX0_runBackups_X0_loweredPriority : GoodIn wsX0_runBackups wsX0_loweredPriority := goodIn_r _ [12, 13, 14, 15, 16, 17, 18, 19, 5, 6, 7, 8, 20, 21, 22, 59, 60, 61, 62, 63, 64, 65, 66, 67, 68, 69, 70, 71, 72, 73, 74, 75, 76] (by decide +kernel) (by decide +kernel)
set_option maxRecDepth 20000 in
theorem gX0_runBackups_X0_loweredPriority : GoodIn wsX0_runBackups (wsV RX0 119 RX0 yX0_loweredPriority wsX0_loweredPriority) := goodIn_app (goodIn_of _ (by decide +kernel)) ggX0_runBackups_X0_loweredPriority
set_option maxRecDepth 20000 in
theorem ggX0_runBackups_X0_advertise : GoodIn wsX0_runBackups wsX0_advertise := goodIn_r _ [26, 27, 28, 1, 5, 6, 7, 8, 29, 30, 31, 32, 9, 10, 11, 12, 13, 14, 15, 16, 17, 18, 19, 20, 21, 22, 33, 34, 35, 36, 37, 2, 38, 39, 40, 41, 4, 42, 43, 44, 45, 46, 47, 48, 49, 50, 51, 52, 53, 54, 55, 56, 57, 58, 59, 60, 61, 62, 63, 64, 65, 66, 67, 68, 69, 70, 71, 72, 73, 74, 75, 76] (by decide +kernel) (by decide +kernel)
set_option maxRecDepth 20000 in
theorem gX0_runBackups_X0_advertise : GoodIn wsX0_runBackups (wsV RX0 74 RX0 yX0_advertise wsX0_advertise) := goodIn_app (goodIn_of _ (by decide +kernel)) ggX0_runBackups_X0_advertise
theorem dX0_runBackups_0 : decode cX0_runBackups 0 = .ok (.iconst 0, 1) := by decide +kernel
theorem dX0_runBackups_1 : decode cX0_runBackups 1 = .ok (.istore_n 2, 1) := by decide +kernel
theorem dX0_runBackups_2 : decode cX0_runBackups 2 = .ok (.iload_n 2, 1) := by decide +kernel
theorem dX0_runBackups_3 : decode cX0_runBackups 3 = .ok (.iconst 4, 1) := by decide +kernel
theorem dX0_runBackups_4 : decode cX0_runBackups 4 = .ok (.if_icmp .ge 85, 3) := by decide +kernel
theorem dX0_runBackups_7 : decode cX0_runBackups 7 = .ok (.iload_n 2, 1) := by decide +kernel
theorem dX0_runBackups_8 : decode cX0_runBackups 8 = .ok (.iload_n 1, 1) := by decide +kernel
theorem dX0_runBackups_9 : decode cX0_runBackups 9 = .ok (.invokestatic 70, 3) := by decide +kernel
theorem dX0_runBackups_12 : decode cX0_runBackups 12 = .ok (.istore_n 3, 1) := by decide +kernel
theorem dX0_runBackups_13 : decode cX0_runBackups 13 = .ok (.aload_n 0, 1) := by decide +kernel
theorem dX0_runBackups_14 : decode cX0_runBackups 14 = .ok (.getfield 41, 3) := by decide +kernel
theorem dX0_runBackups_17 : decode cX0_runBackups 17 = .ok (.iload_n 3, 1) := by decide +kernel
theorem dX0_runBackups_18 : decode cX0_runBackups 18 = .ok (.iaload, 1) := by decide +kernel
theorem dX0_runBackups_19 : decode cX0_runBackups 19 = .ok (.iconst 1, 1) := by decide +kernel
theorem dX0_runBackups_20 : decode cX0_runBackups 20 = .ok (.if_icmp .ne 63, 3) := by decide +kernel
theorem dX0_runBackups_23 : decode cX0_runBackups 23 = .ok (.aload_n 0, 1) := by decide +kernel
theorem dX0_runBackups_24 : decode cX0_runBackups 24 = .ok (.getfield 44, 3) := by decide +kernel
theorem dX0_runBackups_27 : decode cX0_runBackups 27 = .ok (.iload_n 3, 1) := by decide +kernel
theorem dX0_runBackups_28 : decode cX0_runBackups 28 = .ok (.dup2, 1) := by decide +kernel
theorem dX0_runBackups_29 : decode cX0_runBackups 29 = .ok (.iaload, 1) := by decide +kernel
theorem dX0_runBackups_30 : decode cX0_runBackups 30 = .ok (.iconst 1, 1) := by decide +kernel
theorem dX0_runBackups_31 : decode cX0_runBackups 31 = .ok (.isub, 1) := by decide +kernel
theorem dX0_runBackups_32 : decode cX0_runBackups 32 = .ok (.iastore, 1) := by decide +kernel
theorem dX0_runBackups_33 : decode cX0_runBackups 33 = .ok (.aload_n 0, 1) := by decide +kernel
theorem dX0_runBackups_34 : decode cX0_runBackups 34 = .ok (.getfield 44, 3) := by decide +kernel
theorem dX0_runBackups_37 : decode cX0_runBackups 37 = .ok (.iload_n 3, 1) := by decide +kernel
theorem dX0_runBackups_38 : decode cX0_runBackups 38 = .ok (.iaload, 1) := by decide +kernel
theorem dX0_runBackups_39 : decode cX0_runBackups 39 = .ok (.ifCond .ne 44, 3) := by decide +kernel
theorem dX0_runBackups_42 : decode cX0_runBackups 42 = .ok (.aload_n 0, 1) := by decide +kernel
theorem dX0_runBackups_43 : decode cX0_runBackups 43 = .ok (.getfield 41, 3) := by decide +kernel
theorem dX0_runBackups_46 : decode cX0_runBackups 46 = .ok (.iload_n 3, 1) := by decide +kernel
theorem dX0_runBackups_47 : decode cX0_runBackups 47 = .ok (.iconst 2, 1) := by decide +kernel
theorem dX0_runBackups_48 : decode cX0_runBackups 48 = .ok (.iastore, 1) := by decide +kernel
theorem dX0_runBackups_49 : decode cX0_runBackups 49 = .ok (.aload_n 0, 1) := by decide +kernel
theorem dX0_runBackups_50 : decode cX0_runBackups 50 = .ok (.getfield 53, 3) := by decide +kernel
theorem dX0_runBackups_53 : decode cX0_runBackups 53 = .ok (.iload_n 3, 1) := by decide +kernel
theorem dX0_runBackups_54 : decode cX0_runBackups 54 = .ok (.dup2, 1) := by decide +kernel
theorem dX0_runBackups_55 : decode cX0_runBackups 55 = .ok (.iaload, 1) := by decide +kernel
theorem dX0_runBackups_56 : decode cX0_runBackups 56 = .ok (.iconst 1, 1) := by decide +kernel
theorem dX0_runBackups_57 : decode cX0_runBackups 57 = .ok (.iadd, 1) := by decide +kernel
theorem dX0_runBackups_58 : decode cX0_runBackups 58 = .ok (.iastore, 1) := by decide +kernel
theorem dX0_runBackups_59 : decode cX0_runBackups 59 = .ok (.aload_n 0, 1) := by decide +kernel
theorem dX0_runBackups_60 : decode cX0_runBackups 60 = .ok (.iload_n 2, 1) := by decide +kernel
theorem dX0_runBackups_61 : decode cX0_runBackups 61 = .ok (.iload_n 1, 1) := by decide +kernel
theorem dX0_runBackups_62 : decode cX0_runBackups 62 = .ok (.aload_n 0, 1) := by decide +kernel
theorem dX0_runBackups_63 : decode cX0_runBackups 63 = .ok (.iload_n 2, 1) := by decide +kernel
theorem dX0_runBackups_64 : decode cX0_runBackups 64 = .ok (.iload_n 1, 1) := by decide +kernel
theorem dX0_runBackups_65 : decode cX0_runBackups 65 = .ok (.invokevirtual 119, 3) := by decide +kernel
theorem dX0_runBackups_68 : decode cX0_runBackups 68 = .ok (.invokevirtual 74, 3) := by decide +kernel
theorem dX0_runBackups_71 : decode cX0_runBackups 71 = .ok (.aload_n 0, 1) := by decide +kernel
theorem dX0_runBackups_72 : decode cX0_runBackups 72 = .ok (.getfield 44, 3) := by decide +kernel
theorem dX0_runBackups_75 : decode cX0_runBackups 75 = .ok (.iload_n 3, 1) := by decide +kernel
theorem dX0_runBackups_76 : decode cX0_runBackups 76 = .ok (.aload_n 0, 1) := by decide +kernel
theorem dX0_runBackups_77 : decode cX0_runBackups 77 = .ok (.getfield 23, 3) := by decide +kernel
theorem dX0_runBackups_80 : decode cX0_runBackups 80 = .ok (.iload_n 1, 1) := by decide +kernel
theorem dX0_runBackups_81 : decode cX0_runBackups 81 = .ok (.iaload, 1) := by decide +kernel
theorem dX0_runBackups_82 : decode cX0_runBackups 82 = .ok (.iastore, 1) := by decide +kernel
theorem dX0_runBackups_83 : decode cX0_runBackups 83 = .ok (.iinc 2 1, 3) := by decide +kernel
theorem dX0_runBackups_86 : decode cX0_runBackups 86 = .ok (.goto (-84), 3) := by decide +kernel
theorem dX0_runBackups_89 : decode cX0_runBackups 89 = .ok (.return_, 1) := by decide +kernel
set_option maxRecDepth 20000 in
theorem ggX0_noteGap_X0_membersWith : GoodIn wsX0_noteGap wsX0_membersWith := goodIn_r _ [6, 7, 8, 9, 5, 10, 11, 12, 13, 14, 15, 16, 17, 18, 19, 20, 21, 22, 23, 24, 25, 26, 27, 28] (by decide +kernel) (by decide +kernel)
set_option maxRecDepth 20000 in
theorem gX0_noteGap_X0_membersWith : GoodIn wsX0_noteGap (wsV RX0 124 RX0 yX0_membersWith wsX0_membersWith) := goodIn_app (goodIn_of _ (by decide +kernel)) ggX0_noteGap_X0_membersWith
theorem dX0_noteGap_0 : decode cX0_noteGap 0 = .ok (.aload_n 0, 1) := by decide +kernel
theorem dX0_noteGap_1 : decode cX0_noteGap 1 = .ok (.iconst 2, 1) := by decide +kernel
theorem dX0_noteGap_2 : decode cX0_noteGap 2 = .ok (.iload_n 1, 1) := by decide +kernel
theorem dX0_noteGap_3 : decode cX0_noteGap 3 = .ok (.invokevirtual 124, 3) := by decide +kernel
theorem dX0_noteGap_6 : decode cX0_noteGap 6 = .ok (.ifCond .ne 13, 3) := by decide +kernel
theorem dX0_noteGap_9 : decode cX0_noteGap 9 = .ok (.aload_n 0, 1) := by decide +kernel
theorem dX0_noteGap_10 : decode cX0_noteGap 10 = .ok (.getfield 32, 3) := by decide +kernel
theorem dX0_noteGap_13 : decode cX0_noteGap 13 = .ok (.iload_n 1, 1) := by decide +kernel
theorem dX0_noteGap_14 : decode cX0_noteGap 14 = .ok (.dup2, 1) := by decide +kernel
theorem dX0_noteGap_15 : decode cX0_noteGap 15 = .ok (.iaload, 1) := by decide +kernel
theorem dX0_noteGap_16 : decode cX0_noteGap 16 = .ok (.iconst 1, 1) := by decide +kernel
theorem dX0_noteGap_17 : decode cX0_noteGap 17 = .ok (.iadd, 1) := by decide +kernel
theorem dX0_noteGap_18 : decode cX0_noteGap 18 = .ok (.iastore, 1) := by decide +kernel
theorem dX0_noteGap_19 : decode cX0_noteGap 19 = .ok (.return_, 1) := by decide +kernel
set_option maxRecDepth 20000 in
theorem ggX0_advertise_X0_placeOf : GoodIn wsX0_advertise wsX0_placeOf := goodIn_r _ [7] (by decide +kernel) (by decide +kernel)
set_option maxRecDepth 20000 in
theorem gX0_advertise_X0_placeOf : GoodIn wsX0_advertise (va_wsS RX0 70 yX0_placeOf wsX0_placeOf) := goodIn_app (goodIn_of _ (by decide +kernel)) ggX0_advertise_X0_placeOf
set_option maxRecDepth 20000 in
theorem ggX0_advertise_X0_receiveAsMaster : GoodIn wsX0_advertise wsX0_receiveAsMaster := goodIn_r _ [11, 12, 13, 14, 6, 15, 16, 17, 18, 19, 20, 21, 22, 4, 5, 7, 23, 24, 25, 26, 27, 28, 29, 3, 30, 31, 32, 33, 34, 35, 36, 37, 38, 39, 40, 41, 42, 43, 44, 45, 46, 47, 54, 55, 56, 57, 58, 59, 60, 61, 62, 63, 64, 65, 66, 67, 68, 69, 70, 71] (by decide +kernel) (by decide +kernel)
set_option maxRecDepth 20000 in
theorem gX0_advertise_X0_receiveAsMaster : GoodIn wsX0_advertise (wsV RX0 134 RX0 yX0_receiveAsMaster wsX0_receiveAsMaster) := goodIn_app (goodIn_of _ (by decide +kernel)) ggX0_advertise_X0_receiveAsMaster
set_option maxRecDepth 20000 in
theorem ggX0_advertise_X0_receiveAsBackup : GoodIn wsX0_advertise wsX0_receiveAsBackup := goodIn_r _ [51, 31, 52, 30, 53, 4, 5, 6, 7, 12, 13, 14, 15, 16, 17, 18, 19, 20, 21, 22, 23, 24, 25, 37, 38, 39, 40, 36, 32, 33, 34, 35, 41, 42, 43, 44, 45, 46, 47, 54, 55, 56, 57, 58, 59, 60, 61, 62, 63, 64, 65, 66, 67, 68, 69, 70, 71] (by decide +kernel) (by decide +kernel)
set_option maxRecDepth 20000 in
theorem gX0_advertise_X0_receiveAsBackup : GoodIn wsX0_advertise (wsV RX0 138 RX0 yX0_receiveAsBackup wsX0_receiveAsBackup) := goodIn_app (goodIn_of _ (by decide +kernel)) ggX0_advertise_X0_receiveAsBackup
theorem dX0_advertise_0 : decode cX0_advertise 0 = .ok (.aload_n 0, 1) := by decide +kernel
theorem dX0_advertise_1 : decode cX0_advertise 1 = .ok (.getfield 35, 3) := by decide +kernel
theorem dX0_advertise_4 : decode cX0_advertise 4 = .ok (.iload_n 2, 1) := by decide +kernel
theorem dX0_advertise_5 : decode cX0_advertise 5 = .ok (.dup2, 1) := by decide +kernel
theorem dX0_advertise_6 : decode cX0_advertise 6 = .ok (.iaload, 1) := by decide +kernel
theorem dX0_advertise_7 : decode cX0_advertise 7 = .ok (.iconst 1, 1) := by decide +kernel
theorem dX0_advertise_8 : decode cX0_advertise 8 = .ok (.iadd, 1) := by decide +kernel
theorem dX0_advertise_9 : decode cX0_advertise 9 = .ok (.iastore, 1) := by decide +kernel
theorem dX0_advertise_10 : decode cX0_advertise 10 = .ok (.iconst 0, 1) := by decide +kernel
theorem dX0_advertise_11 : decode cX0_advertise 11 = .ok (.istore 4, 2) := by decide +kernel
theorem dX0_advertise_13 : decode cX0_advertise 13 = .ok (.iload 4, 2) := by decide +kernel
theorem dX0_advertise_15 : decode cX0_advertise 15 = .ok (.iconst 4, 1) := by decide +kernel
theorem dX0_advertise_16 : decode cX0_advertise 16 = .ok (.if_icmp .ge 75, 3) := by decide +kernel
theorem dX0_advertise_19 : decode cX0_advertise 19 = .ok (.iload 4, 2) := by decide +kernel
theorem dX0_advertise_21 : decode cX0_advertise 21 = .ok (.iload_n 1, 1) := by decide +kernel
theorem dX0_advertise_22 : decode cX0_advertise 22 = .ok (.if_icmp .eq 63, 3) := by decide +kernel
theorem dX0_advertise_25 : decode cX0_advertise 25 = .ok (.aload_n 0, 1) := by decide +kernel
theorem dX0_advertise_26 : decode cX0_advertise 26 = .ok (.getfield 13, 3) := by decide +kernel
theorem dX0_advertise_29 : decode cX0_advertise 29 = .ok (.iload_n 1, 1) := by decide +kernel
theorem dX0_advertise_30 : decode cX0_advertise 30 = .ok (.iconst 4, 1) := by decide +kernel
theorem dX0_advertise_31 : decode cX0_advertise 31 = .ok (.imul, 1) := by decide +kernel
theorem dX0_advertise_32 : decode cX0_advertise 32 = .ok (.iload 4, 2) := by decide +kernel
theorem dX0_advertise_34 : decode cX0_advertise 34 = .ok (.iadd, 1) := by decide +kernel
theorem dX0_advertise_35 : decode cX0_advertise 35 = .ok (.baload, 1) := by decide +kernel
theorem dX0_advertise_36 : decode cX0_advertise 36 = .ok (.ifCond .eq 49, 3) := by decide +kernel
theorem dX0_advertise_39 : decode cX0_advertise 39 = .ok (.aload_n 0, 1) := by decide +kernel
theorem dX0_advertise_40 : decode cX0_advertise 40 = .ok (.getfield 41, 3) := by decide +kernel
theorem dX0_advertise_43 : decode cX0_advertise 43 = .ok (.iload 4, 2) := by decide +kernel
theorem dX0_advertise_45 : decode cX0_advertise 45 = .ok (.iload_n 2, 1) := by decide +kernel
theorem dX0_advertise_46 : decode cX0_advertise 46 = .ok (.invokestatic 70, 3) := by decide +kernel
theorem dX0_advertise_49 : decode cX0_advertise 49 = .ok (.iaload, 1) := by decide +kernel
theorem dX0_advertise_50 : decode cX0_advertise 50 = .ok (.istore 5, 2) := by decide +kernel
theorem dX0_advertise_52 : decode cX0_advertise 52 = .ok (.iload 5, 2) := by decide +kernel
theorem dX0_advertise_54 : decode cX0_advertise 54 = .ok (.iconst 2, 1) := by decide +kernel
theorem dX0_advertise_55 : decode cX0_advertise 55 = .ok (.if_icmp .ne 15, 3) := by decide +kernel
theorem dX0_advertise_58 : decode cX0_advertise 58 = .ok (.aload_n 0, 1) := by decide +kernel
theorem dX0_advertise_59 : decode cX0_advertise 59 = .ok (.iload 4, 2) := by decide +kernel
theorem dX0_advertise_61 : decode cX0_advertise 61 = .ok (.iload_n 2, 1) := by decide +kernel
theorem dX0_advertise_62 : decode cX0_advertise 62 = .ok (.iload_n 1, 1) := by decide +kernel
theorem dX0_advertise_63 : decode cX0_advertise 63 = .ok (.iload_n 3, 1) := by decide +kernel
theorem dX0_advertise_64 : decode cX0_advertise 64 = .ok (.invokevirtual 134, 3) := by decide +kernel
theorem dX0_advertise_67 : decode cX0_advertise 67 = .ok (.goto 18, 3) := by decide +kernel
theorem dX0_advertise_70 : decode cX0_advertise 70 = .ok (.iload 5, 2) := by decide +kernel
theorem dX0_advertise_72 : decode cX0_advertise 72 = .ok (.iconst 1, 1) := by decide +kernel
theorem dX0_advertise_73 : decode cX0_advertise 73 = .ok (.if_icmp .ne 12, 3) := by decide +kernel
theorem dX0_advertise_76 : decode cX0_advertise 76 = .ok (.aload_n 0, 1) := by decide +kernel
theorem dX0_advertise_77 : decode cX0_advertise 77 = .ok (.iload 4, 2) := by decide +kernel
theorem dX0_advertise_79 : decode cX0_advertise 79 = .ok (.iload_n 2, 1) := by decide +kernel
theorem dX0_advertise_80 : decode cX0_advertise 80 = .ok (.iload_n 1, 1) := by decide +kernel
theorem dX0_advertise_81 : decode cX0_advertise 81 = .ok (.iload_n 3, 1) := by decide +kernel
theorem dX0_advertise_82 : decode cX0_advertise 82 = .ok (.invokevirtual 138, 3) := by decide +kernel
theorem dX0_advertise_85 : decode cX0_advertise 85 = .ok (.iinc 4 1, 3) := by decide +kernel
theorem dX0_advertise_88 : decode cX0_advertise 88 = .ok (.goto (-75), 3) := by decide +kernel
theorem dX0_advertise_91 : decode cX0_advertise 91 = .ok (.return_, 1) := by decide +kernel
set_option maxRecDepth 20000 in
theorem ggX0_receiveAsMaster_X0_loweredPriority : GoodIn wsX0_receiveAsMaster wsX0_loweredPriority := goodIn_r _ [5, 6, 7, 8, 9, 10, 11, 12, 13, 14, 4, 15, 16, 17, 18, 42, 43, 44, 45, 46, 47, 48, 49, 50, 51, 52, 53, 54, 55, 56, 57, 58, 59] (by decide +kernel) (by decide +kernel)
set_option maxRecDepth 20000 in
theorem gX0_receiveAsMaster_X0_loweredPriority : GoodIn wsX0_receiveAsMaster (wsV RX0 119 RX0 yX0_loweredPriority wsX0_loweredPriority) := goodIn_app (goodIn_of _ (by decide +kernel)) ggX0_receiveAsMaster_X0_loweredPriority
set_option maxRecDepth 20000 in
theorem ggX0_receiveAsMaster_X0_becomeBackup : GoodIn wsX0_receiveAsMaster wsX0_becomeBackup := goodIn_r _ [22, 23, 24, 25, 13, 14, 4, 15, 1, 2, 3, 5, 6, 7, 8, 9, 10, 11, 12, 16, 17, 18, 26, 27, 28, 29, 30, 31, 32, 33, 34, 42, 43, 44, 45, 46, 47, 48, 49, 50, 51, 52, 53, 54, 55, 56, 57, 58, 59] (by decide +kernel) (by decide +kernel)
set_option maxRecDepth 20000 in
theorem gX0_receiveAsMaster_X0_becomeBackup : GoodIn wsX0_receiveAsMaster (wsV RX0 103 RX0 yX0_becomeBackup wsX0_becomeBackup) := goodIn_app (goodIn_of _ (by decide +kernel)) ggX0_receiveAsMaster_X0_becomeBackup
set_option maxRecDepth 20000 in
theorem ggX0_receiveAsMaster_X0_copyServed : GoodIn wsX0_receiveAsMaster wsX0_copyServed := goodIn_r _ [38, 39, 40, 41, 13, 14, 4, 15, 42, 43, 44, 45, 46, 47, 48, 49, 50, 51, 52, 53, 54, 55, 56, 57, 58, 59] (by decide +kernel) (by decide +kernel)
set_option maxRecDepth 20000 in
theorem gX0_receiveAsMaster_X0_copyServed : GoodIn wsX0_receiveAsMaster (wsV RX0 141 RX0 yX0_copyServed wsX0_copyServed) := goodIn_app (goodIn_of _ (by decide +kernel)) ggX0_receiveAsMaster_X0_copyServed
theorem dX0_receiveAsMaster_0 : decode cX0_receiveAsMaster 0 = .ok (.aload_n 0, 1) := by decide +kernel
theorem dX0_receiveAsMaster_1 : decode cX0_receiveAsMaster 1 = .ok (.iload_n 1, 1) := by decide +kernel
theorem dX0_receiveAsMaster_2 : decode cX0_receiveAsMaster 2 = .ok (.iload_n 2, 1) := by decide +kernel
theorem dX0_receiveAsMaster_3 : decode cX0_receiveAsMaster 3 = .ok (.invokevirtual 119, 3) := by decide +kernel
theorem dX0_receiveAsMaster_6 : decode cX0_receiveAsMaster 6 = .ok (.istore 5, 2) := by decide +kernel
theorem dX0_receiveAsMaster_8 : decode cX0_receiveAsMaster 8 = .ok (.iload 4, 2) := by decide +kernel
theorem dX0_receiveAsMaster_10 : decode cX0_receiveAsMaster 10 = .ok (.iload 5, 2) := by decide +kernel
theorem dX0_receiveAsMaster_12 : decode cX0_receiveAsMaster 12 = .ok (.if_icmp .gt 15, 3) := by decide +kernel
theorem dX0_receiveAsMaster_15 : decode cX0_receiveAsMaster 15 = .ok (.iload 4, 2) := by decide +kernel
theorem dX0_receiveAsMaster_17 : decode cX0_receiveAsMaster 17 = .ok (.iload 5, 2) := by decide +kernel
theorem dX0_receiveAsMaster_19 : decode cX0_receiveAsMaster 19 = .ok (.if_icmp .ne 21, 3) := by decide +kernel
theorem dX0_receiveAsMaster_22 : decode cX0_receiveAsMaster 22 = .ok (.iload_n 3, 1) := by decide +kernel
theorem dX0_receiveAsMaster_23 : decode cX0_receiveAsMaster 23 = .ok (.iload_n 1, 1) := by decide +kernel
theorem dX0_receiveAsMaster_24 : decode cX0_receiveAsMaster 24 = .ok (.if_icmp .le 16, 3) := by decide +kernel
theorem dX0_receiveAsMaster_27 : decode cX0_receiveAsMaster 27 = .ok (.aload_n 0, 1) := by decide +kernel
theorem dX0_receiveAsMaster_28 : decode cX0_receiveAsMaster 28 = .ok (.iload_n 1, 1) := by decide +kernel
theorem dX0_receiveAsMaster_29 : decode cX0_receiveAsMaster 29 = .ok (.iload_n 2, 1) := by decide +kernel
theorem dX0_receiveAsMaster_30 : decode cX0_receiveAsMaster 30 = .ok (.invokevirtual 103, 3) := by decide +kernel
theorem dX0_receiveAsMaster_33 : decode cX0_receiveAsMaster 33 = .ok (.aload_n 0, 1) := by decide +kernel
theorem dX0_receiveAsMaster_34 : decode cX0_receiveAsMaster 34 = .ok (.iload_n 1, 1) := by decide +kernel
theorem dX0_receiveAsMaster_35 : decode cX0_receiveAsMaster 35 = .ok (.iload_n 2, 1) := by decide +kernel
theorem dX0_receiveAsMaster_36 : decode cX0_receiveAsMaster 36 = .ok (.iload_n 3, 1) := by decide +kernel
theorem dX0_receiveAsMaster_37 : decode cX0_receiveAsMaster 37 = .ok (.invokevirtual 141, 3) := by decide +kernel
theorem dX0_receiveAsMaster_40 : decode cX0_receiveAsMaster 40 = .ok (.return_, 1) := by decide +kernel
set_option maxRecDepth 20000 in
theorem ggX0_receiveAsBackup_X0_placeOf : GoodIn wsX0_receiveAsBackup wsX0_placeOf := goodIn_r _ [8] (by decide +kernel) (by decide +kernel)
set_option maxRecDepth 20000 in
theorem gX0_receiveAsBackup_X0_placeOf : GoodIn wsX0_receiveAsBackup (va_wsS RX0 70 yX0_placeOf wsX0_placeOf) := goodIn_app (goodIn_of _ (by decide +kernel)) ggX0_receiveAsBackup_X0_placeOf
set_option maxRecDepth 20000 in
theorem ggX0_receiveAsBackup_X0_loweredPriority : GoodIn wsX0_receiveAsBackup wsX0_loweredPriority := goodIn_r _ [12, 13, 14, 15, 16, 17, 18, 19, 5, 6, 7, 8, 20, 21, 22, 39, 40, 41, 42, 43, 44, 45, 46, 47, 48, 49, 50, 51, 52, 53, 54, 55, 56] (by decide +kernel) (by decide +kernel)
set_option maxRecDepth 20000 in
theorem gX0_receiveAsBackup_X0_loweredPriority : GoodIn wsX0_receiveAsBackup (wsV RX0 119 RX0 yX0_loweredPriority wsX0_loweredPriority) := goodIn_app (goodIn_of _ (by decide +kernel)) ggX0_receiveAsBackup_X0_loweredPriority
set_option maxRecDepth 20000 in
theorem ggX0_receiveAsBackup_X0_skewOf : GoodIn wsX0_receiveAsBackup wsX0_skewOf := goodIn_r _ [26, 27, 39, 40, 41, 42, 43, 44, 45, 46, 47, 48, 49, 50, 51, 52, 53, 54, 55, 56] (by decide +kernel) (by decide +kernel)
set_option maxRecDepth 20000 in
theorem gX0_receiveAsBackup_X0_skewOf : GoodIn wsX0_receiveAsBackup (wsV RX0 144 RX0 yX0_skewOf wsX0_skewOf) := goodIn_app (goodIn_of _ (by decide +kernel)) ggX0_receiveAsBackup_X0_skewOf
set_option maxRecDepth 20000 in
theorem ggX0_receiveAsBackup_X0_waitOf : GoodIn wsX0_receiveAsBackup wsX0_waitOf := goodIn_r _ [31, 27, 23, 24, 25, 7, 26, 39, 40, 41, 42, 43, 44, 45, 46, 47, 48, 49, 50, 51, 52, 53, 54, 55, 56] (by decide +kernel) (by decide +kernel)
set_option maxRecDepth 20000 in
theorem gX0_receiveAsBackup_X0_waitOf : GoodIn wsX0_receiveAsBackup (wsV RX0 147 RX0 yX0_waitOf wsX0_waitOf) := goodIn_app (goodIn_of _ (by decide +kernel)) ggX0_receiveAsBackup_X0_waitOf
set_option maxRecDepth 20000 in
theorem ggX0_receiveAsBackup_X0_copyServed : GoodIn wsX0_receiveAsBackup wsX0_copyServed := goodIn_r _ [35, 36, 37, 38, 5, 6, 7, 8, 39, 40, 41, 42, 43, 44, 45, 46, 47, 48, 49, 50, 51, 52, 53, 54, 55, 56] (by decide +kernel) (by decide +kernel)
set_option maxRecDepth 20000 in
theorem gX0_receiveAsBackup_X0_copyServed : GoodIn wsX0_receiveAsBackup (wsV RX0 141 RX0 yX0_copyServed wsX0_copyServed) := goodIn_app (goodIn_of _ (by decide +kernel)) ggX0_receiveAsBackup_X0_copyServed
theorem dX0_receiveAsBackup_0 : decode cX0_receiveAsBackup 0 = .ok (.iload_n 1, 1) := by decide +kernel
theorem dX0_receiveAsBackup_1 : decode cX0_receiveAsBackup 1 = .ok (.iload_n 2, 1) := by decide +kernel
theorem dX0_receiveAsBackup_2 : decode cX0_receiveAsBackup 2 = .ok (.invokestatic 70, 3) := by decide +kernel
theorem dX0_receiveAsBackup_5 : decode cX0_receiveAsBackup 5 = .ok (.istore 5, 2) := by decide +kernel
theorem dX0_receiveAsBackup_7 : decode cX0_receiveAsBackup 7 = .ok (.aload_n 0, 1) := by decide +kernel
theorem dX0_receiveAsBackup_8 : decode cX0_receiveAsBackup 8 = .ok (.iload_n 1, 1) := by decide +kernel
theorem dX0_receiveAsBackup_9 : decode cX0_receiveAsBackup 9 = .ok (.iload_n 2, 1) := by decide +kernel
theorem dX0_receiveAsBackup_10 : decode cX0_receiveAsBackup 10 = .ok (.invokevirtual 119, 3) := by decide +kernel
theorem dX0_receiveAsBackup_13 : decode cX0_receiveAsBackup 13 = .ok (.istore 6, 2) := by decide +kernel
theorem dX0_receiveAsBackup_15 : decode cX0_receiveAsBackup 15 = .ok (.iload 4, 2) := by decide +kernel
theorem dX0_receiveAsBackup_17 : decode cX0_receiveAsBackup 17 = .ok (.ifCond .ne 22, 3) := by decide +kernel
theorem dX0_receiveAsBackup_20 : decode cX0_receiveAsBackup 20 = .ok (.aload_n 0, 1) := by decide +kernel
theorem dX0_receiveAsBackup_21 : decode cX0_receiveAsBackup 21 = .ok (.getfield 44, 3) := by decide +kernel
theorem dX0_receiveAsBackup_24 : decode cX0_receiveAsBackup 24 = .ok (.iload 5, 2) := by decide +kernel
theorem dX0_receiveAsBackup_26 : decode cX0_receiveAsBackup 26 = .ok (.aload_n 0, 1) := by decide +kernel
theorem dX0_receiveAsBackup_27 : decode cX0_receiveAsBackup 27 = .ok (.iload 6, 2) := by decide +kernel
theorem dX0_receiveAsBackup_29 : decode cX0_receiveAsBackup 29 = .ok (.iload_n 2, 1) := by decide +kernel
theorem dX0_receiveAsBackup_30 : decode cX0_receiveAsBackup 30 = .ok (.invokevirtual 144, 3) := by decide +kernel
theorem dX0_receiveAsBackup_33 : decode cX0_receiveAsBackup 33 = .ok (.iconst 1, 1) := by decide +kernel
theorem dX0_receiveAsBackup_34 : decode cX0_receiveAsBackup 34 = .ok (.iadd, 1) := by decide +kernel
theorem dX0_receiveAsBackup_35 : decode cX0_receiveAsBackup 35 = .ok (.iastore, 1) := by decide +kernel
theorem dX0_receiveAsBackup_36 : decode cX0_receiveAsBackup 36 = .ok (.goto 86, 3) := by decide +kernel
theorem dX0_receiveAsBackup_39 : decode cX0_receiveAsBackup 39 = .ok (.aload_n 0, 1) := by decide +kernel
theorem dX0_receiveAsBackup_40 : decode cX0_receiveAsBackup 40 = .ok (.getfield 26, 3) := by decide +kernel
theorem dX0_receiveAsBackup_43 : decode cX0_receiveAsBackup 43 = .ok (.iload_n 2, 1) := by decide +kernel
theorem dX0_receiveAsBackup_44 : decode cX0_receiveAsBackup 44 = .ok (.baload, 1) := by decide +kernel
theorem dX0_receiveAsBackup_45 : decode cX0_receiveAsBackup 45 = .ok (.ifCond .eq 55, 3) := by decide +kernel
theorem dX0_receiveAsBackup_48 : decode cX0_receiveAsBackup 48 = .ok (.iload 6, 2) := by decide +kernel
theorem dX0_receiveAsBackup_50 : decode cX0_receiveAsBackup 50 = .ok (.iload 4, 2) := by decide +kernel
theorem dX0_receiveAsBackup_52 : decode cX0_receiveAsBackup 52 = .ok (.if_icmp .le 48, 3) := by decide +kernel
theorem dX0_receiveAsBackup_55 : decode cX0_receiveAsBackup 55 = .ok (.aload_n 0, 1) := by decide +kernel
theorem dX0_receiveAsBackup_56 : decode cX0_receiveAsBackup 56 = .ok (.getfield 47, 3) := by decide +kernel
theorem dX0_receiveAsBackup_59 : decode cX0_receiveAsBackup 59 = .ok (.iload 5, 2) := by decide +kernel
theorem dX0_receiveAsBackup_61 : decode cX0_receiveAsBackup 61 = .ok (.iaload, 1) := by decide +kernel
theorem dX0_receiveAsBackup_62 : decode cX0_receiveAsBackup 62 = .ok (.aload_n 0, 1) := by decide +kernel
theorem dX0_receiveAsBackup_63 : decode cX0_receiveAsBackup 63 = .ok (.getfield 29, 3) := by decide +kernel
theorem dX0_receiveAsBackup_66 : decode cX0_receiveAsBackup 66 = .ok (.iload_n 2, 1) := by decide +kernel
theorem dX0_receiveAsBackup_67 : decode cX0_receiveAsBackup 67 = .ok (.iaload, 1) := by decide +kernel
theorem dX0_receiveAsBackup_68 : decode cX0_receiveAsBackup 68 = .ok (.if_icmp .lt 4, 3) := by decide +kernel
theorem dX0_receiveAsBackup_71 : decode cX0_receiveAsBackup 71 = .ok (.return_, 1) := by decide +kernel
theorem dX0_receiveAsBackup_72 : decode cX0_receiveAsBackup 72 = .ok (.aload_n 0, 1) := by decide +kernel
theorem dX0_receiveAsBackup_73 : decode cX0_receiveAsBackup 73 = .ok (.getfield 47, 3) := by decide +kernel
theorem dX0_receiveAsBackup_76 : decode cX0_receiveAsBackup 76 = .ok (.iload 5, 2) := by decide +kernel
theorem dX0_receiveAsBackup_78 : decode cX0_receiveAsBackup 78 = .ok (.dup2, 1) := by decide +kernel
theorem dX0_receiveAsBackup_79 : decode cX0_receiveAsBackup 79 = .ok (.iaload, 1) := by decide +kernel
theorem dX0_receiveAsBackup_80 : decode cX0_receiveAsBackup 80 = .ok (.iconst 1, 1) := by decide +kernel
theorem dX0_receiveAsBackup_81 : decode cX0_receiveAsBackup 81 = .ok (.iadd, 1) := by decide +kernel
theorem dX0_receiveAsBackup_82 : decode cX0_receiveAsBackup 82 = .ok (.iastore, 1) := by decide +kernel
theorem dX0_receiveAsBackup_83 : decode cX0_receiveAsBackup 83 = .ok (.aload_n 0, 1) := by decide +kernel
theorem dX0_receiveAsBackup_84 : decode cX0_receiveAsBackup 84 = .ok (.getfield 44, 3) := by decide +kernel
theorem dX0_receiveAsBackup_87 : decode cX0_receiveAsBackup 87 = .ok (.iload 5, 2) := by decide +kernel
theorem dX0_receiveAsBackup_89 : decode cX0_receiveAsBackup 89 = .ok (.aload_n 0, 1) := by decide +kernel
theorem dX0_receiveAsBackup_90 : decode cX0_receiveAsBackup 90 = .ok (.iload 6, 2) := by decide +kernel
theorem dX0_receiveAsBackup_92 : decode cX0_receiveAsBackup 92 = .ok (.iload_n 2, 1) := by decide +kernel
theorem dX0_receiveAsBackup_93 : decode cX0_receiveAsBackup 93 = .ok (.invokevirtual 147, 3) := by decide +kernel
theorem dX0_receiveAsBackup_96 : decode cX0_receiveAsBackup 96 = .ok (.iastore, 1) := by decide +kernel
theorem dX0_receiveAsBackup_97 : decode cX0_receiveAsBackup 97 = .ok (.goto 25, 3) := by decide +kernel
theorem dX0_receiveAsBackup_100 : decode cX0_receiveAsBackup 100 = .ok (.aload_n 0, 1) := by decide +kernel
theorem dX0_receiveAsBackup_101 : decode cX0_receiveAsBackup 101 = .ok (.getfield 47, 3) := by decide +kernel
theorem dX0_receiveAsBackup_104 : decode cX0_receiveAsBackup 104 = .ok (.iload 5, 2) := by decide +kernel
theorem dX0_receiveAsBackup_106 : decode cX0_receiveAsBackup 106 = .ok (.iconst 0, 1) := by decide +kernel
theorem dX0_receiveAsBackup_107 : decode cX0_receiveAsBackup 107 = .ok (.iastore, 1) := by decide +kernel
theorem dX0_receiveAsBackup_108 : decode cX0_receiveAsBackup 108 = .ok (.aload_n 0, 1) := by decide +kernel
theorem dX0_receiveAsBackup_109 : decode cX0_receiveAsBackup 109 = .ok (.getfield 44, 3) := by decide +kernel
theorem dX0_receiveAsBackup_112 : decode cX0_receiveAsBackup 112 = .ok (.iload 5, 2) := by decide +kernel
theorem dX0_receiveAsBackup_114 : decode cX0_receiveAsBackup 114 = .ok (.aload_n 0, 1) := by decide +kernel
theorem dX0_receiveAsBackup_115 : decode cX0_receiveAsBackup 115 = .ok (.iload 6, 2) := by decide +kernel
theorem dX0_receiveAsBackup_117 : decode cX0_receiveAsBackup 117 = .ok (.iload_n 2, 1) := by decide +kernel
theorem dX0_receiveAsBackup_118 : decode cX0_receiveAsBackup 118 = .ok (.invokevirtual 147, 3) := by decide +kernel
theorem dX0_receiveAsBackup_121 : decode cX0_receiveAsBackup 121 = .ok (.iastore, 1) := by decide +kernel
theorem dX0_receiveAsBackup_122 : decode cX0_receiveAsBackup 122 = .ok (.aload_n 0, 1) := by decide +kernel
theorem dX0_receiveAsBackup_123 : decode cX0_receiveAsBackup 123 = .ok (.iload_n 1, 1) := by decide +kernel
theorem dX0_receiveAsBackup_124 : decode cX0_receiveAsBackup 124 = .ok (.iload_n 2, 1) := by decide +kernel
theorem dX0_receiveAsBackup_125 : decode cX0_receiveAsBackup 125 = .ok (.iload_n 3, 1) := by decide +kernel
theorem dX0_receiveAsBackup_126 : decode cX0_receiveAsBackup 126 = .ok (.invokevirtual 141, 3) := by decide +kernel
theorem dX0_receiveAsBackup_129 : decode cX0_receiveAsBackup 129 = .ok (.return_, 1) := by decide +kernel
set_option maxRecDepth 20000 in
theorem ggX0_copyServed_X0_placeOf : GoodIn wsX0_copyServed wsX0_placeOf := goodIn_r _ [7] (by decide +kernel) (by decide +kernel)
set_option maxRecDepth 20000 in
theorem gX0_copyServed_X0_placeOf : GoodIn wsX0_copyServed (va_wsS RX0 70 yX0_placeOf wsX0_placeOf) := goodIn_app (goodIn_of _ (by decide +kernel)) ggX0_copyServed_X0_placeOf
theorem dX0_copyServed_0 : decode cX0_copyServed 0 = .ok (.iload_n 1, 1) := by decide +kernel
theorem dX0_copyServed_1 : decode cX0_copyServed 1 = .ok (.iload_n 2, 1) := by decide +kernel
theorem dX0_copyServed_2 : decode cX0_copyServed 2 = .ok (.invokestatic 70, 3) := by decide +kernel
theorem dX0_copyServed_5 : decode cX0_copyServed 5 = .ok (.istore 4, 2) := by decide +kernel
theorem dX0_copyServed_7 : decode cX0_copyServed 7 = .ok (.aload_n 0, 1) := by decide +kernel
theorem dX0_copyServed_8 : decode cX0_copyServed 8 = .ok (.getfield 50, 3) := by decide +kernel
theorem dX0_copyServed_11 : decode cX0_copyServed 11 = .ok (.iload_n 3, 1) := by decide +kernel
theorem dX0_copyServed_12 : decode cX0_copyServed 12 = .ok (.iload_n 2, 1) := by decide +kernel
theorem dX0_copyServed_13 : decode cX0_copyServed 13 = .ok (.invokestatic 70, 3) := by decide +kernel
theorem dX0_copyServed_16 : decode cX0_copyServed 16 = .ok (.iaload, 1) := by decide +kernel
theorem dX0_copyServed_17 : decode cX0_copyServed 17 = .ok (.aload_n 0, 1) := by decide +kernel
theorem dX0_copyServed_18 : decode cX0_copyServed 18 = .ok (.getfield 50, 3) := by decide +kernel
theorem dX0_copyServed_21 : decode cX0_copyServed 21 = .ok (.iload 4, 2) := by decide +kernel
theorem dX0_copyServed_23 : decode cX0_copyServed 23 = .ok (.iaload, 1) := by decide +kernel
theorem dX0_copyServed_24 : decode cX0_copyServed 24 = .ok (.isub, 1) := by decide +kernel
theorem dX0_copyServed_25 : decode cX0_copyServed 25 = .ok (.istore 5, 2) := by decide +kernel
theorem dX0_copyServed_27 : decode cX0_copyServed 27 = .ok (.iload 5, 2) := by decide +kernel
theorem dX0_copyServed_29 : decode cX0_copyServed 29 = .ok (.ifCond .gt 4, 3) := by decide +kernel
theorem dX0_copyServed_32 : decode cX0_copyServed 32 = .ok (.return_, 1) := by decide +kernel
theorem dX0_copyServed_33 : decode cX0_copyServed 33 = .ok (.iload 5, 2) := by decide +kernel
theorem dX0_copyServed_35 : decode cX0_copyServed 35 = .ok (.bipush 10, 2) := by decide +kernel
theorem dX0_copyServed_37 : decode cX0_copyServed 37 = .ok (.if_icmp .le 22, 3) := by decide +kernel
theorem dX0_copyServed_40 : decode cX0_copyServed 40 = .ok (.aload_n 0, 1) := by decide +kernel
theorem dX0_copyServed_41 : decode cX0_copyServed 41 = .ok (.getfield 56, 3) := by decide +kernel
theorem dX0_copyServed_44 : decode cX0_copyServed 44 = .ok (.iload 4, 2) := by decide +kernel
theorem dX0_copyServed_46 : decode cX0_copyServed 46 = .ok (.baload, 1) := by decide +kernel
theorem dX0_copyServed_47 : decode cX0_copyServed 47 = .ok (.ifCond .ne 12, 3) := by decide +kernel
theorem dX0_copyServed_50 : decode cX0_copyServed 50 = .ok (.aload_n 0, 1) := by decide +kernel
theorem dX0_copyServed_51 : decode cX0_copyServed 51 = .ok (.getfield 56, 3) := by decide +kernel
theorem dX0_copyServed_54 : decode cX0_copyServed 54 = .ok (.iload 4, 2) := by decide +kernel
theorem dX0_copyServed_56 : decode cX0_copyServed 56 = .ok (.iconst 1, 1) := by decide +kernel
theorem dX0_copyServed_57 : decode cX0_copyServed 57 = .ok (.bastore, 1) := by decide +kernel
theorem dX0_copyServed_58 : decode cX0_copyServed 58 = .ok (.return_, 1) := by decide +kernel
theorem dX0_copyServed_59 : decode cX0_copyServed 59 = .ok (.aload_n 0, 1) := by decide +kernel
theorem dX0_copyServed_60 : decode cX0_copyServed 60 = .ok (.getfield 50, 3) := by decide +kernel
theorem dX0_copyServed_63 : decode cX0_copyServed 63 = .ok (.iload 4, 2) := by decide +kernel
theorem dX0_copyServed_65 : decode cX0_copyServed 65 = .ok (.dup2, 1) := by decide +kernel
theorem dX0_copyServed_66 : decode cX0_copyServed 66 = .ok (.iaload, 1) := by decide +kernel
theorem dX0_copyServed_67 : decode cX0_copyServed 67 = .ok (.iload 5, 2) := by decide +kernel
theorem dX0_copyServed_69 : decode cX0_copyServed 69 = .ok (.iadd, 1) := by decide +kernel
theorem dX0_copyServed_70 : decode cX0_copyServed 70 = .ok (.iastore, 1) := by decide +kernel
theorem dX0_copyServed_71 : decode cX0_copyServed 71 = .ok (.aload_n 0, 1) := by decide +kernel
theorem dX0_copyServed_72 : decode cX0_copyServed 72 = .ok (.getfield 56, 3) := by decide +kernel
theorem dX0_copyServed_75 : decode cX0_copyServed 75 = .ok (.iload 4, 2) := by decide +kernel
theorem dX0_copyServed_77 : decode cX0_copyServed 77 = .ok (.baload, 1) := by decide +kernel
theorem dX0_copyServed_78 : decode cX0_copyServed 78 = .ok (.ifCond .eq 21, 3) := by decide +kernel
theorem dX0_copyServed_81 : decode cX0_copyServed 81 = .ok (.aload_n 0, 1) := by decide +kernel
theorem dX0_copyServed_82 : decode cX0_copyServed 82 = .ok (.getfield 56, 3) := by decide +kernel
theorem dX0_copyServed_85 : decode cX0_copyServed 85 = .ok (.iload 4, 2) := by decide +kernel
theorem dX0_copyServed_87 : decode cX0_copyServed 87 = .ok (.iconst 0, 1) := by decide +kernel
theorem dX0_copyServed_88 : decode cX0_copyServed 88 = .ok (.bastore, 1) := by decide +kernel
theorem dX0_copyServed_89 : decode cX0_copyServed 89 = .ok (.aload_n 0, 1) := by decide +kernel
theorem dX0_copyServed_90 : decode cX0_copyServed 90 = .ok (.dup, 1) := by decide +kernel
theorem dX0_copyServed_91 : decode cX0_copyServed 91 = .ok (.getfield 127, 3) := by decide +kernel
theorem dX0_copyServed_94 : decode cX0_copyServed 94 = .ok (.iconst 1, 1) := by decide +kernel
theorem dX0_copyServed_95 : decode cX0_copyServed 95 = .ok (.iadd, 1) := by decide +kernel
theorem dX0_copyServed_96 : decode cX0_copyServed 96 = .ok (.putfield 127, 3) := by decide +kernel
theorem dX0_copyServed_99 : decode cX0_copyServed 99 = .ok (.return_, 1) := by decide +kernel
set_option maxRecDepth 20000 in
theorem ggX0_beginPart_X0_becomeBackup : GoodIn wsX0_beginPart wsX0_becomeBackup := goodIn_r _ [6, 7, 8, 9, 10, 11, 5, 12, 13, 14, 15, 16, 17, 18, 19, 20, 21, 22, 23, 24, 25, 26, 27, 28, 29, 30, 31, 32, 33, 34, 35, 36, 37, 38, 39, 40, 41, 42, 43, 44, 45, 46, 47, 48, 49, 50, 51, 52, 53] (by decide +kernel) (by decide +kernel)
set_option maxRecDepth 20000 in
theorem gX0_beginPart_X0_becomeBackup : GoodIn wsX0_beginPart (wsV RX0 103 RX0 yX0_becomeBackup wsX0_becomeBackup) := goodIn_app (goodIn_of _ (by decide +kernel)) ggX0_beginPart_X0_becomeBackup
set_option maxRecDepth 20000 in
theorem ggX0_beginPart_X0_placeOf : GoodIn wsX0_beginPart wsX0_placeOf := goodIn_r _ [12] (by decide +kernel) (by decide +kernel)
set_option maxRecDepth 20000 in
theorem gX0_beginPart_X0_placeOf : GoodIn wsX0_beginPart (va_wsS RX0 70 yX0_placeOf wsX0_placeOf) := goodIn_app (goodIn_of _ (by decide +kernel)) ggX0_beginPart_X0_placeOf
theorem dX0_beginPart_0 : decode cX0_beginPart 0 = .ok (.aload_n 0, 1) := by decide +kernel
theorem dX0_beginPart_1 : decode cX0_beginPart 1 = .ok (.iload_n 1, 1) := by decide +kernel
theorem dX0_beginPart_2 : decode cX0_beginPart 2 = .ok (.iload_n 2, 1) := by decide +kernel
theorem dX0_beginPart_3 : decode cX0_beginPart 3 = .ok (.invokevirtual 103, 3) := by decide +kernel
theorem dX0_beginPart_6 : decode cX0_beginPart 6 = .ok (.aload_n 0, 1) := by decide +kernel
theorem dX0_beginPart_7 : decode cX0_beginPart 7 = .ok (.getfield 56, 3) := by decide +kernel
theorem dX0_beginPart_10 : decode cX0_beginPart 10 = .ok (.iload_n 1, 1) := by decide +kernel
theorem dX0_beginPart_11 : decode cX0_beginPart 11 = .ok (.iload_n 2, 1) := by decide +kernel
theorem dX0_beginPart_12 : decode cX0_beginPart 12 = .ok (.invokestatic 70, 3) := by decide +kernel
theorem dX0_beginPart_15 : decode cX0_beginPart 15 = .ok (.iconst 0, 1) := by decide +kernel
theorem dX0_beginPart_16 : decode cX0_beginPart 16 = .ok (.bastore, 1) := by decide +kernel
theorem dX0_beginPart_17 : decode cX0_beginPart 17 = .ok (.return_, 1) := by decide +kernel
set_option maxRecDepth 20000 in
theorem ggX0_becomeBackup_X0_placeOf : GoodIn wsX0_becomeBackup wsX0_placeOf := goodIn_r _ [7] (by decide +kernel) (by decide +kernel)
set_option maxRecDepth 20000 in
theorem gX0_becomeBackup_X0_placeOf : GoodIn wsX0_becomeBackup (va_wsS RX0 70 yX0_placeOf wsX0_placeOf) := goodIn_app (goodIn_of _ (by decide +kernel)) ggX0_becomeBackup_X0_placeOf
set_option maxRecDepth 20000 in
theorem ggX0_becomeBackup_X0_loweredPriority : GoodIn wsX0_becomeBackup wsX0_loweredPriority := goodIn_r _ [11, 12, 13, 14, 15, 16, 17, 18, 4, 5, 6, 7, 19, 20, 21, 31, 32, 33, 34, 35, 36, 37, 38, 39, 40, 41, 42, 43, 44, 45, 46, 47, 48] (by decide +kernel) (by decide +kernel)
set_option maxRecDepth 20000 in
theorem gX0_becomeBackup_X0_loweredPriority : GoodIn wsX0_becomeBackup (wsV RX0 119 RX0 yX0_loweredPriority wsX0_loweredPriority) := goodIn_app (goodIn_of _ (by decide +kernel)) ggX0_becomeBackup_X0_loweredPriority
set_option maxRecDepth 20000 in
theorem ggX0_becomeBackup_X0_waitOf : GoodIn wsX0_becomeBackup wsX0_waitOf := goodIn_r _ [25, 26, 27, 28, 29, 6, 30, 31, 32, 33, 34, 35, 36, 37, 38, 39, 40, 41, 42, 43, 44, 45, 46, 47, 48] (by decide +kernel) (by decide +kernel)
set_option maxRecDepth 20000 in
theorem gX0_becomeBackup_X0_waitOf : GoodIn wsX0_becomeBackup (wsV RX0 147 RX0 yX0_waitOf wsX0_waitOf) := goodIn_app (goodIn_of _ (by decide +kernel)) ggX0_becomeBackup_X0_waitOf
theorem dX0_becomeBackup_0 : decode cX0_becomeBackup 0 = .ok (.iload_n 1, 1) := by decide +kernel
theorem dX0_becomeBackup_1 : decode cX0_becomeBackup 1 = .ok (.iload_n 2, 1) := by decide +kernel
theorem dX0_becomeBackup_2 : decode cX0_becomeBackup 2 = .ok (.invokestatic 70, 3) := by decide +kernel
theorem dX0_becomeBackup_5 : decode cX0_becomeBackup 5 = .ok (.istore_n 3, 1) := by decide +kernel
theorem dX0_becomeBackup_6 : decode cX0_becomeBackup 6 = .ok (.aload_n 0, 1) := by decide +kernel
theorem dX0_becomeBackup_7 : decode cX0_becomeBackup 7 = .ok (.getfield 41, 3) := by decide +kernel
theorem dX0_becomeBackup_10 : decode cX0_becomeBackup 10 = .ok (.iload_n 3, 1) := by decide +kernel
theorem dX0_becomeBackup_11 : decode cX0_becomeBackup 11 = .ok (.iconst 1, 1) := by decide +kernel
theorem dX0_becomeBackup_12 : decode cX0_becomeBackup 12 = .ok (.iastore, 1) := by decide +kernel
theorem dX0_becomeBackup_13 : decode cX0_becomeBackup 13 = .ok (.aload_n 0, 1) := by decide +kernel
theorem dX0_becomeBackup_14 : decode cX0_becomeBackup 14 = .ok (.getfield 47, 3) := by decide +kernel
theorem dX0_becomeBackup_17 : decode cX0_becomeBackup 17 = .ok (.iload_n 3, 1) := by decide +kernel
theorem dX0_becomeBackup_18 : decode cX0_becomeBackup 18 = .ok (.iconst 0, 1) := by decide +kernel
theorem dX0_becomeBackup_19 : decode cX0_becomeBackup 19 = .ok (.iastore, 1) := by decide +kernel
theorem dX0_becomeBackup_20 : decode cX0_becomeBackup 20 = .ok (.aload_n 0, 1) := by decide +kernel
theorem dX0_becomeBackup_21 : decode cX0_becomeBackup 21 = .ok (.getfield 44, 3) := by decide +kernel
theorem dX0_becomeBackup_24 : decode cX0_becomeBackup 24 = .ok (.iload_n 3, 1) := by decide +kernel
theorem dX0_becomeBackup_25 : decode cX0_becomeBackup 25 = .ok (.aload_n 0, 1) := by decide +kernel
theorem dX0_becomeBackup_26 : decode cX0_becomeBackup 26 = .ok (.aload_n 0, 1) := by decide +kernel
theorem dX0_becomeBackup_27 : decode cX0_becomeBackup 27 = .ok (.iload_n 1, 1) := by decide +kernel
theorem dX0_becomeBackup_28 : decode cX0_becomeBackup 28 = .ok (.iload_n 2, 1) := by decide +kernel
theorem dX0_becomeBackup_29 : decode cX0_becomeBackup 29 = .ok (.invokevirtual 119, 3) := by decide +kernel
theorem dX0_becomeBackup_32 : decode cX0_becomeBackup 32 = .ok (.iload_n 2, 1) := by decide +kernel
theorem dX0_becomeBackup_33 : decode cX0_becomeBackup 33 = .ok (.invokevirtual 147, 3) := by decide +kernel
theorem dX0_becomeBackup_36 : decode cX0_becomeBackup 36 = .ok (.iastore, 1) := by decide +kernel
theorem dX0_becomeBackup_37 : decode cX0_becomeBackup 37 = .ok (.return_, 1) := by decide +kernel
set_option maxRecDepth 20000 in
theorem ggX0_membersWith_X0_placeOf : GoodIn wsX0_membersWith wsX0_placeOf := goodIn_r _ [5] (by decide +kernel) (by decide +kernel)
set_option maxRecDepth 20000 in
theorem gX0_membersWith_X0_placeOf : GoodIn wsX0_membersWith (va_wsS RX0 70 yX0_placeOf wsX0_placeOf) := goodIn_app (goodIn_of _ (by decide +kernel)) ggX0_membersWith_X0_placeOf
theorem dX0_membersWith_0 : decode cX0_membersWith 0 = .ok (.iconst 0, 1) := by decide +kernel
theorem dX0_membersWith_1 : decode cX0_membersWith 1 = .ok (.istore_n 3, 1) := by decide +kernel
theorem dX0_membersWith_2 : decode cX0_membersWith 2 = .ok (.iconst 0, 1) := by decide +kernel
theorem dX0_membersWith_3 : decode cX0_membersWith 3 = .ok (.istore 4, 2) := by decide +kernel
theorem dX0_membersWith_5 : decode cX0_membersWith 5 = .ok (.iload 4, 2) := by decide +kernel
theorem dX0_membersWith_7 : decode cX0_membersWith 7 = .ok (.iconst 4, 1) := by decide +kernel
theorem dX0_membersWith_8 : decode cX0_membersWith 8 = .ok (.if_icmp .ge 31, 3) := by decide +kernel
theorem dX0_membersWith_11 : decode cX0_membersWith 11 = .ok (.aload_n 0, 1) := by decide +kernel
theorem dX0_membersWith_12 : decode cX0_membersWith 12 = .ok (.getfield 41, 3) := by decide +kernel
theorem dX0_membersWith_15 : decode cX0_membersWith 15 = .ok (.iload 4, 2) := by decide +kernel
theorem dX0_membersWith_17 : decode cX0_membersWith 17 = .ok (.iload_n 2, 1) := by decide +kernel
theorem dX0_membersWith_18 : decode cX0_membersWith 18 = .ok (.invokestatic 70, 3) := by decide +kernel
theorem dX0_membersWith_21 : decode cX0_membersWith 21 = .ok (.iaload, 1) := by decide +kernel
theorem dX0_membersWith_22 : decode cX0_membersWith 22 = .ok (.iload_n 1, 1) := by decide +kernel
theorem dX0_membersWith_23 : decode cX0_membersWith 23 = .ok (.if_icmp .ne 10, 3) := by decide +kernel
theorem dX0_membersWith_26 : decode cX0_membersWith 26 = .ok (.iload_n 3, 1) := by decide +kernel
theorem dX0_membersWith_27 : decode cX0_membersWith 27 = .ok (.iconst 1, 1) := by decide +kernel
theorem dX0_membersWith_28 : decode cX0_membersWith 28 = .ok (.iload 4, 2) := by decide +kernel
theorem dX0_membersWith_30 : decode cX0_membersWith 30 = .ok (.ishl, 1) := by decide +kernel
theorem dX0_membersWith_31 : decode cX0_membersWith 31 = .ok (.iadd, 1) := by decide +kernel
theorem dX0_membersWith_32 : decode cX0_membersWith 32 = .ok (.istore_n 3, 1) := by decide +kernel
theorem dX0_membersWith_33 : decode cX0_membersWith 33 = .ok (.iinc 4 1, 3) := by decide +kernel
theorem dX0_membersWith_36 : decode cX0_membersWith 36 = .ok (.goto (-31), 3) := by decide +kernel
theorem dX0_membersWith_39 : decode cX0_membersWith 39 = .ok (.iload_n 3, 1) := by decide +kernel
theorem dX0_membersWith_40 : decode cX0_membersWith 40 = .ok (.ireturn, 1) := by decide +kernel
set_option maxRecDepth 20000 in
theorem ggX0_hasJoinedMasters_X0_placeOf : GoodIn wsX0_hasJoinedMasters wsX0_placeOf := goodIn_r _ [6] (by decide +kernel) (by decide +kernel)
set_option maxRecDepth 20000 in
theorem gX0_hasJoinedMasters_X0_placeOf : GoodIn wsX0_hasJoinedMasters (va_wsS RX0 70 yX0_placeOf wsX0_placeOf) := goodIn_app (goodIn_of _ (by decide +kernel)) ggX0_hasJoinedMasters_X0_placeOf
theorem dX0_hasJoinedMasters_0 : decode cX0_hasJoinedMasters 0 = .ok (.iconst 0, 1) := by decide +kernel
theorem dX0_hasJoinedMasters_1 : decode cX0_hasJoinedMasters 1 = .ok (.istore_n 2, 1) := by decide +kernel
theorem dX0_hasJoinedMasters_2 : decode cX0_hasJoinedMasters 2 = .ok (.iload_n 2, 1) := by decide +kernel
theorem dX0_hasJoinedMasters_3 : decode cX0_hasJoinedMasters 3 = .ok (.iconst 4, 1) := by decide +kernel
theorem dX0_hasJoinedMasters_4 : decode cX0_hasJoinedMasters 4 = .ok (.if_icmp .ge 67, 3) := by decide +kernel
theorem dX0_hasJoinedMasters_7 : decode cX0_hasJoinedMasters 7 = .ok (.iload_n 2, 1) := by decide +kernel
theorem dX0_hasJoinedMasters_8 : decode cX0_hasJoinedMasters 8 = .ok (.iconst 1, 1) := by decide +kernel
theorem dX0_hasJoinedMasters_9 : decode cX0_hasJoinedMasters 9 = .ok (.iadd, 1) := by decide +kernel
theorem dX0_hasJoinedMasters_10 : decode cX0_hasJoinedMasters 10 = .ok (.istore_n 3, 1) := by decide +kernel
theorem dX0_hasJoinedMasters_11 : decode cX0_hasJoinedMasters 11 = .ok (.iload_n 3, 1) := by decide +kernel
theorem dX0_hasJoinedMasters_12 : decode cX0_hasJoinedMasters 12 = .ok (.iconst 4, 1) := by decide +kernel
theorem dX0_hasJoinedMasters_13 : decode cX0_hasJoinedMasters 13 = .ok (.if_icmp .ge 52, 3) := by decide +kernel
theorem dX0_hasJoinedMasters_16 : decode cX0_hasJoinedMasters 16 = .ok (.aload_n 0, 1) := by decide +kernel
theorem dX0_hasJoinedMasters_17 : decode cX0_hasJoinedMasters 17 = .ok (.getfield 41, 3) := by decide +kernel
theorem dX0_hasJoinedMasters_20 : decode cX0_hasJoinedMasters 20 = .ok (.iload_n 2, 1) := by decide +kernel
theorem dX0_hasJoinedMasters_21 : decode cX0_hasJoinedMasters 21 = .ok (.iload_n 1, 1) := by decide +kernel
theorem dX0_hasJoinedMasters_22 : decode cX0_hasJoinedMasters 22 = .ok (.invokestatic 70, 3) := by decide +kernel
theorem dX0_hasJoinedMasters_25 : decode cX0_hasJoinedMasters 25 = .ok (.iaload, 1) := by decide +kernel
theorem dX0_hasJoinedMasters_26 : decode cX0_hasJoinedMasters 26 = .ok (.iconst 2, 1) := by decide +kernel
theorem dX0_hasJoinedMasters_27 : decode cX0_hasJoinedMasters 27 = .ok (.if_icmp .ne 32, 3) := by decide +kernel
theorem dX0_hasJoinedMasters_30 : decode cX0_hasJoinedMasters 30 = .ok (.aload_n 0, 1) := by decide +kernel
theorem dX0_hasJoinedMasters_31 : decode cX0_hasJoinedMasters 31 = .ok (.getfield 41, 3) := by decide +kernel
theorem dX0_hasJoinedMasters_34 : decode cX0_hasJoinedMasters 34 = .ok (.iload_n 3, 1) := by decide +kernel
theorem dX0_hasJoinedMasters_35 : decode cX0_hasJoinedMasters 35 = .ok (.iload_n 1, 1) := by decide +kernel
theorem dX0_hasJoinedMasters_36 : decode cX0_hasJoinedMasters 36 = .ok (.invokestatic 70, 3) := by decide +kernel
theorem dX0_hasJoinedMasters_39 : decode cX0_hasJoinedMasters 39 = .ok (.iaload, 1) := by decide +kernel
theorem dX0_hasJoinedMasters_40 : decode cX0_hasJoinedMasters 40 = .ok (.iconst 2, 1) := by decide +kernel
theorem dX0_hasJoinedMasters_41 : decode cX0_hasJoinedMasters 41 = .ok (.if_icmp .ne 18, 3) := by decide +kernel
theorem dX0_hasJoinedMasters_44 : decode cX0_hasJoinedMasters 44 = .ok (.aload_n 0, 1) := by decide +kernel
theorem dX0_hasJoinedMasters_45 : decode cX0_hasJoinedMasters 45 = .ok (.getfield 13, 3) := by decide +kernel
theorem dX0_hasJoinedMasters_48 : decode cX0_hasJoinedMasters 48 = .ok (.iload_n 2, 1) := by decide +kernel
theorem dX0_hasJoinedMasters_49 : decode cX0_hasJoinedMasters 49 = .ok (.iconst 4, 1) := by decide +kernel
theorem dX0_hasJoinedMasters_50 : decode cX0_hasJoinedMasters 50 = .ok (.imul, 1) := by decide +kernel
theorem dX0_hasJoinedMasters_51 : decode cX0_hasJoinedMasters 51 = .ok (.iload_n 3, 1) := by decide +kernel
theorem dX0_hasJoinedMasters_52 : decode cX0_hasJoinedMasters 52 = .ok (.iadd, 1) := by decide +kernel
theorem dX0_hasJoinedMasters_53 : decode cX0_hasJoinedMasters 53 = .ok (.baload, 1) := by decide +kernel
theorem dX0_hasJoinedMasters_54 : decode cX0_hasJoinedMasters 54 = .ok (.ifCond .eq 5, 3) := by decide +kernel
theorem dX0_hasJoinedMasters_57 : decode cX0_hasJoinedMasters 57 = .ok (.iconst 1, 1) := by decide +kernel
theorem dX0_hasJoinedMasters_58 : decode cX0_hasJoinedMasters 58 = .ok (.ireturn, 1) := by decide +kernel
theorem dX0_hasJoinedMasters_59 : decode cX0_hasJoinedMasters 59 = .ok (.iinc 3 1, 3) := by decide +kernel
theorem dX0_hasJoinedMasters_62 : decode cX0_hasJoinedMasters 62 = .ok (.goto (-51), 3) := by decide +kernel
theorem dX0_hasJoinedMasters_65 : decode cX0_hasJoinedMasters 65 = .ok (.iinc 2 1, 3) := by decide +kernel
theorem dX0_hasJoinedMasters_68 : decode cX0_hasJoinedMasters 68 = .ok (.goto (-66), 3) := by decide +kernel
theorem dX0_hasJoinedMasters_71 : decode cX0_hasJoinedMasters 71 = .ok (.iconst 0, 1) := by decide +kernel
theorem dX0_hasJoinedMasters_72 : decode cX0_hasJoinedMasters 72 = .ok (.ireturn, 1) := by decide +kernel
set_option maxRecDepth 20000 in
theorem ggX0_loweredPriority_X0_placeOf : GoodIn wsX0_loweredPriority wsX0_placeOf := goodIn_r _ [11] (by decide +kernel) (by decide +kernel)
set_option maxRecDepth 20000 in
theorem gX0_loweredPriority_X0_placeOf : GoodIn wsX0_loweredPriority (va_wsS RX0 70 yX0_placeOf wsX0_placeOf) := goodIn_app (goodIn_of _ (by decide +kernel)) ggX0_loweredPriority_X0_placeOf
set_option maxRecDepth 20000 in
theorem ggX0_loweredPriority_X0_linkOf : GoodIn wsX0_loweredPriority wsX0_linkOf := goodIn_r _ [14] (by decide +kernel) (by decide +kernel)
set_option maxRecDepth 20000 in
theorem gX0_loweredPriority_X0_linkOf : GoodIn wsX0_loweredPriority (va_wsS RX0 84 yX0_linkOf wsX0_linkOf) := goodIn_app (goodIn_of _ (by decide +kernel)) ggX0_loweredPriority_X0_linkOf
theorem dX0_loweredPriority_0 : decode cX0_loweredPriority 0 = .ok (.aload_n 0, 1) := by decide +kernel
theorem dX0_loweredPriority_1 : decode cX0_loweredPriority 1 = .ok (.getfield 38, 3) := by decide +kernel
theorem dX0_loweredPriority_4 : decode cX0_loweredPriority 4 = .ok (.iload_n 1, 1) := by decide +kernel
theorem dX0_loweredPriority_5 : decode cX0_loweredPriority 5 = .ok (.iload_n 2, 1) := by decide +kernel
theorem dX0_loweredPriority_6 : decode cX0_loweredPriority 6 = .ok (.invokestatic 70, 3) := by decide +kernel
theorem dX0_loweredPriority_9 : decode cX0_loweredPriority 9 = .ok (.iaload, 1) := by decide +kernel
theorem dX0_loweredPriority_10 : decode cX0_loweredPriority 10 = .ok (.istore_n 3, 1) := by decide +kernel
theorem dX0_loweredPriority_11 : decode cX0_loweredPriority 11 = .ok (.iconst 0, 1) := by decide +kernel
theorem dX0_loweredPriority_12 : decode cX0_loweredPriority 12 = .ok (.istore 4, 2) := by decide +kernel
theorem dX0_loweredPriority_14 : decode cX0_loweredPriority 14 = .ok (.iload 4, 2) := by decide +kernel
theorem dX0_loweredPriority_16 : decode cX0_loweredPriority 16 = .ok (.iconst 2, 1) := by decide +kernel
theorem dX0_loweredPriority_17 : decode cX0_loweredPriority 17 = .ok (.if_icmp .ge 37, 3) := by decide +kernel
theorem dX0_loweredPriority_20 : decode cX0_loweredPriority 20 = .ok (.iload_n 1, 1) := by decide +kernel
theorem dX0_loweredPriority_21 : decode cX0_loweredPriority 21 = .ok (.iload 4, 2) := by decide +kernel
theorem dX0_loweredPriority_23 : decode cX0_loweredPriority 23 = .ok (.invokestatic 84, 3) := by decide +kernel
theorem dX0_loweredPriority_26 : decode cX0_loweredPriority 26 = .ok (.istore 5, 2) := by decide +kernel
theorem dX0_loweredPriority_28 : decode cX0_loweredPriority 28 = .ok (.aload_n 0, 1) := by decide +kernel
theorem dX0_loweredPriority_29 : decode cX0_loweredPriority 29 = .ok (.getfield 16, 3) := by decide +kernel
theorem dX0_loweredPriority_32 : decode cX0_loweredPriority 32 = .ok (.iload 5, 2) := by decide +kernel
theorem dX0_loweredPriority_34 : decode cX0_loweredPriority 34 = .ok (.baload, 1) := by decide +kernel
theorem dX0_loweredPriority_35 : decode cX0_loweredPriority 35 = .ok (.ifCond .ne 13, 3) := by decide +kernel
theorem dX0_loweredPriority_38 : decode cX0_loweredPriority 38 = .ok (.iload_n 3, 1) := by decide +kernel
theorem dX0_loweredPriority_39 : decode cX0_loweredPriority 39 = .ok (.aload_n 0, 1) := by decide +kernel
theorem dX0_loweredPriority_40 : decode cX0_loweredPriority 40 = .ok (.getfield 19, 3) := by decide +kernel
theorem dX0_loweredPriority_43 : decode cX0_loweredPriority 43 = .ok (.iload 5, 2) := by decide +kernel
theorem dX0_loweredPriority_45 : decode cX0_loweredPriority 45 = .ok (.iaload, 1) := by decide +kernel
theorem dX0_loweredPriority_46 : decode cX0_loweredPriority 46 = .ok (.isub, 1) := by decide +kernel
theorem dX0_loweredPriority_47 : decode cX0_loweredPriority 47 = .ok (.istore_n 3, 1) := by decide +kernel
theorem dX0_loweredPriority_48 : decode cX0_loweredPriority 48 = .ok (.iinc 4 1, 3) := by decide +kernel
theorem dX0_loweredPriority_51 : decode cX0_loweredPriority 51 = .ok (.goto (-37), 3) := by decide +kernel
theorem dX0_loweredPriority_54 : decode cX0_loweredPriority 54 = .ok (.iload_n 3, 1) := by decide +kernel
theorem dX0_loweredPriority_55 : decode cX0_loweredPriority 55 = .ok (.iconst 1, 1) := by decide +kernel
theorem dX0_loweredPriority_56 : decode cX0_loweredPriority 56 = .ok (.invokestatic 150, 3) := by decide +kernel
theorem dX0_loweredPriority_59 : decode cX0_loweredPriority 59 = .ok (.ireturn, 1) := by decide +kernel
set_option maxRecDepth 20000 in
theorem ggX0_waitOf_X0_skewOf : GoodIn wsX0_waitOf wsX0_skewOf := goodIn_r _ [6, 1, 7, 8, 9, 10, 11, 12, 13, 14, 15, 16, 17, 18, 19, 20, 21, 22, 23, 24] (by decide +kernel) (by decide +kernel)
set_option maxRecDepth 20000 in
theorem gX0_waitOf_X0_skewOf : GoodIn wsX0_waitOf (wsV RX0 144 RX0 yX0_skewOf wsX0_skewOf) := goodIn_app (goodIn_of _ (by decide +kernel)) ggX0_waitOf_X0_skewOf
theorem dX0_waitOf_0 : decode cX0_waitOf 0 = .ok (.iconst 3, 1) := by decide +kernel
theorem dX0_waitOf_1 : decode cX0_waitOf 1 = .ok (.aload_n 0, 1) := by decide +kernel
theorem dX0_waitOf_2 : decode cX0_waitOf 2 = .ok (.getfield 23, 3) := by decide +kernel
theorem dX0_waitOf_5 : decode cX0_waitOf 5 = .ok (.iload_n 2, 1) := by decide +kernel
theorem dX0_waitOf_6 : decode cX0_waitOf 6 = .ok (.iaload, 1) := by decide +kernel
theorem dX0_waitOf_7 : decode cX0_waitOf 7 = .ok (.imul, 1) := by decide +kernel
theorem dX0_waitOf_8 : decode cX0_waitOf 8 = .ok (.aload_n 0, 1) := by decide +kernel
theorem dX0_waitOf_9 : decode cX0_waitOf 9 = .ok (.iload_n 1, 1) := by decide +kernel
theorem dX0_waitOf_10 : decode cX0_waitOf 10 = .ok (.iload_n 2, 1) := by decide +kernel
theorem dX0_waitOf_11 : decode cX0_waitOf 11 = .ok (.invokevirtual 144, 3) := by decide +kernel
theorem dX0_waitOf_14 : decode cX0_waitOf 14 = .ok (.iadd, 1) := by decide +kernel
theorem dX0_waitOf_15 : decode cX0_waitOf 15 = .ok (.ireturn, 1) := by decide +kernel
theorem dX0_skewOf_0 : decode cX0_skewOf 0 = .ok (.aload_n 0, 1) := by decide +kernel
theorem dX0_skewOf_1 : decode cX0_skewOf 1 = .ok (.getfield 23, 3) := by decide +kernel
theorem dX0_skewOf_4 : decode cX0_skewOf 4 = .ok (.iload_n 2, 1) := by decide +kernel
theorem dX0_skewOf_5 : decode cX0_skewOf 5 = .ok (.iaload, 1) := by decide +kernel
theorem dX0_skewOf_6 : decode cX0_skewOf 6 = .ok (.sipush 256, 3) := by decide +kernel
theorem dX0_skewOf_9 : decode cX0_skewOf 9 = .ok (.iload_n 1, 1) := by decide +kernel
theorem dX0_skewOf_10 : decode cX0_skewOf 10 = .ok (.isub, 1) := by decide +kernel
theorem dX0_skewOf_11 : decode cX0_skewOf 11 = .ok (.imul, 1) := by decide +kernel
theorem dX0_skewOf_12 : decode cX0_skewOf 12 = .ok (.sipush 256, 3) := by decide +kernel
theorem dX0_skewOf_15 : decode cX0_skewOf 15 = .ok (.idiv, 1) := by decide +kernel
theorem dX0_skewOf_16 : decode cX0_skewOf 16 = .ok (.ireturn, 1) := by decide +kernel
theorem dX0_placeOf_0 : decode cX0_placeOf 0 = .ok (.iload_n 1, 1) := by decide +kernel
theorem dX0_placeOf_1 : decode cX0_placeOf 1 = .ok (.iconst 4, 1) := by decide +kernel
theorem dX0_placeOf_2 : decode cX0_placeOf 2 = .ok (.imul, 1) := by decide +kernel
theorem dX0_placeOf_3 : decode cX0_placeOf 3 = .ok (.iload_n 0, 1) := by decide +kernel
theorem dX0_placeOf_4 : decode cX0_placeOf 4 = .ok (.iadd, 1) := by decide +kernel
theorem dX0_placeOf_5 : decode cX0_placeOf 5 = .ok (.ireturn, 1) := by decide +kernel
theorem dX0_linkOf_0 : decode cX0_linkOf 0 = .ok (.iload_n 0, 1) := by decide +kernel
theorem dX0_linkOf_1 : decode cX0_linkOf 1 = .ok (.iconst 2, 1) := by decide +kernel
theorem dX0_linkOf_2 : decode cX0_linkOf 2 = .ok (.imul, 1) := by decide +kernel
theorem dX0_linkOf_3 : decode cX0_linkOf 3 = .ok (.iload_n 1, 1) := by decide +kernel
theorem dX0_linkOf_4 : decode cX0_linkOf 4 = .ok (.iadd, 1) := by decide +kernel
theorem dX0_linkOf_5 : decode cX0_linkOf 5 = .ok (.ireturn, 1) := by decide +kernel
theorem dX0_checkRouter_0 : decode cX0_checkRouter 0 = .ok (.iload_n 0, 1) := by decide +kernel
theorem dX0_checkRouter_1 : decode cX0_checkRouter 1 = .ok (.ifCond .lt 8, 3) := by decide +kernel
theorem dX0_checkRouter_4 : decode cX0_checkRouter 4 = .ok (.iload_n 0, 1) := by decide +kernel
theorem dX0_checkRouter_5 : decode cX0_checkRouter 5 = .ok (.iconst 4, 1) := by decide +kernel
theorem dX0_checkRouter_6 : decode cX0_checkRouter 6 = .ok (.if_icmp .lt 13, 3) := by decide +kernel
theorem dX0_checkRouter_9 : decode cX0_checkRouter 9 = .ok (.new 87, 3) := by decide +kernel
theorem dX0_checkRouter_12 : decode cX0_checkRouter 12 = .ok (.dup, 1) := by decide +kernel
theorem dX0_checkRouter_13 : decode cX0_checkRouter 13 = .ok (.ldc 155, 2) := by decide +kernel
theorem dX0_checkRouter_15 : decode cX0_checkRouter 15 = .ok (.invokespecial 91, 3) := by decide +kernel
theorem dX0_checkRouter_18 : decode cX0_checkRouter 18 = .ok (.athrow, 1) := by decide +kernel
theorem dX0_checkRouter_19 : decode cX0_checkRouter 19 = .ok (.return_, 1) := by decide +kernel
theorem dX0_checkGroup_0 : decode cX0_checkGroup 0 = .ok (.iload_n 0, 1) := by decide +kernel
theorem dX0_checkGroup_1 : decode cX0_checkGroup 1 = .ok (.ifCond .lt 8, 3) := by decide +kernel
theorem dX0_checkGroup_4 : decode cX0_checkGroup 4 = .ok (.iload_n 0, 1) := by decide +kernel
theorem dX0_checkGroup_5 : decode cX0_checkGroup 5 = .ok (.iconst 3, 1) := by decide +kernel
theorem dX0_checkGroup_6 : decode cX0_checkGroup 6 = .ok (.if_icmp .lt 13, 3) := by decide +kernel
theorem dX0_checkGroup_9 : decode cX0_checkGroup 9 = .ok (.new 87, 3) := by decide +kernel
theorem dX0_checkGroup_12 : decode cX0_checkGroup 12 = .ok (.dup, 1) := by decide +kernel
theorem dX0_checkGroup_13 : decode cX0_checkGroup 13 = .ok (.ldc 157, 2) := by decide +kernel
theorem dX0_checkGroup_15 : decode cX0_checkGroup 15 = .ok (.invokespecial 91, 3) := by decide +kernel
theorem dX0_checkGroup_18 : decode cX0_checkGroup 18 = .ok (.athrow, 1) := by decide +kernel
theorem dX0_checkGroup_19 : decode cX0_checkGroup 19 = .ok (.return_, 1) := by decide +kernel
theorem dX0_checkLink_0 : decode cX0_checkLink 0 = .ok (.iload_n 0, 1) := by decide +kernel
theorem dX0_checkLink_1 : decode cX0_checkLink 1 = .ok (.ifCond .lt 8, 3) := by decide +kernel
theorem dX0_checkLink_4 : decode cX0_checkLink 4 = .ok (.iload_n 0, 1) := by decide +kernel
theorem dX0_checkLink_5 : decode cX0_checkLink 5 = .ok (.iconst 2, 1) := by decide +kernel
theorem dX0_checkLink_6 : decode cX0_checkLink 6 = .ok (.if_icmp .lt 13, 3) := by decide +kernel
theorem dX0_checkLink_9 : decode cX0_checkLink 9 = .ok (.new 87, 3) := by decide +kernel
theorem dX0_checkLink_12 : decode cX0_checkLink 12 = .ok (.dup, 1) := by decide +kernel
theorem dX0_checkLink_13 : decode cX0_checkLink 13 = .ok (.ldc 159, 2) := by decide +kernel
theorem dX0_checkLink_15 : decode cX0_checkLink 15 = .ok (.invokespecial 91, 3) := by decide +kernel
theorem dX0_checkLink_18 : decode cX0_checkLink 18 = .ok (.athrow, 1) := by decide +kernel
theorem dX0_checkLink_19 : decode cX0_checkLink 19 = .ok (.return_, 1) := by decide +kernel
theorem dX0_checkRange_0 : decode cX0_checkRange 0 = .ok (.iload_n 0, 1) := by decide +kernel
theorem dX0_checkRange_1 : decode cX0_checkRange 1 = .ok (.iload_n 1, 1) := by decide +kernel
theorem dX0_checkRange_2 : decode cX0_checkRange 2 = .ok (.if_icmp .lt 8, 3) := by decide +kernel
theorem dX0_checkRange_5 : decode cX0_checkRange 5 = .ok (.iload_n 0, 1) := by decide +kernel
theorem dX0_checkRange_6 : decode cX0_checkRange 6 = .ok (.iload_n 2, 1) := by decide +kernel
theorem dX0_checkRange_7 : decode cX0_checkRange 7 = .ok (.if_icmp .le 13, 3) := by decide +kernel
theorem dX0_checkRange_10 : decode cX0_checkRange 10 = .ok (.new 87, 3) := by decide +kernel
theorem dX0_checkRange_13 : decode cX0_checkRange 13 = .ok (.dup, 1) := by decide +kernel
theorem dX0_checkRange_14 : decode cX0_checkRange 14 = .ok (.ldc 161, 2) := by decide +kernel
theorem dX0_checkRange_16 : decode cX0_checkRange 16 = .ok (.invokespecial 91, 3) := by decide +kernel
theorem dX0_checkRange_19 : decode cX0_checkRange 19 = .ok (.athrow, 1) := by decide +kernel
theorem dX0_checkRange_20 : decode cX0_checkRange 20 = .ok (.return_, 1) := by decide +kernel
end
section
theorem dJ9_max_7cf53_0 : decode cJ9_max_7cf53 0 = .ok (.iload_n 0, 1) := by decide +kernel
theorem dJ9_max_7cf53_1 : decode cJ9_max_7cf53 1 = .ok (.iload_n 1, 1) := by decide +kernel
theorem dJ9_max_7cf53_2 : decode cJ9_max_7cf53 2 = .ok (.if_icmp .lt 7, 3) := by decide +kernel
theorem dJ9_max_7cf53_5 : decode cJ9_max_7cf53 5 = .ok (.iload_n 0, 1) := by decide +kernel
theorem dJ9_max_7cf53_6 : decode cJ9_max_7cf53 6 = .ok (.goto 4, 3) := by decide +kernel
theorem dJ9_max_7cf53_9 : decode cJ9_max_7cf53 9 = .ok (.iload_n 1, 1) := by decide +kernel
theorem dJ9_max_7cf53_10 : decode cJ9_max_7cf53 10 = .ok (.ireturn, 1) := by decide +kernel
theorem dL_cell_0 : decode cL_cell 0 = .ok (.iload_n 1, 1) := by decide +kernel
theorem dL_cell_1 : decode cL_cell 1 = .ok (.aload_n 0, 1) := by decide +kernel
theorem dL_cell_2 : decode cL_cell 2 = .ok (.arraylength, 1) := by decide +kernel
theorem dL_cell_3 : decode cL_cell 3 = .ok (.if_icmp .ge 9, 3) := by decide +kernel
theorem dL_cell_6 : decode cL_cell 6 = .ok (.aload_n 0, 1) := by decide +kernel
theorem dL_cell_7 : decode cL_cell 7 = .ok (.iload_n 1, 1) := by decide +kernel
theorem dL_cell_8 : decode cL_cell 8 = .ok (.iaload, 1) := by decide +kernel
theorem dL_cell_9 : decode cL_cell 9 = .ok (.goto 18, 3) := by decide +kernel
theorem dL_cell_12 : decode cL_cell 12 = .ok (.sipush 7919, 3) := by decide +kernel
theorem dL_cell_15 : decode cL_cell 15 = .ok (.iload_n 1, 1) := by decide +kernel
theorem dL_cell_16 : decode cL_cell 16 = .ok (.sipush 641, 3) := by decide +kernel
theorem dL_cell_19 : decode cL_cell 19 = .ok (.iadd, 1) := by decide +kernel
theorem dL_cell_20 : decode cL_cell 20 = .ok (.imul, 1) := by decide +kernel
theorem dL_cell_21 : decode cL_cell 21 = .ok (.iload_n 1, 1) := by decide +kernel
theorem dL_cell_22 : decode cL_cell 22 = .ok (.sipush 1213, 3) := by decide +kernel
theorem dL_cell_25 : decode cL_cell 25 = .ok (.iadd, 1) := by decide +kernel
theorem dL_cell_26 : decode cL_cell 26 = .ok (.imul, 1) := by decide +kernel
theorem dL_cell_27 : decode cL_cell 27 = .ok (.ireturn, 1) := by decide +kernel
theorem dL_low_0 : decode cL_low 0 = .ok (.iload_n 0, 1) := by decide +kernel
theorem dL_low_1 : decode cL_low 1 = .ok (.ldc 7, 2) := by decide +kernel
theorem dL_low_3 : decode cL_low 3 = .ok (.iand, 1) := by decide +kernel
theorem dL_low_4 : decode cL_low 4 = .ok (.iload_n 1, 1) := by decide +kernel
theorem dL_low_5 : decode cL_low 5 = .ok (.irem, 1) := by decide +kernel
theorem dL_low_6 : decode cL_low 6 = .ok (.ireturn, 1) := by decide +kernel
set_option maxRecDepth 20000 in
theorem ggL_setPriority_X0_setPriority : GoodIn wsL_setPriority wsX0_setPriority := goodIn_ca (goodIn_r _ [7, 8, 9, 10, 11, 12, 6, 13, 14, 15, 16, 17, 18, 19, 20, 21, 22, 23, 24, 25, 26, 27, 28, 29, 30, 31, 32, 33, 34, 35, 36, 37, 38, 39, 40, 41, 42, 43, 44, 45, 46, 47, 48, 49, 50, 51, 52, 53, 54, 55, 56, 57, 58, 59, 60, 61, 62, 63, 64, 65, 66, 67, 68, 69, 70, 71, 72, 73, 74, 75, 76, 77, 78, 79, 80, 81, 82, 83, 84, 85, 86, 87, 88, 89, 90, 91, 92, 93, 94, 95, 96, 97] (by decide +kernel) (by decide +kernel)) (goodIn_sub (fun _ h => List.mem_cons_of_mem _ (List.mem_append_right _ h)) (by decide +kernel))
set_option maxRecDepth 20000 in
theorem gL_setPriority_X0_setPriority : GoodIn wsL_setPriority (wsV RL 8 RX0 yX0_setPriority wsX0_setPriority) := goodIn_app (goodIn_of _ (by decide +kernel)) ggL_setPriority_X0_setPriority
theorem dL_setPriority_0 : decode cL_setPriority 0 = .ok (.aload_n 0, 1) := by decide +kernel
theorem dL_setPriority_1 : decode cL_setPriority 1 = .ok (.iload_n 1, 1) := by decide +kernel
theorem dL_setPriority_2 : decode cL_setPriority 2 = .ok (.iload_n 2, 1) := by decide +kernel
theorem dL_setPriority_3 : decode cL_setPriority 3 = .ok (.iload_n 3, 1) := by decide +kernel
theorem dL_setPriority_4 : decode cL_setPriority 4 = .ok (.invokevirtual 8, 3) := by decide +kernel
theorem dL_setPriority_7 : decode cL_setPriority 7 = .ok (.ireturn, 1) := by decide +kernel
theorem dL_setPriority_8 : decode cL_setPriority 8 = .ok (.astore 4, 2) := by decide +kernel
theorem dL_setPriority_10 : decode cL_setPriority 10 = .ok (.ldc 16, 2) := by decide +kernel
theorem dL_setPriority_12 : decode cL_setPriority 12 = .ok (.ireturn, 1) := by decide +kernel
set_option maxRecDepth 20000 in
theorem ggL_track_X0_track : GoodIn wsL_track wsX0_track := goodIn_ca (goodIn_r _ [7, 8, 9, 10, 6, 11, 12, 13, 14, 15, 16, 17, 18, 19, 20, 21, 22, 23, 24, 25, 26, 27, 28, 29, 30, 31, 32, 33, 34, 35, 36, 37, 38, 39, 40] (by decide +kernel) (by decide +kernel)) (goodIn_sub (fun _ h => List.mem_cons_of_mem _ (List.mem_append_right _ h)) (by decide +kernel))
set_option maxRecDepth 20000 in
theorem gL_track_X0_track : GoodIn wsL_track (wsV RL 17 RX0 yX0_track wsX0_track) := goodIn_app (goodIn_of _ (by decide +kernel)) ggL_track_X0_track
theorem dL_track_0 : decode cL_track 0 = .ok (.aload_n 0, 1) := by decide +kernel
theorem dL_track_1 : decode cL_track 1 = .ok (.iload_n 1, 1) := by decide +kernel
theorem dL_track_2 : decode cL_track 2 = .ok (.iload_n 2, 1) := by decide +kernel
theorem dL_track_3 : decode cL_track 3 = .ok (.iload_n 3, 1) := by decide +kernel
theorem dL_track_4 : decode cL_track 4 = .ok (.invokevirtual 17, 3) := by decide +kernel
theorem dL_track_7 : decode cL_track 7 = .ok (.ireturn, 1) := by decide +kernel
theorem dL_track_8 : decode cL_track 8 = .ok (.astore 4, 2) := by decide +kernel
theorem dL_track_10 : decode cL_track 10 = .ok (.ldc 16, 2) := by decide +kernel
theorem dL_track_12 : decode cL_track 12 = .ok (.ireturn, 1) := by decide +kernel
set_option maxRecDepth 20000 in
theorem ggL_setLink_X0_setLink : GoodIn wsL_setLink wsX0_setLink := goodIn_ca (goodIn_r _ [7, 8, 9, 10, 6, 11, 12, 13, 14, 15, 16, 17, 18, 19, 20, 21, 22, 23, 24, 25, 26, 27, 28, 29, 30, 31, 32, 33, 34, 35, 36, 37] (by decide +kernel) (by decide +kernel)) (goodIn_sub (fun _ h => List.mem_cons_of_mem _ (List.mem_append_right _ h)) (by decide +kernel))
set_option maxRecDepth 20000 in
theorem gL_setLink_X0_setLink : GoodIn wsL_setLink (wsV RL 20 RX0 yX0_setLink wsX0_setLink) := goodIn_app (goodIn_of _ (by decide +kernel)) ggL_setLink_X0_setLink
theorem dL_setLink_0 : decode cL_setLink 0 = .ok (.aload_n 0, 1) := by decide +kernel
theorem dL_setLink_1 : decode cL_setLink 1 = .ok (.iload_n 1, 1) := by decide +kernel
theorem dL_setLink_2 : decode cL_setLink 2 = .ok (.iload_n 2, 1) := by decide +kernel
theorem dL_setLink_3 : decode cL_setLink 3 = .ok (.iload_n 3, 1) := by decide +kernel
theorem dL_setLink_4 : decode cL_setLink 4 = .ok (.invokevirtual 20, 3) := by decide +kernel
theorem dL_setLink_7 : decode cL_setLink 7 = .ok (.ifCond .eq 7, 3) := by decide +kernel
theorem dL_setLink_10 : decode cL_setLink 10 = .ok (.iconst 1, 1) := by decide +kernel
theorem dL_setLink_11 : decode cL_setLink 11 = .ok (.goto 4, 3) := by decide +kernel
theorem dL_setLink_14 : decode cL_setLink 14 = .ok (.iconst 0, 1) := by decide +kernel
theorem dL_setLink_15 : decode cL_setLink 15 = .ok (.ireturn, 1) := by decide +kernel
theorem dL_setLink_16 : decode cL_setLink 16 = .ok (.astore 4, 2) := by decide +kernel
theorem dL_setLink_18 : decode cL_setLink 18 = .ok (.ldc 16, 2) := by decide +kernel
theorem dL_setLink_20 : decode cL_setLink 20 = .ok (.ireturn, 1) := by decide +kernel
set_option maxRecDepth 20000 in
theorem ggL_setPeriod_X0_setPeriod : GoodIn wsL_setPeriod wsX0_setPeriod := goodIn_ca (goodIn_r _ [7, 8, 9, 10, 6, 11, 12, 13, 14, 15, 16, 17, 18, 19, 20, 21, 22, 23, 24, 25, 26, 27, 28, 29, 30, 31, 32, 33, 34] (by decide +kernel) (by decide +kernel)) (goodIn_sub (fun _ h => List.mem_cons_of_mem _ (List.mem_append_right _ h)) (by decide +kernel))
set_option maxRecDepth 20000 in
theorem gL_setPeriod_X0_setPeriod : GoodIn wsL_setPeriod (wsV RL 24 RX0 yX0_setPeriod wsX0_setPeriod) := goodIn_app (goodIn_of _ (by decide +kernel)) ggL_setPeriod_X0_setPeriod
theorem dL_setPeriod_0 : decode cL_setPeriod 0 = .ok (.aload_n 0, 1) := by decide +kernel
theorem dL_setPeriod_1 : decode cL_setPeriod 1 = .ok (.iload_n 1, 1) := by decide +kernel
theorem dL_setPeriod_2 : decode cL_setPeriod 2 = .ok (.iload_n 2, 1) := by decide +kernel
theorem dL_setPeriod_3 : decode cL_setPeriod 3 = .ok (.invokevirtual 24, 3) := by decide +kernel
theorem dL_setPeriod_6 : decode cL_setPeriod 6 = .ok (.ireturn, 1) := by decide +kernel
theorem dL_setPeriod_7 : decode cL_setPeriod 7 = .ok (.astore_n 3, 1) := by decide +kernel
theorem dL_setPeriod_8 : decode cL_setPeriod 8 = .ok (.ldc 16, 2) := by decide +kernel
theorem dL_setPeriod_10 : decode cL_setPeriod 10 = .ok (.ireturn, 1) := by decide +kernel
set_option maxRecDepth 20000 in
theorem ggL_setPreemption_X0_setPreemption : GoodIn wsL_setPreemption wsX0_setPreemption := goodIn_ca (goodIn_r _ [7, 8, 9, 10, 11, 6, 12, 13, 14, 15, 16, 17, 18, 19, 20, 21, 22, 23, 24, 25, 26, 27, 28, 29, 30, 31, 32, 33, 34, 35] (by decide +kernel) (by decide +kernel)) (goodIn_sub (fun _ h => List.mem_cons_of_mem _ (List.mem_append_right _ h)) (by decide +kernel))
set_option maxRecDepth 20000 in
theorem gL_setPreemption_X0_setPreemption : GoodIn wsL_setPreemption (wsV RL 28 RX0 yX0_setPreemption wsX0_setPreemption) := goodIn_app (goodIn_of _ (by decide +kernel)) ggL_setPreemption_X0_setPreemption
theorem dL_setPreemption_0 : decode cL_setPreemption 0 = .ok (.aload_n 0, 1) := by decide +kernel
theorem dL_setPreemption_1 : decode cL_setPreemption 1 = .ok (.iload_n 1, 1) := by decide +kernel
theorem dL_setPreemption_2 : decode cL_setPreemption 2 = .ok (.iload_n 2, 1) := by decide +kernel
theorem dL_setPreemption_3 : decode cL_setPreemption 3 = .ok (.iload_n 3, 1) := by decide +kernel
theorem dL_setPreemption_4 : decode cL_setPreemption 4 = .ok (.invokevirtual 28, 3) := by decide +kernel
theorem dL_setPreemption_7 : decode cL_setPreemption 7 = .ok (.iconst 0, 1) := by decide +kernel
theorem dL_setPreemption_8 : decode cL_setPreemption 8 = .ok (.ireturn, 1) := by decide +kernel
theorem dL_setPreemption_9 : decode cL_setPreemption 9 = .ok (.astore 4, 2) := by decide +kernel
theorem dL_setPreemption_11 : decode cL_setPreemption 11 = .ok (.ldc 16, 2) := by decide +kernel
theorem dL_setPreemption_13 : decode cL_setPreemption 13 = .ok (.ireturn, 1) := by decide +kernel
set_option maxRecDepth 20000 in
theorem ggL_join_X0_join : GoodIn wsL_join wsX0_join := goodIn_ca (goodIn_r _ [7, 8, 9, 10, 11, 12, 6, 13, 14, 15, 16, 17, 18, 19, 20, 21, 22, 23, 24, 25, 26, 27, 28, 29, 30, 31] (by decide +kernel) (by decide +kernel)) (goodIn_sub (fun _ h => List.mem_cons_of_mem _ (List.mem_append_right _ h)) (by decide +kernel))
set_option maxRecDepth 20000 in
theorem gL_join_X0_join : GoodIn wsL_join (wsV RL 32 RX0 yX0_join wsX0_join) := goodIn_app (goodIn_of _ (by decide +kernel)) ggL_join_X0_join
theorem dL_join_0 : decode cL_join 0 = .ok (.aload_n 0, 1) := by decide +kernel
theorem dL_join_1 : decode cL_join 1 = .ok (.iload_n 1, 1) := by decide +kernel
theorem dL_join_2 : decode cL_join 2 = .ok (.iload_n 2, 1) := by decide +kernel
theorem dL_join_3 : decode cL_join 3 = .ok (.iload_n 3, 1) := by decide +kernel
theorem dL_join_4 : decode cL_join 4 = .ok (.invokevirtual 32, 3) := by decide +kernel
theorem dL_join_7 : decode cL_join 7 = .ok (.ifCond .eq 7, 3) := by decide +kernel
theorem dL_join_10 : decode cL_join 10 = .ok (.iconst 1, 1) := by decide +kernel
theorem dL_join_11 : decode cL_join 11 = .ok (.goto 4, 3) := by decide +kernel
theorem dL_join_14 : decode cL_join 14 = .ok (.iconst 0, 1) := by decide +kernel
theorem dL_join_15 : decode cL_join 15 = .ok (.ireturn, 1) := by decide +kernel
theorem dL_join_16 : decode cL_join 16 = .ok (.astore 4, 2) := by decide +kernel
theorem dL_join_18 : decode cL_join 18 = .ok (.ldc 16, 2) := by decide +kernel
theorem dL_join_20 : decode cL_join 20 = .ok (.ireturn, 1) := by decide +kernel
set_option maxRecDepth 20000 in
theorem ggL_die_X0_die : GoodIn wsL_die wsX0_die := goodIn_ca (goodIn_ca (goodIn_r _ [8, 9, 10, 11, 12, 13, 14, 7, 15, 16, 17, 18, 19, 20, 21, 22, 23, 24, 25, 26, 27, 28, 29, 30, 31, 32, 33, 34, 35, 36, 37, 38] (by decide +kernel) (by decide +kernel)) (goodIn_sub (fun _ h => List.mem_cons_of_mem _ (List.mem_append_left _ (List.mem_append_right _ h))) (by decide +kernel))) (goodIn_sub (fun _ h => List.mem_cons_of_mem _ (List.mem_append_right _ h)) (by decide +kernel))
set_option maxRecDepth 20000 in
theorem gL_die_X0_die : GoodIn wsL_die (wsV RL 35 RX0 yX0_die wsX0_die) := goodIn_app (goodIn_of _ (by decide +kernel)) ggL_die_X0_die
theorem dL_die_0 : decode cL_die 0 = .ok (.aload_n 0, 1) := by decide +kernel
theorem dL_die_1 : decode cL_die 1 = .ok (.iload_n 1, 1) := by decide +kernel
theorem dL_die_2 : decode cL_die 2 = .ok (.invokevirtual 35, 3) := by decide +kernel
theorem dL_die_5 : decode cL_die 5 = .ok (.ireturn, 1) := by decide +kernel
theorem dL_die_6 : decode cL_die 6 = .ok (.astore_n 2, 1) := by decide +kernel
theorem dL_die_7 : decode cL_die 7 = .ok (.ldc 16, 2) := by decide +kernel
theorem dL_die_9 : decode cL_die 9 = .ok (.ireturn, 1) := by decide +kernel
theorem dL_die_10 : decode cL_die 10 = .ok (.astore_n 2, 1) := by decide +kernel
theorem dL_die_11 : decode cL_die 11 = .ok (.ldc 16, 2) := by decide +kernel
theorem dL_die_13 : decode cL_die 13 = .ok (.ireturn, 1) := by decide +kernel
set_option maxRecDepth 20000 in
theorem ggL_live_X0_live : GoodIn wsL_live wsX0_live := goodIn_ca (goodIn_ca (goodIn_r _ [8, 9, 10, 11, 12, 13, 14, 7, 15, 16, 17, 18, 19, 20, 21, 22, 23, 24, 25, 26, 27, 28, 29, 30, 31, 32, 33, 34, 35, 36, 37, 38, 39, 40, 41, 42, 43, 44, 45, 46, 47, 48, 49, 50, 51, 52, 53, 54, 55, 56, 57, 58, 59, 60, 61, 62, 63, 64, 65, 66, 67, 68, 69, 70, 71, 72] (by decide +kernel) (by decide +kernel)) (goodIn_sub (fun _ h => List.mem_cons_of_mem _ (List.mem_append_left _ (List.mem_append_right _ h))) (by decide +kernel))) (goodIn_sub (fun _ h => List.mem_cons_of_mem _ (List.mem_append_right _ h)) (by decide +kernel))
set_option maxRecDepth 20000 in
theorem gL_live_X0_live : GoodIn wsL_live (wsV RL 41 RX0 yX0_live wsX0_live) := goodIn_app (goodIn_of _ (by decide +kernel)) ggL_live_X0_live
theorem dL_live_0 : decode cL_live 0 = .ok (.aload_n 0, 1) := by decide +kernel
theorem dL_live_1 : decode cL_live 1 = .ok (.iload_n 1, 1) := by decide +kernel
theorem dL_live_2 : decode cL_live 2 = .ok (.invokevirtual 41, 3) := by decide +kernel
theorem dL_live_5 : decode cL_live 5 = .ok (.ireturn, 1) := by decide +kernel
theorem dL_live_6 : decode cL_live 6 = .ok (.astore_n 2, 1) := by decide +kernel
theorem dL_live_7 : decode cL_live 7 = .ok (.ldc 16, 2) := by decide +kernel
theorem dL_live_9 : decode cL_live 9 = .ok (.ireturn, 1) := by decide +kernel
theorem dL_live_10 : decode cL_live 10 = .ok (.astore_n 2, 1) := by decide +kernel
theorem dL_live_11 : decode cL_live 11 = .ok (.ldc 16, 2) := by decide +kernel
theorem dL_live_13 : decode cL_live 13 = .ok (.ireturn, 1) := by decide +kernel
set_option maxRecDepth 20000 in
theorem ggL_handOver_X0_handOver : GoodIn wsL_handOver wsX0_handOver := goodIn_ca (goodIn_ca (goodIn_r _ [8, 9, 10, 11, 12, 13, 7, 14, 15, 16, 17, 18, 19, 20, 21, 22, 23, 24, 25, 26, 27, 28, 29, 30, 31, 32, 33, 34, 35, 36, 37, 38, 39, 40, 41, 42, 43, 44, 45, 46, 47, 48, 49, 50, 51, 52, 53, 54, 55, 56, 57, 58, 59, 60, 61, 62, 63, 64, 65, 66, 67, 68, 69, 70, 71, 72, 73, 74, 75, 76, 77, 78, 79, 80, 81, 82, 83, 84, 85, 86, 87, 88, 89, 90, 91, 92] (by decide +kernel) (by decide +kernel)) (goodIn_sub (fun _ h => List.mem_cons_of_mem _ (List.mem_append_left _ (List.mem_append_right _ h))) (by decide +kernel))) (goodIn_sub (fun _ h => List.mem_cons_of_mem _ (List.mem_append_right _ h)) (by decide +kernel))
set_option maxRecDepth 20000 in
theorem gL_handOver_X0_handOver : GoodIn wsL_handOver (wsV RL 44 RX0 yX0_handOver wsX0_handOver) := goodIn_app (goodIn_of _ (by decide +kernel)) ggL_handOver_X0_handOver
theorem dL_handOver_0 : decode cL_handOver 0 = .ok (.aload_n 0, 1) := by decide +kernel
theorem dL_handOver_1 : decode cL_handOver 1 = .ok (.iload_n 1, 1) := by decide +kernel
theorem dL_handOver_2 : decode cL_handOver 2 = .ok (.iload_n 2, 1) := by decide +kernel
theorem dL_handOver_3 : decode cL_handOver 3 = .ok (.invokevirtual 44, 3) := by decide +kernel
theorem dL_handOver_6 : decode cL_handOver 6 = .ok (.iconst 0, 1) := by decide +kernel
theorem dL_handOver_7 : decode cL_handOver 7 = .ok (.ireturn, 1) := by decide +kernel
theorem dL_handOver_8 : decode cL_handOver 8 = .ok (.astore_n 3, 1) := by decide +kernel
theorem dL_handOver_9 : decode cL_handOver 9 = .ok (.ldc 16, 2) := by decide +kernel
theorem dL_handOver_11 : decode cL_handOver 11 = .ok (.ireturn, 1) := by decide +kernel
theorem dL_handOver_12 : decode cL_handOver 12 = .ok (.astore_n 3, 1) := by decide +kernel
theorem dL_handOver_13 : decode cL_handOver 13 = .ok (.ldc 16, 2) := by decide +kernel
theorem dL_handOver_15 : decode cL_handOver 15 = .ok (.ireturn, 1) := by decide +kernel
set_option maxRecDepth 20000 in
theorem ggL_serve_X0_serve : GoodIn wsL_serve wsX0_serve := goodIn_ca (goodIn_r _ [7, 8, 9, 10, 11, 6, 12, 13, 14, 15, 16, 17, 18, 19, 20, 21, 22, 23, 24, 25, 26, 27, 28, 29, 30, 31, 32, 33, 34, 35, 36, 37, 38] (by decide +kernel) (by decide +kernel)) (goodIn_sub (fun _ h => List.mem_cons_of_mem _ (List.mem_append_right _ h)) (by decide +kernel))
set_option maxRecDepth 20000 in
theorem gL_serve_X0_serve : GoodIn wsL_serve (wsV RL 48 RX0 yX0_serve wsX0_serve) := goodIn_app (goodIn_of _ (by decide +kernel)) ggL_serve_X0_serve
theorem dL_serve_0 : decode cL_serve 0 = .ok (.aload_n 0, 1) := by decide +kernel
theorem dL_serve_1 : decode cL_serve 1 = .ok (.iload_n 1, 1) := by decide +kernel
theorem dL_serve_2 : decode cL_serve 2 = .ok (.iload_n 2, 1) := by decide +kernel
theorem dL_serve_3 : decode cL_serve 3 = .ok (.invokevirtual 48, 3) := by decide +kernel
theorem dL_serve_6 : decode cL_serve 6 = .ok (.ireturn, 1) := by decide +kernel
theorem dL_serve_7 : decode cL_serve 7 = .ok (.astore_n 3, 1) := by decide +kernel
theorem dL_serve_8 : decode cL_serve 8 = .ok (.ldc 16, 2) := by decide +kernel
theorem dL_serve_10 : decode cL_serve 10 = .ok (.ireturn, 1) := by decide +kernel
set_option maxRecDepth 20000 in
theorem ggL_tick_X0_tick : GoodIn wsL_tick wsX0_tick := goodIn_ca (goodIn_r _ [7, 8, 9, 10, 6, 11, 12, 13, 14, 15, 16, 17, 18, 19, 20, 21, 22, 23, 24, 25, 26, 27, 28, 29, 30, 31, 32, 33, 34, 35, 36, 37, 38, 39, 40, 41, 42, 43, 44, 45, 46, 47, 48, 49, 50, 51, 52, 53, 54, 55, 56, 57, 58, 59, 60, 61, 62, 63, 64, 65, 66, 67, 68, 69, 70, 71, 72, 73, 74, 75, 76, 77, 78, 79, 80, 81, 82, 83, 84, 85, 86, 87, 88, 89, 90, 91, 92, 93, 94, 95, 96, 97, 98, 99, 100, 101, 102, 103, 104, 105] (by decide +kernel) (by decide +kernel)) (goodIn_sub (fun _ h => List.mem_cons_of_mem _ (List.mem_append_right _ h)) (by decide +kernel))
set_option maxRecDepth 20000 in
theorem gL_tick_X0_tick : GoodIn wsL_tick (wsV RL 51 RX0 yX0_tick wsX0_tick) := goodIn_app (goodIn_of _ (by decide +kernel)) ggL_tick_X0_tick
theorem dL_tick_0 : decode cL_tick 0 = .ok (.aload_n 0, 1) := by decide +kernel
theorem dL_tick_1 : decode cL_tick 1 = .ok (.iload_n 1, 1) := by decide +kernel
theorem dL_tick_2 : decode cL_tick 2 = .ok (.invokevirtual 51, 3) := by decide +kernel
theorem dL_tick_5 : decode cL_tick 5 = .ok (.ireturn, 1) := by decide +kernel
theorem dL_tick_6 : decode cL_tick 6 = .ok (.astore_n 2, 1) := by decide +kernel
theorem dL_tick_7 : decode cL_tick 7 = .ok (.ldc 16, 2) := by decide +kernel
theorem dL_tick_9 : decode cL_tick 9 = .ok (.ireturn, 1) := by decide +kernel
set_option maxRecDepth 20000 in
theorem ggL_timer_X0_timer : GoodIn wsL_timer wsX0_timer := goodIn_ca (goodIn_ca (goodIn_r _ [8, 9, 10, 11, 12, 13, 14, 7, 15, 16, 17, 18, 19, 20, 21, 22, 23, 24, 25, 26, 27, 28, 29, 30, 31, 32, 33, 34, 35, 36, 37, 38, 39, 40, 41] (by decide +kernel) (by decide +kernel)) (goodIn_sub (fun _ h => List.mem_cons_of_mem _ (List.mem_append_left _ (List.mem_append_right _ h))) (by decide +kernel))) (goodIn_sub (fun _ h => List.mem_cons_of_mem _ (List.mem_append_right _ h)) (by decide +kernel))
set_option maxRecDepth 20000 in
theorem gL_timer_X0_timer : GoodIn wsL_timer (wsV RL 54 RX0 yX0_timer wsX0_timer) := goodIn_app (goodIn_of _ (by decide +kernel)) ggL_timer_X0_timer
theorem dL_timer_0 : decode cL_timer 0 = .ok (.aload_n 0, 1) := by decide +kernel
theorem dL_timer_1 : decode cL_timer 1 = .ok (.iload_n 1, 1) := by decide +kernel
theorem dL_timer_2 : decode cL_timer 2 = .ok (.iload_n 2, 1) := by decide +kernel
theorem dL_timer_3 : decode cL_timer 3 = .ok (.invokevirtual 54, 3) := by decide +kernel
theorem dL_timer_6 : decode cL_timer 6 = .ok (.ireturn, 1) := by decide +kernel
theorem dL_timer_7 : decode cL_timer 7 = .ok (.astore_n 3, 1) := by decide +kernel
theorem dL_timer_8 : decode cL_timer 8 = .ok (.ldc 16, 2) := by decide +kernel
theorem dL_timer_10 : decode cL_timer 10 = .ok (.ireturn, 1) := by decide +kernel
theorem dL_timer_11 : decode cL_timer 11 = .ok (.astore_n 3, 1) := by decide +kernel
theorem dL_timer_12 : decode cL_timer 12 = .ok (.iconst (-1), 1) := by decide +kernel
theorem dL_timer_13 : decode cL_timer 13 = .ok (.ireturn, 1) := by decide +kernel
set_option maxRecDepth 20000 in
theorem ggL_act_L_low : GoodIn wsL_act wsL_low := goodIn_r _ [4, 5] (by decide +kernel) (by decide +kernel)
set_option maxRecDepth 20000 in
theorem gL_act_L_low : GoodIn wsL_act (va_wsS RL 57 yL_low wsL_low) := goodIn_app (goodIn_of _ (by decide +kernel)) ggL_act_L_low
set_option maxRecDepth 20000 in
theorem ggL_act_L_setPriority : GoodIn wsL_act wsL_setPriority := goodIn_ca (goodIn_r _ [8, 9, 10, 11, 12, 13, 14, 15, 16, 17, 18, 19, 20, 21, 22, 23, 24, 25, 26, 27, 28, 29, 30, 31, 32, 33, 34, 35, 36, 37, 38, 39, 40, 41, 42, 43, 44, 45, 46, 47, 48, 49, 50, 51, 52, 53, 54, 55, 56, 57, 58, 59, 60, 61, 62, 63, 64, 65, 66, 67, 68, 69, 70, 71, 72, 73, 74, 75, 76, 77, 78, 79, 80, 81, 82, 83, 84, 85, 86, 87, 183, 184, 185, 186, 187, 188, 189, 190, 191, 192, 193, 194, 195, 196, 197, 198, 199, 200] (by decide +kernel) (by decide +kernel)) (goodIn_sub (fun _ h => List.mem_cons_of_mem _ (List.mem_append_left _ (List.mem_append_right _ h))) (by decide +kernel))
set_option maxRecDepth 20000 in
theorem gL_act_L_setPriority : GoodIn wsL_act (va_wsS RL 62 yL_setPriority wsL_setPriority) := goodIn_app (goodIn_of _ (by decide +kernel)) ggL_act_L_setPriority
set_option maxRecDepth 20000 in
theorem ggL_act_L_track : GoodIn wsL_act wsL_track := goodIn_ca (goodIn_r _ [90, 9, 10, 91, 92, 93, 14, 94, 48, 19, 20, 21, 22, 23, 95, 96, 97, 27, 28, 29, 53, 54, 55, 183, 184, 185, 186, 187, 188, 189, 190, 191, 192, 193, 194, 195, 196, 197, 198, 199, 200] (by decide +kernel) (by decide +kernel)) (goodIn_sub (fun _ h => List.mem_cons_of_mem _ (List.mem_append_left _ (List.mem_append_right _ h))) (by decide +kernel))
set_option maxRecDepth 20000 in
theorem gL_act_L_track : GoodIn wsL_act (va_wsS RL 65 yL_track wsL_track) := goodIn_app (goodIn_of _ (by decide +kernel)) ggL_act_L_track
set_option maxRecDepth 20000 in
theorem ggL_act_L_setLink : GoodIn wsL_act wsL_setLink := goodIn_ca (goodIn_r _ [100, 9, 10, 101, 102, 103, 14, 104, 47, 19, 20, 21, 22, 23, 95, 96, 97, 53, 54, 55, 183, 184, 185, 186, 187, 188, 189, 190, 191, 192, 193, 194, 195, 196, 197, 198, 199, 200] (by decide +kernel) (by decide +kernel)) (goodIn_sub (fun _ h => List.mem_cons_of_mem _ (List.mem_append_left _ (List.mem_append_right _ h))) (by decide +kernel))
set_option maxRecDepth 20000 in
theorem gL_act_L_setLink : GoodIn wsL_act (va_wsS RL 67 yL_setLink wsL_setLink) := goodIn_app (goodIn_of _ (by decide +kernel)) ggL_act_L_setLink
set_option maxRecDepth 20000 in
theorem ggL_act_L_setPeriod : GoodIn wsL_act wsL_setPeriod := goodIn_ca (goodIn_r _ [107, 9, 10, 108, 109, 110, 14, 111, 66, 24, 25, 26, 22, 23, 27, 28, 29, 183, 184, 185, 186, 187, 188, 189, 190, 191, 192, 193, 194, 195, 196, 197, 198, 199, 200] (by decide +kernel) (by decide +kernel)) (goodIn_sub (fun _ h => List.mem_cons_of_mem _ (List.mem_append_left _ (List.mem_append_right _ h))) (by decide +kernel))
set_option maxRecDepth 20000 in
theorem gL_act_L_setPeriod : GoodIn wsL_act (va_wsS RL 70 yL_setPeriod wsL_setPeriod) := goodIn_app (goodIn_of _ (by decide +kernel)) ggL_act_L_setPeriod
set_option maxRecDepth 20000 in
theorem ggL_act_L_setPreemption : GoodIn wsL_act wsL_setPreemption := goodIn_ca (goodIn_r _ [114, 9, 10, 115, 116, 117, 14, 118, 82, 83, 24, 25, 26, 22, 23, 27, 28, 29, 183, 184, 185, 186, 187, 188, 189, 190, 191, 192, 193, 194, 195, 196, 197, 198, 199, 200] (by decide +kernel) (by decide +kernel)) (goodIn_sub (fun _ h => List.mem_cons_of_mem _ (List.mem_append_left _ (List.mem_append_right _ h))) (by decide +kernel))
set_option maxRecDepth 20000 in
theorem gL_act_L_setPreemption : GoodIn wsL_act (va_wsS RL 73 yL_setPreemption wsL_setPreemption) := goodIn_app (goodIn_of _ (by decide +kernel)) ggL_act_L_setPreemption
set_option maxRecDepth 20000 in
theorem ggL_act_L_join : GoodIn wsL_act wsL_join := goodIn_ca (goodIn_r _ [121, 9, 10, 122, 123, 124, 14, 125, 22, 23, 38, 19, 20, 21, 183, 184, 185, 186, 187, 188, 189, 190, 191, 192, 193, 194, 195, 196, 197, 198, 199, 200] (by decide +kernel) (by decide +kernel)) (goodIn_sub (fun _ h => List.mem_cons_of_mem _ (List.mem_append_left _ (List.mem_append_right _ h))) (by decide +kernel))
set_option maxRecDepth 20000 in
theorem gL_act_L_join : GoodIn wsL_act (va_wsS RL 76 yL_join wsL_join) := goodIn_app (goodIn_of _ (by decide +kernel)) ggL_act_L_join
set_option maxRecDepth 20000 in
theorem ggL_act_L_die : GoodIn wsL_act wsL_die := goodIn_ca (goodIn_ca (goodIn_r _ [128, 9, 129, 10, 130, 131, 132, 14, 133, 134, 135, 18, 17, 19, 20, 21, 22, 23, 30, 31, 32, 183, 184, 185, 186, 187, 188, 189, 190, 191, 192, 193, 194, 195, 196, 197, 198, 199, 200] (by decide +kernel) (by decide +kernel)) (goodIn_sub (fun _ h => List.mem_cons_of_mem _ (List.mem_append_right _ h)) (by decide +kernel))) (goodIn_sub (fun _ h => List.mem_cons_of_mem _ (List.mem_append_left _ (List.mem_append_right _ h))) (by decide +kernel))
set_option maxRecDepth 20000 in
theorem gL_act_L_die : GoodIn wsL_act (va_wsS RL 78 yL_die wsL_die) := goodIn_app (goodIn_of _ (by decide +kernel)) ggL_act_L_die
set_option maxRecDepth 20000 in
theorem ggL_act_L_live : GoodIn wsL_act wsL_live := goodIn_ca (goodIn_ca (goodIn_r _ [138, 9, 129, 10, 139, 140, 141, 14, 142, 134, 135, 18, 16, 19, 20, 21, 22, 23, 30, 31, 32, 84, 85, 86, 87, 76, 56, 57, 58, 59, 17, 60, 61, 43, 44, 45, 46, 47, 48, 49, 50, 51, 52, 53, 54, 55, 62, 63, 64, 65, 66, 67, 68, 69, 70, 183, 184, 185, 186, 187, 188, 189, 190, 191, 192, 193, 194, 195, 196, 197, 198, 199, 200] (by decide +kernel) (by decide +kernel)) (goodIn_sub (fun _ h => List.mem_cons_of_mem _ (List.mem_append_right _ h)) (by decide +kernel))) (goodIn_sub (fun _ h => List.mem_cons_of_mem _ (List.mem_append_left _ (List.mem_append_right _ h))) (by decide +kernel))
set_option maxRecDepth 20000 in
theorem gL_act_L_live : GoodIn wsL_act (va_wsS RL 81 yL_live wsL_live) := goodIn_app (goodIn_of _ (by decide +kernel)) ggL_act_L_live
set_option maxRecDepth 20000 in
theorem ggL_act_L_handOver : GoodIn wsL_act wsL_handOver := goodIn_ca (goodIn_ca (goodIn_r _ [145, 9, 129, 10, 146, 147, 148, 14, 149, 134, 135, 17, 19, 20, 21, 22, 23, 24, 25, 26, 30, 31, 32, 56, 57, 58, 59, 60, 61, 43, 44, 45, 46, 16, 47, 48, 49, 50, 51, 52, 53, 54, 55, 62, 63, 64, 65, 66, 67, 68, 69, 70, 33, 34, 35, 36, 37, 38, 39, 40, 41, 42, 71, 72, 73, 74, 75, 76, 77, 78, 79, 80, 81, 82, 83, 183, 184, 185, 186, 187, 188, 189, 190, 191, 192, 193, 194, 195, 196, 197, 198, 199, 200] (by decide +kernel) (by decide +kernel)) (goodIn_sub (fun _ h => List.mem_cons_of_mem _ (List.mem_append_right _ h)) (by decide +kernel))) (goodIn_sub (fun _ h => List.mem_cons_of_mem _ (List.mem_append_left _ (List.mem_append_right _ h))) (by decide +kernel))
set_option maxRecDepth 20000 in
theorem gL_act_L_handOver : GoodIn wsL_act (va_wsS RL 83 yL_handOver wsL_handOver) := goodIn_app (goodIn_of _ (by decide +kernel)) ggL_act_L_handOver
set_option maxRecDepth 20000 in
theorem ggL_act_L_serve : GoodIn wsL_act wsL_serve := goodIn_ca (goodIn_r _ [152, 9, 10, 153, 154, 155, 14, 156, 17, 75, 24, 25, 26, 22, 23, 27, 28, 29, 30, 31, 32, 183, 184, 185, 186, 187, 188, 189, 190, 191, 192, 193, 194, 195, 196, 197, 198, 199, 200] (by decide +kernel) (by decide +kernel)) (goodIn_sub (fun _ h => List.mem_cons_of_mem _ (List.mem_append_left _ (List.mem_append_right _ h))) (by decide +kernel))
set_option maxRecDepth 20000 in
theorem gL_act_L_serve : GoodIn wsL_act (va_wsS RL 85 yL_serve wsL_serve) := goodIn_app (goodIn_of _ (by decide +kernel)) ggL_act_L_serve
set_option maxRecDepth 20000 in
theorem ggL_act_L_tick : GoodIn wsL_act wsL_tick := goodIn_ca (goodIn_r _ [159, 9, 10, 160, 161, 162, 14, 163, 164, 27, 28, 29, 22, 23, 165, 166, 167, 168, 17, 61, 66, 30, 31, 32, 43, 44, 45, 46, 16, 47, 48, 49, 50, 51, 52, 53, 54, 55, 33, 34, 35, 36, 37, 38, 39, 40, 41, 42, 56, 57, 58, 59, 60, 62, 63, 64, 65, 67, 68, 69, 70, 71, 72, 73, 74, 75, 76, 77, 78, 79, 80, 81, 82, 83, 169, 170, 171, 172, 173, 174, 175, 176, 177, 178, 179, 180, 181, 182, 183, 184, 185, 186, 187, 188, 189, 190, 191, 192, 193, 194, 195, 196, 197, 198, 199, 200] (by decide +kernel) (by decide +kernel)) (goodIn_sub (fun _ h => List.mem_cons_of_mem _ (List.mem_append_left _ (List.mem_append_right _ h))) (by decide +kernel))
set_option maxRecDepth 20000 in
theorem gL_act_L_tick : GoodIn wsL_act (va_wsS RL 87 yL_tick wsL_tick) := goodIn_app (goodIn_of _ (by decide +kernel)) ggL_act_L_tick
end
section
theorem dL_act_0 : decode cL_act 0 = .ok (.iload_n 1, 1) := by decide +kernel
theorem dL_act_1 : decode cL_act 1 = .ok (.bipush 24, 2) := by decide +kernel
theorem dL_act_3 : decode cL_act 3 = .ok (.ishr, 1) := by decide +kernel
theorem dL_act_4 : decode cL_act 4 = .ok (.bipush 9, 2) := by decide +kernel
theorem dL_act_6 : decode cL_act 6 = .ok (.invokestatic 57, 3) := by decide +kernel
theorem dL_act_9 : decode cL_act 9 = .ok (.ifCond .ne 7, 3) := by decide +kernel
theorem dL_act_12 : decode cL_act 12 = .ok (.iconst 1, 1) := by decide +kernel
theorem dL_act_13 : decode cL_act 13 = .ok (.goto 4, 3) := by decide +kernel
theorem dL_act_16 : decode cL_act 16 = .ok (.iconst 0, 1) := by decide +kernel
theorem dL_act_17 : decode cL_act 17 = .ok (.istore_n 2, 1) := by decide +kernel
theorem dL_act_18 : decode cL_act 18 = .ok (.iload_n 2, 1) := by decide +kernel
theorem dL_act_19 : decode cL_act 19 = .ok (.ifCond .eq 16, 3) := by decide +kernel
theorem dL_act_22 : decode cL_act 22 = .ok (.iload_n 1, 1) := by decide +kernel
theorem dL_act_23 : decode cL_act 23 = .ok (.iconst 4, 1) := by decide +kernel
theorem dL_act_24 : decode cL_act 24 = .ok (.ishr, 1) := by decide +kernel
theorem dL_act_25 : decode cL_act 25 = .ok (.bipush 6, 2) := by decide +kernel
theorem dL_act_27 : decode cL_act 27 = .ok (.invokestatic 57, 3) := by decide +kernel
theorem dL_act_30 : decode cL_act 30 = .ok (.iconst 1, 1) := by decide +kernel
theorem dL_act_31 : decode cL_act 31 = .ok (.isub, 1) := by decide +kernel
theorem dL_act_32 : decode cL_act 32 = .ok (.goto 10, 3) := by decide +kernel
theorem dL_act_35 : decode cL_act 35 = .ok (.iload_n 1, 1) := by decide +kernel
theorem dL_act_36 : decode cL_act 36 = .ok (.iconst 4, 1) := by decide +kernel
theorem dL_act_37 : decode cL_act 37 = .ok (.ishr, 1) := by decide +kernel
theorem dL_act_38 : decode cL_act 38 = .ok (.iconst 4, 1) := by decide +kernel
theorem dL_act_39 : decode cL_act 39 = .ok (.invokestatic 57, 3) := by decide +kernel
theorem dL_act_42 : decode cL_act 42 = .ok (.istore_n 3, 1) := by decide +kernel
theorem dL_act_43 : decode cL_act 43 = .ok (.iload_n 2, 1) := by decide +kernel
theorem dL_act_44 : decode cL_act 44 = .ok (.ifCond .eq 16, 3) := by decide +kernel
theorem dL_act_47 : decode cL_act 47 = .ok (.iload_n 1, 1) := by decide +kernel
theorem dL_act_48 : decode cL_act 48 = .ok (.bipush 7, 2) := by decide +kernel
theorem dL_act_50 : decode cL_act 50 = .ok (.ishr, 1) := by decide +kernel
theorem dL_act_51 : decode cL_act 51 = .ok (.iconst 5, 1) := by decide +kernel
theorem dL_act_52 : decode cL_act 52 = .ok (.invokestatic 57, 3) := by decide +kernel
theorem dL_act_55 : decode cL_act 55 = .ok (.iconst 1, 1) := by decide +kernel
theorem dL_act_56 : decode cL_act 56 = .ok (.isub, 1) := by decide +kernel
theorem dL_act_57 : decode cL_act 57 = .ok (.goto 11, 3) := by decide +kernel
theorem dL_act_60 : decode cL_act 60 = .ok (.iload_n 1, 1) := by decide +kernel
theorem dL_act_61 : decode cL_act 61 = .ok (.bipush 7, 2) := by decide +kernel
theorem dL_act_63 : decode cL_act 63 = .ok (.ishr, 1) := by decide +kernel
theorem dL_act_64 : decode cL_act 64 = .ok (.iconst 3, 1) := by decide +kernel
theorem dL_act_65 : decode cL_act 65 = .ok (.invokestatic 57, 3) := by decide +kernel
theorem dL_act_68 : decode cL_act 68 = .ok (.istore 4, 2) := by decide +kernel
theorem dL_act_70 : decode cL_act 70 = .ok (.iload_n 1, 1) := by decide +kernel
theorem dL_act_71 : decode cL_act 71 = .ok (.bipush 18, 2) := by decide +kernel
theorem dL_act_73 : decode cL_act 73 = .ok (.invokestatic 57, 3) := by decide +kernel
theorem dL_act_76 : decode cL_act 76 = .ok (.tableswitch 379 0 14 #[76, 76, 76, 76, 128, 177, 214, 248, 296, 325, 331, 331, 337, 345, 345], 76) := by decide +kernel
theorem dL_act_152 : decode cL_act 152 = .ok (.aload_n 0, 1) := by decide +kernel
theorem dL_act_153 : decode cL_act 153 = .ok (.iload_n 3, 1) := by decide +kernel
theorem dL_act_154 : decode cL_act 154 = .ok (.iload 4, 2) := by decide +kernel
theorem dL_act_156 : decode cL_act 156 = .ok (.iload_n 2, 1) := by decide +kernel
theorem dL_act_157 : decode cL_act 157 = .ok (.ifCond .eq 18, 3) := by decide +kernel
theorem dL_act_160 : decode cL_act 160 = .ok (.iload_n 1, 1) := by decide +kernel
theorem dL_act_161 : decode cL_act 161 = .ok (.bipush 9, 2) := by decide +kernel
theorem dL_act_163 : decode cL_act 163 = .ok (.ishr, 1) := by decide +kernel
theorem dL_act_164 : decode cL_act 164 = .ok (.sipush 258, 3) := by decide +kernel
theorem dL_act_167 : decode cL_act 167 = .ok (.invokestatic 57, 3) := by decide +kernel
theorem dL_act_170 : decode cL_act 170 = .ok (.iconst 2, 1) := by decide +kernel
theorem dL_act_171 : decode cL_act 171 = .ok (.isub, 1) := by decide +kernel
theorem dL_act_172 : decode cL_act 172 = .ok (.goto 28, 3) := by decide +kernel
theorem dL_act_175 : decode cL_act 175 = .ok (.iload_n 1, 1) := by decide +kernel
theorem dL_act_176 : decode cL_act 176 = .ok (.bipush 9, 2) := by decide +kernel
theorem dL_act_178 : decode cL_act 178 = .ok (.ishr, 1) := by decide +kernel
theorem dL_act_179 : decode cL_act 179 = .ok (.iconst 4, 1) := by decide +kernel
theorem dL_act_180 : decode cL_act 180 = .ok (.invokestatic 57, 3) := by decide +kernel
theorem dL_act_183 : decode cL_act 183 = .ok (.ifCond .ne 7, 3) := by decide +kernel
theorem dL_act_186 : decode cL_act 186 = .ok (.iconst 0, 1) := by decide +kernel
theorem dL_act_187 : decode cL_act 187 = .ok (.goto 13, 3) := by decide +kernel
theorem dL_act_190 : decode cL_act 190 = .ok (.iload_n 1, 1) := by decide +kernel
theorem dL_act_191 : decode cL_act 191 = .ok (.bipush 11, 2) := by decide +kernel
theorem dL_act_193 : decode cL_act 193 = .ok (.ishr, 1) := by decide +kernel
theorem dL_act_194 : decode cL_act 194 = .ok (.sipush 255, 3) := by decide +kernel
theorem dL_act_197 : decode cL_act 197 = .ok (.invokestatic 57, 3) := by decide +kernel
theorem dL_act_200 : decode cL_act 200 = .ok (.invokestatic 62, 3) := by decide +kernel
theorem dL_act_203 : decode cL_act 203 = .ok (.ireturn, 1) := by decide +kernel
theorem dL_act_204 : decode cL_act 204 = .ok (.aload_n 0, 1) := by decide +kernel
theorem dL_act_205 : decode cL_act 205 = .ok (.iload_n 3, 1) := by decide +kernel
theorem dL_act_206 : decode cL_act 206 = .ok (.iload_n 1, 1) := by decide +kernel
theorem dL_act_207 : decode cL_act 207 = .ok (.bipush 9, 2) := by decide +kernel
theorem dL_act_209 : decode cL_act 209 = .ok (.ishr, 1) := by decide +kernel
theorem dL_act_210 : decode cL_act 210 = .ok (.iload_n 2, 1) := by decide +kernel
theorem dL_act_211 : decode cL_act 211 = .ok (.ifCond .eq 7, 3) := by decide +kernel
theorem dL_act_214 : decode cL_act 214 = .ok (.iconst 3, 1) := by decide +kernel
theorem dL_act_215 : decode cL_act 215 = .ok (.goto 4, 3) := by decide +kernel
theorem dL_act_218 : decode cL_act 218 = .ok (.iconst 2, 1) := by decide +kernel
theorem dL_act_219 : decode cL_act 219 = .ok (.invokestatic 57, 3) := by decide +kernel
theorem dL_act_222 : decode cL_act 222 = .ok (.iload_n 2, 1) := by decide +kernel
theorem dL_act_223 : decode cL_act 223 = .ok (.ifCond .eq 17, 3) := by decide +kernel
theorem dL_act_226 : decode cL_act 226 = .ok (.iload_n 1, 1) := by decide +kernel
theorem dL_act_227 : decode cL_act 227 = .ok (.bipush 11, 2) := by decide +kernel
theorem dL_act_229 : decode cL_act 229 = .ok (.ishr, 1) := by decide +kernel
theorem dL_act_230 : decode cL_act 230 = .ok (.bipush 103, 2) := by decide +kernel
theorem dL_act_232 : decode cL_act 232 = .ok (.invokestatic 57, 3) := by decide +kernel
theorem dL_act_235 : decode cL_act 235 = .ok (.iconst 1, 1) := by decide +kernel
theorem dL_act_236 : decode cL_act 236 = .ok (.isub, 1) := by decide +kernel
theorem dL_act_237 : decode cL_act 237 = .ok (.goto 12, 3) := by decide +kernel
theorem dL_act_240 : decode cL_act 240 = .ok (.iload_n 1, 1) := by decide +kernel
theorem dL_act_241 : decode cL_act 241 = .ok (.bipush 11, 2) := by decide +kernel
theorem dL_act_243 : decode cL_act 243 = .ok (.ishr, 1) := by decide +kernel
theorem dL_act_244 : decode cL_act 244 = .ok (.bipush 101, 2) := by decide +kernel
theorem dL_act_246 : decode cL_act 246 = .ok (.invokestatic 57, 3) := by decide +kernel
theorem dL_act_249 : decode cL_act 249 = .ok (.invokestatic 65, 3) := by decide +kernel
theorem dL_act_252 : decode cL_act 252 = .ok (.ireturn, 1) := by decide +kernel
theorem dL_act_253 : decode cL_act 253 = .ok (.aload_n 0, 1) := by decide +kernel
theorem dL_act_254 : decode cL_act 254 = .ok (.iload_n 3, 1) := by decide +kernel
theorem dL_act_255 : decode cL_act 255 = .ok (.iload_n 1, 1) := by decide +kernel
theorem dL_act_256 : decode cL_act 256 = .ok (.bipush 9, 2) := by decide +kernel
theorem dL_act_258 : decode cL_act 258 = .ok (.ishr, 1) := by decide +kernel
theorem dL_act_259 : decode cL_act 259 = .ok (.iload_n 2, 1) := by decide +kernel
theorem dL_act_260 : decode cL_act 260 = .ok (.ifCond .eq 7, 3) := by decide +kernel
theorem dL_act_263 : decode cL_act 263 = .ok (.iconst 3, 1) := by decide +kernel
theorem dL_act_264 : decode cL_act 264 = .ok (.goto 4, 3) := by decide +kernel
theorem dL_act_267 : decode cL_act 267 = .ok (.iconst 2, 1) := by decide +kernel
theorem dL_act_268 : decode cL_act 268 = .ok (.invokestatic 57, 3) := by decide +kernel
theorem dL_act_271 : decode cL_act 271 = .ok (.iload_n 1, 1) := by decide +kernel
theorem dL_act_272 : decode cL_act 272 = .ok (.bipush 11, 2) := by decide +kernel
theorem dL_act_274 : decode cL_act 274 = .ok (.ishr, 1) := by decide +kernel
theorem dL_act_275 : decode cL_act 275 = .ok (.iconst 1, 1) := by decide +kernel
theorem dL_act_276 : decode cL_act 276 = .ok (.iand, 1) := by decide +kernel
theorem dL_act_277 : decode cL_act 277 = .ok (.iconst 1, 1) := by decide +kernel
theorem dL_act_278 : decode cL_act 278 = .ok (.if_icmp .ne 7, 3) := by decide +kernel
theorem dL_act_281 : decode cL_act 281 = .ok (.iconst 1, 1) := by decide +kernel
theorem dL_act_282 : decode cL_act 282 = .ok (.goto 4, 3) := by decide +kernel
theorem dL_act_285 : decode cL_act 285 = .ok (.iconst 0, 1) := by decide +kernel
theorem dL_act_286 : decode cL_act 286 = .ok (.invokestatic 67, 3) := by decide +kernel
theorem dL_act_289 : decode cL_act 289 = .ok (.ireturn, 1) := by decide +kernel
theorem dL_act_290 : decode cL_act 290 = .ok (.aload_n 0, 1) := by decide +kernel
theorem dL_act_291 : decode cL_act 291 = .ok (.iload 4, 2) := by decide +kernel
theorem dL_act_293 : decode cL_act 293 = .ok (.iload_n 2, 1) := by decide +kernel
theorem dL_act_294 : decode cL_act 294 = .ok (.ifCond .eq 15, 3) := by decide +kernel
theorem dL_act_297 : decode cL_act 297 = .ok (.iload_n 1, 1) := by decide +kernel
theorem dL_act_298 : decode cL_act 298 = .ok (.bipush 9, 2) := by decide +kernel
theorem dL_act_300 : decode cL_act 300 = .ok (.ishr, 1) := by decide +kernel
theorem dL_act_301 : decode cL_act 301 = .ok (.bipush 13, 2) := by decide +kernel
theorem dL_act_303 : decode cL_act 303 = .ok (.invokestatic 57, 3) := by decide +kernel
theorem dL_act_306 : decode cL_act 306 = .ok (.goto 14, 3) := by decide +kernel
theorem dL_act_309 : decode cL_act 309 = .ok (.iconst 1, 1) := by decide +kernel
theorem dL_act_310 : decode cL_act 310 = .ok (.iload_n 1, 1) := by decide +kernel
theorem dL_act_311 : decode cL_act 311 = .ok (.bipush 9, 2) := by decide +kernel
theorem dL_act_313 : decode cL_act 313 = .ok (.ishr, 1) := by decide +kernel
theorem dL_act_314 : decode cL_act 314 = .ok (.bipush 10, 2) := by decide +kernel
theorem dL_act_316 : decode cL_act 316 = .ok (.invokestatic 57, 3) := by decide +kernel
theorem dL_act_319 : decode cL_act 319 = .ok (.iadd, 1) := by decide +kernel
theorem dL_act_320 : decode cL_act 320 = .ok (.invokestatic 70, 3) := by decide +kernel
theorem dL_act_323 : decode cL_act 323 = .ok (.ireturn, 1) := by decide +kernel
theorem dL_act_324 : decode cL_act 324 = .ok (.aload_n 0, 1) := by decide +kernel
theorem dL_act_325 : decode cL_act 325 = .ok (.iload 4, 2) := by decide +kernel
theorem dL_act_327 : decode cL_act 327 = .ok (.iload_n 1, 1) := by decide +kernel
theorem dL_act_328 : decode cL_act 328 = .ok (.bipush 9, 2) := by decide +kernel
theorem dL_act_330 : decode cL_act 330 = .ok (.ishr, 1) := by decide +kernel
theorem dL_act_331 : decode cL_act 331 = .ok (.iconst 1, 1) := by decide +kernel
theorem dL_act_332 : decode cL_act 332 = .ok (.iand, 1) := by decide +kernel
theorem dL_act_333 : decode cL_act 333 = .ok (.iconst 1, 1) := by decide +kernel
theorem dL_act_334 : decode cL_act 334 = .ok (.if_icmp .ne 7, 3) := by decide +kernel
theorem dL_act_337 : decode cL_act 337 = .ok (.iconst 1, 1) := by decide +kernel
theorem dL_act_338 : decode cL_act 338 = .ok (.goto 4, 3) := by decide +kernel
theorem dL_act_341 : decode cL_act 341 = .ok (.iconst 0, 1) := by decide +kernel
theorem dL_act_342 : decode cL_act 342 = .ok (.iload_n 2, 1) := by decide +kernel
theorem dL_act_343 : decode cL_act 343 = .ok (.ifCond .eq 17, 3) := by decide +kernel
theorem dL_act_346 : decode cL_act 346 = .ok (.iload_n 1, 1) := by decide +kernel
theorem dL_act_347 : decode cL_act 347 = .ok (.bipush 10, 2) := by decide +kernel
theorem dL_act_349 : decode cL_act 349 = .ok (.ishr, 1) := by decide +kernel
theorem dL_act_350 : decode cL_act 350 = .ok (.bipush 13, 2) := by decide +kernel
theorem dL_act_352 : decode cL_act 352 = .ok (.invokestatic 57, 3) := by decide +kernel
theorem dL_act_355 : decode cL_act 355 = .ok (.iconst 1, 1) := by decide +kernel
theorem dL_act_356 : decode cL_act 356 = .ok (.isub, 1) := by decide +kernel
theorem dL_act_357 : decode cL_act 357 = .ok (.goto 11, 3) := by decide +kernel
theorem dL_act_360 : decode cL_act 360 = .ok (.iload_n 1, 1) := by decide +kernel
theorem dL_act_361 : decode cL_act 361 = .ok (.bipush 10, 2) := by decide +kernel
theorem dL_act_363 : decode cL_act 363 = .ok (.ishr, 1) := by decide +kernel
theorem dL_act_364 : decode cL_act 364 = .ok (.iconst 4, 1) := by decide +kernel
theorem dL_act_365 : decode cL_act 365 = .ok (.invokestatic 57, 3) := by decide +kernel
theorem dL_act_368 : decode cL_act 368 = .ok (.invokestatic 73, 3) := by decide +kernel
theorem dL_act_371 : decode cL_act 371 = .ok (.ireturn, 1) := by decide +kernel
theorem dL_act_372 : decode cL_act 372 = .ok (.aload_n 0, 1) := by decide +kernel
theorem dL_act_373 : decode cL_act 373 = .ok (.iload_n 3, 1) := by decide +kernel
theorem dL_act_374 : decode cL_act 374 = .ok (.iload_n 1, 1) := by decide +kernel
theorem dL_act_375 : decode cL_act 375 = .ok (.bipush 9, 2) := by decide +kernel
theorem dL_act_377 : decode cL_act 377 = .ok (.ishr, 1) := by decide +kernel
theorem dL_act_378 : decode cL_act 378 = .ok (.iconst 4, 1) := by decide +kernel
theorem dL_act_379 : decode cL_act 379 = .ok (.invokestatic 57, 3) := by decide +kernel
theorem dL_act_382 : decode cL_act 382 = .ok (.iload_n 1, 1) := by decide +kernel
theorem dL_act_383 : decode cL_act 383 = .ok (.bipush 11, 2) := by decide +kernel
theorem dL_act_385 : decode cL_act 385 = .ok (.ishr, 1) := by decide +kernel
theorem dL_act_386 : decode cL_act 386 = .ok (.iconst 1, 1) := by decide +kernel
theorem dL_act_387 : decode cL_act 387 = .ok (.iand, 1) := by decide +kernel
theorem dL_act_388 : decode cL_act 388 = .ok (.iconst 1, 1) := by decide +kernel
theorem dL_act_389 : decode cL_act 389 = .ok (.if_icmp .ne 7, 3) := by decide +kernel
theorem dL_act_392 : decode cL_act 392 = .ok (.iconst 1, 1) := by decide +kernel
theorem dL_act_393 : decode cL_act 393 = .ok (.goto 4, 3) := by decide +kernel
theorem dL_act_396 : decode cL_act 396 = .ok (.iconst 0, 1) := by decide +kernel
theorem dL_act_397 : decode cL_act 397 = .ok (.invokestatic 76, 3) := by decide +kernel
theorem dL_act_400 : decode cL_act 400 = .ok (.ireturn, 1) := by decide +kernel
theorem dL_act_401 : decode cL_act 401 = .ok (.aload_n 0, 1) := by decide +kernel
theorem dL_act_402 : decode cL_act 402 = .ok (.iload_n 3, 1) := by decide +kernel
theorem dL_act_403 : decode cL_act 403 = .ok (.invokestatic 78, 3) := by decide +kernel
theorem dL_act_406 : decode cL_act 406 = .ok (.ireturn, 1) := by decide +kernel
theorem dL_act_407 : decode cL_act 407 = .ok (.aload_n 0, 1) := by decide +kernel
theorem dL_act_408 : decode cL_act 408 = .ok (.iload_n 3, 1) := by decide +kernel
theorem dL_act_409 : decode cL_act 409 = .ok (.invokestatic 81, 3) := by decide +kernel
theorem dL_act_412 : decode cL_act 412 = .ok (.ireturn, 1) := by decide +kernel
theorem dL_act_413 : decode cL_act 413 = .ok (.aload_n 0, 1) := by decide +kernel
theorem dL_act_414 : decode cL_act 414 = .ok (.iload_n 3, 1) := by decide +kernel
theorem dL_act_415 : decode cL_act 415 = .ok (.iload 4, 2) := by decide +kernel
theorem dL_act_417 : decode cL_act 417 = .ok (.invokestatic 83, 3) := by decide +kernel
theorem dL_act_420 : decode cL_act 420 = .ok (.ireturn, 1) := by decide +kernel
theorem dL_act_421 : decode cL_act 421 = .ok (.aload_n 0, 1) := by decide +kernel
theorem dL_act_422 : decode cL_act 422 = .ok (.iload 4, 2) := by decide +kernel
theorem dL_act_424 : decode cL_act 424 = .ok (.iload_n 2, 1) := by decide +kernel
theorem dL_act_425 : decode cL_act 425 = .ok (.ifCond .eq 15, 3) := by decide +kernel
theorem dL_act_428 : decode cL_act 428 = .ok (.iload_n 1, 1) := by decide +kernel
theorem dL_act_429 : decode cL_act 429 = .ok (.bipush 9, 2) := by decide +kernel
theorem dL_act_431 : decode cL_act 431 = .ok (.ishr, 1) := by decide +kernel
theorem dL_act_432 : decode cL_act 432 = .ok (.bipush 103, 2) := by decide +kernel
theorem dL_act_434 : decode cL_act 434 = .ok (.invokestatic 57, 3) := by decide +kernel
theorem dL_act_437 : decode cL_act 437 = .ok (.goto 14, 3) := by decide +kernel
theorem dL_act_440 : decode cL_act 440 = .ok (.iconst 1, 1) := by decide +kernel
theorem dL_act_441 : decode cL_act 441 = .ok (.iload_n 1, 1) := by decide +kernel
theorem dL_act_442 : decode cL_act 442 = .ok (.bipush 9, 2) := by decide +kernel
theorem dL_act_444 : decode cL_act 444 = .ok (.ishr, 1) := by decide +kernel
theorem dL_act_445 : decode cL_act 445 = .ok (.bipush 30, 2) := by decide +kernel
theorem dL_act_447 : decode cL_act 447 = .ok (.invokestatic 57, 3) := by decide +kernel
theorem dL_act_450 : decode cL_act 450 = .ok (.iadd, 1) := by decide +kernel
theorem dL_act_451 : decode cL_act 451 = .ok (.invokestatic 85, 3) := by decide +kernel
theorem dL_act_454 : decode cL_act 454 = .ok (.ireturn, 1) := by decide +kernel
theorem dL_act_455 : decode cL_act 455 = .ok (.aload_n 0, 1) := by decide +kernel
theorem dL_act_456 : decode cL_act 456 = .ok (.iload_n 2, 1) := by decide +kernel
theorem dL_act_457 : decode cL_act 457 = .ok (.ifCond .eq 15, 3) := by decide +kernel
theorem dL_act_460 : decode cL_act 460 = .ok (.iload_n 1, 1) := by decide +kernel
theorem dL_act_461 : decode cL_act 461 = .ok (.bipush 9, 2) := by decide +kernel
theorem dL_act_463 : decode cL_act 463 = .ok (.ishr, 1) := by decide +kernel
theorem dL_act_464 : decode cL_act 464 = .ok (.bipush 53, 2) := by decide +kernel
theorem dL_act_466 : decode cL_act 466 = .ok (.invokestatic 57, 3) := by decide +kernel
theorem dL_act_469 : decode cL_act 469 = .ok (.goto 14, 3) := by decide +kernel
theorem dL_act_472 : decode cL_act 472 = .ok (.iconst 1, 1) := by decide +kernel
theorem dL_act_473 : decode cL_act 473 = .ok (.iload_n 1, 1) := by decide +kernel
theorem dL_act_474 : decode cL_act 474 = .ok (.bipush 9, 2) := by decide +kernel
theorem dL_act_476 : decode cL_act 476 = .ok (.ishr, 1) := by decide +kernel
theorem dL_act_477 : decode cL_act 477 = .ok (.bipush 14, 2) := by decide +kernel
theorem dL_act_479 : decode cL_act 479 = .ok (.invokestatic 57, 3) := by decide +kernel
theorem dL_act_482 : decode cL_act 482 = .ok (.iadd, 1) := by decide +kernel
theorem dL_act_483 : decode cL_act 483 = .ok (.invokestatic 87, 3) := by decide +kernel
theorem dL_act_486 : decode cL_act 486 = .ok (.ireturn, 1) := by decide +kernel
set_option maxRecDepth 20000 in
theorem ggL_areAlike_X0_repairs : GoodIn wsL_areAlike wsX0_repairs := goodIn_r _ [5, 6, 65, 66, 67, 68, 69, 70, 71, 72, 73, 74, 75, 76, 77, 78, 79, 80, 81, 82] (by decide +kernel) (by decide +kernel)
set_option maxRecDepth 20000 in
theorem gL_areAlike_X0_repairs : GoodIn wsL_areAlike (wsV RL 89 RX0 yX0_repairs wsX0_repairs) := goodIn_app (goodIn_of _ (by decide +kernel)) ggL_areAlike_X0_repairs
set_option maxRecDepth 20000 in
theorem ggL_areAlike_X0_masters : GoodIn wsL_areAlike wsX0_masters := goodIn_ca (goodIn_r _ [10, 11, 12, 4, 13, 14, 15, 16, 17, 18, 19, 20, 21, 22, 23, 65, 66, 67, 68, 69, 70, 71, 72, 73, 74, 75, 76, 77, 78, 79, 80, 81, 82] (by decide +kernel) (by decide +kernel)) (goodIn_sub (fun _ h => List.mem_cons_of_mem _ (List.mem_append_left _ (List.mem_append_right _ h))) (by decide +kernel))
set_option maxRecDepth 20000 in
theorem gL_areAlike_X0_masters : GoodIn wsL_areAlike (wsV RL 93 RX0 yX0_masters wsX0_masters) := goodIn_app (goodIn_of _ (by decide +kernel)) ggL_areAlike_X0_masters
set_option maxRecDepth 20000 in
theorem ggL_areAlike_X0_gaps : GoodIn wsL_areAlike wsX0_gaps := goodIn_ca (goodIn_r _ [27, 28, 11, 12, 4, 13, 14, 15, 65, 66, 67, 68, 69, 70, 71, 72, 73, 74, 75, 76, 77, 78, 79, 80, 81, 82] (by decide +kernel) (by decide +kernel)) (goodIn_sub (fun _ h => List.mem_cons_of_mem _ (List.mem_append_left _ (List.mem_append_right _ h))) (by decide +kernel))
set_option maxRecDepth 20000 in
theorem gL_areAlike_X0_gaps : GoodIn wsL_areAlike (wsV RL 96 RX0 yX0_gaps wsX0_gaps) := goodIn_app (goodIn_of _ (by decide +kernel)) ggL_areAlike_X0_gaps
set_option maxRecDepth 20000 in
theorem ggL_areAlike_X0_sent : GoodIn wsL_areAlike wsX0_sent := goodIn_ca (goodIn_r _ [32, 33, 11, 12, 4, 13, 14, 15, 65, 66, 67, 68, 69, 70, 71, 72, 73, 74, 75, 76, 77, 78, 79, 80, 81, 82] (by decide +kernel) (by decide +kernel)) (goodIn_sub (fun _ h => List.mem_cons_of_mem _ (List.mem_append_left _ (List.mem_append_right _ h))) (by decide +kernel))
set_option maxRecDepth 20000 in
theorem gL_areAlike_X0_sent : GoodIn wsL_areAlike (wsV RL 99 RX0 yX0_sent wsX0_sent) := goodIn_app (goodIn_of _ (by decide +kernel)) ggL_areAlike_X0_sent
set_option maxRecDepth 20000 in
theorem ggL_areAlike_X0_state : GoodIn wsL_areAlike wsX0_state := goodIn_ca (goodIn_r _ [37, 20, 38, 39, 4, 40, 14, 15, 11, 12, 13, 21, 22, 23, 65, 66, 67, 68, 69, 70, 71, 72, 73, 74, 75, 76, 77, 78, 79, 80, 81, 82] (by decide +kernel) (by decide +kernel)) (goodIn_sub (fun _ h => List.mem_cons_of_mem _ (List.mem_append_left _ (List.mem_append_right _ h))) (by decide +kernel))
set_option maxRecDepth 20000 in
theorem gL_areAlike_X0_state : GoodIn wsL_areAlike (wsV RL 102 RX0 yX0_state wsX0_state) := goodIn_app (goodIn_of _ (by decide +kernel)) ggL_areAlike_X0_state
set_option maxRecDepth 20000 in
theorem ggL_areAlike_L_timer : GoodIn wsL_areAlike wsL_timer := goodIn_ca (goodIn_ca (goodIn_r _ [44, 45, 46, 47, 48, 49, 50, 4, 51, 52, 53, 20, 54, 38, 39, 40, 14, 15, 11, 12, 13, 21, 22, 23, 65, 66, 67, 68, 69, 70, 71, 72, 73, 74, 75, 76, 77, 78, 79, 80, 81, 82] (by decide +kernel) (by decide +kernel)) (goodIn_sub (fun _ h => List.mem_cons_of_mem _ (List.mem_append_right _ h)) (by decide +kernel))) (goodIn_sub (fun _ h => List.mem_cons_of_mem _ (List.mem_append_left _ (List.mem_append_right _ h))) (by decide +kernel))
set_option maxRecDepth 20000 in
theorem gL_areAlike_L_timer : GoodIn wsL_areAlike (va_wsS RL 105 yL_timer wsL_timer) := goodIn_app (goodIn_of _ (by decide +kernel)) ggL_areAlike_L_timer
set_option maxRecDepth 20000 in
theorem ggL_areAlike_X0_known : GoodIn wsL_areAlike wsX0_known := goodIn_ca (goodIn_r _ [58, 59, 38, 39, 4, 40, 14, 15, 11, 12, 13, 21, 22, 23, 65, 66, 67, 68, 69, 70, 71, 72, 73, 74, 75, 76, 77, 78, 79, 80, 81, 82] (by decide +kernel) (by decide +kernel)) (goodIn_sub (fun _ h => List.mem_cons_of_mem _ (List.mem_append_left _ (List.mem_append_right _ h))) (by decide +kernel))
set_option maxRecDepth 20000 in
theorem gL_areAlike_X0_known : GoodIn wsL_areAlike (wsV RL 107 RX0 yX0_known wsX0_known) := goodIn_app (goodIn_of _ (by decide +kernel)) ggL_areAlike_X0_known
set_option maxRecDepth 20000 in
theorem ggL_areAlike_X0_changes : GoodIn wsL_areAlike wsX0_changes := goodIn_ca (goodIn_r _ [63, 64, 38, 39, 4, 40, 14, 15, 11, 12, 13, 21, 22, 23, 65, 66, 67, 68, 69, 70, 71, 72, 73, 74, 75, 76, 77, 78, 79, 80, 81, 82] (by decide +kernel) (by decide +kernel)) (goodIn_sub (fun _ h => List.mem_cons_of_mem _ (List.mem_append_left _ (List.mem_append_right _ h))) (by decide +kernel))
set_option maxRecDepth 20000 in
theorem gL_areAlike_X0_changes : GoodIn wsL_areAlike (wsV RL 110 RX0 yX0_changes wsX0_changes) := goodIn_app (goodIn_of _ (by decide +kernel)) ggL_areAlike_X0_changes
end
section
theorem dL_areAlike_0 : decode cL_areAlike 0 = .ok (.aload_n 0, 1) := by decide +kernel
theorem dL_areAlike_1 : decode cL_areAlike 1 = .ok (.invokevirtual 89, 3) := by decide +kernel
theorem dL_areAlike_4 : decode cL_areAlike 4 = .ok (.aload_n 1, 1) := by decide +kernel
theorem dL_areAlike_5 : decode cL_areAlike 5 = .ok (.invokevirtual 89, 3) := by decide +kernel
theorem dL_areAlike_8 : decode cL_areAlike 8 = .ok (.if_icmp .ne 7, 3) := by decide +kernel
theorem dL_areAlike_11 : decode cL_areAlike 11 = .ok (.iconst 1, 1) := by decide +kernel
theorem dL_areAlike_12 : decode cL_areAlike 12 = .ok (.goto 4, 3) := by decide +kernel
theorem dL_areAlike_15 : decode cL_areAlike 15 = .ok (.iconst 0, 1) := by decide +kernel
theorem dL_areAlike_16 : decode cL_areAlike 16 = .ok (.istore_n 2, 1) := by decide +kernel
theorem dL_areAlike_17 : decode cL_areAlike 17 = .ok (.iconst 0, 1) := by decide +kernel
theorem dL_areAlike_18 : decode cL_areAlike 18 = .ok (.istore_n 3, 1) := by decide +kernel
theorem dL_areAlike_19 : decode cL_areAlike 19 = .ok (.iload_n 3, 1) := by decide +kernel
theorem dL_areAlike_20 : decode cL_areAlike 20 = .ok (.iconst 3, 1) := by decide +kernel
theorem dL_areAlike_21 : decode cL_areAlike 21 = .ok (.if_icmp .ge 151, 3) := by decide +kernel
theorem dL_areAlike_24 : decode cL_areAlike 24 = .ok (.iload_n 2, 1) := by decide +kernel
theorem dL_areAlike_25 : decode cL_areAlike 25 = .ok (.ifCond .eq 46, 3) := by decide +kernel
theorem dL_areAlike_28 : decode cL_areAlike 28 = .ok (.aload_n 0, 1) := by decide +kernel
theorem dL_areAlike_29 : decode cL_areAlike 29 = .ok (.iload_n 3, 1) := by decide +kernel
theorem dL_areAlike_30 : decode cL_areAlike 30 = .ok (.invokevirtual 93, 3) := by decide +kernel
theorem dL_areAlike_33 : decode cL_areAlike 33 = .ok (.aload_n 1, 1) := by decide +kernel
theorem dL_areAlike_34 : decode cL_areAlike 34 = .ok (.iload_n 3, 1) := by decide +kernel
theorem dL_areAlike_35 : decode cL_areAlike 35 = .ok (.invokevirtual 93, 3) := by decide +kernel
theorem dL_areAlike_38 : decode cL_areAlike 38 = .ok (.if_icmp .ne 33, 3) := by decide +kernel
theorem dL_areAlike_41 : decode cL_areAlike 41 = .ok (.aload_n 0, 1) := by decide +kernel
theorem dL_areAlike_42 : decode cL_areAlike 42 = .ok (.iload_n 3, 1) := by decide +kernel
theorem dL_areAlike_43 : decode cL_areAlike 43 = .ok (.invokevirtual 96, 3) := by decide +kernel
theorem dL_areAlike_46 : decode cL_areAlike 46 = .ok (.aload_n 1, 1) := by decide +kernel
theorem dL_areAlike_47 : decode cL_areAlike 47 = .ok (.iload_n 3, 1) := by decide +kernel
theorem dL_areAlike_48 : decode cL_areAlike 48 = .ok (.invokevirtual 96, 3) := by decide +kernel
theorem dL_areAlike_51 : decode cL_areAlike 51 = .ok (.if_icmp .ne 20, 3) := by decide +kernel
theorem dL_areAlike_54 : decode cL_areAlike 54 = .ok (.aload_n 0, 1) := by decide +kernel
theorem dL_areAlike_55 : decode cL_areAlike 55 = .ok (.iload_n 3, 1) := by decide +kernel
theorem dL_areAlike_56 : decode cL_areAlike 56 = .ok (.invokevirtual 99, 3) := by decide +kernel
theorem dL_areAlike_59 : decode cL_areAlike 59 = .ok (.aload_n 1, 1) := by decide +kernel
theorem dL_areAlike_60 : decode cL_areAlike 60 = .ok (.iload_n 3, 1) := by decide +kernel
theorem dL_areAlike_61 : decode cL_areAlike 61 = .ok (.invokevirtual 99, 3) := by decide +kernel
theorem dL_areAlike_64 : decode cL_areAlike 64 = .ok (.if_icmp .ne 7, 3) := by decide +kernel
theorem dL_areAlike_67 : decode cL_areAlike 67 = .ok (.iconst 1, 1) := by decide +kernel
theorem dL_areAlike_68 : decode cL_areAlike 68 = .ok (.goto 4, 3) := by decide +kernel
theorem dL_areAlike_71 : decode cL_areAlike 71 = .ok (.iconst 0, 1) := by decide +kernel
theorem dL_areAlike_72 : decode cL_areAlike 72 = .ok (.istore_n 2, 1) := by decide +kernel
theorem dL_areAlike_73 : decode cL_areAlike 73 = .ok (.iconst 0, 1) := by decide +kernel
theorem dL_areAlike_74 : decode cL_areAlike 74 = .ok (.istore 4, 2) := by decide +kernel
theorem dL_areAlike_76 : decode cL_areAlike 76 = .ok (.iload 4, 2) := by decide +kernel
theorem dL_areAlike_78 : decode cL_areAlike 78 = .ok (.iconst 4, 1) := by decide +kernel
theorem dL_areAlike_79 : decode cL_areAlike 79 = .ok (.if_icmp .ge 87, 3) := by decide +kernel
theorem dL_areAlike_82 : decode cL_areAlike 82 = .ok (.iload_n 2, 1) := by decide +kernel
theorem dL_areAlike_83 : decode cL_areAlike 83 = .ok (.ifCond .eq 75, 3) := by decide +kernel
theorem dL_areAlike_86 : decode cL_areAlike 86 = .ok (.aload_n 0, 1) := by decide +kernel
theorem dL_areAlike_87 : decode cL_areAlike 87 = .ok (.iload 4, 2) := by decide +kernel
theorem dL_areAlike_89 : decode cL_areAlike 89 = .ok (.iload_n 3, 1) := by decide +kernel
theorem dL_areAlike_90 : decode cL_areAlike 90 = .ok (.invokevirtual 102, 3) := by decide +kernel
theorem dL_areAlike_93 : decode cL_areAlike 93 = .ok (.aload_n 1, 1) := by decide +kernel
theorem dL_areAlike_94 : decode cL_areAlike 94 = .ok (.iload 4, 2) := by decide +kernel
theorem dL_areAlike_96 : decode cL_areAlike 96 = .ok (.iload_n 3, 1) := by decide +kernel
theorem dL_areAlike_97 : decode cL_areAlike 97 = .ok (.invokevirtual 102, 3) := by decide +kernel
theorem dL_areAlike_100 : decode cL_areAlike 100 = .ok (.if_icmp .ne 58, 3) := by decide +kernel
theorem dL_areAlike_103 : decode cL_areAlike 103 = .ok (.aload_n 0, 1) := by decide +kernel
theorem dL_areAlike_104 : decode cL_areAlike 104 = .ok (.iload 4, 2) := by decide +kernel
theorem dL_areAlike_106 : decode cL_areAlike 106 = .ok (.iload_n 3, 1) := by decide +kernel
theorem dL_areAlike_107 : decode cL_areAlike 107 = .ok (.invokestatic 105, 3) := by decide +kernel
theorem dL_areAlike_110 : decode cL_areAlike 110 = .ok (.aload_n 1, 1) := by decide +kernel
theorem dL_areAlike_111 : decode cL_areAlike 111 = .ok (.iload 4, 2) := by decide +kernel
theorem dL_areAlike_113 : decode cL_areAlike 113 = .ok (.iload_n 3, 1) := by decide +kernel
theorem dL_areAlike_114 : decode cL_areAlike 114 = .ok (.invokestatic 105, 3) := by decide +kernel
theorem dL_areAlike_117 : decode cL_areAlike 117 = .ok (.if_icmp .ne 41, 3) := by decide +kernel
theorem dL_areAlike_120 : decode cL_areAlike 120 = .ok (.aload_n 0, 1) := by decide +kernel
theorem dL_areAlike_121 : decode cL_areAlike 121 = .ok (.iload 4, 2) := by decide +kernel
theorem dL_areAlike_123 : decode cL_areAlike 123 = .ok (.iload_n 3, 1) := by decide +kernel
theorem dL_areAlike_124 : decode cL_areAlike 124 = .ok (.invokevirtual 107, 3) := by decide +kernel
theorem dL_areAlike_127 : decode cL_areAlike 127 = .ok (.aload_n 1, 1) := by decide +kernel
theorem dL_areAlike_128 : decode cL_areAlike 128 = .ok (.iload 4, 2) := by decide +kernel
theorem dL_areAlike_130 : decode cL_areAlike 130 = .ok (.iload_n 3, 1) := by decide +kernel
theorem dL_areAlike_131 : decode cL_areAlike 131 = .ok (.invokevirtual 107, 3) := by decide +kernel
theorem dL_areAlike_134 : decode cL_areAlike 134 = .ok (.if_icmp .ne 24, 3) := by decide +kernel
theorem dL_areAlike_137 : decode cL_areAlike 137 = .ok (.aload_n 0, 1) := by decide +kernel
theorem dL_areAlike_138 : decode cL_areAlike 138 = .ok (.iload 4, 2) := by decide +kernel
theorem dL_areAlike_140 : decode cL_areAlike 140 = .ok (.iload_n 3, 1) := by decide +kernel
theorem dL_areAlike_141 : decode cL_areAlike 141 = .ok (.invokevirtual 110, 3) := by decide +kernel
theorem dL_areAlike_144 : decode cL_areAlike 144 = .ok (.aload_n 1, 1) := by decide +kernel
theorem dL_areAlike_145 : decode cL_areAlike 145 = .ok (.iload 4, 2) := by decide +kernel
theorem dL_areAlike_147 : decode cL_areAlike 147 = .ok (.iload_n 3, 1) := by decide +kernel
theorem dL_areAlike_148 : decode cL_areAlike 148 = .ok (.invokevirtual 110, 3) := by decide +kernel
theorem dL_areAlike_151 : decode cL_areAlike 151 = .ok (.if_icmp .ne 7, 3) := by decide +kernel
theorem dL_areAlike_154 : decode cL_areAlike 154 = .ok (.iconst 1, 1) := by decide +kernel
theorem dL_areAlike_155 : decode cL_areAlike 155 = .ok (.goto 4, 3) := by decide +kernel
theorem dL_areAlike_158 : decode cL_areAlike 158 = .ok (.iconst 0, 1) := by decide +kernel
theorem dL_areAlike_159 : decode cL_areAlike 159 = .ok (.istore_n 2, 1) := by decide +kernel
theorem dL_areAlike_160 : decode cL_areAlike 160 = .ok (.iinc 4 1, 3) := by decide +kernel
theorem dL_areAlike_163 : decode cL_areAlike 163 = .ok (.goto (-87), 3) := by decide +kernel
theorem dL_areAlike_166 : decode cL_areAlike 166 = .ok (.iinc 3 1, 3) := by decide +kernel
theorem dL_areAlike_169 : decode cL_areAlike 169 = .ok (.goto (-150), 3) := by decide +kernel
theorem dL_areAlike_172 : decode cL_areAlike 172 = .ok (.iload_n 2, 1) := by decide +kernel
theorem dL_areAlike_173 : decode cL_areAlike 173 = .ok (.ireturn, 1) := by decide +kernel
set_option maxRecDepth 20000 in
theorem ggL_isGroupSo_X0_state : GoodIn wsL_isGroupSo wsX0_state := goodIn_ca (goodIn_r _ [5, 6, 7, 8, 4, 9, 10, 11, 12, 13, 14, 15, 16, 17, 82, 83, 84, 85, 86, 87, 88, 89, 90, 91, 92, 93, 94, 95, 96, 97, 98, 99] (by decide +kernel) (by decide +kernel)) (goodIn_sub (fun _ h => List.mem_cons_of_mem _ (List.mem_append_left _ (List.mem_append_right _ h))) (by decide +kernel))
set_option maxRecDepth 20000 in
theorem gL_isGroupSo_X0_state : GoodIn wsL_isGroupSo (wsV RL 102 RX0 yX0_state wsX0_state) := goodIn_app (goodIn_of _ (by decide +kernel)) ggL_isGroupSo_X0_state
set_option maxRecDepth 20000 in
theorem ggL_isGroupSo_L_timer : GoodIn wsL_isGroupSo wsL_timer := goodIn_ca (goodIn_ca (goodIn_r _ [21, 22, 23, 24, 25, 26, 27, 4, 28, 29, 30, 6, 31, 7, 8, 9, 10, 11, 12, 13, 14, 15, 16, 17, 82, 83, 84, 85, 86, 87, 88, 89, 90, 91, 92, 93, 94, 95, 96, 97, 98, 99] (by decide +kernel) (by decide +kernel)) (goodIn_sub (fun _ h => List.mem_cons_of_mem _ (List.mem_append_right _ h)) (by decide +kernel))) (goodIn_sub (fun _ h => List.mem_cons_of_mem _ (List.mem_append_left _ (List.mem_append_right _ h))) (by decide +kernel))
set_option maxRecDepth 20000 in
theorem gL_isGroupSo_L_timer : GoodIn wsL_isGroupSo (va_wsS RL 105 yL_timer wsL_timer) := goodIn_app (goodIn_of _ (by decide +kernel)) ggL_isGroupSo_L_timer
set_option maxRecDepth 20000 in
theorem ggL_isGroupSo_X0_priority : GoodIn wsL_isGroupSo wsX0_priority := goodIn_ca (goodIn_r _ [35, 6, 7, 8, 4, 9, 10, 11, 12, 13, 14, 15, 16, 17, 36, 37, 38, 39, 40, 41, 42, 43, 44, 45, 46, 47, 48, 49, 82, 83, 84, 85, 86, 87, 88, 89, 90, 91, 92, 93, 94, 95, 96, 97, 98, 99] (by decide +kernel) (by decide +kernel)) (goodIn_sub (fun _ h => List.mem_cons_of_mem _ (List.mem_append_left _ (List.mem_append_right _ h))) (by decide +kernel))
set_option maxRecDepth 20000 in
theorem gL_isGroupSo_X0_priority : GoodIn wsL_isGroupSo (wsV RL 113 RX0 yX0_priority wsX0_priority) := goodIn_app (goodIn_of _ (by decide +kernel)) ggL_isGroupSo_X0_priority
set_option maxRecDepth 20000 in
theorem ggL_isGroupSo_X0_known : GoodIn wsL_isGroupSo wsX0_known := goodIn_ca (goodIn_r _ [53, 54, 7, 8, 4, 9, 10, 11, 12, 13, 14, 15, 16, 17, 82, 83, 84, 85, 86, 87, 88, 89, 90, 91, 92, 93, 94, 95, 96, 97, 98, 99] (by decide +kernel) (by decide +kernel)) (goodIn_sub (fun _ h => List.mem_cons_of_mem _ (List.mem_append_left _ (List.mem_append_right _ h))) (by decide +kernel))
set_option maxRecDepth 20000 in
theorem gL_isGroupSo_X0_known : GoodIn wsL_isGroupSo (wsV RL 107 RX0 yX0_known wsX0_known) := goodIn_app (goodIn_of _ (by decide +kernel)) ggL_isGroupSo_X0_known
set_option maxRecDepth 20000 in
theorem ggL_isGroupSo_X0_changes : GoodIn wsL_isGroupSo wsX0_changes := goodIn_ca (goodIn_r _ [58, 59, 7, 8, 4, 9, 10, 11, 12, 13, 14, 15, 16, 17, 82, 83, 84, 85, 86, 87, 88, 89, 90, 91, 92, 93, 94, 95, 96, 97, 98, 99] (by decide +kernel) (by decide +kernel)) (goodIn_sub (fun _ h => List.mem_cons_of_mem _ (List.mem_append_left _ (List.mem_append_right _ h))) (by decide +kernel))
set_option maxRecDepth 20000 in
theorem gL_isGroupSo_X0_changes : GoodIn wsL_isGroupSo (wsV RL 110 RX0 yX0_changes wsX0_changes) := goodIn_app (goodIn_of _ (by decide +kernel)) ggL_isGroupSo_X0_changes
set_option maxRecDepth 20000 in
theorem ggL_isGroupSo_X0_masters : GoodIn wsL_isGroupSo wsX0_masters := goodIn_ca (goodIn_r _ [63, 12, 13, 4, 14, 10, 11, 64, 65, 66, 67, 6, 15, 16, 17, 82, 83, 84, 85, 86, 87, 88, 89, 90, 91, 92, 93, 94, 95, 96, 97, 98, 99] (by decide +kernel) (by decide +kernel)) (goodIn_sub (fun _ h => List.mem_cons_of_mem _ (List.mem_append_left _ (List.mem_append_right _ h))) (by decide +kernel))
set_option maxRecDepth 20000 in
theorem gL_isGroupSo_X0_masters : GoodIn wsL_isGroupSo (wsV RL 93 RX0 yX0_masters wsX0_masters) := goodIn_app (goodIn_of _ (by decide +kernel)) ggL_isGroupSo_X0_masters
set_option maxRecDepth 20000 in
theorem ggL_isGroupSo_X0_isSettled : GoodIn wsL_isGroupSo wsX0_isSettled := goodIn_ca (goodIn_r _ [71, 12, 13, 4, 14, 10, 11, 64, 65, 66, 67, 6, 15, 16, 17, 72, 73, 74, 75, 76, 82, 83, 84, 85, 86, 87, 88, 89, 90, 91, 92, 93, 94, 95, 96, 97, 98, 99] (by decide +kernel) (by decide +kernel)) (goodIn_sub (fun _ h => List.mem_cons_of_mem _ (List.mem_append_left _ (List.mem_append_right _ h))) (by decide +kernel))
set_option maxRecDepth 20000 in
theorem gL_isGroupSo_X0_isSettled : GoodIn wsL_isGroupSo (wsV RL 116 RX0 yX0_isSettled wsX0_isSettled) := goodIn_app (goodIn_of _ (by decide +kernel)) ggL_isGroupSo_X0_isSettled
set_option maxRecDepth 20000 in
theorem ggL_isGroupSo_X0_sent : GoodIn wsL_isGroupSo wsX0_sent := goodIn_ca (goodIn_r _ [80, 81, 12, 13, 4, 14, 10, 11, 82, 83, 84, 85, 86, 87, 88, 89, 90, 91, 92, 93, 94, 95, 96, 97, 98, 99] (by decide +kernel) (by decide +kernel)) (goodIn_sub (fun _ h => List.mem_cons_of_mem _ (List.mem_append_left _ (List.mem_append_right _ h))) (by decide +kernel))
set_option maxRecDepth 20000 in
theorem gL_isGroupSo_X0_sent : GoodIn wsL_isGroupSo (wsV RL 99 RX0 yX0_sent wsX0_sent) := goodIn_app (goodIn_of _ (by decide +kernel)) ggL_isGroupSo_X0_sent
theorem dL_isGroupSo_0 : decode cL_isGroupSo 0 = .ok (.iconst 0, 1) := by decide +kernel
theorem dL_isGroupSo_1 : decode cL_isGroupSo 1 = .ok (.istore_n 2, 1) := by decide +kernel
theorem dL_isGroupSo_2 : decode cL_isGroupSo 2 = .ok (.iconst 0, 1) := by decide +kernel
theorem dL_isGroupSo_3 : decode cL_isGroupSo 3 = .ok (.istore_n 3, 1) := by decide +kernel
theorem dL_isGroupSo_4 : decode cL_isGroupSo 4 = .ok (.iconst 0, 1) := by decide +kernel
theorem dL_isGroupSo_5 : decode cL_isGroupSo 5 = .ok (.istore 4, 2) := by decide +kernel
theorem dL_isGroupSo_7 : decode cL_isGroupSo 7 = .ok (.iconst 0, 1) := by decide +kernel
theorem dL_isGroupSo_8 : decode cL_isGroupSo 8 = .ok (.istore 5, 2) := by decide +kernel
theorem dL_isGroupSo_10 : decode cL_isGroupSo 10 = .ok (.iload 5, 2) := by decide +kernel
theorem dL_isGroupSo_12 : decode cL_isGroupSo 12 = .ok (.iconst 4, 1) := by decide +kernel
theorem dL_isGroupSo_13 : decode cL_isGroupSo 13 = .ok (.if_icmp .ge 157, 3) := by decide +kernel
theorem dL_isGroupSo_16 : decode cL_isGroupSo 16 = .ok (.aload_n 0, 1) := by decide +kernel
theorem dL_isGroupSo_17 : decode cL_isGroupSo 17 = .ok (.iload 5, 2) := by decide +kernel
theorem dL_isGroupSo_19 : decode cL_isGroupSo 19 = .ok (.iload_n 1, 1) := by decide +kernel
theorem dL_isGroupSo_20 : decode cL_isGroupSo 20 = .ok (.invokevirtual 102, 3) := by decide +kernel
theorem dL_isGroupSo_23 : decode cL_isGroupSo 23 = .ok (.istore 6, 2) := by decide +kernel
theorem dL_isGroupSo_25 : decode cL_isGroupSo 25 = .ok (.aload_n 0, 1) := by decide +kernel
theorem dL_isGroupSo_26 : decode cL_isGroupSo 26 = .ok (.iload 5, 2) := by decide +kernel
theorem dL_isGroupSo_28 : decode cL_isGroupSo 28 = .ok (.iload_n 1, 1) := by decide +kernel
theorem dL_isGroupSo_29 : decode cL_isGroupSo 29 = .ok (.invokestatic 105, 3) := by decide +kernel
theorem dL_isGroupSo_32 : decode cL_isGroupSo 32 = .ok (.istore 7, 2) := by decide +kernel
theorem dL_isGroupSo_34 : decode cL_isGroupSo 34 = .ok (.aload_n 0, 1) := by decide +kernel
theorem dL_isGroupSo_35 : decode cL_isGroupSo 35 = .ok (.iload 5, 2) := by decide +kernel
theorem dL_isGroupSo_37 : decode cL_isGroupSo 37 = .ok (.iload_n 1, 1) := by decide +kernel
theorem dL_isGroupSo_38 : decode cL_isGroupSo 38 = .ok (.invokevirtual 113, 3) := by decide +kernel
theorem dL_isGroupSo_41 : decode cL_isGroupSo 41 = .ok (.istore 8, 2) := by decide +kernel
theorem dL_isGroupSo_43 : decode cL_isGroupSo 43 = .ok (.iload 6, 2) := by decide +kernel
theorem dL_isGroupSo_45 : decode cL_isGroupSo 45 = .ok (.ifCond .lt 67, 3) := by decide +kernel
theorem dL_isGroupSo_48 : decode cL_isGroupSo 48 = .ok (.iload 6, 2) := by decide +kernel
theorem dL_isGroupSo_50 : decode cL_isGroupSo 50 = .ok (.iconst 3, 1) := by decide +kernel
theorem dL_isGroupSo_51 : decode cL_isGroupSo 51 = .ok (.if_icmp .ge 61, 3) := by decide +kernel
theorem dL_isGroupSo_54 : decode cL_isGroupSo 54 = .ok (.iload 6, 2) := by decide +kernel
theorem dL_isGroupSo_56 : decode cL_isGroupSo 56 = .ok (.ifCond .ne 17, 3) := by decide +kernel
theorem dL_isGroupSo_59 : decode cL_isGroupSo 59 = .ok (.iload 7, 2) := by decide +kernel
theorem dL_isGroupSo_61 : decode cL_isGroupSo 61 = .ok (.iconst (-1), 1) := by decide +kernel
theorem dL_isGroupSo_62 : decode cL_isGroupSo 62 = .ok (.if_icmp .ne 50, 3) := by decide +kernel
theorem dL_isGroupSo_65 : decode cL_isGroupSo 65 = .ok (.iload 8, 2) := by decide +kernel
theorem dL_isGroupSo_67 : decode cL_isGroupSo 67 = .ok (.ifCond .ne 45, 3) := by decide +kernel
theorem dL_isGroupSo_70 : decode cL_isGroupSo 70 = .ok (.goto 28, 3) := by decide +kernel
theorem dL_isGroupSo_73 : decode cL_isGroupSo 73 = .ok (.iload 7, 2) := by decide +kernel
theorem dL_isGroupSo_75 : decode cL_isGroupSo 75 = .ok (.ifCond .le 37, 3) := by decide +kernel
theorem dL_isGroupSo_78 : decode cL_isGroupSo 78 = .ok (.iload 7, 2) := by decide +kernel
theorem dL_isGroupSo_80 : decode cL_isGroupSo 80 = .ok (.bipush 40, 2) := by decide +kernel
theorem dL_isGroupSo_82 : decode cL_isGroupSo 82 = .ok (.if_icmp .gt 30, 3) := by decide +kernel
theorem dL_isGroupSo_85 : decode cL_isGroupSo 85 = .ok (.iload 8, 2) := by decide +kernel
theorem dL_isGroupSo_87 : decode cL_isGroupSo 87 = .ok (.ifCond .le 25, 3) := by decide +kernel
theorem dL_isGroupSo_90 : decode cL_isGroupSo 90 = .ok (.iload 8, 2) := by decide +kernel
theorem dL_isGroupSo_92 : decode cL_isGroupSo 92 = .ok (.sipush 255, 3) := by decide +kernel
theorem dL_isGroupSo_95 : decode cL_isGroupSo 95 = .ok (.if_icmp .ge 17, 3) := by decide +kernel
theorem dL_isGroupSo_98 : decode cL_isGroupSo 98 = .ok (.aload_n 0, 1) := by decide +kernel
theorem dL_isGroupSo_99 : decode cL_isGroupSo 99 = .ok (.iload 5, 2) := by decide +kernel
theorem dL_isGroupSo_101 : decode cL_isGroupSo 101 = .ok (.iload_n 1, 1) := by decide +kernel
theorem dL_isGroupSo_102 : decode cL_isGroupSo 102 = .ok (.invokevirtual 107, 3) := by decide +kernel
theorem dL_isGroupSo_105 : decode cL_isGroupSo 105 = .ok (.ifCond .lt 7, 3) := by decide +kernel
theorem dL_isGroupSo_108 : decode cL_isGroupSo 108 = .ok (.iconst 1, 1) := by decide +kernel
theorem dL_isGroupSo_109 : decode cL_isGroupSo 109 = .ok (.goto 4, 3) := by decide +kernel
theorem dL_isGroupSo_112 : decode cL_isGroupSo 112 = .ok (.iconst 0, 1) := by decide +kernel
theorem dL_isGroupSo_113 : decode cL_isGroupSo 113 = .ok (.istore 9, 2) := by decide +kernel
theorem dL_isGroupSo_115 : decode cL_isGroupSo 115 = .ok (.iload 9, 2) := by decide +kernel
theorem dL_isGroupSo_117 : decode cL_isGroupSo 117 = .ok (.ifCond .ne 5, 3) := by decide +kernel
theorem dL_isGroupSo_120 : decode cL_isGroupSo 120 = .ok (.iconst 0, 1) := by decide +kernel
theorem dL_isGroupSo_121 : decode cL_isGroupSo 121 = .ok (.ireturn, 1) := by decide +kernel
theorem dL_isGroupSo_122 : decode cL_isGroupSo 122 = .ok (.iload_n 2, 1) := by decide +kernel
theorem dL_isGroupSo_123 : decode cL_isGroupSo 123 = .ok (.iload 6, 2) := by decide +kernel
theorem dL_isGroupSo_125 : decode cL_isGroupSo 125 = .ok (.iconst 2, 1) := by decide +kernel
theorem dL_isGroupSo_126 : decode cL_isGroupSo 126 = .ok (.if_icmp .ne 10, 3) := by decide +kernel
theorem dL_isGroupSo_129 : decode cL_isGroupSo 129 = .ok (.iconst 1, 1) := by decide +kernel
theorem dL_isGroupSo_130 : decode cL_isGroupSo 130 = .ok (.iload 5, 2) := by decide +kernel
theorem dL_isGroupSo_132 : decode cL_isGroupSo 132 = .ok (.ishl, 1) := by decide +kernel
theorem dL_isGroupSo_133 : decode cL_isGroupSo 133 = .ok (.goto 4, 3) := by decide +kernel
theorem dL_isGroupSo_136 : decode cL_isGroupSo 136 = .ok (.iconst 0, 1) := by decide +kernel
theorem dL_isGroupSo_137 : decode cL_isGroupSo 137 = .ok (.ior, 1) := by decide +kernel
theorem dL_isGroupSo_138 : decode cL_isGroupSo 138 = .ok (.istore_n 2, 1) := by decide +kernel
theorem dL_isGroupSo_139 : decode cL_isGroupSo 139 = .ok (.iload_n 3, 1) := by decide +kernel
theorem dL_isGroupSo_140 : decode cL_isGroupSo 140 = .ok (.iload 6, 2) := by decide +kernel
theorem dL_isGroupSo_142 : decode cL_isGroupSo 142 = .ok (.ifCond .le 7, 3) := by decide +kernel
theorem dL_isGroupSo_145 : decode cL_isGroupSo 145 = .ok (.iconst 1, 1) := by decide +kernel
theorem dL_isGroupSo_146 : decode cL_isGroupSo 146 = .ok (.goto 4, 3) := by decide +kernel
theorem dL_isGroupSo_149 : decode cL_isGroupSo 149 = .ok (.iconst 0, 1) := by decide +kernel
theorem dL_isGroupSo_150 : decode cL_isGroupSo 150 = .ok (.iadd, 1) := by decide +kernel
theorem dL_isGroupSo_151 : decode cL_isGroupSo 151 = .ok (.istore_n 3, 1) := by decide +kernel
theorem dL_isGroupSo_152 : decode cL_isGroupSo 152 = .ok (.iload 4, 2) := by decide +kernel
theorem dL_isGroupSo_154 : decode cL_isGroupSo 154 = .ok (.aload_n 0, 1) := by decide +kernel
theorem dL_isGroupSo_155 : decode cL_isGroupSo 155 = .ok (.iload 5, 2) := by decide +kernel
theorem dL_isGroupSo_157 : decode cL_isGroupSo 157 = .ok (.iload_n 1, 1) := by decide +kernel
theorem dL_isGroupSo_158 : decode cL_isGroupSo 158 = .ok (.invokevirtual 110, 3) := by decide +kernel
theorem dL_isGroupSo_161 : decode cL_isGroupSo 161 = .ok (.iadd, 1) := by decide +kernel
theorem dL_isGroupSo_162 : decode cL_isGroupSo 162 = .ok (.istore 4, 2) := by decide +kernel
theorem dL_isGroupSo_164 : decode cL_isGroupSo 164 = .ok (.iinc 5 1, 3) := by decide +kernel
theorem dL_isGroupSo_167 : decode cL_isGroupSo 167 = .ok (.goto (-157), 3) := by decide +kernel
theorem dL_isGroupSo_170 : decode cL_isGroupSo 170 = .ok (.iload_n 2, 1) := by decide +kernel
theorem dL_isGroupSo_171 : decode cL_isGroupSo 171 = .ok (.ifCond .eq 15, 3) := by decide +kernel
theorem dL_isGroupSo_174 : decode cL_isGroupSo 174 = .ok (.iload_n 2, 1) := by decide +kernel
theorem dL_isGroupSo_175 : decode cL_isGroupSo 175 = .ok (.iload_n 2, 1) := by decide +kernel
theorem dL_isGroupSo_176 : decode cL_isGroupSo 176 = .ok (.iconst 1, 1) := by decide +kernel
theorem dL_isGroupSo_177 : decode cL_isGroupSo 177 = .ok (.isub, 1) := by decide +kernel
theorem dL_isGroupSo_178 : decode cL_isGroupSo 178 = .ok (.iand, 1) := by decide +kernel
theorem dL_isGroupSo_179 : decode cL_isGroupSo 179 = .ok (.ifCond .ne 7, 3) := by decide +kernel
theorem dL_isGroupSo_182 : decode cL_isGroupSo 182 = .ok (.iconst 1, 1) := by decide +kernel
theorem dL_isGroupSo_183 : decode cL_isGroupSo 183 = .ok (.goto 4, 3) := by decide +kernel
theorem dL_isGroupSo_186 : decode cL_isGroupSo 186 = .ok (.iconst 0, 1) := by decide +kernel
theorem dL_isGroupSo_187 : decode cL_isGroupSo 187 = .ok (.istore 5, 2) := by decide +kernel
theorem dL_isGroupSo_189 : decode cL_isGroupSo 189 = .ok (.aload_n 0, 1) := by decide +kernel
theorem dL_isGroupSo_190 : decode cL_isGroupSo 190 = .ok (.iload_n 1, 1) := by decide +kernel
theorem dL_isGroupSo_191 : decode cL_isGroupSo 191 = .ok (.invokevirtual 93, 3) := by decide +kernel
theorem dL_isGroupSo_194 : decode cL_isGroupSo 194 = .ok (.iload_n 2, 1) := by decide +kernel
theorem dL_isGroupSo_195 : decode cL_isGroupSo 195 = .ok (.if_icmp .ne 51, 3) := by decide +kernel
theorem dL_isGroupSo_198 : decode cL_isGroupSo 198 = .ok (.iload 5, 2) := by decide +kernel
theorem dL_isGroupSo_200 : decode cL_isGroupSo 200 = .ok (.ifCond .eq 11, 3) := by decide +kernel
theorem dL_isGroupSo_203 : decode cL_isGroupSo 203 = .ok (.aload_n 0, 1) := by decide +kernel
theorem dL_isGroupSo_204 : decode cL_isGroupSo 204 = .ok (.iload_n 1, 1) := by decide +kernel
theorem dL_isGroupSo_205 : decode cL_isGroupSo 205 = .ok (.invokevirtual 116, 3) := by decide +kernel
theorem dL_isGroupSo_208 : decode cL_isGroupSo 208 = .ok (.ifCond .eq 38, 3) := by decide +kernel
theorem dL_isGroupSo_211 : decode cL_isGroupSo 211 = .ok (.iload_n 2, 1) := by decide +kernel
theorem dL_isGroupSo_212 : decode cL_isGroupSo 212 = .ok (.ifCond .ne 20, 3) := by decide +kernel
theorem dL_isGroupSo_215 : decode cL_isGroupSo 215 = .ok (.aload_n 0, 1) := by decide +kernel
theorem dL_isGroupSo_216 : decode cL_isGroupSo 216 = .ok (.iload_n 1, 1) := by decide +kernel
theorem dL_isGroupSo_217 : decode cL_isGroupSo 217 = .ok (.invokevirtual 116, 3) := by decide +kernel
theorem dL_isGroupSo_220 : decode cL_isGroupSo 220 = .ok (.iload_n 3, 1) := by decide +kernel
theorem dL_isGroupSo_221 : decode cL_isGroupSo 221 = .ok (.ifCond .ne 7, 3) := by decide +kernel
theorem dL_isGroupSo_224 : decode cL_isGroupSo 224 = .ok (.iconst 1, 1) := by decide +kernel
theorem dL_isGroupSo_225 : decode cL_isGroupSo 225 = .ok (.goto 4, 3) := by decide +kernel
theorem dL_isGroupSo_228 : decode cL_isGroupSo 228 = .ok (.iconst 0, 1) := by decide +kernel
theorem dL_isGroupSo_229 : decode cL_isGroupSo 229 = .ok (.if_icmp .ne 17, 3) := by decide +kernel
theorem dL_isGroupSo_232 : decode cL_isGroupSo 232 = .ok (.iload 4, 2) := by decide +kernel
theorem dL_isGroupSo_234 : decode cL_isGroupSo 234 = .ok (.aload_n 0, 1) := by decide +kernel
theorem dL_isGroupSo_235 : decode cL_isGroupSo 235 = .ok (.iload_n 1, 1) := by decide +kernel
theorem dL_isGroupSo_236 : decode cL_isGroupSo 236 = .ok (.invokevirtual 99, 3) := by decide +kernel
theorem dL_isGroupSo_239 : decode cL_isGroupSo 239 = .ok (.if_icmp .gt 7, 3) := by decide +kernel
theorem dL_isGroupSo_242 : decode cL_isGroupSo 242 = .ok (.iconst 1, 1) := by decide +kernel
theorem dL_isGroupSo_243 : decode cL_isGroupSo 243 = .ok (.goto 4, 3) := by decide +kernel
theorem dL_isGroupSo_246 : decode cL_isGroupSo 246 = .ok (.iconst 0, 1) := by decide +kernel
theorem dL_isGroupSo_247 : decode cL_isGroupSo 247 = .ok (.ireturn, 1) := by decide +kernel
set_option maxRecDepth 20000 in
theorem ggL_law_X0_init : GoodIn wsL_law wsX0_init := goodIn_r _ [6, 7, 8, 9, 10, 11, 12, 13, 14, 15, 16, 17, 18, 19, 20, 21, 22, 23, 24, 25, 26, 27, 251, 252, 253, 254, 255, 256, 257, 258, 259, 260, 261, 262, 263, 264, 265, 266, 267, 268] (by decide +kernel) (by decide +kernel)
set_option maxRecDepth 20000 in
theorem gL_law_X0_init : GoodIn wsL_law (wsX0_init) := ggL_law_X0_init
set_option maxRecDepth 20000 in
theorem ggL_law_L_cell : GoodIn wsL_law wsL_cell := goodIn_r _ [31] (by decide +kernel) (by decide +kernel)
set_option maxRecDepth 20000 in
theorem gL_law_L_cell : GoodIn wsL_law (va_wsS RL 121 yL_cell wsL_cell) := goodIn_app (goodIn_of _ (by decide +kernel)) ggL_law_L_cell
set_option maxRecDepth 20000 in
theorem ggL_law_L_act : GoodIn wsL_law wsL_act := goodIn_ca (goodIn_ca (goodIn_r _ [34, 35, 36, 30, 37, 38, 39, 40, 41, 42, 3, 43, 44, 45, 2, 46, 21, 22, 11, 47, 48, 49, 50, 51, 52, 53, 54, 55, 56, 57, 58, 59, 60, 61, 62, 63, 64, 20, 12, 65, 66, 67, 68, 69, 70, 71, 72, 13, 15, 73, 74, 75, 76, 77, 78, 79, 80, 81, 82, 83, 24, 23, 84, 85, 86, 87, 16, 88, 89, 90, 91, 92, 93, 94, 95, 25, 27, 96, 97, 98, 99, 100, 17, 18, 101, 102, 103, 104, 105, 106, 107, 108, 109, 110, 111, 112, 113, 114, 115, 116, 117, 118, 119, 120, 121, 122, 123, 124, 125, 126, 127, 128, 129, 130, 131, 132, 133, 134, 135, 136, 137, 138, 139, 140, 141, 142, 143, 144, 145, 146, 147, 148, 149, 150, 151, 152, 153, 154, 155, 156, 157, 158, 159, 160, 161, 162, 163, 164, 165, 166, 167, 168, 169, 170, 171, 172, 173, 174, 175, 176, 177, 178, 179, 180, 181, 182, 183, 184, 185, 186, 187, 188, 189, 26, 190, 191, 192, 193, 19, 194, 195, 196, 197, 251, 252, 253, 254, 255, 256, 257, 258, 259, 260, 261, 262, 263, 264, 265, 266, 267, 268] (by decide +kernel) (by decide +kernel)) (goodIn_sub (fun _ h => List.mem_append_left _ (List.mem_append_right _ h)) (by decide +kernel))) (goodIn_sub (fun _ h => List.mem_append_right _ h) (by decide +kernel))
set_option maxRecDepth 20000 in
theorem gL_law_L_act : GoodIn wsL_law (va_wsS RL 125 yL_act wsL_act) := goodIn_app (goodIn_of _ (by decide +kernel)) ggL_law_L_act
set_option maxRecDepth 20000 in
theorem ggL_law_L_areAlike : GoodIn wsL_law wsL_areAlike := goodIn_ca (goodIn_ca (goodIn_r _ [200, 201, 202, 203, 2, 204, 96, 205, 206, 207, 208, 52, 53, 54, 50, 51, 194, 195, 196, 197, 22, 58, 59, 60, 209, 210, 211, 212, 19, 213, 214, 215, 216, 20, 217, 218, 219, 220, 47, 48, 49, 221, 222, 30, 223, 42, 146, 3, 224, 225, 226, 227, 151, 152, 23, 228, 229, 230, 231, 25, 232, 233, 234, 235, 26, 251, 252, 253, 254, 255, 256, 257, 258, 259, 260, 261, 262, 263, 264, 265, 266, 267, 268] (by decide +kernel) (by decide +kernel)) (goodIn_sub (fun _ h => List.mem_append_left _ (List.mem_append_right _ h)) (by decide +kernel))) (goodIn_sub (fun _ h => List.mem_append_right _ h) (by decide +kernel))
set_option maxRecDepth 20000 in
theorem gL_law_L_areAlike : GoodIn wsL_law (va_wsS RL 128 yL_areAlike wsL_areAlike) := goodIn_app (goodIn_of _ (by decide +kernel)) ggL_law_L_areAlike
set_option maxRecDepth 20000 in
theorem ggL_law_L_isGroupSo : GoodIn wsL_law wsL_isGroupSo := goodIn_ca (goodIn_ca (goodIn_r _ [238, 217, 218, 219, 2, 220, 22, 47, 48, 49, 50, 51, 52, 53, 54, 58, 59, 60, 221, 222, 30, 223, 42, 146, 3, 224, 225, 226, 227, 151, 152, 23, 239, 240, 241, 242, 69, 70, 71, 72, 21, 13, 15, 73, 74, 75, 76, 77, 78, 79, 228, 229, 230, 231, 25, 232, 233, 234, 235, 26, 205, 206, 207, 208, 194, 195, 196, 197, 243, 244, 245, 246, 247, 248, 249, 250, 12, 213, 214, 215, 216, 20, 251, 252, 253, 254, 255, 256, 257, 258, 259, 260, 261, 262, 263, 264, 265, 266, 267, 268] (by decide +kernel) (by decide +kernel)) (goodIn_sub (fun _ h => List.mem_append_left _ (List.mem_append_right _ h)) (by decide +kernel))) (goodIn_sub (fun _ h => List.mem_append_right _ h) (by decide +kernel))
set_option maxRecDepth 20000 in
theorem gL_law_L_isGroupSo : GoodIn wsL_law (va_wsS RL 132 yL_isGroupSo wsL_isGroupSo) := goodIn_app (goodIn_of _ (by decide +kernel)) ggL_law_L_isGroupSo
set_option maxRecDepth 20000 in
theorem ggL_law_L_low : GoodIn wsL_law wsL_low := goodIn_r _ [37, 38] (by decide +kernel) (by decide +kernel)
set_option maxRecDepth 20000 in
theorem gL_law_L_low : GoodIn wsL_law (va_wsS RL 57 yL_low wsL_low) := goodIn_app (goodIn_of _ (by decide +kernel)) ggL_law_L_low
set_option maxRecDepth 20000 in
theorem ggL_law_X0_tick : GoodIn wsL_law wsX0_tick := goodIn_ca (goodIn_r _ [180, 181, 55, 56, 2, 57, 50, 51, 182, 183, 184, 185, 22, 23, 16, 58, 59, 60, 69, 70, 71, 72, 21, 13, 15, 73, 74, 75, 76, 77, 78, 79, 61, 62, 63, 64, 20, 12, 65, 66, 67, 68, 80, 81, 82, 83, 24, 84, 85, 86, 87, 88, 89, 90, 91, 92, 93, 94, 95, 25, 27, 96, 97, 98, 99, 100, 17, 18, 186, 187, 188, 189, 26, 190, 191, 192, 193, 19, 194, 195, 196, 197, 251, 252, 253, 254, 255, 256, 257, 258, 259, 260, 261, 262, 263, 264, 265, 266, 267, 268] (by decide +kernel) (by decide +kernel)) (goodIn_sub (fun _ h => List.mem_append_left _ (List.mem_append_right _ h)) (by decide +kernel))
set_option maxRecDepth 20000 in
theorem gL_law_X0_tick : GoodIn wsL_law (wsV RL 51 RX0 yX0_tick wsX0_tick) := goodIn_app (goodIn_of _ (by decide +kernel)) ggL_law_X0_tick
theorem dL_law_0 : decode cL_law 0 = .ok (.new 9, 3) := by decide +kernel
theorem dL_law_3 : decode cL_law 3 = .ok (.dup, 1) := by decide +kernel
theorem dL_law_4 : decode cL_law 4 = .ok (.invokespecial 120, 3) := by decide +kernel
theorem dL_law_7 : decode cL_law 7 = .ok (.astore_n 1, 1) := by decide +kernel
theorem dL_law_8 : decode cL_law 8 = .ok (.new 9, 3) := by decide +kernel
theorem dL_law_11 : decode cL_law 11 = .ok (.dup, 1) := by decide +kernel
theorem dL_law_12 : decode cL_law 12 = .ok (.invokespecial 120, 3) := by decide +kernel
theorem dL_law_15 : decode cL_law 15 = .ok (.astore_n 2, 1) := by decide +kernel
theorem dL_law_16 : decode cL_law 16 = .ok (.iconst 0, 1) := by decide +kernel
theorem dL_law_17 : decode cL_law 17 = .ok (.istore_n 3, 1) := by decide +kernel
theorem dL_law_18 : decode cL_law 18 = .ok (.iconst 0, 1) := by decide +kernel
theorem dL_law_19 : decode cL_law 19 = .ok (.istore 4, 2) := by decide +kernel
theorem dL_law_21 : decode cL_law 21 = .ok (.iload 4, 2) := by decide +kernel
theorem dL_law_23 : decode cL_law 23 = .ok (.bipush 90, 2) := by decide +kernel
theorem dL_law_25 : decode cL_law 25 = .ok (.if_icmp .ge 88, 3) := by decide +kernel
theorem dL_law_28 : decode cL_law 28 = .ok (.aload_n 0, 1) := by decide +kernel
theorem dL_law_29 : decode cL_law 29 = .ok (.iload 4, 2) := by decide +kernel
theorem dL_law_31 : decode cL_law 31 = .ok (.invokestatic 121, 3) := by decide +kernel
theorem dL_law_34 : decode cL_law 34 = .ok (.istore 5, 2) := by decide +kernel
theorem dL_law_36 : decode cL_law 36 = .ok (.aload_n 1, 1) := by decide +kernel
theorem dL_law_37 : decode cL_law 37 = .ok (.iload 5, 2) := by decide +kernel
theorem dL_law_39 : decode cL_law 39 = .ok (.invokestatic 125, 3) := by decide +kernel
theorem dL_law_42 : decode cL_law 42 = .ok (.istore 6, 2) := by decide +kernel
theorem dL_law_44 : decode cL_law 44 = .ok (.iload 6, 2) := by decide +kernel
theorem dL_law_46 : decode cL_law 46 = .ok (.ldc 16, 2) := by decide +kernel
theorem dL_law_48 : decode cL_law 48 = .ok (.if_icmp .eq 14, 3) := by decide +kernel
theorem dL_law_51 : decode cL_law 51 = .ok (.aload_n 2, 1) := by decide +kernel
theorem dL_law_52 : decode cL_law 52 = .ok (.iload 5, 2) := by decide +kernel
theorem dL_law_54 : decode cL_law 54 = .ok (.invokestatic 125, 3) := by decide +kernel
theorem dL_law_57 : decode cL_law 57 = .ok (.iload 6, 2) := by decide +kernel
theorem dL_law_59 : decode cL_law 59 = .ok (.if_icmp .ne 22, 3) := by decide +kernel
theorem dL_law_62 : decode cL_law 62 = .ok (.aload_n 1, 1) := by decide +kernel
theorem dL_law_63 : decode cL_law 63 = .ok (.aload_n 2, 1) := by decide +kernel
theorem dL_law_64 : decode cL_law 64 = .ok (.invokestatic 128, 3) := by decide +kernel
theorem dL_law_67 : decode cL_law 67 = .ok (.ifCond .eq 14, 3) := by decide +kernel
theorem dL_law_70 : decode cL_law 70 = .ok (.aload_n 1, 1) := by decide +kernel
theorem dL_law_71 : decode cL_law 71 = .ok (.iload 4, 2) := by decide +kernel
theorem dL_law_73 : decode cL_law 73 = .ok (.iconst 3, 1) := by decide +kernel
theorem dL_law_74 : decode cL_law 74 = .ok (.irem, 1) := by decide +kernel
theorem dL_law_75 : decode cL_law 75 = .ok (.invokestatic 132, 3) := by decide +kernel
theorem dL_law_78 : decode cL_law 78 = .ok (.ifCond .ne 5, 3) := by decide +kernel
theorem dL_law_81 : decode cL_law 81 = .ok (.iconst 0, 1) := by decide +kernel
theorem dL_law_82 : decode cL_law 82 = .ok (.ireturn, 1) := by decide +kernel
theorem dL_law_83 : decode cL_law 83 = .ok (.iload 6, 2) := by decide +kernel
theorem dL_law_85 : decode cL_law 85 = .ok (.ifCond .le 20, 3) := by decide +kernel
theorem dL_law_88 : decode cL_law 88 = .ok (.iload 5, 2) := by decide +kernel
theorem dL_law_90 : decode cL_law 90 = .ok (.bipush 18, 2) := by decide +kernel
theorem dL_law_92 : decode cL_law 92 = .ok (.invokestatic 57, 3) := by decide +kernel
theorem dL_law_95 : decode cL_law 95 = .ok (.bipush 14, 2) := by decide +kernel
theorem dL_law_97 : decode cL_law 97 = .ok (.if_icmp .le 8, 3) := by decide +kernel
theorem dL_law_100 : decode cL_law 100 = .ok (.iload 6, 2) := by decide +kernel
theorem dL_law_102 : decode cL_law 102 = .ok (.goto 4, 3) := by decide +kernel
theorem dL_law_105 : decode cL_law 105 = .ok (.iload_n 3, 1) := by decide +kernel
theorem dL_law_106 : decode cL_law 106 = .ok (.istore_n 3, 1) := by decide +kernel
theorem dL_law_107 : decode cL_law 107 = .ok (.iinc 4 1, 3) := by decide +kernel
theorem dL_law_110 : decode cL_law 110 = .ok (.goto (-89), 3) := by decide +kernel
theorem dL_law_113 : decode cL_law 113 = .ok (.aload_n 1, 1) := by decide +kernel
theorem dL_law_114 : decode cL_law 114 = .ok (.bipush 30, 2) := by decide +kernel
theorem dL_law_116 : decode cL_law 116 = .ok (.invokevirtual 51, 3) := by decide +kernel
theorem dL_law_119 : decode cL_law 119 = .ok (.istore 4, 2) := by decide +kernel
theorem dL_law_121 : decode cL_law 121 = .ok (.iconst 0, 1) := by decide +kernel
theorem dL_law_122 : decode cL_law 122 = .ok (.istore 5, 2) := by decide +kernel
theorem dL_law_124 : decode cL_law 124 = .ok (.iload 5, 2) := by decide +kernel
theorem dL_law_126 : decode cL_law 126 = .ok (.bipush 30, 2) := by decide +kernel
theorem dL_law_128 : decode cL_law 128 = .ok (.if_icmp .ge 15, 3) := by decide +kernel
theorem dL_law_131 : decode cL_law 131 = .ok (.aload_n 2, 1) := by decide +kernel
theorem dL_law_132 : decode cL_law 132 = .ok (.iconst 1, 1) := by decide +kernel
theorem dL_law_133 : decode cL_law 133 = .ok (.invokevirtual 51, 3) := by decide +kernel
theorem dL_law_136 : decode cL_law 136 = .ok (.istore_n 3, 1) := by decide +kernel
theorem dL_law_137 : decode cL_law 137 = .ok (.iinc 5 1, 3) := by decide +kernel
theorem dL_law_140 : decode cL_law 140 = .ok (.goto (-16), 3) := by decide +kernel
theorem dL_law_143 : decode cL_law 143 = .ok (.iload_n 3, 1) := by decide +kernel
theorem dL_law_144 : decode cL_law 144 = .ok (.iload 4, 2) := by decide +kernel
theorem dL_law_146 : decode cL_law 146 = .ok (.if_icmp .ne 15, 3) := by decide +kernel
theorem dL_law_149 : decode cL_law 149 = .ok (.aload_n 1, 1) := by decide +kernel
theorem dL_law_150 : decode cL_law 150 = .ok (.aload_n 2, 1) := by decide +kernel
theorem dL_law_151 : decode cL_law 151 = .ok (.invokestatic 128, 3) := by decide +kernel
theorem dL_law_154 : decode cL_law 154 = .ok (.ifCond .eq 7, 3) := by decide +kernel
theorem dL_law_157 : decode cL_law 157 = .ok (.iconst 1, 1) := by decide +kernel
theorem dL_law_158 : decode cL_law 158 = .ok (.goto 4, 3) := by decide +kernel
theorem dL_law_161 : decode cL_law 161 = .ok (.iconst 0, 1) := by decide +kernel
theorem dL_law_162 : decode cL_law 162 = .ok (.ireturn, 1) := by decide +kernel
end
section
/-! ===== the bundled world and its rows (own) ===== -/
abbrev sC : Type := Nat → Nat → Int32
def up (σ : sC) (k p : Nat) (v : Int32) : sC := fun k' => if k' = k then upd (σ k) p v else σ k'
theorem up_eq (σ : sC) (k p : Nat) (v : Int32) : up σ k p v k p = v := by simp [up, upd]
theorem up_ne (σ : sC) (k p : Nat) (v : Int32) {q : Nat} (h : q ≠ p) : up σ k p v k q = σ k q := by simp [up, upd, h]
theorem up_nk (σ : sC) (k p : Nat) (v : Int32) {k' : Nat} (h : k' ≠ k) : up σ k p v k' = σ k' := by simp [up, h]
theorem up_self (σ : sC) (k p : Nat) (v : Int32) (h : σ k p = v) : up σ k p v = σ := by
  funext k' q
  by_cases hk : k' = k
  · subst hk
    by_cases hq : q = p
    · subst hq; rw [up_eq, h]
    · rw [up_ne _ _ _ _ hq]
  · rw [up_nk _ _ _ _ hk]
/-- the world ws, in H -/
def Wd (D : va_G) (A : Nat → Prop) (H0 : Heap) (ws : va_W) (H : Heap) (locs : List Loc) : Prop := va_P D vwCl ws H ∧ va_D A ws ∧ va_S A H0 H locs ∧ ∀ q, H0.size ≤ q → A q
theorem Wd.P {D : va_G} {A : Nat → Prop} {H0 H : Heap} {ws : va_W} {locs : List Loc} (h : Wd D A H0 ws H locs) : va_P D vwCl ws H := h.1
theorem Wd.cast {D : va_G} {A : Nat → Prop} {H0 H : Heap} {ws ws' : va_W} {locs : List Loc} (e : ws = ws') (h : Wd D A H0 ws H locs) : Wd D A H0 ws' H locs := e ▸ h
/-- the world for walks that throw: read only -/
def Wt (D : va_G) (A : Nat → Prop) (H0 : Heap) (ws : va_W) (H : Heap) (locs : List Loc) : Prop := va_P D vwCl ws H ∧ va_S A H0 H locs ∧ (∀ q, H0.size ≤ q → A q) ∧ ∀ (k : Nat) (q : Nat × va_E), ws[k]? = some q → q.1 < H0.size ∧ ¬ A q.1
section BX
variable {p : Program} {l : Launch} {e : Env} {R : Room} {s : State} {m : MethodId} {args : Array Value} {below : List Frame} {meth : Method} {c : Code} {H : Heap} {locs : List Loc} {cells slots : Nat} {Q : State → Prop}
variable {cc : ByteArray} {nL pc : Nat} {ls : Array Slot} {rest : List Value} {Ts : List Cond} {own : String} {D : va_G} {A : Nat → Prop} {H0 : Heap} {ws ws' : va_W} {tys : List (ClassId × FieldType)}
theorem bx_get (S : CallFix p m c cc nL s args Ts own) (hK : va_K D vwCl tys s) {C : String} {T : u_T} {N ci index : Nat} (hin : ∀ w ∈ u_ws C T N, w ∈ Ts) (hP : va_P D vwCl ws H) (q0 : Nat) {a : Nat} {fs : List Value} (he : ws[q0]? = some (a, .inr (ci, fs))) (hc : vwCl[ci]? = some (C, T, N)) (k : Nat) (hk : k < N) (hl : Cond.fieldLink own index (T k).1 (T k).2.1 (T k).2.2.1 ∈ Ts) {v : Value} (hv : fs[k]? = some v) (hdg : decode cc pc = .ok (.getfield index, 3))
    (kk : W p l e R s m args below meth c H locs cells slots Q (F0 m (pc + 3) ls (v :: rest))) : W p l e R s m args below meth c H locs cells slots Q (F0 m pc ls (.ref a :: rest)) :=
  va_get S.1 S.2.1 S.2.2.2.2 hin S.2.2.2.1 hK hP q0 he hc k hk (S.2.2.2.2 _ hl) (fun _ h9 => h9) hv hdg kk
theorem bx_iald (S : CallFix p m c cc nL s args Ts own) (hK : va_K D vwCl tys s) (hP : va_P D vwCl ws H) (q0 t0 : Nat) {a : Nat} {cA : ClassId} {n i : Nat} {f : Nat → Int32} (ha : ws[q0]? = some (a, .inl (cA, n, .inl f))) (ht : tys[t0]? = some (cA, .int)) (hi : i < n) (hn : n < 100) {v : Int32} (hv : f i = v) (hdg : decode cc pc = .ok (.iaload, 1))
    (kk : W p l e R s m args below meth c H locs cells slots Q (F0 m (pc + 1) ls (.int v :: rest))) : W p l e R s m args below meth c H locs cells slots Q (F0 m pc ls (.int (nI i) :: .ref a :: rest)) := by
  refine va_iald S.1 S.2.1 hK hP q0 t0 ha ht (vp_in_nI hi (by omega)) hdg ?_
  rw [nI_clamp (by omega), hv]
  exact kk
theorem bx_zald (S : CallFix p m c cc nL s args Ts own) (hK : va_K D vwCl tys s) (hP : va_P D vwCl ws H) (q0 t0 : Nat) {a : Nat} {cA : ClassId} {n i : Nat} {f : Nat → Int32} (ha : ws[q0]? = some (a, .inl (cA, n, .inl f))) (ht : tys[t0]? = some (cA, .boolean)) (hi : i < n) (hn : n < 100) {v : Int32} (hv : f i = v) (hdg : decode cc pc = .ok (.baload, 1))
    (kk : W p l e R s m args below meth c H locs cells slots Q (F0 m (pc + 1) ls (.int v :: rest))) : W p l e R s m args below meth c H locs cells slots Q (F0 m pc ls (.int (nI i) :: .ref a :: rest)) := by
  refine va_zald S.1 S.2.1 hK hP q0 t0 ha ht (vp_in_nI hi (by omega)) hdg ?_
  rw [nI_clamp (by omega), hv]
  exact kk
theorem bx_iast (S : CallFix p m c cc nL s args Ts own) (hK : va_K D vwCl tys s) (hw : Wd D A H0 ws H locs) (q0 t0 : Nat) {a : Nat} {cA : ClassId} {n i : Nat} {f : Nat → Int32} (ha : ws[q0]? = some (a, .inl (cA, n, .inl f))) (ht : tys[t0]? = some (cA, .int)) (hi : i < n) (hn : n < 100) {x : Int32} (he : ws.set q0 (a, .inl (cA, n, .inl (upd f i x))) = ws') (hdg : decode cc pc = .ok (.iastore, 1))
    (kk : ∀ (H1 : Heap) (locs1 : List Loc), Wd D A H0 ws' H1 locs1 → W p l e R s m args below meth c H1 locs1 cells slots Q (F0 m (pc + 1) ls rest)) : W p l e R s m args below meth c H locs cells slots Q (F0 m pc ls (.int x :: .int (nI i) :: .ref a :: rest)) := by
  refine va_iast S.1 S.2.1 hK hw.1 hw.2.1 hw.2.2.1 q0 t0 ha ht (vp_in_nI hi (by omega)) hdg (fun H1 locs1 hP hD hS => ?_)
  rw [nI_clamp (by omega), he] at hP hD
  exact kk H1 locs1 ⟨hP, hD, hS, hw.2.2.2⟩
theorem bx_zast (S : CallFix p m c cc nL s args Ts own) (hK : va_K D vwCl tys s) (hw : Wd D A H0 ws H locs) (q0 t0 : Nat) {a : Nat} {cA : ClassId} {n i : Nat} {f : Nat → Int32} (ha : ws[q0]? = some (a, .inl (cA, n, .inl f))) (ht : tys[t0]? = some (cA, .boolean)) (hi : i < n) (hn : n < 100) {x : Int32} (hx : vp_nar .boolean x = x) (he : ws.set q0 (a, .inl (cA, n, .inl (upd f i x))) = ws') (hdg : decode cc pc = .ok (.bastore, 1))
    (kk : ∀ (H1 : Heap) (locs1 : List Loc), Wd D A H0 ws' H1 locs1 → W p l e R s m args below meth c H1 locs1 cells slots Q (F0 m (pc + 1) ls rest)) : W p l e R s m args below meth c H locs cells slots Q (F0 m pc ls (.int x :: .int (nI i) :: .ref a :: rest)) := by
  refine va_zast S.1 S.2.1 hK hw.1 hw.2.1 hw.2.2.1 q0 t0 ha ht (vp_in_nI hi (by omega)) hdg (fun H1 locs1 hP hD hS => ?_)
  rw [nI_clamp (by omega), hx, he] at hP hD
  exact kk H1 locs1 ⟨hP, hD, hS, hw.2.2.2⟩
/-- an int field of the object at q0 -/
theorem bx_put (S : CallFix p m c cc nL s args Ts own) (hK : va_K D vwCl tys s) {C : String} {T : u_T} {N ci index : Nat} (hin : ∀ w ∈ u_ws C T N, w ∈ Ts) (ty0 : Nat → FieldType) (hty : ∀ k, k < N → parseFieldDescriptor (T k).2.2.1 = some (ty0 k)) (hnm : ∀ a, a < N → ∀ b, b < N → a ≠ b → (T a).2.1 ≠ (T b).2.1) (hw : Wd D A H0 ws H locs) (q0 : Nat) {a : Nat} {fs : List Value} (he : ws[q0]? = some (a, .inr (ci, fs))) (hc : vwCl[ci]? = some (C, T, N)) (k : Nat) (hk : k < N) (hl : Cond.fieldLink own index (T k).1 (T k).2.1 (T k).2.2.1 ∈ Ts) (hfin : (T k).2.2.2 = false) {x : Int32} (hd : parseFieldDescriptor (T k).2.2.1 = some .int) (hlen : k < fs.length) (hs : ws.set q0 (a, .inr (ci, fs.set k (.int x))) = ws') (hdg : decode cc pc = .ok (.putfield index, 3))
    (kk : ∀ (H1 : Heap) (locs1 : List Loc), Wd D A H0 ws' H1 locs1 → W p l e R s m args below meth c H1 locs1 cells slots Q (F0 m (pc + 3) ls rest)) : W p l e R s m args below meth c H locs cells slots Q (F0 m pc ls (.int x :: .ref a :: rest)) := by
  refine va_put S.1 S.2.1 S.2.2.2.2 hin ty0 hty hnm S.2.2.2.1 hK hw.1 hw.2.1 hw.2.2.1 q0 he hc k hk (S.2.2.2.2 _ hl) (fun _ h9 => h9) hfin hd rfl rfl hlen hdg (fun H1 locs1 hP hD hS => ?_)
  rw [hs] at hP hD
  exact kk H1 locs1 ⟨hP, hD, hS, hw.2.2.2⟩
/-- the top of the stack under another name -/
theorem bx_top {x y : Int32} (h : x = y) (kk : W p l e R s m args below meth c H locs cells slots Q (F0 m pc ls (.int y :: rest))) : W p l e R s m args below meth c H locs cells slots Q (F0 m pc ls (.int x :: rest)) := h ▸ kk
theorem br_eq (S : CallFix p m c cc nL s args Ts own) {x y : Int32} {off : Int} {tgt : Nat} (hdg : decode cc pc = .ok (.if_icmp .eq off, 3)) (ht : (pc : Int) + off = (tgt : Int))
    (kt : x = y → W p l e R s m args below meth c H locs cells slots Q (F0 m tgt ls rest)) (kf : ¬ x = y → W p l e R s m args below meth c H locs cells slots Q (F0 m (pc + 3) ls rest)) : W p l e R s m args below meth c H locs cells slots Q (F0 m pc ls (.int y :: .int x :: rest)) := lv_icmp_eq S.1 S.2.1 hdg ht kt kf
theorem br_ne (S : CallFix p m c cc nL s args Ts own) {x y : Int32} {off : Int} {tgt : Nat} (hdg : decode cc pc = .ok (.if_icmp .ne off, 3)) (ht : (pc : Int) + off = (tgt : Int))
    (kt : ¬ x = y → W p l e R s m args below meth c H locs cells slots Q (F0 m tgt ls rest)) (kf : x = y → W p l e R s m args below meth c H locs cells slots Q (F0 m (pc + 3) ls rest)) : W p l e R s m args below meth c H locs cells slots Q (F0 m pc ls (.int y :: .int x :: rest)) := lv_icmp_ne S.1 S.2.1 hdg ht kt kf
theorem br_lt (S : CallFix p m c cc nL s args Ts own) {x y : Int32} {off : Int} {tgt : Nat} (hdg : decode cc pc = .ok (.if_icmp .lt off, 3)) (ht : (pc : Int) + off = (tgt : Int))
    (kt : x < y → W p l e R s m args below meth c H locs cells slots Q (F0 m tgt ls rest)) (kf : ¬ x < y → W p l e R s m args below meth c H locs cells slots Q (F0 m (pc + 3) ls rest)) : W p l e R s m args below meth c H locs cells slots Q (F0 m pc ls (.int y :: .int x :: rest)) := lv_icmp_lt S.1 S.2.1 hdg ht kt kf
theorem br_ge (S : CallFix p m c cc nL s args Ts own) {x y : Int32} {off : Int} {tgt : Nat} (hdg : decode cc pc = .ok (.if_icmp .ge off, 3)) (ht : (pc : Int) + off = (tgt : Int))
    (kt : ¬ x < y → W p l e R s m args below meth c H locs cells slots Q (F0 m tgt ls rest)) (kf : x < y → W p l e R s m args below meth c H locs cells slots Q (F0 m (pc + 3) ls rest)) : W p l e R s m args below meth c H locs cells slots Q (F0 m pc ls (.int y :: .int x :: rest)) := lv_icmp_ge S.1 S.2.1 hdg ht (fun h => kt (Int32.not_lt.mpr h)) (fun h => kf (Int32.not_le.mp h))
theorem br_gt (S : CallFix p m c cc nL s args Ts own) {x y : Int32} {off : Int} {tgt : Nat} (hdg : decode cc pc = .ok (.if_icmp .gt off, 3)) (ht : (pc : Int) + off = (tgt : Int))
    (kt : y < x → W p l e R s m args below meth c H locs cells slots Q (F0 m tgt ls rest)) (kf : ¬ y < x → W p l e R s m args below meth c H locs cells slots Q (F0 m (pc + 3) ls rest)) : W p l e R s m args below meth c H locs cells slots Q (F0 m pc ls (.int y :: .int x :: rest)) := lv_icmp_gt S.1 S.2.1 hdg ht kt kf
theorem br_le (S : CallFix p m c cc nL s args Ts own) {x y : Int32} {off : Int} {tgt : Nat} (hdg : decode cc pc = .ok (.if_icmp .le off, 3)) (ht : (pc : Int) + off = (tgt : Int))
    (kt : ¬ y < x → W p l e R s m args below meth c H locs cells slots Q (F0 m tgt ls rest)) (kf : y < x → W p l e R s m args below meth c H locs cells slots Q (F0 m (pc + 3) ls rest)) : W p l e R s m args below meth c H locs cells slots Q (F0 m pc ls (.int y :: .int x :: rest)) := lv_icmp_le S.1 S.2.1 hdg ht (fun h => kt (Int32.not_lt.mpr h)) (fun h => kf (Int32.not_le.mp h))
theorem bz_eq (S : CallFix p m c cc nL s args Ts own) {x : Int32} {off : Int} {tgt : Nat} (hdg : decode cc pc = .ok (.ifCond .eq off, 3)) (ht : (pc : Int) + off = (tgt : Int))
    (kt : x = 0 → W p l e R s m args below meth c H locs cells slots Q (F0 m tgt ls rest)) (kf : ¬ x = 0 → W p l e R s m args below meth c H locs cells slots Q (F0 m (pc + 3) ls rest)) : W p l e R s m args below meth c H locs cells slots Q (F0 m pc ls (.int x :: rest)) := lv_if_eq S.1 S.2.1 hdg ht kt kf
theorem bz_ne (S : CallFix p m c cc nL s args Ts own) {x : Int32} {off : Int} {tgt : Nat} (hdg : decode cc pc = .ok (.ifCond .ne off, 3)) (ht : (pc : Int) + off = (tgt : Int))
    (kt : ¬ x = 0 → W p l e R s m args below meth c H locs cells slots Q (F0 m tgt ls rest)) (kf : x = 0 → W p l e R s m args below meth c H locs cells slots Q (F0 m (pc + 3) ls rest)) : W p l e R s m args below meth c H locs cells slots Q (F0 m pc ls (.int x :: rest)) := lv_if_ne S.1 S.2.1 hdg ht kt kf
theorem bz_lt (S : CallFix p m c cc nL s args Ts own) {x : Int32} {off : Int} {tgt : Nat} (hdg : decode cc pc = .ok (.ifCond .lt off, 3)) (ht : (pc : Int) + off = (tgt : Int))
    (kt : x < 0 → W p l e R s m args below meth c H locs cells slots Q (F0 m tgt ls rest)) (kf : ¬ x < 0 → W p l e R s m args below meth c H locs cells slots Q (F0 m (pc + 3) ls rest)) : W p l e R s m args below meth c H locs cells slots Q (F0 m pc ls (.int x :: rest)) := lv_if_lt S.1 S.2.1 hdg ht kt kf
theorem bz_ge (S : CallFix p m c cc nL s args Ts own) {x : Int32} {off : Int} {tgt : Nat} (hdg : decode cc pc = .ok (.ifCond .ge off, 3)) (ht : (pc : Int) + off = (tgt : Int))
    (kt : ¬ x < 0 → W p l e R s m args below meth c H locs cells slots Q (F0 m tgt ls rest)) (kf : x < 0 → W p l e R s m args below meth c H locs cells slots Q (F0 m (pc + 3) ls rest)) : W p l e R s m args below meth c H locs cells slots Q (F0 m pc ls (.int x :: rest)) := lv_if_ge S.1 S.2.1 hdg ht (fun h => kt (Int32.not_lt.mpr h)) (fun h => kf (Int32.not_le.mp h))
theorem bz_gt (S : CallFix p m c cc nL s args Ts own) {x : Int32} {off : Int} {tgt : Nat} (hdg : decode cc pc = .ok (.ifCond .gt off, 3)) (ht : (pc : Int) + off = (tgt : Int))
    (kt : 0 < x → W p l e R s m args below meth c H locs cells slots Q (F0 m tgt ls rest)) (kf : ¬ 0 < x → W p l e R s m args below meth c H locs cells slots Q (F0 m (pc + 3) ls rest)) : W p l e R s m args below meth c H locs cells slots Q (F0 m pc ls (.int x :: rest)) := lv_if_gt S.1 S.2.1 hdg ht kt kf
theorem bz_le (S : CallFix p m c cc nL s args Ts own) {x : Int32} {off : Int} {tgt : Nat} (hdg : decode cc pc = .ok (.ifCond .le off, 3)) (ht : (pc : Int) + off = (tgt : Int))
    (kt : ¬ 0 < x → W p l e R s m args below meth c H locs cells slots Q (F0 m tgt ls rest)) (kf : 0 < x → W p l e R s m args below meth c H locs cells slots Q (F0 m (pc + 3) ls rest)) : W p l e R s m args below meth c H locs cells slots Q (F0 m pc ls (.int x :: rest)) := lv_if_le S.1 S.2.1 hdg ht (fun h => kt (Int32.not_lt.mpr h)) (fun h => kf (Int32.not_le.mp h))
end BX
/-! contracts: a method that returns an int / nothing, over the world w0, which becomes w1; nothing else changes, nothing is made -/
def MPre (D : va_G) (tys : List (ClassId × FieldType)) (w0 : va_W) (sz : Nat) (U : State) : Prop := U.heap.size = sz ∧ va_P D vwCl w0 U.heap ∧ va_K D vwCl tys U ∧ va_D (fun _ => True) w0
def MI (l : Launch) (y : MethodName) (wsl : List Cond) (rm : Room) (D : va_G) (tys : List (ClassId × FieldType)) (As : List Value) (w0 : va_W) (r : Int32) (w1 : va_W) : Prop :=
  ∀ sz : Nat, Met l y wsl rm (va_Pc As (MPre D tys w0 sz)) (va_Qi (fun (r' : Int32) (_ : Unit) => r' = r) (fun _ t => va_P D vwCl w1 t.heap ∧ va_D (va_A w0 sz) w1) (va_A w0 sz)) 0 0 (va_A w0 sz)
def MV (l : Launch) (y : MethodName) (wsl : List Cond) (rm : Room) (D : va_G) (tys : List (ClassId × FieldType)) (As : List Value) (w0 : va_W) (w1 : va_W) : Prop :=
  ∀ sz : Nat, Met l y wsl rm (va_Pc As (MPre D tys w0 sz)) (va_Qv (fun (_ : Unit) => True) (fun _ t => va_P D vwCl w1 t.heap ∧ va_D (va_A w0 sz) w1) (va_A w0 sz)) 0 0 (va_A w0 sz)
theorem MPre.blind {D : va_G} {tys : List (ClassId × FieldType)} {w0 : va_W} {sz : Nat} {As : List Value} : FrameBlind (va_Pc As (MPre D tys w0 sz)) := fun a U g mk q => by
  obtain ⟨q0, q1, qP, qK, qD⟩ := q
  exact ⟨q0, q1, qP, va_K.moved (u := U) (U := U.calling g mk a) (Vm.Alike.refl U.vm) qK, qD⟩
/-- from a walk of the body to the contract: int -/
theorem MI.of {l : Launch} {y : MethodName} {wsl ws' : List Cond} {rm : Room} {D : va_G} {tys : List (ClassId × FieldType)} {As : List Value} {w0 w1 : va_W} {r : Int32} {cc : ByteArray} {maxL : Nat} {ty : FieldType}
    (hy : plainName y.cls = true) (hws : wsl = Cond.code y cc maxL (some ty) :: ws') (hn : narrow ty (.int r) = .int r) (hrm : rm.cells = 0 ∧ rm.slots = 0) (hla : (lg_sl As).length ≤ maxL)
    (body : ∀ (p : Program) (e : Env) (s : State) (m : MethodId) (args : Array Value) (below : List Frame) (meth : Method) (c : Code) (A : Nat → Prop) (Q : State → Prop), CallFix p m c cc maxL s args wsl y.cls → va_K D vwCl tys s →
      (∀ {H : Heap} {locs : List Loc} {ls : Array Slot} {pc : Nat} {v : Int32} {w : va_W}, Wd D A s.heap w H locs → decode cc pc = .ok (.ireturn, 1) → v = r → w = w1 → W p l e rm s m args below meth c H locs 0 0 Q (F0 m pc ls [.int v])) →
      ∀ ls : Array Slot, lv_has ls maxL (lv_args 0 As) → Wd D A s.heap w0 s.heap [] → W p l e rm s m args below meth c s.heap [] 0 0 Q (F0 m 0 ls [])) : MI l y wsl rm D tys As w0 r w1 := by
  intro sz
  refine Met.ofW (cc := cc) (maxL := maxL) (ret := some ty) hy hws ?_
  intro p e s m args below meth c s₁ B hml hv
  obtain ⟨rfl, hsz, hP, hK, hD0⟩ := hv
  subst hsz
  have hlocks := B.notSynchronized
  have hroom : (headSpec wsl rm).room = rm := rfl
  rw [hroom, lg_entry_eq]
  refine body p e s m _ below meth c (va_A w0 s.heap.size) _ ⟨B.exec, B.bytes, hml, findClass_of_methodNamed B.named, atoms_spec (ws := wsl) B.pre⟩ hK ?_ _ (lv_entry As hla) ⟨hP, hD0.self, va_S.rf, fun q h => Or.inr h⟩
  intro H locs ls pc v w hw hdg hvr hww
  subst hvr; subst hww
  exact W.zret (v := v) (ty := ty) B.exec B.bytes B.returns hn (fun t ht hW => ⟨⟨v, (), rfl, rfl, by rw [ht]; exact hw.1, hw.2.1⟩, hw.2.2.1.F ht⟩) hw.2.2.1.2.2 hdg
theorem MV.of {l : Launch} {y : MethodName} {wsl ws' : List Cond} {rm : Room} {D : va_G} {tys : List (ClassId × FieldType)} {As : List Value} {w0 w1 : va_W} {cc : ByteArray} {maxL : Nat}
    (hy : plainName y.cls = true) (hws : wsl = Cond.code y cc maxL none :: ws') (hrm : rm.cells = 0 ∧ rm.slots = 0) (hla : (lg_sl As).length ≤ maxL)
    (body : ∀ (p : Program) (e : Env) (s : State) (m : MethodId) (args : Array Value) (below : List Frame) (meth : Method) (c : Code) (A : Nat → Prop) (Q : State → Prop), CallFix p m c cc maxL s args wsl y.cls → va_K D vwCl tys s →
      (∀ {H : Heap} {locs : List Loc} {ls : Array Slot} {pc : Nat} {w : va_W}, Wd D A s.heap w H locs → decode cc pc = .ok (.return_, 1) → w = w1 → W p l e rm s m args below meth c H locs 0 0 Q (F0 m pc ls [])) →
      ∀ ls : Array Slot, lv_has ls maxL (lv_args 0 As) → Wd D A s.heap w0 s.heap [] → W p l e rm s m args below meth c s.heap [] 0 0 Q (F0 m 0 ls [])) : MV l y wsl rm D tys As w0 w1 := by
  intro sz
  refine Met.ofW (cc := cc) (maxL := maxL) (ret := none) hy hws ?_
  intro p e s m args below meth c s₁ B hml hv
  obtain ⟨rfl, hsz, hP, hK, hD0⟩ := hv
  subst hsz
  have hlocks := B.notSynchronized
  have hroom : (headSpec wsl rm).room = rm := rfl
  rw [hroom, lg_entry_eq]
  refine body p e s m _ below meth c (va_A w0 s.heap.size) _ ⟨B.exec, B.bytes, hml, findClass_of_methodNamed B.named, atoms_spec (ws := wsl) B.pre⟩ hK ?_ _ (lv_entry As hla) ⟨hP, hD0.self, va_S.rf, fun q h => Or.inr h⟩
  intro H locs ls pc w hw hdg hww
  subst hww
  exact W.vret B.exec B.bytes B.returns (fun t ht hW => ⟨⟨(), rfl, trivial, by rw [ht]; exact hw.1, hw.2.1⟩, hw.2.2.1.F ht⟩) hw.2.2.1.2.2 hdg
section BC
variable {p : Program} {l : Launch} {e : Env} {R : Room} {s : State} {m : MethodId} {args : Array Value} {below : List Frame} {meth : Method} {c : Code} {H : Heap} {locs : List Loc} {cells slots : Nat} {Q : State → Prop}
variable {cc : ByteArray} {nL pc : Nat} {ls : Array Slot} {rest : List Value} {Ts : List Cond} {own : String} {D : va_G} {A : Nat → Prop} {H0 : Heap} {ws ws' : va_W} {tys : List (ClassId × FieldType)}
variable {y : MethodName} {bytes : ByteArray} {maxL n index : Nat} {ret : Option FieldType} {wsl : List Cond} {rm : Room} {C : String} {b : Nat} {As : List Value} {st : List Value}
theorem Wd.cov (hw : Wd D A H0 ws H locs) : ∀ q, va_A ws H.size q → A q := fun q h => by
  rcases h with ⟨k, e, hk⟩ | h
  · exact hw.2.1.2 k _ hk
  · exact hw.2.2.2 q (Nat.le_trans hw.2.2.1.1 h)
/-- x.m(..) over the whole world, an int back -/
theorem bc_vi (S : CallFix p m c cc nL s args Ts own) (hK : va_K D vwCl tys s) (hw : Wd D A H0 ws H locs) {r : Int32} (hM : MI l y wsl rm D tys (.ref b :: As) ws r ws') (cw : CallW R s args own C index y bytes maxL ret wsl rm 0 0 n) {q0 ci : Nat} {T : u_T} {N : Nat} {fs : List Value} (he : ws[q0]? = some (b, .inr (ci, fs))) (hc : vwCl[ci]? = some (C, T, N)) (hn : As.length = n) (hl : ls.size = nL) (hst : st = As.reverse ++ .ref b :: rest) (hr : (rest.map fun v => v.category).sum ≤ 8) (hcl : cells ≤ R.cells) (hsl : slots ≤ R.slots) (hdg : decode cc pc = .ok (.invokevirtual index, 3))
    (kk : ∀ (H1 : Heap) (locs1 : List Loc), Wd D A H0 ws' H1 locs1 → W p l e R s m args below meth c H1 locs1 cells slots Q (F0 m (pc + 3) ls (.int r :: rest))) : W p l e R s m args below meth c H locs cells slots Q (F0 m pc ls st) := by
  have hF := hw.cov
  refine va_calli (va_runV (As := As) (rest := rest) S (hM H.size) cw ⟨MPre.blind, va_recv hK hw.1 hc he, fun U hU hW => ⟨rfl, by rw [hU], by rw [hU]; exact hw.1, va_K.moved hW.alike hK, hw.2.1.weaken (fun _ _ _ _ => trivial)⟩⟩ rfl hn hl hst (lv_room hr) hdg ⟨hcl, hsl⟩) hw.2.2.1 (fun q _ h => hF q h) hF (fun r' u t H1 locs1 ht hvm hp hB hz1 hk1 hS => ?_)
  subst hp
  rw [ht] at hB
  exact kk H1 locs1 ⟨hB.1, hB.2.weaken (fun _ _ _ h => hF _ h), hS, hw.2.2.2⟩
theorem bc_vv (S : CallFix p m c cc nL s args Ts own) (hK : va_K D vwCl tys s) (hw : Wd D A H0 ws H locs) (hM : MV l y wsl rm D tys (.ref b :: As) ws ws') (cw : CallW R s args own C index y bytes maxL ret wsl rm 0 0 n) {q0 ci : Nat} {T : u_T} {N : Nat} {fs : List Value} (he : ws[q0]? = some (b, .inr (ci, fs))) (hc : vwCl[ci]? = some (C, T, N)) (hn : As.length = n) (hl : ls.size = nL) (hst : st = As.reverse ++ .ref b :: rest) (hr : (rest.map fun v => v.category).sum ≤ 8) (hcl : cells ≤ R.cells) (hsl : slots ≤ R.slots) (hdg : decode cc pc = .ok (.invokevirtual index, 3))
    (kk : ∀ (H1 : Heap) (locs1 : List Loc), Wd D A H0 ws' H1 locs1 → W p l e R s m args below meth c H1 locs1 cells slots Q (F0 m (pc + 3) ls rest)) : W p l e R s m args below meth c H locs cells slots Q (F0 m pc ls st) := by
  have hF := hw.cov
  refine va_callv (va_runV (As := As) (rest := rest) S (hM H.size) cw ⟨MPre.blind, va_recv hK hw.1 hc he, fun U hU hW => ⟨rfl, by rw [hU], by rw [hU]; exact hw.1, va_K.moved hW.alike hK, hw.2.1.weaken (fun _ _ _ _ => trivial)⟩⟩ rfl hn hl hst (lv_room hr) hdg ⟨hcl, hsl⟩) hw.2.2.1 (fun q _ h => hF q h) hF (fun u t H1 locs1 ht hvm hp hB hz1 hk1 hS => ?_)
  rw [ht] at hB
  exact kk H1 locs1 ⟨hB.1, hB.2.weaken (fun _ _ _ h => hF _ h), hS, hw.2.2.2⟩
theorem va_A.nil {sz q : Nat} (h : va_A [] sz q) : sz ≤ q := by
  rcases h with ⟨k, e, hk⟩ | h
  · simp at hk
  · exact h
/-- a static method of ints, an int back -/
theorem bc_si (S : CallFix p m c cc nL s args Ts own) (hK : va_K D vwCl tys s) (hw : Wd D A H0 ws H locs) {r : Int32} (hM : MI l y wsl rm D tys As [] r []) (cw : CallB R s args own index y bytes maxL ret wsl rm 0 0 n ∧ (Cond.static y).before args s = true) (hn : As.length = n) (hl : ls.size = nL) (hst : st = As.reverse ++ rest) (hr : (rest.map fun v => v.category).sum ≤ 8) (hcl : cells ≤ R.cells) (hsl : slots ≤ R.slots) (hdg : decode cc pc = .ok (.invokestatic index, 3))
    (kk : ∀ (H1 : Heap) (locs1 : List Loc), Wd D A H0 ws H1 locs1 → W p l e R s m args below meth c H1 locs1 cells slots Q (F0 m (pc + 3) ls (.int r :: rest))) : W p l e R s m args below meth c H locs cells slots Q (F0 m pc ls st) := by
  have hF : ∀ q, va_A [] H.size q → A q := fun q h => hw.2.2.2 q (Nat.le_trans hw.2.2.1.1 (va_A.nil h))
  refine va_calli (va_runS (As := As) (rest := rest) S (hM H.size) cw ⟨MPre.blind, fun U hU hW => ⟨rfl, by rw [hU], (fun k q h => by simp at h), va_K.moved hW.alike hK, ⟨fun i j p q h => by simp at h, fun k q h => by simp at h⟩⟩⟩ rfl hn hl hst (lv_room hr) hdg ⟨hcl, hsl⟩) hw.2.2.1 (fun q _ h => hF q h) hF (fun r' u t H1 locs1 ht hvm hp hB hz1 hk1 hS => ?_)
  subst hp
  exact kk H1 locs1 ⟨hw.1.kept (fun k q hq => hk1 q.1 (hw.1 k q hq).lt (fun h => absurd (va_A.nil h) (Nat.not_le.mpr (hw.1 k q hq).lt))), hw.2.1, hS, hw.2.2.2⟩
theorem bc_sv (S : CallFix p m c cc nL s args Ts own) (hK : va_K D vwCl tys s) (hw : Wd D A H0 ws H locs) (hM : MV l y wsl rm D tys As [] []) (cw : CallB R s args own index y bytes maxL ret wsl rm 0 0 n ∧ (Cond.static y).before args s = true) (hn : As.length = n) (hl : ls.size = nL) (hst : st = As.reverse ++ rest) (hr : (rest.map fun v => v.category).sum ≤ 8) (hcl : cells ≤ R.cells) (hsl : slots ≤ R.slots) (hdg : decode cc pc = .ok (.invokestatic index, 3))
    (kk : ∀ (H1 : Heap) (locs1 : List Loc), Wd D A H0 ws H1 locs1 → W p l e R s m args below meth c H1 locs1 cells slots Q (F0 m (pc + 3) ls rest)) : W p l e R s m args below meth c H locs cells slots Q (F0 m pc ls st) := by
  have hF : ∀ q, va_A [] H.size q → A q := fun q h => hw.2.2.2 q (Nat.le_trans hw.2.2.1.1 (va_A.nil h))
  refine va_callv (va_runS (As := As) (rest := rest) S (hM H.size) cw ⟨MPre.blind, fun U hU hW => ⟨rfl, by rw [hU], (fun k q h => by simp at h), va_K.moved hW.alike hK, ⟨fun i j p q h => by simp at h, fun k q h => by simp at h⟩⟩⟩ rfl hn hl hst (lv_room hr) hdg ⟨hcl, hsl⟩) hw.2.2.1 (fun q _ h => hF q h) hF (fun u t H1 locs1 ht hvm hp hB hz1 hk1 hS => ?_)
  exact kk H1 locs1 ⟨hw.1.kept (fun k q hq => hk1 q.1 (hw.1 k q hq).lt (fun h => absurd (va_A.nil h) (Nat.not_le.mpr (hw.1 k q hq).lt))), hw.2.1, hS, hw.2.2.2⟩
end BC
/-! the object of the class, and that of the reference, over one state σ -/
abbrev tyZ (cZ cI : ClassId) : List (ClassId × FieldType) := [(cZ, .boolean), (cI, .int)]
end
section
def wX (cZ cI : ClassId) (a : Nat → Nat) (σ : sC) : va_W :=
  [(a 0, .inr (0, [.ref (a 1), .ref (a 2), .ref (a 3), .ref (a 4), .ref (a 5), .ref (a 6), .ref (a 7), .ref (a 8), .ref (a 9), .ref (a 10), .ref (a 11), .ref (a 12), .ref (a 13), .ref (a 14), .ref (a 15), .ref (a 16), .int (σ 16 0), .int (σ 17 0)])),
   (a 1, .inl (cZ, 4, .inl (σ 0))),
   (a 2, .inl (cZ, 16, .inl (σ 1))),
   (a 3, .inl (cZ, 8, .inl (σ 2))),
   (a 4, .inl (cI, 8, .inl (σ 3))),
   (a 5, .inl (cI, 3, .inl (σ 4))),
   (a 6, .inl (cZ, 3, .inl (σ 5))),
   (a 7, .inl (cI, 3, .inl (σ 6))),
   (a 8, .inl (cI, 3, .inl (σ 7))),
   (a 9, .inl (cI, 3, .inl (σ 8))),
   (a 10, .inl (cI, 12, .inl (σ 9))),
   (a 11, .inl (cI, 12, .inl (σ 10))),
   (a 12, .inl (cI, 12, .inl (σ 11))),
   (a 13, .inl (cI, 12, .inl (σ 12))),
   (a 14, .inl (cI, 12, .inl (σ 13))),
   (a 15, .inl (cI, 12, .inl (σ 14))),
   (a 16, .inl (cZ, 12, .inl (σ 15)))]
theorem wX_s0 (cZ cI : ClassId) (a : Nat → Nat) (σ : sC) (i : Nat) (x : Int32) : (wX cZ cI a σ).set 1 (a 1, .inl (cZ, 4, .inl (upd (σ 0) i x))) = wX cZ cI a (up σ 0 i x) := rfl
theorem wX_s1 (cZ cI : ClassId) (a : Nat → Nat) (σ : sC) (i : Nat) (x : Int32) : (wX cZ cI a σ).set 2 (a 2, .inl (cZ, 16, .inl (upd (σ 1) i x))) = wX cZ cI a (up σ 1 i x) := rfl
theorem wX_s2 (cZ cI : ClassId) (a : Nat → Nat) (σ : sC) (i : Nat) (x : Int32) : (wX cZ cI a σ).set 3 (a 3, .inl (cZ, 8, .inl (upd (σ 2) i x))) = wX cZ cI a (up σ 2 i x) := rfl
theorem wX_s3 (cZ cI : ClassId) (a : Nat → Nat) (σ : sC) (i : Nat) (x : Int32) : (wX cZ cI a σ).set 4 (a 4, .inl (cI, 8, .inl (upd (σ 3) i x))) = wX cZ cI a (up σ 3 i x) := rfl
theorem wX_s4 (cZ cI : ClassId) (a : Nat → Nat) (σ : sC) (i : Nat) (x : Int32) : (wX cZ cI a σ).set 5 (a 5, .inl (cI, 3, .inl (upd (σ 4) i x))) = wX cZ cI a (up σ 4 i x) := rfl
theorem wX_s5 (cZ cI : ClassId) (a : Nat → Nat) (σ : sC) (i : Nat) (x : Int32) : (wX cZ cI a σ).set 6 (a 6, .inl (cZ, 3, .inl (upd (σ 5) i x))) = wX cZ cI a (up σ 5 i x) := rfl
theorem wX_s6 (cZ cI : ClassId) (a : Nat → Nat) (σ : sC) (i : Nat) (x : Int32) : (wX cZ cI a σ).set 7 (a 7, .inl (cI, 3, .inl (upd (σ 6) i x))) = wX cZ cI a (up σ 6 i x) := rfl
theorem wX_s7 (cZ cI : ClassId) (a : Nat → Nat) (σ : sC) (i : Nat) (x : Int32) : (wX cZ cI a σ).set 8 (a 8, .inl (cI, 3, .inl (upd (σ 7) i x))) = wX cZ cI a (up σ 7 i x) := rfl
theorem wX_s8 (cZ cI : ClassId) (a : Nat → Nat) (σ : sC) (i : Nat) (x : Int32) : (wX cZ cI a σ).set 9 (a 9, .inl (cI, 3, .inl (upd (σ 8) i x))) = wX cZ cI a (up σ 8 i x) := rfl
theorem wX_s9 (cZ cI : ClassId) (a : Nat → Nat) (σ : sC) (i : Nat) (x : Int32) : (wX cZ cI a σ).set 10 (a 10, .inl (cI, 12, .inl (upd (σ 9) i x))) = wX cZ cI a (up σ 9 i x) := rfl
theorem wX_s10 (cZ cI : ClassId) (a : Nat → Nat) (σ : sC) (i : Nat) (x : Int32) : (wX cZ cI a σ).set 11 (a 11, .inl (cI, 12, .inl (upd (σ 10) i x))) = wX cZ cI a (up σ 10 i x) := rfl
theorem wX_s11 (cZ cI : ClassId) (a : Nat → Nat) (σ : sC) (i : Nat) (x : Int32) : (wX cZ cI a σ).set 12 (a 12, .inl (cI, 12, .inl (upd (σ 11) i x))) = wX cZ cI a (up σ 11 i x) := rfl
theorem wX_s12 (cZ cI : ClassId) (a : Nat → Nat) (σ : sC) (i : Nat) (x : Int32) : (wX cZ cI a σ).set 13 (a 13, .inl (cI, 12, .inl (upd (σ 12) i x))) = wX cZ cI a (up σ 12 i x) := rfl
theorem wX_s13 (cZ cI : ClassId) (a : Nat → Nat) (σ : sC) (i : Nat) (x : Int32) : (wX cZ cI a σ).set 14 (a 14, .inl (cI, 12, .inl (upd (σ 13) i x))) = wX cZ cI a (up σ 13 i x) := rfl
theorem wX_s14 (cZ cI : ClassId) (a : Nat → Nat) (σ : sC) (i : Nat) (x : Int32) : (wX cZ cI a σ).set 15 (a 15, .inl (cI, 12, .inl (upd (σ 14) i x))) = wX cZ cI a (up σ 14 i x) := rfl
theorem wX_s15 (cZ cI : ClassId) (a : Nat → Nat) (σ : sC) (i : Nat) (x : Int32) : (wX cZ cI a σ).set 16 (a 16, .inl (cZ, 12, .inl (upd (σ 15) i x))) = wX cZ cI a (up σ 15 i x) := rfl
theorem wX_s16 (cZ cI : ClassId) (a : Nat → Nat) (σ : sC) (x : Int32) : (wX cZ cI a σ).set 0 (a 0, .inr (0, [.ref (a 1), .ref (a 2), .ref (a 3), .ref (a 4), .ref (a 5), .ref (a 6), .ref (a 7), .ref (a 8), .ref (a 9), .ref (a 10), .ref (a 11), .ref (a 12), .ref (a 13), .ref (a 14), .ref (a 15), .ref (a 16), .int (σ 16 0), .int (σ 17 0)].set 16 (.int x))) = wX cZ cI a (up σ 16 0 x) := rfl
theorem wX_s17 (cZ cI : ClassId) (a : Nat → Nat) (σ : sC) (x : Int32) : (wX cZ cI a σ).set 0 (a 0, .inr (0, [.ref (a 1), .ref (a 2), .ref (a 3), .ref (a 4), .ref (a 5), .ref (a 6), .ref (a 7), .ref (a 8), .ref (a 9), .ref (a 10), .ref (a 11), .ref (a 12), .ref (a 13), .ref (a 14), .ref (a 15), .ref (a 16), .int (σ 16 0), .int (σ 17 0)].set 17 (.int x))) = wX cZ cI a (up σ 17 0 x) := rfl
end
section
/-! ===== what the methods do, over one state σ ===== -/
def itF {α : Type} (f : Nat → α → α) (x : α) : Nat → α
  | 0 => x
  | n + 1 => f n (itF f x n)
def low1 (σ : sC) (r k : Nat) (x : Int32) : Int32 := if σ 2 (2 * r + k) = 0 then x - σ 3 (2 * r + k) else x
def lowM (x : Int32) : Int32 := if x < 1 then 1 else x
def lowP (σ : sC) (r g : Nat) : Int32 := lowM (itF (low1 σ r) (σ 9 (4 * g + r)) 2)
def skewF (σ : sC) (own : Int32) (g : Nat) : Int32 := σ 4 g * (256 - own) / 256
def waitF (σ : sC) (own : Int32) (g : Nat) : Int32 := 3 * σ 4 g + skewF σ own g
def rest2 (σ : sC) (r g : Nat) (h : Int32) : sC := up (up σ 10 (4 * g + r) 1) 12 (4 * g + r) h
def restF (σ : sC) (r g : Nat) (h : Int32) : sC := up (rest2 σ r g h) 11 (4 * g + r) (waitF (rest2 σ r g h) (lowP (rest2 σ r g h) r g) g)
def copy1 (σ : sC) (t f g : Nat) : sC := up σ 13 (4 * g + t) (σ 13 (4 * g + t) + (σ 13 (4 * g + f) - σ 13 (4 * g + t)))
def copy2 (σ : sC) (t g : Nat) : sC := if σ 15 (4 * g + t) = 0 then σ else up (up σ 15 (4 * g + t) 0) 16 0 ((up σ 15 (4 * g + t) 0) 16 0 + 1)
def copyF (σ : sC) (t f g : Nat) : sC :=
  if 0 < σ 13 (4 * g + f) - σ 13 (4 * g + t) then
    (if 10 < σ 13 (4 * g + f) - σ 13 (4 * g + t) then
      (if σ 15 (4 * g + t) = 0 then up σ 15 (4 * g + t) 1 else copy2 (copy1 σ t f g) t g)
    else copy2 (copy1 σ t f g) t g)
  else σ
def recvM (σ : sC) (r g s : Nat) (num : Int32) : sC :=
  if lowP σ r g < num then copyF (restF σ r g 0) r s g
  else if num = lowP σ r g then (if nI r < nI s then copyF (restF σ r g 0) r s g else σ) else σ
def waitB (σ : sC) (r g : Nat) (h own : Int32) : sC := up (up σ 12 (4 * g + r) h) 11 (4 * g + r) (waitF (up σ 12 (4 * g + r) h) own g)
def recvB (σ : sC) (r g s : Nat) (num : Int32) : sC :=
  if num = 0 then copyF (up σ 11 (4 * g + r) (skewF σ (lowP σ r g) g + 1)) r s g
  else if σ 5 g = 0 then copyF (waitB σ r g 0 (lowP σ r g)) r s g
  else if num < lowP σ r g then
    (if σ 12 (4 * g + r) < σ 6 g then copyF (waitB σ r g (σ 12 (4 * g + r) + 1) (lowP σ r g)) r s g else σ)
  else copyF (waitB σ r g 0 (lowP σ r g)) r s g
def advS (s g : Nat) (num : Int32) (r : Nat) (σ : sC) : sC :=
  if nI r = nI s then σ else if σ 1 (4 * s + r) = 0 then σ
  else if σ 10 (4 * g + r) = 2 then recvM σ r g s num
  else if σ 10 (4 * g + r) = 1 then recvB σ r g s num else σ
def advF (σ : sC) (s g : Nat) (num : Int32) : sC := itF (advS s g num) (up σ 8 g (σ 8 g + 1)) 4
def tick1 (σ : sC) (r g : Nat) : sC := up σ 11 (4 * g + r) (σ 11 (4 * g + r) - 1)
def sendF (σ : sC) (r g : Nat) : sC := up (advF σ r g (lowP σ r g)) 11 (4 * g + r) ((advF σ r g (lowP σ r g)) 4 g)
def turnM (g r : Nat) (σ : sC) : sC :=
  if σ 10 (4 * g + r) = 2 then (if (tick1 σ r g) 11 (4 * g + r) = 0 then sendF (tick1 σ r g) r g else tick1 σ r g) else σ
def riseF (σ : sC) (r g : Nat) : sC := up (up σ 10 (4 * g + r) 2) 14 (4 * g + r) ((up σ 10 (4 * g + r) 2) 14 (4 * g + r) + 1)
def turnB (g r : Nat) (σ : sC) : sC :=
  if σ 10 (4 * g + r) = 1 then (if (tick1 σ r g) 11 (4 * g + r) = 0 then sendF (riseF (tick1 σ r g) r g) r g else tick1 σ r g) else σ
def memS (σ : sC) (role : Int32) (g r : Nat) (x : Int32) : Int32 := if σ 10 (4 * g + r) = role then x + ((1 : Int32) <<< (nI r &&& 31)) else x
def memW (σ : sC) (role : Int32) (g : Nat) : Int32 := itF (memS σ role g) 0 4
def gapF (σ : sC) (g : Nat) : sC := if memW σ 2 g = 0 then up σ 7 g (σ 7 g + 1) else σ
def runM (σ : sC) (g : Nat) : sC := itF (turnM g) σ 4
def runB (σ : sC) (g : Nat) : sC := itF (turnB g) σ 4
def groupT (g : Nat) (σ : sC) : sC := gapF (runB (runM σ g) g) g
def tickT (_ : Nat) (σ : sC) : sC := itF groupT σ 3
def tickF (σ : sC) (n : Nat) : sC := up (itF tickT σ n) 17 0 ((itF tickT σ n) 17 0 + nI n)
def beginF (σ : sC) (r g : Nat) : sC := up (restF σ r g 0) 15 (4 * g + r) 0
def goodJ (σ : sC) (g i j : Nat) : Prop := σ 10 (4 * g + i) = 2 ∧ σ 10 (4 * g + j) = 2 ∧ ¬ σ 1 (4 * i + j) = 0
def hasJp (σ : sC) (g : Nat) : Prop := ∃ i j : Nat, i < j ∧ j < 4 ∧ goodJ σ g i j
noncomputable def hasJ (σ : sC) (g : Nat) : Int32 := @ite Int32 (hasJp σ g) (Classical.propDecidable _) 1 0
theorem hasJ_1 {σ : sC} {g : Nat} (h : hasJp σ g) : hasJ σ g = 1 := by unfold hasJ; exact if_pos h
theorem hasJ_0 {σ : sC} {g : Nat} (h : ¬ hasJp σ g) : hasJ σ g = 0 := by unfold hasJ; exact if_neg h
theorem nar_z {x : Int32} (h : x = 0 ∨ x = 1) : narrow .boolean (.int x) = .int x := by rcases h with h | h <;> subst h <;> rfl
theorem hasJ_z (σ : sC) (g : Nat) : hasJ σ g = 0 ∨ hasJ σ g = 1 := by
  by_cases h : hasJp σ g
  · exact Or.inr (hasJ_1 h)
  · exact Or.inl (hasJ_0 h)
def setP2 (σ : sC) (r g : Nat) (v : Int32) : sC :=
  if v = 0 then up (up σ 9 (4 * g + r) v) 10 (4 * g + r) 0
  else if (up σ 9 (4 * g + r) v) 0 r = 0 then up σ 9 (4 * g + r) v
  else if (up σ 9 (4 * g + r) v) 10 (4 * g + r) = 0 then beginF (up σ 9 (4 * g + r) v) r g else up σ 9 (4 * g + r) v
def setP1 (σ : sC) (r g : Nat) (v : Int32) : sC := if v = 0 then (if σ 10 (4 * g + r) = 2 then advF σ r g 0 else σ) else σ
def setPF (σ : sC) (r g : Nat) (v : Int32) : sC := setP2 (setP1 σ r g v) r g v
def dieS (r g : Nat) (σ : sC) : sC := up σ 10 (4 * g + r) 0
def dieG (σ : sC) (r n : Nat) : sC := itF (dieS r) (up σ 0 r 0) n
def dieC (σ : sC) (r : Nat) (g : Nat) (x : Int32) : Int32 := if (dieG σ r g) 10 (4 * g + r) = 2 then x + 1 else x
def dieN (σ : sC) (r n : Nat) : Int32 := itF (dieC σ r) 0 n
def liveS (r g : Nat) (σ : sC) : sC := if 0 < σ 9 (4 * g + r) then beginF σ r g else σ
def liveG (σ : sC) (r n : Nat) : sC := itF (liveS r) (up σ 0 r 1) n
def liveC (σ : sC) (r : Nat) (g : Nat) (x : Int32) : Int32 := if 0 < (liveG σ r g) 9 (4 * g + r) then x + 1 else x
def liveN (σ : sC) (r n : Nat) : Int32 := itF (liveC σ r) 0 n
def serveS (g : Nat) (k : Int32) (r : Nat) (σ : sC) : sC := if σ 10 (4 * g + r) = 2 then up σ 13 (4 * g + r) (σ 13 (4 * g + r) + k) else σ
def serveG (σ : sC) (g : Nat) (k : Int32) (n : Nat) : sC := itF (serveS g k) σ n
def serveC (σ : sC) (g : Nat) (k : Int32) (r : Nat) (x : Int32) : Int32 := if (serveG σ g k r) 10 (4 * g + r) = 2 then x + 1 else x
def serveN (σ : sC) (g : Nat) (k : Int32) (n : Nat) : Int32 := itF (serveC σ g k) 0 n
def prioF (σ : sC) (r g : Nat) : Int32 := if σ 10 (4 * g + r) = 0 then 0 else lowP σ r g
noncomputable def setlF (σ : sC) (g : Nat) : Int32 := if memW σ 2 g = 0 then (if memW σ 1 g = 0 then 1 else 0) else (if hasJ σ g = 0 then 1 else 0)
theorem setlF_z (σ : sC) (g : Nat) : setlF σ g = 0 ∨ setlF σ g = 1 := by
  unfold setlF
  split
  · split
    · exact Or.inr rfl
    · exact Or.inl rfl
  · split
    · exact Or.inr rfl
    · exact Or.inl rfl
end
section
theorem pl_x {r g : Nat} (hr : r < 4) (hg : g < 3) : nI g * 4 + nI r = nI (4 * g + r) := (by decide +kernel : ∀ r, r < 4 → ∀ g, g < 3 → nI g * 4 + nI r = nI (4 * g + r)) r hr g hg
theorem pl_k {r k : Nat} (hr : r < 4) (hk : k < 2) : nI r * 2 + nI k = nI (2 * r + k) := (by decide +kernel : ∀ r, r < 4 → ∀ k, k < 2 → nI r * 2 + nI k = nI (2 * r + k)) r hr k hk
theorem pl_j {r q : Nat} (hr : r < 4) (hq : q < 4) : nI r * 4 + nI q = nI (4 * r + q) := (by decide +kernel : ∀ r, r < 4 → ∀ q, q < 4 → nI r * 4 + nI q = nI (4 * r + q)) r hr q hq
theorem lt_nI {i n : Nat} (h : i < n) (hn : n < 100) : nI i < nI n := nI_lt h (by omega)
theorem nlt_nI {n : Nat} (hn : n < 100) : ¬ nI n < nI n := nI_nlt (Nat.le_refl n) (by omega)

set_option maxHeartbeats 4000000 in
set_option maxRecDepth 100000 in
theorem kX0_placeOf (l : Launch) (D : va_G) (tys : List (ClassId × FieldType)) {r g : Nat} (hr : r < 4) (hg : g < 3) : MI l yX0_placeOf wsX0_placeOf ({ frames := 0, cells := 0, slots := 0, locals := 0 } : Room) D tys [.int (nI r), .int (nI g)] [] (nI (4 * g + r)) [] := by
  refine MI.of (cc := cX0_placeOf) (maxL := 2) (ty := .int) (by decide) rfl (rfl) ⟨rfl, rfl⟩ (Nat.le_of_ble_eq_true rfl) ?_
  intro p e s m args below meth c A Q S hK hret ls hl hw
  replace hl : lv_has ls 2 [(0, .int (nI r)), (1, .int (nI g))] := hl
  replace S : CallFix p m c cX0_placeOf 2 s args wsX0_placeOf RX0 := S
  refine lv_iload_n S.1 S.2.1 dX0_placeOf_0 rfl (lv_at hl 1 rfl) ?_
  refine lv_iconst (v := 4) S.1 S.2.1 dX0_placeOf_1 (by decide) ?_
  refine lv_imul S.1 S.2.1 dX0_placeOf_2 ?_
  refine lv_iload_n S.1 S.2.1 dX0_placeOf_3 rfl (lv_at hl 0 rfl) ?_
  refine lv_iadd S.1 S.2.1 dX0_placeOf_4 ?_
  refine bx_top (y := nI (4 * g + r)) (pl_x hr hg) ?_
  exact hret hw dX0_placeOf_5 (rfl) rfl

set_option maxHeartbeats 4000000 in
set_option maxRecDepth 100000 in
theorem kX0_linkOf (l : Launch) (D : va_G) (tys : List (ClassId × FieldType)) {r k : Nat} (hr : r < 4) (hk : k < 2) : MI l yX0_linkOf wsX0_linkOf ({ frames := 0, cells := 0, slots := 0, locals := 0 } : Room) D tys [.int (nI r), .int (nI k)] [] (nI (2 * r + k)) [] := by
  refine MI.of (cc := cX0_linkOf) (maxL := 2) (ty := .int) (by decide) rfl (rfl) ⟨rfl, rfl⟩ (Nat.le_of_ble_eq_true rfl) ?_
  intro p e s m args below meth c A Q S hK hret ls hl hw
  replace hl : lv_has ls 2 [(0, .int (nI r)), (1, .int (nI k))] := hl
  replace S : CallFix p m c cX0_linkOf 2 s args wsX0_linkOf RX0 := S
  refine lv_iload_n S.1 S.2.1 dX0_linkOf_0 rfl (lv_at hl 0 rfl) ?_
  refine lv_iconst (v := 2) S.1 S.2.1 dX0_linkOf_1 (by decide) ?_
  refine lv_imul S.1 S.2.1 dX0_linkOf_2 ?_
  refine lv_iload_n S.1 S.2.1 dX0_linkOf_3 rfl (lv_at hl 1 rfl) ?_
  refine lv_iadd S.1 S.2.1 dX0_linkOf_4 ?_
  refine bx_top (y := nI (2 * r + k)) (pl_k hr hk) ?_
  exact hret hw dX0_linkOf_5 (rfl) rfl

theorem inX0_skewOf : ∀ w ∈ u_ws RX0 TX0 18, w ∈ wsX0_skewOf := fun _ h => List.mem_cons_of_mem _ (List.mem_append_right _ h)
theorem flX0_skewOf_23 : Cond.fieldLink RX0 23 "StandbyPair" "periods" "[I" ∈ wsX0_skewOf := by decide +kernel
set_option maxHeartbeats 4000000 in
set_option maxRecDepth 100000 in
theorem kX0_skewOf (l : Launch) (D : va_G) (cZ cI : ClassId) (a : Nat → Nat) (σ : sC) (own : Int32) {g : Nat} (hg : g < 3) : MI l yX0_skewOf wsX0_skewOf ({ frames := 0, cells := 0, slots := 0, locals := 0 } : Room) D (tyZ cZ cI) [.ref (a 0), .int own, .int (nI g)] (wX cZ cI a σ) (skewF σ own g) (wX cZ cI a σ) := by
  refine MI.of (cc := cX0_skewOf) (maxL := 3) (ty := .int) (by decide) rfl (rfl) ⟨rfl, rfl⟩ (Nat.le_of_ble_eq_true rfl) ?_
  intro p e s m args below meth c A Q S hK hret ls hl hw
  replace hl : lv_has ls 3 [(0, .ref (a 0)), (1, .int own), (2, .int (nI g))] := hl
  replace S : CallFix p m c cX0_skewOf 3 s args wsX0_skewOf RX0 := S
  have hin := inX0_skewOf
  refine lv_aload_n S.1 S.2.1 dX0_skewOf_0 rfl (lv_at hl 0 rfl) ?_
  refine bx_get S hK hin hw.1 0 rfl rfl 4 (by decide) flX0_skewOf_23 rfl dX0_skewOf_1 ?_
  refine lv_iload_n S.1 S.2.1 dX0_skewOf_4 rfl (lv_at hl 2 rfl) ?_
  refine bx_iald (v := σ 4 g) S hK hw.1 5 1 rfl rfl (by omega) (by decide) rfl dX0_skewOf_5 ?_
  refine lv_sipush (v := 256) S.1 S.2.1 dX0_skewOf_6 (by decide) ?_
  refine lv_iload_n S.1 S.2.1 dX0_skewOf_9 rfl (lv_at hl 1 rfl) ?_
  refine lv_isub S.1 S.2.1 dX0_skewOf_10 ?_
  refine lv_imul S.1 S.2.1 dX0_skewOf_11 ?_
  refine lv_sipush (v := 256) S.1 S.2.1 dX0_skewOf_12 (by decide) ?_
  refine lv_idiv S.1 S.2.1 dX0_skewOf_15 (by decide) ?_
  exact hret hw dX0_skewOf_16 (rfl) (congrArg (wX cZ cI a) (rfl))

theorem inX0_waitOf : ∀ w ∈ u_ws RX0 TX0 18, w ∈ wsX0_waitOf := fun _ h => List.mem_cons_of_mem _ (List.mem_append_right _ h)
theorem flX0_waitOf_23 : Cond.fieldLink RX0 23 "StandbyPair" "periods" "[I" ∈ wsX0_waitOf := by decide +kernel
set_option maxHeartbeats 4000000 in
set_option maxRecDepth 100000 in
theorem kX0_waitOf (l : Launch) (D : va_G) (cZ cI : ClassId) (a : Nat → Nat) (σ : sC) (own : Int32) {g : Nat} (hg : g < 3) : MI l yX0_waitOf wsX0_waitOf ({ frames := 1, cells := 0, slots := 0, locals := 22 } : Room) D (tyZ cZ cI) [.ref (a 0), .int own, .int (nI g)] (wX cZ cI a σ) (waitF σ own g) (wX cZ cI a σ) := by
  refine MI.of (cc := cX0_waitOf) (maxL := 3) (ty := .int) (by decide) rfl (rfl) ⟨rfl, rfl⟩ (Nat.le_of_ble_eq_true rfl) ?_
  intro p e s m args below meth c A Q S hK hret ls hl hw
  replace hl : lv_has ls 3 [(0, .ref (a 0)), (1, .int own), (2, .int (nI g))] := hl
  replace S : CallFix p m c cX0_waitOf 3 s args wsX0_waitOf RX0 := S
  have hin := inX0_waitOf
  refine lv_iconst (v := 3) S.1 S.2.1 dX0_waitOf_0 (by decide) ?_
  refine lv_aload_n S.1 S.2.1 dX0_waitOf_1 rfl (lv_at hl 0 rfl) ?_
  refine bx_get S hK hin hw.1 0 rfl rfl 4 (by decide) flX0_waitOf_23 rfl dX0_waitOf_2 ?_
  refine lv_iload_n S.1 S.2.1 dX0_waitOf_5 rfl (lv_at hl 2 rfl) ?_
  refine bx_iald (v := σ 4 g) S hK hw.1 5 1 rfl rfl (by omega) (by decide) rfl dX0_waitOf_6 ?_
  refine lv_imul S.1 S.2.1 dX0_waitOf_7 ?_
  refine lv_aload_n S.1 S.2.1 dX0_waitOf_8 rfl (lv_at hl 0 rfl) ?_
  refine lv_iload_n S.1 S.2.1 dX0_waitOf_9 rfl (lv_at hl 1 rfl) ?_
  refine lv_iload_n S.1 S.2.1 dX0_waitOf_10 rfl (lv_at hl 2 rfl) ?_
  refine bc_vi (As := [.int own, .int (nI g)]) (rest := [.int (3 * (σ 4 g))]) S hK hw (kX0_skewOf l D cZ cI a σ own (g := g) (by omega)) (cwV 2 S.2.2.2.2 gX0_waitOf_X0_skewOf rfl rfl rfl (by decide +kernel) ⟨Nat.le_of_ble_eq_true rfl, Nat.le_of_ble_eq_true rfl⟩) (q0 := 0) rfl rfl rfl hl.1 rfl (Nat.le_of_ble_eq_true rfl) (Nat.zero_le _) (Nat.zero_le _) dX0_waitOf_11 (fun H locs hw => ?_)
  refine lv_iadd S.1 S.2.1 dX0_waitOf_14 ?_
  exact hret hw dX0_waitOf_15 (rfl) (congrArg (wX cZ cI a) (rfl))

theorem inX0_loweredPriority : ∀ w ∈ u_ws RX0 TX0 18, w ∈ wsX0_loweredPriority := fun _ h => List.mem_cons_of_mem _ (List.mem_append_right _ h)
theorem flX0_loweredPriority_38 : Cond.fieldLink RX0 38 "StandbyPair" "basePriorities" "[I" ∈ wsX0_loweredPriority := by decide +kernel
theorem flX0_loweredPriority_16 : Cond.fieldLink RX0 16 "StandbyPair" "linkUp" "[Z" ∈ wsX0_loweredPriority := by decide +kernel
theorem flX0_loweredPriority_19 : Cond.fieldLink RX0 19 "StandbyPair" "decrements" "[I" ∈ wsX0_loweredPriority := by decide +kernel
set_option maxHeartbeats 4000000 in
set_option maxRecDepth 100000 in
theorem kX0_loweredPriority (l : Launch) (D : va_G) (cZ cI : ClassId) (a : Nat → Nat) (σ : sC) {r g : Nat} (hr : r < 4) (hg : g < 3) : MI l yX0_loweredPriority wsX0_loweredPriority ({ frames := 1, cells := 0, slots := 0, locals := 21 } : Room) D (tyZ cZ cI) [.ref (a 0), .int (nI r), .int (nI g)] (wX cZ cI a σ) (lowP σ r g) (wX cZ cI a σ) := by
  refine MI.of (cc := cX0_loweredPriority) (maxL := 6) (ty := .int) (by decide) rfl (rfl) ⟨rfl, rfl⟩ (Nat.le_of_ble_eq_true rfl) ?_
  intro p e s m args below meth c A Q S hK hret ls hl hw
  replace hl : lv_has ls 6 [(0, .ref (a 0)), (1, .int (nI r)), (2, .int (nI g))] := hl
  replace S : CallFix p m c cX0_loweredPriority 6 s args wsX0_loweredPriority RX0 := S
  have hin := inX0_loweredPriority
  have mx1 : Cond.methodLink RX0 150 Lib.Math.max.name ∈ wsX0_loweredPriority := by decide +kernel
  have mx2 : Cond.static Lib.Math.max.name ∈ wsX0_loweredPriority := by decide +kernel
  have mx3 : Cond.initialized "java/lang/Math" ∈ wsX0_loweredPriority := by decide +kernel
  have mx4 : Cond.code Lib.Math.max.name Lib.Math.max.code 2 (some .int) ∈ wsX0_loweredPriority := by decide +kernel
  refine lv_aload_n S.1 S.2.1 dX0_loweredPriority_0 rfl (lv_at hl 0 rfl) ?_
  refine bx_get S hK hin hw.1 0 rfl rfl 9 (by decide) flX0_loweredPriority_38 rfl dX0_loweredPriority_1 ?_
  refine lv_iload_n S.1 S.2.1 dX0_loweredPriority_4 rfl (lv_at hl 1 rfl) ?_
  refine lv_iload_n S.1 S.2.1 dX0_loweredPriority_5 rfl (lv_at hl 2 rfl) ?_
  refine bc_si (As := [.int (nI r), .int (nI g)]) (rest := [.ref (a 10)]) S hK hw (kX0_placeOf l D _ (r := r) (g := g) (by omega) (by omega)) (va_cwS 2 S.2.2.2.2 gX0_loweredPriority_X0_placeOf rfl rfl rfl (by decide +kernel) ⟨Nat.le_of_ble_eq_true rfl, Nat.le_of_ble_eq_true rfl⟩) rfl hl.1 rfl (Nat.le_of_ble_eq_true rfl) (Nat.zero_le _) (Nat.zero_le _) dX0_loweredPriority_6 (fun H locs hw => ?_)
  refine bx_iald (v := σ 9 (4 * g + r)) S hK hw.1 10 1 rfl rfl (by omega) (by decide) rfl dX0_loweredPriority_9 ?_
  refine lv_istore_n (lv' := [(3, .int (σ 9 (4 * g + r))), (0, .ref (a 0)), (1, .int (nI r)), (2, .int (nI g))]) S.1 S.2.1 dX0_loweredPriority_10 rfl hl (by decide) rfl (fun ls hl => ?_)
  refine lv_iconst (v := nI 0) S.1 S.2.1 dX0_loweredPriority_11 (by decide) ?_
  refine lv_istore (lv' := [(4, .int (nI 0)), (3, .int (σ 9 (4 * g + r))), (0, .ref (a 0)), (1, .int (nI r)), (2, .int (nI g))]) S.1 S.2.1 dX0_loweredPriority_12 hl (by decide) rfl (fun ls hl => ?_)
  have L14 : ∀ (n i14 : Nat), i14 + n = 2 → ∀ (H : Heap) (locs : List Loc), Wd D A s.heap (wX cZ cI a σ) H locs → ∀ ls : Array Slot, lv_has ls 6 [(0, .ref (a 0)), (1, .int (nI r)), (2, .int (nI g)), (3, .int (itF (low1 σ r) (σ 9 (4 * g + r)) i14)), (4, .int (nI i14))] → W p l e ({ frames := 1, cells := 0, slots := 0, locals := 21 } : Room) s m args below meth c H locs 0 0 Q (F0 m 14 ls []) := by
    intro n
    induction n with
    | zero =>
      intro i14 hi H locs hw ls hl
      obtain rfl : i14 = 2 := by omega
      refine lv_iload S.1 S.2.1 dX0_loweredPriority_14 (lv_at hl 4 rfl) ?_
      refine lv_iconst (v := nI 2) S.1 S.2.1 dX0_loweredPriority_16 (by decide) ?_
      refine br_ge (tgt := 54) S dX0_loweredPriority_17 (by decide) (fun c17 => ?_) (fun c17 => ?_)
      · refine lv_iload_n S.1 S.2.1 dX0_loweredPriority_54 rfl (lv_at hl 3 rfl) ?_
        refine lv_iconst (v := 1) S.1 S.2.1 dX0_loweredPriority_55 (by decide) ?_
        refine va_mmax S.1 S.2.1 (S.2.2.1.trans hl.1.symm) S.2.2.2.1 (S.2.2.2.2 _ mx1) (S.2.2.2.2 _ mx2) (S.2.2.2.2 _ mx3) (S.2.2.2.2 _ mx4) (by decide) (by decide) (Nat.zero_le _) (Nat.zero_le _) dX0_loweredPriority_56 ?_
        exact hret hw dX0_loweredPriority_59 (rfl) (congrArg (wX cZ cI a) (rfl))
      · exact absurd c17 (nlt_nI (by decide))
    | succ n ih_14 =>
      intro i14 hi H locs hw ls hl
      have hi14 : i14 < 2 := by omega
      refine lv_iload S.1 S.2.1 dX0_loweredPriority_14 (lv_at hl 4 rfl) ?_
      refine lv_iconst (v := nI 2) S.1 S.2.1 dX0_loweredPriority_16 (by decide) ?_
      refine br_ge (tgt := 54) S dX0_loweredPriority_17 (by decide) (fun c17 => ?_) (fun c17 => ?_)
      · exact absurd c17 (not_not_intro (lt_nI hi14 (by decide)))
      · refine lv_iload_n S.1 S.2.1 dX0_loweredPriority_20 rfl (lv_at hl 1 rfl) ?_
        refine lv_iload S.1 S.2.1 dX0_loweredPriority_21 (lv_at hl 4 rfl) ?_
        refine bc_si (As := [.int (nI r), .int (nI i14)]) (rest := []) S hK hw (kX0_linkOf l D _ (r := r) (k := i14) (by omega) (by omega)) (va_cwS 2 S.2.2.2.2 gX0_loweredPriority_X0_linkOf rfl rfl rfl (by decide +kernel) ⟨Nat.le_of_ble_eq_true rfl, Nat.le_of_ble_eq_true rfl⟩) rfl hl.1 rfl (Nat.le_of_ble_eq_true rfl) (Nat.zero_le _) (Nat.zero_le _) dX0_loweredPriority_23 (fun H locs hw => ?_)
        refine lv_istore (lv' := [(5, .int (nI (2 * r + i14))), (0, .ref (a 0)), (1, .int (nI r)), (2, .int (nI g)), (3, .int (itF (low1 σ r) (σ 9 (4 * g + r)) i14)), (4, .int (nI i14))]) S.1 S.2.1 dX0_loweredPriority_26 hl (by decide) rfl (fun ls hl => ?_)
        refine lv_aload_n S.1 S.2.1 dX0_loweredPriority_28 rfl (lv_at hl 1 rfl) ?_
        refine bx_get S hK hin hw.1 0 rfl rfl 2 (by decide) flX0_loweredPriority_16 rfl dX0_loweredPriority_29 ?_
        refine lv_iload S.1 S.2.1 dX0_loweredPriority_32 (lv_at hl 0 rfl) ?_
        refine bx_zald (v := σ 2 (2 * r + i14)) S hK hw.1 3 0 rfl rfl (by omega) (by decide) rfl dX0_loweredPriority_34 ?_
        refine bz_ne (tgt := 48) S dX0_loweredPriority_35 (by decide) (fun c35 => ?_) (fun c35 => ?_)
        · refine lv_iinc (v := nI (i14 + 1)) (lv' := [(4, .int (nI (i14 + 1))), (5, .int (nI (2 * r + i14))), (0, .ref (a 0)), (1, .int (nI r)), (2, .int (nI g)), (3, .int (itF (low1 σ r) (σ 9 (4 * g + r)) i14))]) S.1 S.2.1 dX0_loweredPriority_48 hl (k := 5) rfl (nI_1 i14) (by decide) rfl (fun ls hl => ?_)
          refine lv_goto (tgt := 14) S.1 S.2.1 dX0_loweredPriority_51 (by decide) ?_
          have ea : itF (low1 σ r) (σ 9 (4 * g + r)) (i14 + 1) = itF (low1 σ r) (σ 9 (4 * g + r)) i14 := by simp only [itF, low1, eq_true c17, eq_false c35, ↓reduceIte]
          exact ih_14 (i14 + 1) (by omega) _ _ hw _ (by rw [ea]; exact lv_sub hl [2, 3, 4, 5, 0] rfl)
        · refine lv_iload_n S.1 S.2.1 dX0_loweredPriority_38 rfl (lv_at hl 4 rfl) ?_
          refine lv_aload_n S.1 S.2.1 dX0_loweredPriority_39 rfl (lv_at hl 1 rfl) ?_
          refine bx_get S hK hin hw.1 0 rfl rfl 3 (by decide) flX0_loweredPriority_19 rfl dX0_loweredPriority_40 ?_
          refine lv_iload S.1 S.2.1 dX0_loweredPriority_43 (lv_at hl 0 rfl) ?_
          refine bx_iald (v := σ 3 (2 * r + i14)) S hK hw.1 4 1 rfl rfl (by omega) (by decide) rfl dX0_loweredPriority_45 ?_
          refine lv_isub S.1 S.2.1 dX0_loweredPriority_46 ?_
          refine lv_istore_n (lv' := [(3, .int ((itF (low1 σ r) (σ 9 (4 * g + r)) i14) - (σ 3 (2 * r + i14)))), (5, .int (nI (2 * r + i14))), (0, .ref (a 0)), (1, .int (nI r)), (2, .int (nI g)), (4, .int (nI i14))]) S.1 S.2.1 dX0_loweredPriority_47 rfl hl (by decide) rfl (fun ls hl => ?_)
          refine lv_iinc (v := nI (i14 + 1)) (lv' := [(4, .int (nI (i14 + 1))), (3, .int ((itF (low1 σ r) (σ 9 (4 * g + r)) i14) - (σ 3 (2 * r + i14)))), (5, .int (nI (2 * r + i14))), (0, .ref (a 0)), (1, .int (nI r)), (2, .int (nI g))]) S.1 S.2.1 dX0_loweredPriority_48 hl (k := 5) rfl (nI_1 i14) (by decide) rfl (fun ls hl => ?_)
          refine lv_goto (tgt := 14) S.1 S.2.1 dX0_loweredPriority_51 (by decide) ?_
          have ea : itF (low1 σ r) (σ 9 (4 * g + r)) (i14 + 1) = (itF (low1 σ r) (σ 9 (4 * g + r)) i14) - (σ 3 (2 * r + i14)) := by simp only [itF, low1, eq_true c17, eq_true c35, ↓reduceIte]
          exact ih_14 (i14 + 1) (by omega) _ _ hw _ (by rw [ea]; exact lv_sub hl [3, 4, 5, 1, 0] rfl)
  exact L14 (2 - 0) 0 (by omega) _ _ hw _ (lv_sub hl [2, 3, 4, 1, 0] rfl)
end
section
theorem inX0_becomeBackup : ∀ w ∈ u_ws RX0 TX0 18, w ∈ wsX0_becomeBackup := fun _ h => List.mem_cons_of_mem _ (List.mem_append_right _ h)
theorem flX0_becomeBackup_41 : Cond.fieldLink RX0 41 "StandbyPair" "roles" "[I" ∈ wsX0_becomeBackup := by decide +kernel
theorem flX0_becomeBackup_47 : Cond.fieldLink RX0 47 "StandbyPair" "heard" "[I" ∈ wsX0_becomeBackup := by decide +kernel
theorem flX0_becomeBackup_44 : Cond.fieldLink RX0 44 "StandbyPair" "timers" "[I" ∈ wsX0_becomeBackup := by decide +kernel
set_option maxHeartbeats 4000000 in
set_option maxRecDepth 100000 in
theorem kX0_becomeBackup (l : Launch) (D : va_G) (cZ cI : ClassId) (a : Nat → Nat) (σ : sC) {r g : Nat} (hr : r < 4) (hg : g < 3) : MV l yX0_becomeBackup wsX0_becomeBackup ({ frames := 2, cells := 0, slots := 0, locals := 46 } : Room) D (tyZ cZ cI) [.ref (a 0), .int (nI r), .int (nI g)] (wX cZ cI a σ) (wX cZ cI a (restF σ r g 0)) := by
  refine MV.of (cc := cX0_becomeBackup) (maxL := 4) (by decide) rfl ⟨rfl, rfl⟩ (Nat.le_of_ble_eq_true rfl) ?_
  intro p e s m args below meth c A Q S hK hret ls hl hw
  replace hl : lv_has ls 4 [(0, .ref (a 0)), (1, .int (nI r)), (2, .int (nI g))] := hl
  replace S : CallFix p m c cX0_becomeBackup 4 s args wsX0_becomeBackup RX0 := S
  have hin := inX0_becomeBackup
  refine lv_iload_n S.1 S.2.1 dX0_becomeBackup_0 rfl (lv_at hl 1 rfl) ?_
  refine lv_iload_n S.1 S.2.1 dX0_becomeBackup_1 rfl (lv_at hl 2 rfl) ?_
  refine bc_si (As := [.int (nI r), .int (nI g)]) (rest := []) S hK hw (kX0_placeOf l D _ (r := r) (g := g) (by omega) (by omega)) (va_cwS 2 S.2.2.2.2 gX0_becomeBackup_X0_placeOf rfl rfl rfl (by decide +kernel) ⟨Nat.le_of_ble_eq_true rfl, Nat.le_of_ble_eq_true rfl⟩) rfl hl.1 rfl (Nat.le_of_ble_eq_true rfl) (Nat.zero_le _) (Nat.zero_le _) dX0_becomeBackup_2 (fun H locs hw => ?_)
  refine lv_istore_n (lv' := [(3, .int (nI (4 * g + r))), (0, .ref (a 0)), (1, .int (nI r)), (2, .int (nI g))]) S.1 S.2.1 dX0_becomeBackup_5 rfl hl (by decide) rfl (fun ls hl => ?_)
  refine lv_aload_n S.1 S.2.1 dX0_becomeBackup_6 rfl (lv_at hl 1 rfl) ?_
  refine bx_get S hK hin hw.1 0 rfl rfl 10 (by decide) flX0_becomeBackup_41 rfl dX0_becomeBackup_7 ?_
  refine lv_iload_n S.1 S.2.1 dX0_becomeBackup_10 rfl (lv_at hl 0 rfl) ?_
  refine lv_iconst (v := 1) S.1 S.2.1 dX0_becomeBackup_11 (by decide) ?_
  refine bx_iast S hK hw 11 1 rfl rfl (by omega) (by decide) (wX_s10 cZ cI a σ (4 * g + r) 1) dX0_becomeBackup_12 (fun H locs hw => ?_)
  refine lv_aload_n S.1 S.2.1 dX0_becomeBackup_13 rfl (lv_at hl 1 rfl) ?_
  refine bx_get S hK hin hw.1 0 rfl rfl 12 (by decide) flX0_becomeBackup_47 rfl dX0_becomeBackup_14 ?_
  refine lv_iload_n S.1 S.2.1 dX0_becomeBackup_17 rfl (lv_at hl 0 rfl) ?_
  refine lv_iconst (v := 0) S.1 S.2.1 dX0_becomeBackup_18 (by decide) ?_
  refine bx_iast S hK hw 13 1 rfl rfl (by omega) (by decide) (wX_s12 cZ cI a (up σ 10 (4 * g + r) 1) (4 * g + r) 0) dX0_becomeBackup_19 (fun H locs hw => ?_)
  refine lv_aload_n S.1 S.2.1 dX0_becomeBackup_20 rfl (lv_at hl 1 rfl) ?_
  refine bx_get S hK hin hw.1 0 rfl rfl 11 (by decide) flX0_becomeBackup_44 rfl dX0_becomeBackup_21 ?_
  refine lv_iload_n S.1 S.2.1 dX0_becomeBackup_24 rfl (lv_at hl 0 rfl) ?_
  refine lv_aload_n S.1 S.2.1 dX0_becomeBackup_25 rfl (lv_at hl 1 rfl) ?_
  refine lv_aload_n S.1 S.2.1 dX0_becomeBackup_26 rfl (lv_at hl 1 rfl) ?_
  refine lv_iload_n S.1 S.2.1 dX0_becomeBackup_27 rfl (lv_at hl 2 rfl) ?_
  refine lv_iload_n S.1 S.2.1 dX0_becomeBackup_28 rfl (lv_at hl 3 rfl) ?_
  refine bc_vi (As := [.int (nI r), .int (nI g)]) (rest := [.ref (a 0), .int (nI (4 * g + r)), .ref (a 12)]) S hK hw (kX0_loweredPriority l D cZ cI a (up (up σ 10 (4 * g + r) 1) 12 (4 * g + r) 0) (r := r) (g := g) (by omega) (by omega)) (cwV 2 S.2.2.2.2 gX0_becomeBackup_X0_loweredPriority rfl rfl rfl (by decide +kernel) ⟨Nat.le_of_ble_eq_true rfl, Nat.le_of_ble_eq_true rfl⟩) (q0 := 0) rfl rfl rfl hl.1 rfl (Nat.le_of_ble_eq_true rfl) (Nat.zero_le _) (Nat.zero_le _) dX0_becomeBackup_29 (fun H locs hw => ?_)
  refine lv_iload_n S.1 S.2.1 dX0_becomeBackup_32 rfl (lv_at hl 3 rfl) ?_
  refine bc_vi (As := [.int (lowP (up (up σ 10 (4 * g + r) 1) 12 (4 * g + r) 0) r g), .int (nI g)]) (rest := [.int (nI (4 * g + r)), .ref (a 12)]) S hK hw (kX0_waitOf l D cZ cI a (up (up σ 10 (4 * g + r) 1) 12 (4 * g + r) 0) (lowP (up (up σ 10 (4 * g + r) 1) 12 (4 * g + r) 0) r g) (g := g) (by omega)) (cwV 2 S.2.2.2.2 gX0_becomeBackup_X0_waitOf rfl rfl rfl (by decide +kernel) ⟨Nat.le_of_ble_eq_true rfl, Nat.le_of_ble_eq_true rfl⟩) (q0 := 0) rfl rfl rfl hl.1 rfl (Nat.le_of_ble_eq_true rfl) (Nat.zero_le _) (Nat.zero_le _) dX0_becomeBackup_33 (fun H locs hw => ?_)
  refine bx_iast S hK hw 12 1 rfl rfl (by omega) (by decide) (wX_s11 cZ cI a (up (up σ 10 (4 * g + r) 1) 12 (4 * g + r) 0) (4 * g + r) (waitF (up (up σ 10 (4 * g + r) 1) 12 (4 * g + r) 0) (lowP (up (up σ 10 (4 * g + r) 1) 12 (4 * g + r) 0) r g) g)) dX0_becomeBackup_36 (fun H locs hw => ?_)
  exact hret hw dX0_becomeBackup_37 (congrArg (wX cZ cI a) (rfl))

theorem inX0_beginPart : ∀ w ∈ u_ws RX0 TX0 18, w ∈ wsX0_beginPart := fun _ h => List.mem_cons_of_mem _ (List.mem_append_right _ h)
theorem flX0_beginPart_56 : Cond.fieldLink RX0 56 "StandbyPair" "repairAsked" "[Z" ∈ wsX0_beginPart := by decide +kernel
set_option maxHeartbeats 4000000 in
set_option maxRecDepth 100000 in
theorem kX0_beginPart (l : Launch) (D : va_G) (cZ cI : ClassId) (a : Nat → Nat) (σ : sC) {r g : Nat} (hr : r < 4) (hg : g < 3) : MV l yX0_beginPart wsX0_beginPart ({ frames := 3, cells := 0, slots := 0, locals := 69 } : Room) D (tyZ cZ cI) [.ref (a 0), .int (nI r), .int (nI g)] (wX cZ cI a σ) (wX cZ cI a (beginF σ r g)) := by
  refine MV.of (cc := cX0_beginPart) (maxL := 3) (by decide) rfl ⟨rfl, rfl⟩ (Nat.le_of_ble_eq_true rfl) ?_
  intro p e s m args below meth c A Q S hK hret ls hl hw
  replace hl : lv_has ls 3 [(0, .ref (a 0)), (1, .int (nI r)), (2, .int (nI g))] := hl
  replace S : CallFix p m c cX0_beginPart 3 s args wsX0_beginPart RX0 := S
  have hin := inX0_beginPart
  refine lv_aload_n S.1 S.2.1 dX0_beginPart_0 rfl (lv_at hl 0 rfl) ?_
  refine lv_iload_n S.1 S.2.1 dX0_beginPart_1 rfl (lv_at hl 1 rfl) ?_
  refine lv_iload_n S.1 S.2.1 dX0_beginPart_2 rfl (lv_at hl 2 rfl) ?_
  refine bc_vv (As := [.int (nI r), .int (nI g)]) (rest := []) S hK hw (kX0_becomeBackup l D cZ cI a σ (r := r) (g := g) (by omega) (by omega)) (cwV 2 S.2.2.2.2 gX0_beginPart_X0_becomeBackup rfl rfl rfl (by decide +kernel) ⟨Nat.le_of_ble_eq_true rfl, Nat.le_of_ble_eq_true rfl⟩) (q0 := 0) rfl rfl rfl hl.1 rfl (Nat.le_of_ble_eq_true rfl) (Nat.zero_le _) (Nat.zero_le _) dX0_beginPart_3 (fun H locs hw => ?_)
  refine lv_aload_n S.1 S.2.1 dX0_beginPart_6 rfl (lv_at hl 0 rfl) ?_
  refine bx_get S hK hin hw.1 0 rfl rfl 15 (by decide) flX0_beginPart_56 rfl dX0_beginPart_7 ?_
  refine lv_iload_n S.1 S.2.1 dX0_beginPart_10 rfl (lv_at hl 1 rfl) ?_
  refine lv_iload_n S.1 S.2.1 dX0_beginPart_11 rfl (lv_at hl 2 rfl) ?_
  refine bc_si (As := [.int (nI r), .int (nI g)]) (rest := [.ref (a 16)]) S hK hw (kX0_placeOf l D _ (r := r) (g := g) (by omega) (by omega)) (va_cwS 2 S.2.2.2.2 gX0_beginPart_X0_placeOf rfl rfl rfl (by decide +kernel) ⟨Nat.le_of_ble_eq_true rfl, Nat.le_of_ble_eq_true rfl⟩) rfl hl.1 rfl (Nat.le_of_ble_eq_true rfl) (Nat.zero_le _) (Nat.zero_le _) dX0_beginPart_12 (fun H locs hw => ?_)
  refine lv_iconst (v := 0) S.1 S.2.1 dX0_beginPart_15 (by decide) ?_
  refine bx_zast S hK hw 16 0 rfl rfl (by omega) (by decide) (by decide) (wX_s15 cZ cI a (restF σ r g 0) (4 * g + r) 0) dX0_beginPart_16 (fun H locs hw => ?_)
  exact hret hw dX0_beginPart_17 (congrArg (wX cZ cI a) (rfl))

theorem inX0_copyServed : ∀ w ∈ u_ws RX0 TX0 18, w ∈ wsX0_copyServed := fun _ h => List.mem_cons_of_mem _ (List.mem_append_right _ h)
theorem flX0_copyServed_50 : Cond.fieldLink RX0 50 "StandbyPair" "served" "[I" ∈ wsX0_copyServed := by decide +kernel
theorem flX0_copyServed_56 : Cond.fieldLink RX0 56 "StandbyPair" "repairAsked" "[Z" ∈ wsX0_copyServed := by decide +kernel
theorem flX0_copyServed_127 : Cond.fieldLink RX0 127 "StandbyPair" "bulkRepairs" "I" ∈ wsX0_copyServed := by decide +kernel
set_option maxHeartbeats 4000000 in
set_option maxRecDepth 100000 in
theorem kX0_copyServed (l : Launch) (D : va_G) (cZ cI : ClassId) (a : Nat → Nat) (σ : sC) {t g f : Nat} (ht : t < 4) (hg : g < 3) (hf : f < 4) : MV l yX0_copyServed wsX0_copyServed ({ frames := 1, cells := 0, slots := 0, locals := 21 } : Room) D (tyZ cZ cI) [.ref (a 0), .int (nI t), .int (nI g), .int (nI f)] (wX cZ cI a σ) (wX cZ cI a (copyF σ t f g)) := by
  refine MV.of (cc := cX0_copyServed) (maxL := 6) (by decide) rfl ⟨rfl, rfl⟩ (Nat.le_of_ble_eq_true rfl) ?_
  intro p e s m args below meth c A Q S hK hret ls hl hw
  replace hl : lv_has ls 6 [(0, .ref (a 0)), (1, .int (nI t)), (2, .int (nI g)), (3, .int (nI f))] := hl
  replace S : CallFix p m c cX0_copyServed 6 s args wsX0_copyServed RX0 := S
  have hin := inX0_copyServed
  refine lv_iload_n S.1 S.2.1 dX0_copyServed_0 rfl (lv_at hl 1 rfl) ?_
  refine lv_iload_n S.1 S.2.1 dX0_copyServed_1 rfl (lv_at hl 2 rfl) ?_
  refine bc_si (As := [.int (nI t), .int (nI g)]) (rest := []) S hK hw (kX0_placeOf l D _ (r := t) (g := g) (by omega) (by omega)) (va_cwS 2 S.2.2.2.2 gX0_copyServed_X0_placeOf rfl rfl rfl (by decide +kernel) ⟨Nat.le_of_ble_eq_true rfl, Nat.le_of_ble_eq_true rfl⟩) rfl hl.1 rfl (Nat.le_of_ble_eq_true rfl) (Nat.zero_le _) (Nat.zero_le _) dX0_copyServed_2 (fun H locs hw => ?_)
  refine lv_istore (lv' := [(4, .int (nI (4 * g + t))), (0, .ref (a 0)), (1, .int (nI t)), (2, .int (nI g)), (3, .int (nI f))]) S.1 S.2.1 dX0_copyServed_5 hl (by decide) rfl (fun ls hl => ?_)
  refine lv_aload_n S.1 S.2.1 dX0_copyServed_7 rfl (lv_at hl 1 rfl) ?_
  refine bx_get S hK hin hw.1 0 rfl rfl 13 (by decide) flX0_copyServed_50 rfl dX0_copyServed_8 ?_
  refine lv_iload_n S.1 S.2.1 dX0_copyServed_11 rfl (lv_at hl 4 rfl) ?_
  refine lv_iload_n S.1 S.2.1 dX0_copyServed_12 rfl (lv_at hl 3 rfl) ?_
  refine bc_si (As := [.int (nI f), .int (nI g)]) (rest := [.ref (a 14)]) S hK hw (kX0_placeOf l D _ (r := f) (g := g) (by omega) (by omega)) (va_cwS 2 S.2.2.2.2 gX0_copyServed_X0_placeOf rfl rfl rfl (by decide +kernel) ⟨Nat.le_of_ble_eq_true rfl, Nat.le_of_ble_eq_true rfl⟩) rfl hl.1 rfl (Nat.le_of_ble_eq_true rfl) (Nat.zero_le _) (Nat.zero_le _) dX0_copyServed_13 (fun H locs hw => ?_)
  refine bx_iald (v := σ 13 (4 * g + f)) S hK hw.1 14 1 rfl rfl (by omega) (by decide) rfl dX0_copyServed_16 ?_
  refine lv_aload_n S.1 S.2.1 dX0_copyServed_17 rfl (lv_at hl 1 rfl) ?_
  refine bx_get S hK hin hw.1 0 rfl rfl 13 (by decide) flX0_copyServed_50 rfl dX0_copyServed_18 ?_
  refine lv_iload S.1 S.2.1 dX0_copyServed_21 (lv_at hl 0 rfl) ?_
  refine bx_iald (v := σ 13 (4 * g + t)) S hK hw.1 14 1 rfl rfl (by omega) (by decide) rfl dX0_copyServed_23 ?_
  refine lv_isub S.1 S.2.1 dX0_copyServed_24 ?_
  refine lv_istore (lv' := [(5, .int ((σ 13 (4 * g + f)) - (σ 13 (4 * g + t)))), (4, .int (nI (4 * g + t))), (0, .ref (a 0)), (1, .int (nI t)), (2, .int (nI g)), (3, .int (nI f))]) S.1 S.2.1 dX0_copyServed_25 hl (by decide) rfl (fun ls hl => ?_)
  have J59 : ∀ (H : Heap) (locs : List Loc), Wd D A s.heap (wX cZ cI a σ) H locs → (copyF σ t f g = copy2 (copy1 σ t f g) t g) → ∀ ls : Array Slot, lv_has ls 6 [(0, .ref (a 0)), (1, .int (nI t)), (2, .int (nI g)), (3, .int (nI f)), (4, .int (nI (4 * g + t))), (5, .int ((σ 13 (4 * g + f)) - (σ 13 (4 * g + t))))] → W p l e ({ frames := 1, cells := 0, slots := 0, locals := 21 } : Room) s m args below meth c H locs 0 0 Q (F0 m 59 ls []) := by
    intro H locs hw hj ls hl
    refine lv_aload_n S.1 S.2.1 dX0_copyServed_59 rfl (lv_at hl 0 rfl) ?_
    refine bx_get S hK hin hw.1 0 rfl rfl 13 (by decide) flX0_copyServed_50 rfl dX0_copyServed_60 ?_
    refine lv_iload S.1 S.2.1 dX0_copyServed_63 (lv_at hl 4 rfl) ?_
    refine lv_dup2_11 S.1 S.2.1 dX0_copyServed_65 rfl rfl ?_
    refine bx_iald (v := σ 13 (4 * g + t)) S hK hw.1 14 1 rfl rfl (by omega) (by decide) rfl dX0_copyServed_66 ?_
    refine lv_iload S.1 S.2.1 dX0_copyServed_67 (lv_at hl 5 rfl) ?_
    refine lv_iadd S.1 S.2.1 dX0_copyServed_69 ?_
    refine bx_iast S hK hw 14 1 rfl rfl (by omega) (by decide) (wX_s13 cZ cI a σ (4 * g + t) ((σ 13 (4 * g + t)) + ((σ 13 (4 * g + f)) - (σ 13 (4 * g + t))))) dX0_copyServed_70 (fun H locs hw => ?_)
    refine lv_aload_n S.1 S.2.1 dX0_copyServed_71 rfl (lv_at hl 0 rfl) ?_
    refine bx_get S hK hin hw.1 0 rfl rfl 15 (by decide) flX0_copyServed_56 rfl dX0_copyServed_72 ?_
    refine lv_iload S.1 S.2.1 dX0_copyServed_75 (lv_at hl 4 rfl) ?_
    refine bx_zald (v := (up σ 13 (4 * g + t) ((σ 13 (4 * g + t)) + ((σ 13 (4 * g + f)) - (σ 13 (4 * g + t))))) 15 (4 * g + t)) S hK hw.1 16 0 rfl rfl (by omega) (by decide) rfl dX0_copyServed_77 ?_
    refine bz_eq (tgt := 99) S dX0_copyServed_78 (by decide) (fun c78 => ?_) (fun c78 => ?_)
    · exact hret hw dX0_copyServed_99 (congrArg (wX cZ cI a) (by rw [hj]; simp only [copy2, copy1, eq_true c78, ↓reduceIte]))
    · refine lv_aload_n S.1 S.2.1 dX0_copyServed_81 rfl (lv_at hl 0 rfl) ?_
      refine bx_get S hK hin hw.1 0 rfl rfl 15 (by decide) flX0_copyServed_56 rfl dX0_copyServed_82 ?_
      refine lv_iload S.1 S.2.1 dX0_copyServed_85 (lv_at hl 4 rfl) ?_
      refine lv_iconst (v := 0) S.1 S.2.1 dX0_copyServed_87 (by decide) ?_
      refine bx_zast S hK hw 16 0 rfl rfl (by omega) (by decide) (by decide) (wX_s15 cZ cI a (up σ 13 (4 * g + t) ((σ 13 (4 * g + t)) + ((σ 13 (4 * g + f)) - (σ 13 (4 * g + t))))) (4 * g + t) 0) dX0_copyServed_88 (fun H locs hw => ?_)
      refine lv_aload_n S.1 S.2.1 dX0_copyServed_89 rfl (lv_at hl 0 rfl) ?_
      refine lv_dup S.1 S.2.1 dX0_copyServed_90 rfl ?_
      refine bx_get S hK hin hw.1 0 rfl rfl 16 (by decide) flX0_copyServed_127 rfl dX0_copyServed_91 ?_
      refine lv_iconst (v := 1) S.1 S.2.1 dX0_copyServed_94 (by decide) ?_
      refine lv_iadd S.1 S.2.1 dX0_copyServed_95 ?_
      refine bx_put S hK hin tyX0 tyX0_ok nmX0 hw 0 rfl rfl 16 (by decide) flX0_copyServed_127 rfl (by decide +kernel) (Nat.le_of_ble_eq_true rfl) (wX_s16 cZ cI a (up (up σ 13 (4 * g + t) ((σ 13 (4 * g + t)) + ((σ 13 (4 * g + f)) - (σ 13 (4 * g + t))))) 15 (4 * g + t) 0) (((up (up σ 13 (4 * g + t) ((σ 13 (4 * g + t)) + ((σ 13 (4 * g + f)) - (σ 13 (4 * g + t))))) 15 (4 * g + t) 0) 16 0) + 1)) dX0_copyServed_96 (fun H locs hw => ?_)
      exact hret hw dX0_copyServed_99 (congrArg (wX cZ cI a) (by rw [hj]; simp only [copy2, copy1, eq_false c78, ↓reduceIte]))
  refine lv_iload S.1 S.2.1 dX0_copyServed_27 (lv_at hl 0 rfl) ?_
  refine bz_gt (tgt := 33) S dX0_copyServed_29 (by decide) (fun c29 => ?_) (fun c29 => ?_)
  · refine lv_iload S.1 S.2.1 dX0_copyServed_33 (lv_at hl 0 rfl) ?_
    refine lv_bipush (v := 10) S.1 S.2.1 dX0_copyServed_35 (by decide) ?_
    refine br_le (tgt := 59) S dX0_copyServed_37 (by decide) (fun c37 => ?_) (fun c37 => ?_)
    · exact J59 _ _ hw (by simp only [copyF, eq_true c29, eq_false c37, ↓reduceIte]) _ (lv_sub hl [2, 3, 4, 5, 1, 0] rfl)
    · refine lv_aload_n S.1 S.2.1 dX0_copyServed_40 rfl (lv_at hl 2 rfl) ?_
      refine bx_get S hK hin hw.1 0 rfl rfl 15 (by decide) flX0_copyServed_56 rfl dX0_copyServed_41 ?_
      refine lv_iload S.1 S.2.1 dX0_copyServed_44 (lv_at hl 1 rfl) ?_
      refine bx_zald (v := σ 15 (4 * g + t)) S hK hw.1 16 0 rfl rfl (by omega) (by decide) rfl dX0_copyServed_46 ?_
      refine bz_ne (tgt := 59) S dX0_copyServed_47 (by decide) (fun c47 => ?_) (fun c47 => ?_)
      · exact J59 _ _ hw (by simp only [copyF, eq_true c29, eq_true c37, eq_false c47, ↓reduceIte]) _ (lv_sub hl [2, 3, 4, 5, 1, 0] rfl)
      · refine lv_aload_n S.1 S.2.1 dX0_copyServed_50 rfl (lv_at hl 2 rfl) ?_
        refine bx_get S hK hin hw.1 0 rfl rfl 15 (by decide) flX0_copyServed_56 rfl dX0_copyServed_51 ?_
        refine lv_iload S.1 S.2.1 dX0_copyServed_54 (lv_at hl 1 rfl) ?_
        refine lv_iconst (v := 1) S.1 S.2.1 dX0_copyServed_56 (by decide) ?_
        refine bx_zast S hK hw 16 0 rfl rfl (by omega) (by decide) (by decide) (wX_s15 cZ cI a σ (4 * g + t) 1) dX0_copyServed_57 (fun H locs hw => ?_)
        exact hret hw dX0_copyServed_58 (congrArg (wX cZ cI a) (by simp only [copyF, eq_true c29, eq_true c37, eq_true c47, ↓reduceIte]))
  · exact hret hw dX0_copyServed_32 (congrArg (wX cZ cI a) (by simp only [copyF, eq_false c29, ↓reduceIte]))

theorem inX0_receiveAsMaster : ∀ w ∈ u_ws RX0 TX0 18, w ∈ wsX0_receiveAsMaster := fun _ h => List.mem_cons_of_mem _ (List.mem_append_right _ h)
set_option maxHeartbeats 4000000 in
set_option maxRecDepth 100000 in
theorem kX0_receiveAsMaster (l : Launch) (D : va_G) (cZ cI : ClassId) (a : Nat → Nat) (σ : sC) {r g q : Nat} (num : Int32) (hr : r < 4) (hg : g < 3) (hq : q < 4) : MV l yX0_receiveAsMaster wsX0_receiveAsMaster ({ frames := 3, cells := 0, slots := 0, locals := 69 } : Room) D (tyZ cZ cI) [.ref (a 0), .int (nI r), .int (nI g), .int (nI q), .int num] (wX cZ cI a σ) (wX cZ cI a (recvM σ r g q num)) := by
  refine MV.of (cc := cX0_receiveAsMaster) (maxL := 6) (by decide) rfl ⟨rfl, rfl⟩ (Nat.le_of_ble_eq_true rfl) ?_
  intro p e s m args below meth c A Q S hK hret ls hl hw
  replace hl : lv_has ls 6 [(0, .ref (a 0)), (1, .int (nI r)), (2, .int (nI g)), (3, .int (nI q)), (4, .int num)] := hl
  replace S : CallFix p m c cX0_receiveAsMaster 6 s args wsX0_receiveAsMaster RX0 := S
  have hin := inX0_receiveAsMaster
  refine lv_aload_n S.1 S.2.1 dX0_receiveAsMaster_0 rfl (lv_at hl 0 rfl) ?_
  refine lv_iload_n S.1 S.2.1 dX0_receiveAsMaster_1 rfl (lv_at hl 1 rfl) ?_
  refine lv_iload_n S.1 S.2.1 dX0_receiveAsMaster_2 rfl (lv_at hl 2 rfl) ?_
  refine bc_vi (As := [.int (nI r), .int (nI g)]) (rest := []) S hK hw (kX0_loweredPriority l D cZ cI a σ (r := r) (g := g) (by omega) (by omega)) (cwV 2 S.2.2.2.2 gX0_receiveAsMaster_X0_loweredPriority rfl rfl rfl (by decide +kernel) ⟨Nat.le_of_ble_eq_true rfl, Nat.le_of_ble_eq_true rfl⟩) (q0 := 0) rfl rfl rfl hl.1 rfl (Nat.le_of_ble_eq_true rfl) (Nat.zero_le _) (Nat.zero_le _) dX0_receiveAsMaster_3 (fun H locs hw => ?_)
  refine lv_istore (lv' := [(5, .int (lowP σ r g)), (0, .ref (a 0)), (1, .int (nI r)), (2, .int (nI g)), (3, .int (nI q)), (4, .int num)]) S.1 S.2.1 dX0_receiveAsMaster_6 hl (by decide) rfl (fun ls hl => ?_)
  refine lv_iload S.1 S.2.1 dX0_receiveAsMaster_8 (lv_at hl 5 rfl) ?_
  refine lv_iload S.1 S.2.1 dX0_receiveAsMaster_10 (lv_at hl 0 rfl) ?_
  refine br_gt (tgt := 27) S dX0_receiveAsMaster_12 (by decide) (fun c12 => ?_) (fun c12 => ?_)
  · refine lv_aload_n S.1 S.2.1 dX0_receiveAsMaster_27 rfl (lv_at hl 1 rfl) ?_
    refine lv_iload_n S.1 S.2.1 dX0_receiveAsMaster_28 rfl (lv_at hl 2 rfl) ?_
    refine lv_iload_n S.1 S.2.1 dX0_receiveAsMaster_29 rfl (lv_at hl 3 rfl) ?_
    refine bc_vv (As := [.int (nI r), .int (nI g)]) (rest := []) S hK hw (kX0_becomeBackup l D cZ cI a σ (r := r) (g := g) (by omega) (by omega)) (cwV 2 S.2.2.2.2 gX0_receiveAsMaster_X0_becomeBackup rfl rfl rfl (by decide +kernel) ⟨Nat.le_of_ble_eq_true rfl, Nat.le_of_ble_eq_true rfl⟩) (q0 := 0) rfl rfl rfl hl.1 rfl (Nat.le_of_ble_eq_true rfl) (Nat.zero_le _) (Nat.zero_le _) dX0_receiveAsMaster_30 (fun H locs hw => ?_)
    refine lv_aload_n S.1 S.2.1 dX0_receiveAsMaster_33 rfl (lv_at hl 1 rfl) ?_
    refine lv_iload_n S.1 S.2.1 dX0_receiveAsMaster_34 rfl (lv_at hl 2 rfl) ?_
    refine lv_iload_n S.1 S.2.1 dX0_receiveAsMaster_35 rfl (lv_at hl 3 rfl) ?_
    refine lv_iload_n S.1 S.2.1 dX0_receiveAsMaster_36 rfl (lv_at hl 4 rfl) ?_
    refine bc_vv (As := [.int (nI r), .int (nI g), .int (nI q)]) (rest := []) S hK hw (kX0_copyServed l D cZ cI a (restF σ r g 0) (t := r) (g := g) (f := q) (by omega) (by omega) (by omega)) (cwV 3 S.2.2.2.2 gX0_receiveAsMaster_X0_copyServed rfl rfl rfl (by decide +kernel) ⟨Nat.le_of_ble_eq_true rfl, Nat.le_of_ble_eq_true rfl⟩) (q0 := 0) rfl rfl rfl hl.1 rfl (Nat.le_of_ble_eq_true rfl) (Nat.zero_le _) (Nat.zero_le _) dX0_receiveAsMaster_37 (fun H locs hw => ?_)
    exact hret hw dX0_receiveAsMaster_40 (congrArg (wX cZ cI a) (by simp only [recvM, eq_true c12, ↓reduceIte]))
  · refine lv_iload S.1 S.2.1 dX0_receiveAsMaster_15 (lv_at hl 5 rfl) ?_
    refine lv_iload S.1 S.2.1 dX0_receiveAsMaster_17 (lv_at hl 0 rfl) ?_
    refine br_ne (tgt := 40) S dX0_receiveAsMaster_19 (by decide) (fun c19 => ?_) (fun c19 => ?_)
    · exact hret hw dX0_receiveAsMaster_40 (congrArg (wX cZ cI a) (by simp only [recvM, eq_false c12, eq_false c19, ↓reduceIte]))
    · refine lv_iload_n S.1 S.2.1 dX0_receiveAsMaster_22 rfl (lv_at hl 4 rfl) ?_
      refine lv_iload_n S.1 S.2.1 dX0_receiveAsMaster_23 rfl (lv_at hl 2 rfl) ?_
      refine br_le (tgt := 40) S dX0_receiveAsMaster_24 (by decide) (fun c24 => ?_) (fun c24 => ?_)
      · exact hret hw dX0_receiveAsMaster_40 (congrArg (wX cZ cI a) (by simp only [recvM, eq_false c12, eq_true c19, eq_false c24, ↓reduceIte]))
      · refine lv_aload_n S.1 S.2.1 dX0_receiveAsMaster_27 rfl (lv_at hl 1 rfl) ?_
        refine lv_iload_n S.1 S.2.1 dX0_receiveAsMaster_28 rfl (lv_at hl 2 rfl) ?_
        refine lv_iload_n S.1 S.2.1 dX0_receiveAsMaster_29 rfl (lv_at hl 3 rfl) ?_
        refine bc_vv (As := [.int (nI r), .int (nI g)]) (rest := []) S hK hw (kX0_becomeBackup l D cZ cI a σ (r := r) (g := g) (by omega) (by omega)) (cwV 2 S.2.2.2.2 gX0_receiveAsMaster_X0_becomeBackup rfl rfl rfl (by decide +kernel) ⟨Nat.le_of_ble_eq_true rfl, Nat.le_of_ble_eq_true rfl⟩) (q0 := 0) rfl rfl rfl hl.1 rfl (Nat.le_of_ble_eq_true rfl) (Nat.zero_le _) (Nat.zero_le _) dX0_receiveAsMaster_30 (fun H locs hw => ?_)
        refine lv_aload_n S.1 S.2.1 dX0_receiveAsMaster_33 rfl (lv_at hl 1 rfl) ?_
        refine lv_iload_n S.1 S.2.1 dX0_receiveAsMaster_34 rfl (lv_at hl 2 rfl) ?_
        refine lv_iload_n S.1 S.2.1 dX0_receiveAsMaster_35 rfl (lv_at hl 3 rfl) ?_
        refine lv_iload_n S.1 S.2.1 dX0_receiveAsMaster_36 rfl (lv_at hl 4 rfl) ?_
        refine bc_vv (As := [.int (nI r), .int (nI g), .int (nI q)]) (rest := []) S hK hw (kX0_copyServed l D cZ cI a (restF σ r g 0) (t := r) (g := g) (f := q) (by omega) (by omega) (by omega)) (cwV 3 S.2.2.2.2 gX0_receiveAsMaster_X0_copyServed rfl rfl rfl (by decide +kernel) ⟨Nat.le_of_ble_eq_true rfl, Nat.le_of_ble_eq_true rfl⟩) (q0 := 0) rfl rfl rfl hl.1 rfl (Nat.le_of_ble_eq_true rfl) (Nat.zero_le _) (Nat.zero_le _) dX0_receiveAsMaster_37 (fun H locs hw => ?_)
        exact hret hw dX0_receiveAsMaster_40 (congrArg (wX cZ cI a) (by simp only [recvM, eq_false c12, eq_true c19, eq_true c24, ↓reduceIte]))

theorem inX0_receiveAsBackup : ∀ w ∈ u_ws RX0 TX0 18, w ∈ wsX0_receiveAsBackup := fun _ h => List.mem_cons_of_mem _ (List.mem_append_right _ h)
theorem flX0_receiveAsBackup_26 : Cond.fieldLink RX0 26 "StandbyPair" "preempting" "[Z" ∈ wsX0_receiveAsBackup := by decide +kernel
theorem flX0_receiveAsBackup_47 : Cond.fieldLink RX0 47 "StandbyPair" "heard" "[I" ∈ wsX0_receiveAsBackup := by decide +kernel
theorem flX0_receiveAsBackup_44 : Cond.fieldLink RX0 44 "StandbyPair" "timers" "[I" ∈ wsX0_receiveAsBackup := by decide +kernel
theorem flX0_receiveAsBackup_29 : Cond.fieldLink RX0 29 "StandbyPair" "delays" "[I" ∈ wsX0_receiveAsBackup := by decide +kernel
set_option maxHeartbeats 4000000 in
set_option maxRecDepth 100000 in
theorem kX0_receiveAsBackup (l : Launch) (D : va_G) (cZ cI : ClassId) (a : Nat → Nat) (σ : sC) {r g q : Nat} (num : Int32) (hr : r < 4) (hg : g < 3) (hq : q < 4) : MV l yX0_receiveAsBackup wsX0_receiveAsBackup ({ frames := 2, cells := 0, slots := 0, locals := 46 } : Room) D (tyZ cZ cI) [.ref (a 0), .int (nI r), .int (nI g), .int (nI q), .int num] (wX cZ cI a σ) (wX cZ cI a (recvB σ r g q num)) := by
  refine MV.of (cc := cX0_receiveAsBackup) (maxL := 7) (by decide) rfl ⟨rfl, rfl⟩ (Nat.le_of_ble_eq_true rfl) ?_
  intro p e s m args below meth c A Q S hK hret ls hl hw
  replace hl : lv_has ls 7 [(0, .ref (a 0)), (1, .int (nI r)), (2, .int (nI g)), (3, .int (nI q)), (4, .int num)] := hl
  replace S : CallFix p m c cX0_receiveAsBackup 7 s args wsX0_receiveAsBackup RX0 := S
  have hin := inX0_receiveAsBackup
  refine lv_iload_n S.1 S.2.1 dX0_receiveAsBackup_0 rfl (lv_at hl 1 rfl) ?_
  refine lv_iload_n S.1 S.2.1 dX0_receiveAsBackup_1 rfl (lv_at hl 2 rfl) ?_
  refine bc_si (As := [.int (nI r), .int (nI g)]) (rest := []) S hK hw (kX0_placeOf l D _ (r := r) (g := g) (by omega) (by omega)) (va_cwS 2 S.2.2.2.2 gX0_receiveAsBackup_X0_placeOf rfl rfl rfl (by decide +kernel) ⟨Nat.le_of_ble_eq_true rfl, Nat.le_of_ble_eq_true rfl⟩) rfl hl.1 rfl (Nat.le_of_ble_eq_true rfl) (Nat.zero_le _) (Nat.zero_le _) dX0_receiveAsBackup_2 (fun H locs hw => ?_)
  refine lv_istore (lv' := [(5, .int (nI (4 * g + r))), (0, .ref (a 0)), (1, .int (nI r)), (2, .int (nI g)), (3, .int (nI q)), (4, .int num)]) S.1 S.2.1 dX0_receiveAsBackup_5 hl (by decide) rfl (fun ls hl => ?_)
  refine lv_aload_n S.1 S.2.1 dX0_receiveAsBackup_7 rfl (lv_at hl 1 rfl) ?_
  refine lv_iload_n S.1 S.2.1 dX0_receiveAsBackup_8 rfl (lv_at hl 2 rfl) ?_
  refine lv_iload_n S.1 S.2.1 dX0_receiveAsBackup_9 rfl (lv_at hl 3 rfl) ?_
  refine bc_vi (As := [.int (nI r), .int (nI g)]) (rest := []) S hK hw (kX0_loweredPriority l D cZ cI a σ (r := r) (g := g) (by omega) (by omega)) (cwV 2 S.2.2.2.2 gX0_receiveAsBackup_X0_loweredPriority rfl rfl rfl (by decide +kernel) ⟨Nat.le_of_ble_eq_true rfl, Nat.le_of_ble_eq_true rfl⟩) (q0 := 0) rfl rfl rfl hl.1 rfl (Nat.le_of_ble_eq_true rfl) (Nat.zero_le _) (Nat.zero_le _) dX0_receiveAsBackup_10 (fun H locs hw => ?_)
  refine lv_istore (lv' := [(6, .int (lowP σ r g)), (5, .int (nI (4 * g + r))), (0, .ref (a 0)), (1, .int (nI r)), (2, .int (nI g)), (3, .int (nI q)), (4, .int num)]) S.1 S.2.1 dX0_receiveAsBackup_13 hl (by decide) rfl (fun ls hl => ?_)
  have J122 : ∀ (σj : sC) (H : Heap) (locs : List Loc), Wd D A s.heap (wX cZ cI a σj) H locs → (recvB σ r g q num = copyF σj r q g) → ∀ ls : Array Slot, lv_has ls 7 [(0, .ref (a 0)), (1, .int (nI r)), (2, .int (nI g)), (3, .int (nI q))] → W p l e ({ frames := 2, cells := 0, slots := 0, locals := 46 } : Room) s m args below meth c H locs 0 0 Q (F0 m 122 ls []) := by
    intro σj H locs hw hj ls hl
    refine lv_aload_n S.1 S.2.1 dX0_receiveAsBackup_122 rfl (lv_at hl 0 rfl) ?_
    refine lv_iload_n S.1 S.2.1 dX0_receiveAsBackup_123 rfl (lv_at hl 1 rfl) ?_
    refine lv_iload_n S.1 S.2.1 dX0_receiveAsBackup_124 rfl (lv_at hl 2 rfl) ?_
    refine lv_iload_n S.1 S.2.1 dX0_receiveAsBackup_125 rfl (lv_at hl 3 rfl) ?_
    refine bc_vv (As := [.int (nI r), .int (nI g), .int (nI q)]) (rest := []) S hK hw (kX0_copyServed l D cZ cI a σj (t := r) (g := g) (f := q) (by omega) (by omega) (by omega)) (cwV 3 S.2.2.2.2 gX0_receiveAsBackup_X0_copyServed rfl rfl rfl (by decide +kernel) ⟨Nat.le_of_ble_eq_true rfl, Nat.le_of_ble_eq_true rfl⟩) (q0 := 0) rfl rfl rfl hl.1 rfl (Nat.le_of_ble_eq_true rfl) (Nat.zero_le _) (Nat.zero_le _) dX0_receiveAsBackup_126 (fun H locs hw => ?_)
    exact hret hw dX0_receiveAsBackup_129 (congrArg (wX cZ cI a) (hj.symm))
  refine lv_iload S.1 S.2.1 dX0_receiveAsBackup_15 (lv_at hl 6 rfl) ?_
  refine bz_ne (tgt := 39) S dX0_receiveAsBackup_17 (by decide) (fun c17 => ?_) (fun c17 => ?_)
  · refine lv_aload_n S.1 S.2.1 dX0_receiveAsBackup_39 rfl (lv_at hl 2 rfl) ?_
    refine bx_get S hK hin hw.1 0 rfl rfl 5 (by decide) flX0_receiveAsBackup_26 rfl dX0_receiveAsBackup_40 ?_
    refine lv_iload_n S.1 S.2.1 dX0_receiveAsBackup_43 rfl (lv_at hl 4 rfl) ?_
    refine bx_zald (v := σ 5 g) S hK hw.1 6 0 rfl rfl (by omega) (by decide) rfl dX0_receiveAsBackup_44 ?_
    refine bz_eq (tgt := 100) S dX0_receiveAsBackup_45 (by decide) (fun c45 => ?_) (fun c45 => ?_)
    · refine lv_aload_n S.1 S.2.1 dX0_receiveAsBackup_100 rfl (lv_at hl 2 rfl) ?_
      refine bx_get S hK hin hw.1 0 rfl rfl 12 (by decide) flX0_receiveAsBackup_47 rfl dX0_receiveAsBackup_101 ?_
      refine lv_iload S.1 S.2.1 dX0_receiveAsBackup_104 (lv_at hl 1 rfl) ?_
      refine lv_iconst (v := 0) S.1 S.2.1 dX0_receiveAsBackup_106 (by decide) ?_
      refine bx_iast S hK hw 13 1 rfl rfl (by omega) (by decide) (wX_s12 cZ cI a σ (4 * g + r) 0) dX0_receiveAsBackup_107 (fun H locs hw => ?_)
      refine lv_aload_n S.1 S.2.1 dX0_receiveAsBackup_108 rfl (lv_at hl 2 rfl) ?_
      refine bx_get S hK hin hw.1 0 rfl rfl 11 (by decide) flX0_receiveAsBackup_44 rfl dX0_receiveAsBackup_109 ?_
      refine lv_iload S.1 S.2.1 dX0_receiveAsBackup_112 (lv_at hl 1 rfl) ?_
      refine lv_aload_n S.1 S.2.1 dX0_receiveAsBackup_114 rfl (lv_at hl 2 rfl) ?_
      refine lv_iload S.1 S.2.1 dX0_receiveAsBackup_115 (lv_at hl 0 rfl) ?_
      refine lv_iload_n S.1 S.2.1 dX0_receiveAsBackup_117 rfl (lv_at hl 4 rfl) ?_
      refine bc_vi (As := [.int (lowP σ r g), .int (nI g)]) (rest := [.int (nI (4 * g + r)), .ref (a 12)]) S hK hw (kX0_waitOf l D cZ cI a (up σ 12 (4 * g + r) 0) (lowP σ r g) (g := g) (by omega)) (cwV 2 S.2.2.2.2 gX0_receiveAsBackup_X0_waitOf rfl rfl rfl (by decide +kernel) ⟨Nat.le_of_ble_eq_true rfl, Nat.le_of_ble_eq_true rfl⟩) (q0 := 0) rfl rfl rfl hl.1 rfl (Nat.le_of_ble_eq_true rfl) (Nat.zero_le _) (Nat.zero_le _) dX0_receiveAsBackup_118 (fun H locs hw => ?_)
      refine bx_iast S hK hw 12 1 rfl rfl (by omega) (by decide) (wX_s11 cZ cI a (up σ 12 (4 * g + r) 0) (4 * g + r) (waitF (up σ 12 (4 * g + r) 0) (lowP σ r g) g)) dX0_receiveAsBackup_121 (fun H locs hw => ?_)
      exact J122 _ _ _ hw (by simp only [recvB, waitB, eq_false c17, eq_true c45, ↓reduceIte]) _ (lv_sub hl [2, 3, 4, 5] rfl)
    · refine lv_iload S.1 S.2.1 dX0_receiveAsBackup_48 (lv_at hl 0 rfl) ?_
      refine lv_iload S.1 S.2.1 dX0_receiveAsBackup_50 (lv_at hl 6 rfl) ?_
      refine br_le (tgt := 100) S dX0_receiveAsBackup_52 (by decide) (fun c52 => ?_) (fun c52 => ?_)
      · refine lv_aload_n S.1 S.2.1 dX0_receiveAsBackup_100 rfl (lv_at hl 2 rfl) ?_
        refine bx_get S hK hin hw.1 0 rfl rfl 12 (by decide) flX0_receiveAsBackup_47 rfl dX0_receiveAsBackup_101 ?_
        refine lv_iload S.1 S.2.1 dX0_receiveAsBackup_104 (lv_at hl 1 rfl) ?_
        refine lv_iconst (v := 0) S.1 S.2.1 dX0_receiveAsBackup_106 (by decide) ?_
        refine bx_iast S hK hw 13 1 rfl rfl (by omega) (by decide) (wX_s12 cZ cI a σ (4 * g + r) 0) dX0_receiveAsBackup_107 (fun H locs hw => ?_)
        refine lv_aload_n S.1 S.2.1 dX0_receiveAsBackup_108 rfl (lv_at hl 2 rfl) ?_
        refine bx_get S hK hin hw.1 0 rfl rfl 11 (by decide) flX0_receiveAsBackup_44 rfl dX0_receiveAsBackup_109 ?_
        refine lv_iload S.1 S.2.1 dX0_receiveAsBackup_112 (lv_at hl 1 rfl) ?_
        refine lv_aload_n S.1 S.2.1 dX0_receiveAsBackup_114 rfl (lv_at hl 2 rfl) ?_
        refine lv_iload S.1 S.2.1 dX0_receiveAsBackup_115 (lv_at hl 0 rfl) ?_
        refine lv_iload_n S.1 S.2.1 dX0_receiveAsBackup_117 rfl (lv_at hl 4 rfl) ?_
        refine bc_vi (As := [.int (lowP σ r g), .int (nI g)]) (rest := [.int (nI (4 * g + r)), .ref (a 12)]) S hK hw (kX0_waitOf l D cZ cI a (up σ 12 (4 * g + r) 0) (lowP σ r g) (g := g) (by omega)) (cwV 2 S.2.2.2.2 gX0_receiveAsBackup_X0_waitOf rfl rfl rfl (by decide +kernel) ⟨Nat.le_of_ble_eq_true rfl, Nat.le_of_ble_eq_true rfl⟩) (q0 := 0) rfl rfl rfl hl.1 rfl (Nat.le_of_ble_eq_true rfl) (Nat.zero_le _) (Nat.zero_le _) dX0_receiveAsBackup_118 (fun H locs hw => ?_)
        refine bx_iast S hK hw 12 1 rfl rfl (by omega) (by decide) (wX_s11 cZ cI a (up σ 12 (4 * g + r) 0) (4 * g + r) (waitF (up σ 12 (4 * g + r) 0) (lowP σ r g) g)) dX0_receiveAsBackup_121 (fun H locs hw => ?_)
        exact J122 _ _ _ hw (by simp only [recvB, waitB, eq_false c17, eq_false c45, eq_false c52, ↓reduceIte]) _ (lv_sub hl [2, 3, 4, 5] rfl)
      · refine lv_aload_n S.1 S.2.1 dX0_receiveAsBackup_55 rfl (lv_at hl 2 rfl) ?_
        refine bx_get S hK hin hw.1 0 rfl rfl 12 (by decide) flX0_receiveAsBackup_47 rfl dX0_receiveAsBackup_56 ?_
        refine lv_iload S.1 S.2.1 dX0_receiveAsBackup_59 (lv_at hl 1 rfl) ?_
        refine bx_iald (v := σ 12 (4 * g + r)) S hK hw.1 13 1 rfl rfl (by omega) (by decide) rfl dX0_receiveAsBackup_61 ?_
        refine lv_aload_n S.1 S.2.1 dX0_receiveAsBackup_62 rfl (lv_at hl 2 rfl) ?_
        refine bx_get S hK hin hw.1 0 rfl rfl 6 (by decide) flX0_receiveAsBackup_29 rfl dX0_receiveAsBackup_63 ?_
        refine lv_iload_n S.1 S.2.1 dX0_receiveAsBackup_66 rfl (lv_at hl 4 rfl) ?_
        refine bx_iald (v := σ 6 g) S hK hw.1 7 1 rfl rfl (by omega) (by decide) rfl dX0_receiveAsBackup_67 ?_
        refine br_lt (tgt := 72) S dX0_receiveAsBackup_68 (by decide) (fun c68 => ?_) (fun c68 => ?_)
        · refine lv_aload_n S.1 S.2.1 dX0_receiveAsBackup_72 rfl (lv_at hl 2 rfl) ?_
          refine bx_get S hK hin hw.1 0 rfl rfl 12 (by decide) flX0_receiveAsBackup_47 rfl dX0_receiveAsBackup_73 ?_
          refine lv_iload S.1 S.2.1 dX0_receiveAsBackup_76 (lv_at hl 1 rfl) ?_
          refine lv_dup2_11 S.1 S.2.1 dX0_receiveAsBackup_78 rfl rfl ?_
          refine bx_iald (v := σ 12 (4 * g + r)) S hK hw.1 13 1 rfl rfl (by omega) (by decide) rfl dX0_receiveAsBackup_79 ?_
          refine lv_iconst (v := 1) S.1 S.2.1 dX0_receiveAsBackup_80 (by decide) ?_
          refine lv_iadd S.1 S.2.1 dX0_receiveAsBackup_81 ?_
          refine bx_iast S hK hw 13 1 rfl rfl (by omega) (by decide) (wX_s12 cZ cI a σ (4 * g + r) ((σ 12 (4 * g + r)) + 1)) dX0_receiveAsBackup_82 (fun H locs hw => ?_)
          refine lv_aload_n S.1 S.2.1 dX0_receiveAsBackup_83 rfl (lv_at hl 2 rfl) ?_
          refine bx_get S hK hin hw.1 0 rfl rfl 11 (by decide) flX0_receiveAsBackup_44 rfl dX0_receiveAsBackup_84 ?_
          refine lv_iload S.1 S.2.1 dX0_receiveAsBackup_87 (lv_at hl 1 rfl) ?_
          refine lv_aload_n S.1 S.2.1 dX0_receiveAsBackup_89 rfl (lv_at hl 2 rfl) ?_
          refine lv_iload S.1 S.2.1 dX0_receiveAsBackup_90 (lv_at hl 0 rfl) ?_
          refine lv_iload_n S.1 S.2.1 dX0_receiveAsBackup_92 rfl (lv_at hl 4 rfl) ?_
          refine bc_vi (As := [.int (lowP σ r g), .int (nI g)]) (rest := [.int (nI (4 * g + r)), .ref (a 12)]) S hK hw (kX0_waitOf l D cZ cI a (up σ 12 (4 * g + r) ((σ 12 (4 * g + r)) + 1)) (lowP σ r g) (g := g) (by omega)) (cwV 2 S.2.2.2.2 gX0_receiveAsBackup_X0_waitOf rfl rfl rfl (by decide +kernel) ⟨Nat.le_of_ble_eq_true rfl, Nat.le_of_ble_eq_true rfl⟩) (q0 := 0) rfl rfl rfl hl.1 rfl (Nat.le_of_ble_eq_true rfl) (Nat.zero_le _) (Nat.zero_le _) dX0_receiveAsBackup_93 (fun H locs hw => ?_)
          refine bx_iast S hK hw 12 1 rfl rfl (by omega) (by decide) (wX_s11 cZ cI a (up σ 12 (4 * g + r) ((σ 12 (4 * g + r)) + 1)) (4 * g + r) (waitF (up σ 12 (4 * g + r) ((σ 12 (4 * g + r)) + 1)) (lowP σ r g) g)) dX0_receiveAsBackup_96 (fun H locs hw => ?_)
          refine lv_goto (tgt := 122) S.1 S.2.1 dX0_receiveAsBackup_97 (by decide) ?_
          exact J122 _ _ _ hw (by simp only [recvB, waitB, eq_false c17, eq_false c45, eq_true c52, eq_true c68, ↓reduceIte]) _ (lv_sub hl [2, 3, 4, 5] rfl)
        · exact hret hw dX0_receiveAsBackup_71 (congrArg (wX cZ cI a) (by simp only [recvB, eq_false c17, eq_false c45, eq_true c52, eq_false c68, ↓reduceIte]))
  · refine lv_aload_n S.1 S.2.1 dX0_receiveAsBackup_20 rfl (lv_at hl 2 rfl) ?_
    refine bx_get S hK hin hw.1 0 rfl rfl 11 (by decide) flX0_receiveAsBackup_44 rfl dX0_receiveAsBackup_21 ?_
    refine lv_iload S.1 S.2.1 dX0_receiveAsBackup_24 (lv_at hl 1 rfl) ?_
    refine lv_aload_n S.1 S.2.1 dX0_receiveAsBackup_26 rfl (lv_at hl 2 rfl) ?_
    refine lv_iload S.1 S.2.1 dX0_receiveAsBackup_27 (lv_at hl 0 rfl) ?_
    refine lv_iload_n S.1 S.2.1 dX0_receiveAsBackup_29 rfl (lv_at hl 4 rfl) ?_
    refine bc_vi (As := [.int (lowP σ r g), .int (nI g)]) (rest := [.int (nI (4 * g + r)), .ref (a 12)]) S hK hw (kX0_skewOf l D cZ cI a σ (lowP σ r g) (g := g) (by omega)) (cwV 2 S.2.2.2.2 gX0_receiveAsBackup_X0_skewOf rfl rfl rfl (by decide +kernel) ⟨Nat.le_of_ble_eq_true rfl, Nat.le_of_ble_eq_true rfl⟩) (q0 := 0) rfl rfl rfl hl.1 rfl (Nat.le_of_ble_eq_true rfl) (Nat.zero_le _) (Nat.zero_le _) dX0_receiveAsBackup_30 (fun H locs hw => ?_)
    refine lv_iconst (v := 1) S.1 S.2.1 dX0_receiveAsBackup_33 (by decide) ?_
    refine lv_iadd S.1 S.2.1 dX0_receiveAsBackup_34 ?_
    refine bx_iast S hK hw 12 1 rfl rfl (by omega) (by decide) (wX_s11 cZ cI a σ (4 * g + r) ((skewF σ (lowP σ r g) g) + 1)) dX0_receiveAsBackup_35 (fun H locs hw => ?_)
    refine lv_goto (tgt := 122) S.1 S.2.1 dX0_receiveAsBackup_36 (by decide) ?_
    exact J122 _ _ _ hw (by simp only [recvB, waitB, eq_true c17, ↓reduceIte]) _ (lv_sub hl [2, 3, 4, 5] rfl)

theorem inX0_advertise : ∀ w ∈ u_ws RX0 TX0 18, w ∈ wsX0_advertise := fun _ h => List.mem_cons_of_mem _ (List.mem_append_right _ h)
theorem flX0_advertise_35 : Cond.fieldLink RX0 35 "StandbyPair" "advertisements" "[I" ∈ wsX0_advertise := by decide +kernel
theorem flX0_advertise_13 : Cond.fieldLink RX0 13 "StandbyPair" "joinedPairs" "[Z" ∈ wsX0_advertise := by decide +kernel
theorem flX0_advertise_41 : Cond.fieldLink RX0 41 "StandbyPair" "roles" "[I" ∈ wsX0_advertise := by decide +kernel
set_option maxHeartbeats 4000000 in
set_option maxRecDepth 100000 in
theorem kX0_advertise (l : Launch) (D : va_G) (cZ cI : ClassId) (a : Nat → Nat) (σ : sC) {q g : Nat} (num : Int32) (hq : q < 4) (hg : g < 3) : MV l yX0_advertise wsX0_advertise ({ frames := 4, cells := 0, slots := 0, locals := 94 } : Room) D (tyZ cZ cI) [.ref (a 0), .int (nI q), .int (nI g), .int num] (wX cZ cI a σ) (wX cZ cI a (advF σ q g num)) := by
  refine MV.of (cc := cX0_advertise) (maxL := 6) (by decide) rfl ⟨rfl, rfl⟩ (Nat.le_of_ble_eq_true rfl) ?_
  intro p e s m args below meth c A Q S hK hret ls hl hw
  replace hl : lv_has ls 6 [(0, .ref (a 0)), (1, .int (nI q)), (2, .int (nI g)), (3, .int num)] := hl
  replace S : CallFix p m c cX0_advertise 6 s args wsX0_advertise RX0 := S
  have hin := inX0_advertise
  refine lv_aload_n S.1 S.2.1 dX0_advertise_0 rfl (lv_at hl 0 rfl) ?_
  refine bx_get S hK hin hw.1 0 rfl rfl 8 (by decide) flX0_advertise_35 rfl dX0_advertise_1 ?_
  refine lv_iload_n S.1 S.2.1 dX0_advertise_4 rfl (lv_at hl 2 rfl) ?_
  refine lv_dup2_11 S.1 S.2.1 dX0_advertise_5 rfl rfl ?_
  refine bx_iald (v := σ 8 g) S hK hw.1 9 1 rfl rfl (by omega) (by decide) rfl dX0_advertise_6 ?_
  refine lv_iconst (v := 1) S.1 S.2.1 dX0_advertise_7 (by decide) ?_
  refine lv_iadd S.1 S.2.1 dX0_advertise_8 ?_
  refine bx_iast S hK hw 9 1 rfl rfl (by omega) (by decide) (wX_s8 cZ cI a σ g ((σ 8 g) + 1)) dX0_advertise_9 (fun H locs hw => ?_)
  refine lv_iconst (v := nI 0) S.1 S.2.1 dX0_advertise_10 (by decide) ?_
  refine lv_istore (lv' := [(4, .int (nI 0)), (0, .ref (a 0)), (1, .int (nI q)), (2, .int (nI g)), (3, .int num)]) S.1 S.2.1 dX0_advertise_11 hl (by decide) rfl (fun ls hl => ?_)
  have L13 : ∀ (n i13 : Nat), i13 + n = 4 → ∀ (H : Heap) (locs : List Loc), Wd D A s.heap (wX cZ cI a (itF (advS q g num) (up σ 8 g ((σ 8 g) + 1)) i13)) H locs → ∀ ls : Array Slot, lv_has ls 6 [(0, .ref (a 0)), (1, .int (nI q)), (2, .int (nI g)), (3, .int num), (4, .int (nI i13))] → W p l e ({ frames := 4, cells := 0, slots := 0, locals := 94 } : Room) s m args below meth c H locs 0 0 Q (F0 m 13 ls []) := by
    intro n
    induction n with
    | zero =>
      intro i13 hi H locs hw ls hl
      obtain rfl : i13 = 4 := by omega
      refine lv_iload S.1 S.2.1 dX0_advertise_13 (lv_at hl 4 rfl) ?_
      refine lv_iconst (v := nI 4) S.1 S.2.1 dX0_advertise_15 (by decide) ?_
      refine br_ge (tgt := 91) S dX0_advertise_16 (by decide) (fun c16 => ?_) (fun c16 => ?_)
      · exact hret hw dX0_advertise_91 (congrArg (wX cZ cI a) (rfl))
      · exact absurd c16 (nlt_nI (by decide))
    | succ n ih_13 =>
      intro i13 hi H locs hw ls hl
      have hi13 : i13 < 4 := by omega
      refine lv_iload S.1 S.2.1 dX0_advertise_13 (lv_at hl 4 rfl) ?_
      refine lv_iconst (v := nI 4) S.1 S.2.1 dX0_advertise_15 (by decide) ?_
      refine br_ge (tgt := 91) S dX0_advertise_16 (by decide) (fun c16 => ?_) (fun c16 => ?_)
      · exact absurd c16 (not_not_intro (lt_nI hi13 (by decide)))
      · refine lv_iload S.1 S.2.1 dX0_advertise_19 (lv_at hl 4 rfl) ?_
        refine lv_iload_n S.1 S.2.1 dX0_advertise_21 rfl (lv_at hl 1 rfl) ?_
        refine br_eq (tgt := 85) S dX0_advertise_22 (by decide) (fun c22 => ?_) (fun c22 => ?_)
        · refine lv_iinc (v := nI (i13 + 1)) (lv' := [(4, .int (nI (i13 + 1))), (0, .ref (a 0)), (1, .int (nI q)), (2, .int (nI g)), (3, .int num)]) S.1 S.2.1 dX0_advertise_85 hl (k := 4) rfl (nI_1 i13) (by decide) rfl (fun ls hl => ?_)
          refine lv_goto (tgt := 13) S.1 S.2.1 dX0_advertise_88 (by decide) ?_
          exact ih_13 (i13 + 1) (by omega) _ _ (Wd.cast (congrArg (wX cZ cI a) (by simp only [itF, advS, eq_true c16, eq_true c22, ↓reduceIte])) hw) _ (lv_sub hl [1, 2, 3, 4, 0] rfl)
        · refine lv_aload_n S.1 S.2.1 dX0_advertise_25 rfl (lv_at hl 0 rfl) ?_
          refine bx_get S hK hin hw.1 0 rfl rfl 1 (by decide) flX0_advertise_13 rfl dX0_advertise_26 ?_
          refine lv_iload_n S.1 S.2.1 dX0_advertise_29 rfl (lv_at hl 1 rfl) ?_
          refine lv_iconst (v := 4) S.1 S.2.1 dX0_advertise_30 (by decide) ?_
          refine lv_imul S.1 S.2.1 dX0_advertise_31 ?_
          refine lv_iload S.1 S.2.1 dX0_advertise_32 (lv_at hl 4 rfl) ?_
          refine lv_iadd S.1 S.2.1 dX0_advertise_34 ?_
          refine bx_top (y := nI (4 * q + i13)) (pl_j (by omega) (by omega)) ?_
          refine bx_zald (v := (itF (advS q g num) (up σ 8 g ((σ 8 g) + 1)) i13) 1 (4 * q + i13)) S hK hw.1 2 0 rfl rfl (by omega) (by decide) rfl dX0_advertise_35 ?_
          refine bz_eq (tgt := 85) S dX0_advertise_36 (by decide) (fun c36 => ?_) (fun c36 => ?_)
          · refine lv_iinc (v := nI (i13 + 1)) (lv' := [(4, .int (nI (i13 + 1))), (0, .ref (a 0)), (1, .int (nI q)), (2, .int (nI g)), (3, .int num)]) S.1 S.2.1 dX0_advertise_85 hl (k := 4) rfl (nI_1 i13) (by decide) rfl (fun ls hl => ?_)
            refine lv_goto (tgt := 13) S.1 S.2.1 dX0_advertise_88 (by decide) ?_
            exact ih_13 (i13 + 1) (by omega) _ _ (Wd.cast (congrArg (wX cZ cI a) (by simp only [itF, advS, eq_true c16, eq_false c22, eq_true c36, ↓reduceIte])) hw) _ (lv_sub hl [1, 2, 3, 4, 0] rfl)
          · refine lv_aload_n S.1 S.2.1 dX0_advertise_39 rfl (lv_at hl 0 rfl) ?_
            refine bx_get S hK hin hw.1 0 rfl rfl 10 (by decide) flX0_advertise_41 rfl dX0_advertise_40 ?_
            refine lv_iload S.1 S.2.1 dX0_advertise_43 (lv_at hl 4 rfl) ?_
            refine lv_iload_n S.1 S.2.1 dX0_advertise_45 rfl (lv_at hl 2 rfl) ?_
            refine bc_si (As := [.int (nI i13), .int (nI g)]) (rest := [.ref (a 11)]) S hK hw (kX0_placeOf l D _ (r := i13) (g := g) (by omega) (by omega)) (va_cwS 2 S.2.2.2.2 gX0_advertise_X0_placeOf rfl rfl rfl (by decide +kernel) ⟨Nat.le_of_ble_eq_true rfl, Nat.le_of_ble_eq_true rfl⟩) rfl hl.1 rfl (Nat.le_of_ble_eq_true rfl) (Nat.zero_le _) (Nat.zero_le _) dX0_advertise_46 (fun H locs hw => ?_)
            refine bx_iald (v := (itF (advS q g num) (up σ 8 g ((σ 8 g) + 1)) i13) 10 (4 * g + i13)) S hK hw.1 11 1 rfl rfl (by omega) (by decide) rfl dX0_advertise_49 ?_
            refine lv_istore (lv' := [(5, .int ((itF (advS q g num) (up σ 8 g ((σ 8 g) + 1)) i13) 10 (4 * g + i13))), (0, .ref (a 0)), (1, .int (nI q)), (2, .int (nI g)), (3, .int num), (4, .int (nI i13))]) S.1 S.2.1 dX0_advertise_50 hl (by decide) rfl (fun ls hl => ?_)
            refine lv_iload S.1 S.2.1 dX0_advertise_52 (lv_at hl 0 rfl) ?_
            refine lv_iconst (v := 2) S.1 S.2.1 dX0_advertise_54 (by decide) ?_
            refine br_ne (tgt := 70) S dX0_advertise_55 (by decide) (fun c55 => ?_) (fun c55 => ?_)
            · refine lv_iload S.1 S.2.1 dX0_advertise_70 (lv_at hl 0 rfl) ?_
              refine lv_iconst (v := 1) S.1 S.2.1 dX0_advertise_72 (by decide) ?_
              refine br_ne (tgt := 85) S dX0_advertise_73 (by decide) (fun c73 => ?_) (fun c73 => ?_)
              · refine lv_iinc (v := nI (i13 + 1)) (lv' := [(4, .int (nI (i13 + 1))), (5, .int ((itF (advS q g num) (up σ 8 g ((σ 8 g) + 1)) i13) 10 (4 * g + i13))), (0, .ref (a 0)), (1, .int (nI q)), (2, .int (nI g)), (3, .int num)]) S.1 S.2.1 dX0_advertise_85 hl (k := 5) rfl (nI_1 i13) (by decide) rfl (fun ls hl => ?_)
                refine lv_goto (tgt := 13) S.1 S.2.1 dX0_advertise_88 (by decide) ?_
                exact ih_13 (i13 + 1) (by omega) _ _ (Wd.cast (congrArg (wX cZ cI a) (by simp only [itF, advS, eq_true c16, eq_false c22, eq_false c36, eq_false c55, eq_false c73, ↓reduceIte])) hw) _ (lv_sub hl [2, 3, 4, 5, 0] rfl)
              · refine lv_aload_n S.1 S.2.1 dX0_advertise_76 rfl (lv_at hl 1 rfl) ?_
                refine lv_iload S.1 S.2.1 dX0_advertise_77 (lv_at hl 5 rfl) ?_
                refine lv_iload_n S.1 S.2.1 dX0_advertise_79 rfl (lv_at hl 3 rfl) ?_
                refine lv_iload_n S.1 S.2.1 dX0_advertise_80 rfl (lv_at hl 2 rfl) ?_
                refine lv_iload_n S.1 S.2.1 dX0_advertise_81 rfl (lv_at hl 4 rfl) ?_
                refine bc_vv (As := [.int (nI i13), .int (nI g), .int (nI q), .int num]) (rest := []) S hK hw (kX0_receiveAsBackup l D cZ cI a (itF (advS q g num) (up σ 8 g ((σ 8 g) + 1)) i13) (r := i13) (g := g) (q := q) num (by omega) (by omega) (by omega)) (cwV 4 S.2.2.2.2 gX0_advertise_X0_receiveAsBackup rfl rfl rfl (by decide +kernel) ⟨Nat.le_of_ble_eq_true rfl, Nat.le_of_ble_eq_true rfl⟩) (q0 := 0) rfl rfl rfl hl.1 rfl (Nat.le_of_ble_eq_true rfl) (Nat.zero_le _) (Nat.zero_le _) dX0_advertise_82 (fun H locs hw => ?_)
                refine lv_iinc (v := nI (i13 + 1)) (lv' := [(4, .int (nI (i13 + 1))), (5, .int ((itF (advS q g num) (up σ 8 g ((σ 8 g) + 1)) i13) 10 (4 * g + i13))), (0, .ref (a 0)), (1, .int (nI q)), (2, .int (nI g)), (3, .int num)]) S.1 S.2.1 dX0_advertise_85 hl (k := 5) rfl (nI_1 i13) (by decide) rfl (fun ls hl => ?_)
                refine lv_goto (tgt := 13) S.1 S.2.1 dX0_advertise_88 (by decide) ?_
                exact ih_13 (i13 + 1) (by omega) _ _ (Wd.cast (congrArg (wX cZ cI a) (by simp only [itF, advS, eq_true c16, eq_false c22, eq_false c36, eq_false c55, eq_true c73, ↓reduceIte])) hw) _ (lv_sub hl [2, 3, 4, 5, 0] rfl)
            · refine lv_aload_n S.1 S.2.1 dX0_advertise_58 rfl (lv_at hl 1 rfl) ?_
              refine lv_iload S.1 S.2.1 dX0_advertise_59 (lv_at hl 5 rfl) ?_
              refine lv_iload_n S.1 S.2.1 dX0_advertise_61 rfl (lv_at hl 3 rfl) ?_
              refine lv_iload_n S.1 S.2.1 dX0_advertise_62 rfl (lv_at hl 2 rfl) ?_
              refine lv_iload_n S.1 S.2.1 dX0_advertise_63 rfl (lv_at hl 4 rfl) ?_
              refine bc_vv (As := [.int (nI i13), .int (nI g), .int (nI q), .int num]) (rest := []) S hK hw (kX0_receiveAsMaster l D cZ cI a (itF (advS q g num) (up σ 8 g ((σ 8 g) + 1)) i13) (r := i13) (g := g) (q := q) num (by omega) (by omega) (by omega)) (cwV 4 S.2.2.2.2 gX0_advertise_X0_receiveAsMaster rfl rfl rfl (by decide +kernel) ⟨Nat.le_of_ble_eq_true rfl, Nat.le_of_ble_eq_true rfl⟩) (q0 := 0) rfl rfl rfl hl.1 rfl (Nat.le_of_ble_eq_true rfl) (Nat.zero_le _) (Nat.zero_le _) dX0_advertise_64 (fun H locs hw => ?_)
              refine lv_goto (tgt := 85) S.1 S.2.1 dX0_advertise_67 (by decide) ?_
              refine lv_iinc (v := nI (i13 + 1)) (lv' := [(4, .int (nI (i13 + 1))), (5, .int ((itF (advS q g num) (up σ 8 g ((σ 8 g) + 1)) i13) 10 (4 * g + i13))), (0, .ref (a 0)), (1, .int (nI q)), (2, .int (nI g)), (3, .int num)]) S.1 S.2.1 dX0_advertise_85 hl (k := 5) rfl (nI_1 i13) (by decide) rfl (fun ls hl => ?_)
              refine lv_goto (tgt := 13) S.1 S.2.1 dX0_advertise_88 (by decide) ?_
              exact ih_13 (i13 + 1) (by omega) _ _ (Wd.cast (congrArg (wX cZ cI a) (by simp only [itF, advS, eq_true c16, eq_false c22, eq_false c36, eq_true c55, ↓reduceIte])) hw) _ (lv_sub hl [2, 3, 4, 5, 0] rfl)
  exact L13 (4 - 0) 0 (by omega) _ _ hw _ (lv_sub hl [1, 2, 3, 4, 0] rfl)

theorem inX0_runMasters : ∀ w ∈ u_ws RX0 TX0 18, w ∈ wsX0_runMasters := fun _ h => List.mem_cons_of_mem _ (List.mem_append_right _ h)
theorem flX0_runMasters_41 : Cond.fieldLink RX0 41 "StandbyPair" "roles" "[I" ∈ wsX0_runMasters := by decide +kernel
theorem flX0_runMasters_44 : Cond.fieldLink RX0 44 "StandbyPair" "timers" "[I" ∈ wsX0_runMasters := by decide +kernel
theorem flX0_runMasters_23 : Cond.fieldLink RX0 23 "StandbyPair" "periods" "[I" ∈ wsX0_runMasters := by decide +kernel
set_option maxHeartbeats 4000000 in
set_option maxRecDepth 100000 in
theorem kX0_runMasters (l : Launch) (D : va_G) (cZ cI : ClassId) (a : Nat → Nat) (σ : sC) {g : Nat} (hg : g < 3) : MV l yX0_runMasters wsX0_runMasters ({ frames := 5, cells := 0, slots := 0, locals := 119 } : Room) D (tyZ cZ cI) [.ref (a 0), .int (nI g)] (wX cZ cI a σ) (wX cZ cI a (runM σ g)) := by
  refine MV.of (cc := cX0_runMasters) (maxL := 4) (by decide) rfl ⟨rfl, rfl⟩ (Nat.le_of_ble_eq_true rfl) ?_
  intro p e s m args below meth c A Q S hK hret ls hl hw
  replace hl : lv_has ls 4 [(0, .ref (a 0)), (1, .int (nI g))] := hl
  replace S : CallFix p m c cX0_runMasters 4 s args wsX0_runMasters RX0 := S
  have hin := inX0_runMasters
  refine lv_iconst (v := nI 0) S.1 S.2.1 dX0_runMasters_0 (by decide) ?_
  refine lv_istore_n (lv' := [(2, .int (nI 0)), (0, .ref (a 0)), (1, .int (nI g))]) S.1 S.2.1 dX0_runMasters_1 rfl hl (by decide) rfl (fun ls hl => ?_)
  have L2 : ∀ (n i2 : Nat), i2 + n = 4 → ∀ (H : Heap) (locs : List Loc), Wd D A s.heap (wX cZ cI a (itF (turnM g) σ i2)) H locs → ∀ ls : Array Slot, lv_has ls 4 [(0, .ref (a 0)), (1, .int (nI g)), (2, .int (nI i2))] → W p l e ({ frames := 5, cells := 0, slots := 0, locals := 119 } : Room) s m args below meth c H locs 0 0 Q (F0 m 2 ls []) := by
    intro n
    induction n with
    | zero =>
      intro i2 hi H locs hw ls hl
      obtain rfl : i2 = 4 := by omega
      refine lv_iload_n S.1 S.2.1 dX0_runMasters_2 rfl (lv_at hl 2 rfl) ?_
      refine lv_iconst (v := nI 4) S.1 S.2.1 dX0_runMasters_3 (by decide) ?_
      refine br_ge (tgt := 72) S dX0_runMasters_4 (by decide) (fun c4 => ?_) (fun c4 => ?_)
      · exact hret hw dX0_runMasters_72 (congrArg (wX cZ cI a) (rfl))
      · exact absurd c4 (nlt_nI (by decide))
    | succ n ih_2 =>
      intro i2 hi H locs hw ls hl
      have hi2 : i2 < 4 := by omega
      refine lv_iload_n S.1 S.2.1 dX0_runMasters_2 rfl (lv_at hl 2 rfl) ?_
      refine lv_iconst (v := nI 4) S.1 S.2.1 dX0_runMasters_3 (by decide) ?_
      refine br_ge (tgt := 72) S dX0_runMasters_4 (by decide) (fun c4 => ?_) (fun c4 => ?_)
      · exact absurd c4 (not_not_intro (lt_nI hi2 (by decide)))
      · refine lv_iload_n S.1 S.2.1 dX0_runMasters_7 rfl (lv_at hl 2 rfl) ?_
        refine lv_iload_n S.1 S.2.1 dX0_runMasters_8 rfl (lv_at hl 1 rfl) ?_
        refine bc_si (As := [.int (nI i2), .int (nI g)]) (rest := []) S hK hw (kX0_placeOf l D _ (r := i2) (g := g) (by omega) (by omega)) (va_cwS 2 S.2.2.2.2 gX0_runMasters_X0_placeOf rfl rfl rfl (by decide +kernel) ⟨Nat.le_of_ble_eq_true rfl, Nat.le_of_ble_eq_true rfl⟩) rfl hl.1 rfl (Nat.le_of_ble_eq_true rfl) (Nat.zero_le _) (Nat.zero_le _) dX0_runMasters_9 (fun H locs hw => ?_)
        refine lv_istore_n (lv' := [(3, .int (nI (4 * g + i2))), (0, .ref (a 0)), (1, .int (nI g)), (2, .int (nI i2))]) S.1 S.2.1 dX0_runMasters_12 rfl hl (by decide) rfl (fun ls hl => ?_)
        refine lv_aload_n S.1 S.2.1 dX0_runMasters_13 rfl (lv_at hl 1 rfl) ?_
        refine bx_get S hK hin hw.1 0 rfl rfl 10 (by decide) flX0_runMasters_41 rfl dX0_runMasters_14 ?_
        refine lv_iload_n S.1 S.2.1 dX0_runMasters_17 rfl (lv_at hl 0 rfl) ?_
        refine bx_iald (v := (itF (turnM g) σ i2) 10 (4 * g + i2)) S hK hw.1 11 1 rfl rfl (by omega) (by decide) rfl dX0_runMasters_18 ?_
        refine lv_iconst (v := 2) S.1 S.2.1 dX0_runMasters_19 (by decide) ?_
        refine br_ne (tgt := 66) S dX0_runMasters_20 (by decide) (fun c20 => ?_) (fun c20 => ?_)
        · refine lv_iinc (v := nI (i2 + 1)) (lv' := [(2, .int (nI (i2 + 1))), (3, .int (nI (4 * g + i2))), (0, .ref (a 0)), (1, .int (nI g))]) S.1 S.2.1 dX0_runMasters_66 hl (k := 3) rfl (nI_1 i2) (by decide) rfl (fun ls hl => ?_)
          refine lv_goto (tgt := 2) S.1 S.2.1 dX0_runMasters_69 (by decide) ?_
          exact ih_2 (i2 + 1) (by omega) _ _ (Wd.cast (congrArg (wX cZ cI a) (by simp only [itF, turnM, tick1, sendF, eq_true c4, eq_false c20, ↓reduceIte])) hw) _ (lv_sub hl [2, 3, 0] rfl)
        · refine lv_aload_n S.1 S.2.1 dX0_runMasters_23 rfl (lv_at hl 1 rfl) ?_
          refine bx_get S hK hin hw.1 0 rfl rfl 11 (by decide) flX0_runMasters_44 rfl dX0_runMasters_24 ?_
          refine lv_iload_n S.1 S.2.1 dX0_runMasters_27 rfl (lv_at hl 0 rfl) ?_
          refine lv_dup2_11 S.1 S.2.1 dX0_runMasters_28 rfl rfl ?_
          refine bx_iald (v := (itF (turnM g) σ i2) 11 (4 * g + i2)) S hK hw.1 12 1 rfl rfl (by omega) (by decide) rfl dX0_runMasters_29 ?_
          refine lv_iconst (v := 1) S.1 S.2.1 dX0_runMasters_30 (by decide) ?_
          refine lv_isub S.1 S.2.1 dX0_runMasters_31 ?_
          refine bx_iast S hK hw 12 1 rfl rfl (by omega) (by decide) (wX_s11 cZ cI a (itF (turnM g) σ i2) (4 * g + i2) (((itF (turnM g) σ i2) 11 (4 * g + i2)) - 1)) dX0_runMasters_32 (fun H locs hw => ?_)
          refine lv_aload_n S.1 S.2.1 dX0_runMasters_33 rfl (lv_at hl 1 rfl) ?_
          refine bx_get S hK hin hw.1 0 rfl rfl 11 (by decide) flX0_runMasters_44 rfl dX0_runMasters_34 ?_
          refine lv_iload_n S.1 S.2.1 dX0_runMasters_37 rfl (lv_at hl 0 rfl) ?_
          refine bx_iald (v := (up (itF (turnM g) σ i2) 11 (4 * g + i2) (((itF (turnM g) σ i2) 11 (4 * g + i2)) - 1)) 11 (4 * g + i2)) S hK hw.1 12 1 rfl rfl (by omega) (by decide) rfl dX0_runMasters_38 ?_
          refine bz_ne (tgt := 66) S dX0_runMasters_39 (by decide) (fun c39 => ?_) (fun c39 => ?_)
          · refine lv_iinc (v := nI (i2 + 1)) (lv' := [(2, .int (nI (i2 + 1))), (3, .int (nI (4 * g + i2))), (0, .ref (a 0)), (1, .int (nI g))]) S.1 S.2.1 dX0_runMasters_66 hl (k := 3) rfl (nI_1 i2) (by decide) rfl (fun ls hl => ?_)
            refine lv_goto (tgt := 2) S.1 S.2.1 dX0_runMasters_69 (by decide) ?_
            exact ih_2 (i2 + 1) (by omega) _ _ (Wd.cast (congrArg (wX cZ cI a) (by simp only [itF, turnM, tick1, sendF, eq_true c4, eq_true c20, eq_false c39, ↓reduceIte])) hw) _ (lv_sub hl [2, 3, 0] rfl)
          · refine lv_aload_n S.1 S.2.1 dX0_runMasters_42 rfl (lv_at hl 1 rfl) ?_
            refine lv_iload_n S.1 S.2.1 dX0_runMasters_43 rfl (lv_at hl 3 rfl) ?_
            refine lv_iload_n S.1 S.2.1 dX0_runMasters_44 rfl (lv_at hl 2 rfl) ?_
            refine lv_aload_n S.1 S.2.1 dX0_runMasters_45 rfl (lv_at hl 1 rfl) ?_
            refine lv_iload_n S.1 S.2.1 dX0_runMasters_46 rfl (lv_at hl 3 rfl) ?_
            refine lv_iload_n S.1 S.2.1 dX0_runMasters_47 rfl (lv_at hl 2 rfl) ?_
            refine bc_vi (As := [.int (nI i2), .int (nI g)]) (rest := [.int (nI g), .int (nI i2), .ref (a 0)]) S hK hw (kX0_loweredPriority l D cZ cI a (up (itF (turnM g) σ i2) 11 (4 * g + i2) (((itF (turnM g) σ i2) 11 (4 * g + i2)) - 1)) (r := i2) (g := g) (by omega) (by omega)) (cwV 2 S.2.2.2.2 gX0_runMasters_X0_loweredPriority rfl rfl rfl (by decide +kernel) ⟨Nat.le_of_ble_eq_true rfl, Nat.le_of_ble_eq_true rfl⟩) (q0 := 0) rfl rfl rfl hl.1 rfl (Nat.le_of_ble_eq_true rfl) (Nat.zero_le _) (Nat.zero_le _) dX0_runMasters_48 (fun H locs hw => ?_)
            refine bc_vv (As := [.int (nI i2), .int (nI g), .int (lowP (up (itF (turnM g) σ i2) 11 (4 * g + i2) (((itF (turnM g) σ i2) 11 (4 * g + i2)) - 1)) i2 g)]) (rest := []) S hK hw (kX0_advertise l D cZ cI a (up (itF (turnM g) σ i2) 11 (4 * g + i2) (((itF (turnM g) σ i2) 11 (4 * g + i2)) - 1)) (q := i2) (g := g) (lowP (up (itF (turnM g) σ i2) 11 (4 * g + i2) (((itF (turnM g) σ i2) 11 (4 * g + i2)) - 1)) i2 g) (by omega) (by omega)) (cwV 3 S.2.2.2.2 gX0_runMasters_X0_advertise rfl rfl rfl (by decide +kernel) ⟨Nat.le_of_ble_eq_true rfl, Nat.le_of_ble_eq_true rfl⟩) (q0 := 0) rfl rfl rfl hl.1 rfl (Nat.le_of_ble_eq_true rfl) (Nat.zero_le _) (Nat.zero_le _) dX0_runMasters_51 (fun H locs hw => ?_)
            refine lv_aload_n S.1 S.2.1 dX0_runMasters_54 rfl (lv_at hl 1 rfl) ?_
            refine bx_get S hK hin hw.1 0 rfl rfl 11 (by decide) flX0_runMasters_44 rfl dX0_runMasters_55 ?_
            refine lv_iload_n S.1 S.2.1 dX0_runMasters_58 rfl (lv_at hl 0 rfl) ?_
            refine lv_aload_n S.1 S.2.1 dX0_runMasters_59 rfl (lv_at hl 1 rfl) ?_
            refine bx_get S hK hin hw.1 0 rfl rfl 4 (by decide) flX0_runMasters_23 rfl dX0_runMasters_60 ?_
            refine lv_iload_n S.1 S.2.1 dX0_runMasters_63 rfl (lv_at hl 2 rfl) ?_
            refine bx_iald (v := (advF (up (itF (turnM g) σ i2) 11 (4 * g + i2) (((itF (turnM g) σ i2) 11 (4 * g + i2)) - 1)) i2 g (lowP (up (itF (turnM g) σ i2) 11 (4 * g + i2) (((itF (turnM g) σ i2) 11 (4 * g + i2)) - 1)) i2 g)) 4 g) S hK hw.1 5 1 rfl rfl (by omega) (by decide) rfl dX0_runMasters_64 ?_
            refine bx_iast S hK hw 12 1 rfl rfl (by omega) (by decide) (wX_s11 cZ cI a (advF (up (itF (turnM g) σ i2) 11 (4 * g + i2) (((itF (turnM g) σ i2) 11 (4 * g + i2)) - 1)) i2 g (lowP (up (itF (turnM g) σ i2) 11 (4 * g + i2) (((itF (turnM g) σ i2) 11 (4 * g + i2)) - 1)) i2 g)) (4 * g + i2) ((advF (up (itF (turnM g) σ i2) 11 (4 * g + i2) (((itF (turnM g) σ i2) 11 (4 * g + i2)) - 1)) i2 g (lowP (up (itF (turnM g) σ i2) 11 (4 * g + i2) (((itF (turnM g) σ i2) 11 (4 * g + i2)) - 1)) i2 g)) 4 g)) dX0_runMasters_65 (fun H locs hw => ?_)
            refine lv_iinc (v := nI (i2 + 1)) (lv' := [(2, .int (nI (i2 + 1))), (3, .int (nI (4 * g + i2))), (0, .ref (a 0)), (1, .int (nI g))]) S.1 S.2.1 dX0_runMasters_66 hl (k := 3) rfl (nI_1 i2) (by decide) rfl (fun ls hl => ?_)
            refine lv_goto (tgt := 2) S.1 S.2.1 dX0_runMasters_69 (by decide) ?_
            exact ih_2 (i2 + 1) (by omega) _ _ (Wd.cast (congrArg (wX cZ cI a) (by simp only [itF, turnM, tick1, sendF, eq_true c4, eq_true c20, eq_true c39, ↓reduceIte])) hw) _ (lv_sub hl [2, 3, 0] rfl)
  exact L2 (4 - 0) 0 (by omega) _ _ hw _ (lv_sub hl [1, 2, 0] rfl)

theorem inX0_runBackups : ∀ w ∈ u_ws RX0 TX0 18, w ∈ wsX0_runBackups := fun _ h => List.mem_cons_of_mem _ (List.mem_append_right _ h)
theorem flX0_runBackups_41 : Cond.fieldLink RX0 41 "StandbyPair" "roles" "[I" ∈ wsX0_runBackups := by decide +kernel
theorem flX0_runBackups_44 : Cond.fieldLink RX0 44 "StandbyPair" "timers" "[I" ∈ wsX0_runBackups := by decide +kernel
theorem flX0_runBackups_53 : Cond.fieldLink RX0 53 "StandbyPair" "promotions" "[I" ∈ wsX0_runBackups := by decide +kernel
theorem flX0_runBackups_23 : Cond.fieldLink RX0 23 "StandbyPair" "periods" "[I" ∈ wsX0_runBackups := by decide +kernel
set_option maxHeartbeats 4000000 in
set_option maxRecDepth 100000 in
theorem kX0_runBackups (l : Launch) (D : va_G) (cZ cI : ClassId) (a : Nat → Nat) (σ : sC) {g : Nat} (hg : g < 3) : MV l yX0_runBackups wsX0_runBackups ({ frames := 5, cells := 0, slots := 0, locals := 119 } : Room) D (tyZ cZ cI) [.ref (a 0), .int (nI g)] (wX cZ cI a σ) (wX cZ cI a (runB σ g)) := by
  refine MV.of (cc := cX0_runBackups) (maxL := 4) (by decide) rfl ⟨rfl, rfl⟩ (Nat.le_of_ble_eq_true rfl) ?_
  intro p e s m args below meth c A Q S hK hret ls hl hw
  replace hl : lv_has ls 4 [(0, .ref (a 0)), (1, .int (nI g))] := hl
  replace S : CallFix p m c cX0_runBackups 4 s args wsX0_runBackups RX0 := S
  have hin := inX0_runBackups
  refine lv_iconst (v := nI 0) S.1 S.2.1 dX0_runBackups_0 (by decide) ?_
  refine lv_istore_n (lv' := [(2, .int (nI 0)), (0, .ref (a 0)), (1, .int (nI g))]) S.1 S.2.1 dX0_runBackups_1 rfl hl (by decide) rfl (fun ls hl => ?_)
  have L2 : ∀ (n i2 : Nat), i2 + n = 4 → ∀ (H : Heap) (locs : List Loc), Wd D A s.heap (wX cZ cI a (itF (turnB g) σ i2)) H locs → ∀ ls : Array Slot, lv_has ls 4 [(0, .ref (a 0)), (1, .int (nI g)), (2, .int (nI i2))] → W p l e ({ frames := 5, cells := 0, slots := 0, locals := 119 } : Room) s m args below meth c H locs 0 0 Q (F0 m 2 ls []) := by
    intro n
    induction n with
    | zero =>
      intro i2 hi H locs hw ls hl
      obtain rfl : i2 = 4 := by omega
      refine lv_iload_n S.1 S.2.1 dX0_runBackups_2 rfl (lv_at hl 2 rfl) ?_
      refine lv_iconst (v := nI 4) S.1 S.2.1 dX0_runBackups_3 (by decide) ?_
      refine br_ge (tgt := 89) S dX0_runBackups_4 (by decide) (fun c4 => ?_) (fun c4 => ?_)
      · exact hret hw dX0_runBackups_89 (congrArg (wX cZ cI a) (rfl))
      · exact absurd c4 (nlt_nI (by decide))
    | succ n ih_2 =>
      intro i2 hi H locs hw ls hl
      have hi2 : i2 < 4 := by omega
      refine lv_iload_n S.1 S.2.1 dX0_runBackups_2 rfl (lv_at hl 2 rfl) ?_
      refine lv_iconst (v := nI 4) S.1 S.2.1 dX0_runBackups_3 (by decide) ?_
      refine br_ge (tgt := 89) S dX0_runBackups_4 (by decide) (fun c4 => ?_) (fun c4 => ?_)
      · exact absurd c4 (not_not_intro (lt_nI hi2 (by decide)))
      · refine lv_iload_n S.1 S.2.1 dX0_runBackups_7 rfl (lv_at hl 2 rfl) ?_
        refine lv_iload_n S.1 S.2.1 dX0_runBackups_8 rfl (lv_at hl 1 rfl) ?_
        refine bc_si (As := [.int (nI i2), .int (nI g)]) (rest := []) S hK hw (kX0_placeOf l D _ (r := i2) (g := g) (by omega) (by omega)) (va_cwS 2 S.2.2.2.2 gX0_runBackups_X0_placeOf rfl rfl rfl (by decide +kernel) ⟨Nat.le_of_ble_eq_true rfl, Nat.le_of_ble_eq_true rfl⟩) rfl hl.1 rfl (Nat.le_of_ble_eq_true rfl) (Nat.zero_le _) (Nat.zero_le _) dX0_runBackups_9 (fun H locs hw => ?_)
        refine lv_istore_n (lv' := [(3, .int (nI (4 * g + i2))), (0, .ref (a 0)), (1, .int (nI g)), (2, .int (nI i2))]) S.1 S.2.1 dX0_runBackups_12 rfl hl (by decide) rfl (fun ls hl => ?_)
        refine lv_aload_n S.1 S.2.1 dX0_runBackups_13 rfl (lv_at hl 1 rfl) ?_
        refine bx_get S hK hin hw.1 0 rfl rfl 10 (by decide) flX0_runBackups_41 rfl dX0_runBackups_14 ?_
        refine lv_iload_n S.1 S.2.1 dX0_runBackups_17 rfl (lv_at hl 0 rfl) ?_
        refine bx_iald (v := (itF (turnB g) σ i2) 10 (4 * g + i2)) S hK hw.1 11 1 rfl rfl (by omega) (by decide) rfl dX0_runBackups_18 ?_
        refine lv_iconst (v := 1) S.1 S.2.1 dX0_runBackups_19 (by decide) ?_
        refine br_ne (tgt := 83) S dX0_runBackups_20 (by decide) (fun c20 => ?_) (fun c20 => ?_)
        · refine lv_iinc (v := nI (i2 + 1)) (lv' := [(2, .int (nI (i2 + 1))), (3, .int (nI (4 * g + i2))), (0, .ref (a 0)), (1, .int (nI g))]) S.1 S.2.1 dX0_runBackups_83 hl (k := 3) rfl (nI_1 i2) (by decide) rfl (fun ls hl => ?_)
          refine lv_goto (tgt := 2) S.1 S.2.1 dX0_runBackups_86 (by decide) ?_
          exact ih_2 (i2 + 1) (by omega) _ _ (Wd.cast (congrArg (wX cZ cI a) (by simp only [itF, turnB, tick1, sendF, riseF, eq_true c4, eq_false c20, ↓reduceIte])) hw) _ (lv_sub hl [2, 3, 0] rfl)
        · refine lv_aload_n S.1 S.2.1 dX0_runBackups_23 rfl (lv_at hl 1 rfl) ?_
          refine bx_get S hK hin hw.1 0 rfl rfl 11 (by decide) flX0_runBackups_44 rfl dX0_runBackups_24 ?_
          refine lv_iload_n S.1 S.2.1 dX0_runBackups_27 rfl (lv_at hl 0 rfl) ?_
          refine lv_dup2_11 S.1 S.2.1 dX0_runBackups_28 rfl rfl ?_
          refine bx_iald (v := (itF (turnB g) σ i2) 11 (4 * g + i2)) S hK hw.1 12 1 rfl rfl (by omega) (by decide) rfl dX0_runBackups_29 ?_
          refine lv_iconst (v := 1) S.1 S.2.1 dX0_runBackups_30 (by decide) ?_
          refine lv_isub S.1 S.2.1 dX0_runBackups_31 ?_
          refine bx_iast S hK hw 12 1 rfl rfl (by omega) (by decide) (wX_s11 cZ cI a (itF (turnB g) σ i2) (4 * g + i2) (((itF (turnB g) σ i2) 11 (4 * g + i2)) - 1)) dX0_runBackups_32 (fun H locs hw => ?_)
          refine lv_aload_n S.1 S.2.1 dX0_runBackups_33 rfl (lv_at hl 1 rfl) ?_
          refine bx_get S hK hin hw.1 0 rfl rfl 11 (by decide) flX0_runBackups_44 rfl dX0_runBackups_34 ?_
          refine lv_iload_n S.1 S.2.1 dX0_runBackups_37 rfl (lv_at hl 0 rfl) ?_
          refine bx_iald (v := (up (itF (turnB g) σ i2) 11 (4 * g + i2) (((itF (turnB g) σ i2) 11 (4 * g + i2)) - 1)) 11 (4 * g + i2)) S hK hw.1 12 1 rfl rfl (by omega) (by decide) rfl dX0_runBackups_38 ?_
          refine bz_ne (tgt := 83) S dX0_runBackups_39 (by decide) (fun c39 => ?_) (fun c39 => ?_)
          · refine lv_iinc (v := nI (i2 + 1)) (lv' := [(2, .int (nI (i2 + 1))), (3, .int (nI (4 * g + i2))), (0, .ref (a 0)), (1, .int (nI g))]) S.1 S.2.1 dX0_runBackups_83 hl (k := 3) rfl (nI_1 i2) (by decide) rfl (fun ls hl => ?_)
            refine lv_goto (tgt := 2) S.1 S.2.1 dX0_runBackups_86 (by decide) ?_
            exact ih_2 (i2 + 1) (by omega) _ _ (Wd.cast (congrArg (wX cZ cI a) (by simp only [itF, turnB, tick1, sendF, riseF, eq_true c4, eq_true c20, eq_false c39, ↓reduceIte])) hw) _ (lv_sub hl [2, 3, 0] rfl)
          · refine lv_aload_n S.1 S.2.1 dX0_runBackups_42 rfl (lv_at hl 1 rfl) ?_
            refine bx_get S hK hin hw.1 0 rfl rfl 10 (by decide) flX0_runBackups_41 rfl dX0_runBackups_43 ?_
            refine lv_iload_n S.1 S.2.1 dX0_runBackups_46 rfl (lv_at hl 0 rfl) ?_
            refine lv_iconst (v := 2) S.1 S.2.1 dX0_runBackups_47 (by decide) ?_
            refine bx_iast S hK hw 11 1 rfl rfl (by omega) (by decide) (wX_s10 cZ cI a (up (itF (turnB g) σ i2) 11 (4 * g + i2) (((itF (turnB g) σ i2) 11 (4 * g + i2)) - 1)) (4 * g + i2) 2) dX0_runBackups_48 (fun H locs hw => ?_)
            refine lv_aload_n S.1 S.2.1 dX0_runBackups_49 rfl (lv_at hl 1 rfl) ?_
            refine bx_get S hK hin hw.1 0 rfl rfl 14 (by decide) flX0_runBackups_53 rfl dX0_runBackups_50 ?_
            refine lv_iload_n S.1 S.2.1 dX0_runBackups_53 rfl (lv_at hl 0 rfl) ?_
            refine lv_dup2_11 S.1 S.2.1 dX0_runBackups_54 rfl rfl ?_
            refine bx_iald (v := (up (up (itF (turnB g) σ i2) 11 (4 * g + i2) (((itF (turnB g) σ i2) 11 (4 * g + i2)) - 1)) 10 (4 * g + i2) 2) 14 (4 * g + i2)) S hK hw.1 15 1 rfl rfl (by omega) (by decide) rfl dX0_runBackups_55 ?_
            refine lv_iconst (v := 1) S.1 S.2.1 dX0_runBackups_56 (by decide) ?_
            refine lv_iadd S.1 S.2.1 dX0_runBackups_57 ?_
            refine bx_iast S hK hw 15 1 rfl rfl (by omega) (by decide) (wX_s14 cZ cI a (up (up (itF (turnB g) σ i2) 11 (4 * g + i2) (((itF (turnB g) σ i2) 11 (4 * g + i2)) - 1)) 10 (4 * g + i2) 2) (4 * g + i2) (((up (up (itF (turnB g) σ i2) 11 (4 * g + i2) (((itF (turnB g) σ i2) 11 (4 * g + i2)) - 1)) 10 (4 * g + i2) 2) 14 (4 * g + i2)) + 1)) dX0_runBackups_58 (fun H locs hw => ?_)
            refine lv_aload_n S.1 S.2.1 dX0_runBackups_59 rfl (lv_at hl 1 rfl) ?_
            refine lv_iload_n S.1 S.2.1 dX0_runBackups_60 rfl (lv_at hl 3 rfl) ?_
            refine lv_iload_n S.1 S.2.1 dX0_runBackups_61 rfl (lv_at hl 2 rfl) ?_
            refine lv_aload_n S.1 S.2.1 dX0_runBackups_62 rfl (lv_at hl 1 rfl) ?_
            refine lv_iload_n S.1 S.2.1 dX0_runBackups_63 rfl (lv_at hl 3 rfl) ?_
            refine lv_iload_n S.1 S.2.1 dX0_runBackups_64 rfl (lv_at hl 2 rfl) ?_
            refine bc_vi (As := [.int (nI i2), .int (nI g)]) (rest := [.int (nI g), .int (nI i2), .ref (a 0)]) S hK hw (kX0_loweredPriority l D cZ cI a (up (up (up (itF (turnB g) σ i2) 11 (4 * g + i2) (((itF (turnB g) σ i2) 11 (4 * g + i2)) - 1)) 10 (4 * g + i2) 2) 14 (4 * g + i2) (((up (up (itF (turnB g) σ i2) 11 (4 * g + i2) (((itF (turnB g) σ i2) 11 (4 * g + i2)) - 1)) 10 (4 * g + i2) 2) 14 (4 * g + i2)) + 1)) (r := i2) (g := g) (by omega) (by omega)) (cwV 2 S.2.2.2.2 gX0_runBackups_X0_loweredPriority rfl rfl rfl (by decide +kernel) ⟨Nat.le_of_ble_eq_true rfl, Nat.le_of_ble_eq_true rfl⟩) (q0 := 0) rfl rfl rfl hl.1 rfl (Nat.le_of_ble_eq_true rfl) (Nat.zero_le _) (Nat.zero_le _) dX0_runBackups_65 (fun H locs hw => ?_)
            refine bc_vv (As := [.int (nI i2), .int (nI g), .int (lowP (up (up (up (itF (turnB g) σ i2) 11 (4 * g + i2) (((itF (turnB g) σ i2) 11 (4 * g + i2)) - 1)) 10 (4 * g + i2) 2) 14 (4 * g + i2) (((up (up (itF (turnB g) σ i2) 11 (4 * g + i2) (((itF (turnB g) σ i2) 11 (4 * g + i2)) - 1)) 10 (4 * g + i2) 2) 14 (4 * g + i2)) + 1)) i2 g)]) (rest := []) S hK hw (kX0_advertise l D cZ cI a (up (up (up (itF (turnB g) σ i2) 11 (4 * g + i2) (((itF (turnB g) σ i2) 11 (4 * g + i2)) - 1)) 10 (4 * g + i2) 2) 14 (4 * g + i2) (((up (up (itF (turnB g) σ i2) 11 (4 * g + i2) (((itF (turnB g) σ i2) 11 (4 * g + i2)) - 1)) 10 (4 * g + i2) 2) 14 (4 * g + i2)) + 1)) (q := i2) (g := g) (lowP (up (up (up (itF (turnB g) σ i2) 11 (4 * g + i2) (((itF (turnB g) σ i2) 11 (4 * g + i2)) - 1)) 10 (4 * g + i2) 2) 14 (4 * g + i2) (((up (up (itF (turnB g) σ i2) 11 (4 * g + i2) (((itF (turnB g) σ i2) 11 (4 * g + i2)) - 1)) 10 (4 * g + i2) 2) 14 (4 * g + i2)) + 1)) i2 g) (by omega) (by omega)) (cwV 3 S.2.2.2.2 gX0_runBackups_X0_advertise rfl rfl rfl (by decide +kernel) ⟨Nat.le_of_ble_eq_true rfl, Nat.le_of_ble_eq_true rfl⟩) (q0 := 0) rfl rfl rfl hl.1 rfl (Nat.le_of_ble_eq_true rfl) (Nat.zero_le _) (Nat.zero_le _) dX0_runBackups_68 (fun H locs hw => ?_)
            refine lv_aload_n S.1 S.2.1 dX0_runBackups_71 rfl (lv_at hl 1 rfl) ?_
            refine bx_get S hK hin hw.1 0 rfl rfl 11 (by decide) flX0_runBackups_44 rfl dX0_runBackups_72 ?_
            refine lv_iload_n S.1 S.2.1 dX0_runBackups_75 rfl (lv_at hl 0 rfl) ?_
            refine lv_aload_n S.1 S.2.1 dX0_runBackups_76 rfl (lv_at hl 1 rfl) ?_
            refine bx_get S hK hin hw.1 0 rfl rfl 4 (by decide) flX0_runBackups_23 rfl dX0_runBackups_77 ?_
            refine lv_iload_n S.1 S.2.1 dX0_runBackups_80 rfl (lv_at hl 2 rfl) ?_
            refine bx_iald (v := (advF (up (up (up (itF (turnB g) σ i2) 11 (4 * g + i2) (((itF (turnB g) σ i2) 11 (4 * g + i2)) - 1)) 10 (4 * g + i2) 2) 14 (4 * g + i2) (((up (up (itF (turnB g) σ i2) 11 (4 * g + i2) (((itF (turnB g) σ i2) 11 (4 * g + i2)) - 1)) 10 (4 * g + i2) 2) 14 (4 * g + i2)) + 1)) i2 g (lowP (up (up (up (itF (turnB g) σ i2) 11 (4 * g + i2) (((itF (turnB g) σ i2) 11 (4 * g + i2)) - 1)) 10 (4 * g + i2) 2) 14 (4 * g + i2) (((up (up (itF (turnB g) σ i2) 11 (4 * g + i2) (((itF (turnB g) σ i2) 11 (4 * g + i2)) - 1)) 10 (4 * g + i2) 2) 14 (4 * g + i2)) + 1)) i2 g)) 4 g) S hK hw.1 5 1 rfl rfl (by omega) (by decide) rfl dX0_runBackups_81 ?_
            refine bx_iast S hK hw 12 1 rfl rfl (by omega) (by decide) (wX_s11 cZ cI a (advF (up (up (up (itF (turnB g) σ i2) 11 (4 * g + i2) (((itF (turnB g) σ i2) 11 (4 * g + i2)) - 1)) 10 (4 * g + i2) 2) 14 (4 * g + i2) (((up (up (itF (turnB g) σ i2) 11 (4 * g + i2) (((itF (turnB g) σ i2) 11 (4 * g + i2)) - 1)) 10 (4 * g + i2) 2) 14 (4 * g + i2)) + 1)) i2 g (lowP (up (up (up (itF (turnB g) σ i2) 11 (4 * g + i2) (((itF (turnB g) σ i2) 11 (4 * g + i2)) - 1)) 10 (4 * g + i2) 2) 14 (4 * g + i2) (((up (up (itF (turnB g) σ i2) 11 (4 * g + i2) (((itF (turnB g) σ i2) 11 (4 * g + i2)) - 1)) 10 (4 * g + i2) 2) 14 (4 * g + i2)) + 1)) i2 g)) (4 * g + i2) ((advF (up (up (up (itF (turnB g) σ i2) 11 (4 * g + i2) (((itF (turnB g) σ i2) 11 (4 * g + i2)) - 1)) 10 (4 * g + i2) 2) 14 (4 * g + i2) (((up (up (itF (turnB g) σ i2) 11 (4 * g + i2) (((itF (turnB g) σ i2) 11 (4 * g + i2)) - 1)) 10 (4 * g + i2) 2) 14 (4 * g + i2)) + 1)) i2 g (lowP (up (up (up (itF (turnB g) σ i2) 11 (4 * g + i2) (((itF (turnB g) σ i2) 11 (4 * g + i2)) - 1)) 10 (4 * g + i2) 2) 14 (4 * g + i2) (((up (up (itF (turnB g) σ i2) 11 (4 * g + i2) (((itF (turnB g) σ i2) 11 (4 * g + i2)) - 1)) 10 (4 * g + i2) 2) 14 (4 * g + i2)) + 1)) i2 g)) 4 g)) dX0_runBackups_82 (fun H locs hw => ?_)
            refine lv_iinc (v := nI (i2 + 1)) (lv' := [(2, .int (nI (i2 + 1))), (3, .int (nI (4 * g + i2))), (0, .ref (a 0)), (1, .int (nI g))]) S.1 S.2.1 dX0_runBackups_83 hl (k := 3) rfl (nI_1 i2) (by decide) rfl (fun ls hl => ?_)
            refine lv_goto (tgt := 2) S.1 S.2.1 dX0_runBackups_86 (by decide) ?_
            exact ih_2 (i2 + 1) (by omega) _ _ (Wd.cast (congrArg (wX cZ cI a) (by simp only [itF, turnB, tick1, sendF, riseF, eq_true c4, eq_true c20, eq_true c39, ↓reduceIte])) hw) _ (lv_sub hl [2, 3, 0] rfl)
  exact L2 (4 - 0) 0 (by omega) _ _ hw _ (lv_sub hl [1, 2, 0] rfl)

theorem inX0_membersWith : ∀ w ∈ u_ws RX0 TX0 18, w ∈ wsX0_membersWith := fun _ h => List.mem_cons_of_mem _ (List.mem_append_right _ h)
theorem flX0_membersWith_41 : Cond.fieldLink RX0 41 "StandbyPair" "roles" "[I" ∈ wsX0_membersWith := by decide +kernel
set_option maxHeartbeats 4000000 in
set_option maxRecDepth 100000 in
theorem kX0_membersWith (l : Launch) (D : va_G) (cZ cI : ClassId) (a : Nat → Nat) (σ : sC) (role : Int32) {g : Nat} (hg : g < 3) : MI l yX0_membersWith wsX0_membersWith ({ frames := 1, cells := 0, slots := 0, locals := 21 } : Room) D (tyZ cZ cI) [.ref (a 0), .int role, .int (nI g)] (wX cZ cI a σ) (memW σ role g) (wX cZ cI a σ) := by
  refine MI.of (cc := cX0_membersWith) (maxL := 5) (ty := .int) (by decide) rfl (rfl) ⟨rfl, rfl⟩ (Nat.le_of_ble_eq_true rfl) ?_
  intro p e s m args below meth c A Q S hK hret ls hl hw
  replace hl : lv_has ls 5 [(0, .ref (a 0)), (1, .int role), (2, .int (nI g))] := hl
  replace S : CallFix p m c cX0_membersWith 5 s args wsX0_membersWith RX0 := S
  have hin := inX0_membersWith
  refine lv_iconst (v := 0) S.1 S.2.1 dX0_membersWith_0 (by decide) ?_
  refine lv_istore_n (lv' := [(3, .int 0), (0, .ref (a 0)), (1, .int role), (2, .int (nI g))]) S.1 S.2.1 dX0_membersWith_1 rfl hl (by decide) rfl (fun ls hl => ?_)
  refine lv_iconst (v := nI 0) S.1 S.2.1 dX0_membersWith_2 (by decide) ?_
  refine lv_istore (lv' := [(4, .int (nI 0)), (3, .int 0), (0, .ref (a 0)), (1, .int role), (2, .int (nI g))]) S.1 S.2.1 dX0_membersWith_3 hl (by decide) rfl (fun ls hl => ?_)
  have L5 : ∀ (n i5 : Nat), i5 + n = 4 → ∀ (H : Heap) (locs : List Loc), Wd D A s.heap (wX cZ cI a σ) H locs → ∀ ls : Array Slot, lv_has ls 5 [(0, .ref (a 0)), (1, .int role), (2, .int (nI g)), (3, .int (itF (memS σ role g) 0 i5)), (4, .int (nI i5))] → W p l e ({ frames := 1, cells := 0, slots := 0, locals := 21 } : Room) s m args below meth c H locs 0 0 Q (F0 m 5 ls []) := by
    intro n
    induction n with
    | zero =>
      intro i5 hi H locs hw ls hl
      obtain rfl : i5 = 4 := by omega
      refine lv_iload S.1 S.2.1 dX0_membersWith_5 (lv_at hl 4 rfl) ?_
      refine lv_iconst (v := nI 4) S.1 S.2.1 dX0_membersWith_7 (by decide) ?_
      refine br_ge (tgt := 39) S dX0_membersWith_8 (by decide) (fun c8 => ?_) (fun c8 => ?_)
      · refine lv_iload_n S.1 S.2.1 dX0_membersWith_39 rfl (lv_at hl 3 rfl) ?_
        exact hret hw dX0_membersWith_40 (rfl) (congrArg (wX cZ cI a) (rfl))
      · exact absurd c8 (nlt_nI (by decide))
    | succ n ih_5 =>
      intro i5 hi H locs hw ls hl
      have hi5 : i5 < 4 := by omega
      refine lv_iload S.1 S.2.1 dX0_membersWith_5 (lv_at hl 4 rfl) ?_
      refine lv_iconst (v := nI 4) S.1 S.2.1 dX0_membersWith_7 (by decide) ?_
      refine br_ge (tgt := 39) S dX0_membersWith_8 (by decide) (fun c8 => ?_) (fun c8 => ?_)
      · exact absurd c8 (not_not_intro (lt_nI hi5 (by decide)))
      · refine lv_aload_n S.1 S.2.1 dX0_membersWith_11 rfl (lv_at hl 0 rfl) ?_
        refine bx_get S hK hin hw.1 0 rfl rfl 10 (by decide) flX0_membersWith_41 rfl dX0_membersWith_12 ?_
        refine lv_iload S.1 S.2.1 dX0_membersWith_15 (lv_at hl 4 rfl) ?_
        refine lv_iload_n S.1 S.2.1 dX0_membersWith_17 rfl (lv_at hl 2 rfl) ?_
        refine bc_si (As := [.int (nI i5), .int (nI g)]) (rest := [.ref (a 11)]) S hK hw (kX0_placeOf l D _ (r := i5) (g := g) (by omega) (by omega)) (va_cwS 2 S.2.2.2.2 gX0_membersWith_X0_placeOf rfl rfl rfl (by decide +kernel) ⟨Nat.le_of_ble_eq_true rfl, Nat.le_of_ble_eq_true rfl⟩) rfl hl.1 rfl (Nat.le_of_ble_eq_true rfl) (Nat.zero_le _) (Nat.zero_le _) dX0_membersWith_18 (fun H locs hw => ?_)
        refine bx_iald (v := σ 10 (4 * g + i5)) S hK hw.1 11 1 rfl rfl (by omega) (by decide) rfl dX0_membersWith_21 ?_
        refine lv_iload_n S.1 S.2.1 dX0_membersWith_22 rfl (lv_at hl 1 rfl) ?_
        refine br_ne (tgt := 33) S dX0_membersWith_23 (by decide) (fun c23 => ?_) (fun c23 => ?_)
        · refine lv_iinc (v := nI (i5 + 1)) (lv' := [(4, .int (nI (i5 + 1))), (0, .ref (a 0)), (1, .int role), (2, .int (nI g)), (3, .int (itF (memS σ role g) 0 i5))]) S.1 S.2.1 dX0_membersWith_33 hl (k := 4) rfl (nI_1 i5) (by decide) rfl (fun ls hl => ?_)
          refine lv_goto (tgt := 5) S.1 S.2.1 dX0_membersWith_36 (by decide) ?_
          have ea : itF (memS σ role g) 0 (i5 + 1) = itF (memS σ role g) 0 i5 := by simp only [itF, memS, eq_true c8, eq_false c23, ↓reduceIte]
          exact ih_5 (i5 + 1) (by omega) _ _ hw _ (by rw [ea]; exact lv_sub hl [1, 2, 3, 4, 0] rfl)
        · refine lv_iload_n S.1 S.2.1 dX0_membersWith_26 rfl (lv_at hl 3 rfl) ?_
          refine lv_iconst (v := (1 : Int32)) S.1 S.2.1 dX0_membersWith_27 (by decide) ?_
          refine lv_iload S.1 S.2.1 dX0_membersWith_28 (lv_at hl 4 rfl) ?_
          refine lv_ishl S.1 S.2.1 dX0_membersWith_30 ?_
          refine lv_iadd S.1 S.2.1 dX0_membersWith_31 ?_
          refine lv_istore_n (lv' := [(3, .int ((itF (memS σ role g) 0 i5) + ((1 : Int32) <<< ((nI i5) &&& 31)))), (0, .ref (a 0)), (1, .int role), (2, .int (nI g)), (4, .int (nI i5))]) S.1 S.2.1 dX0_membersWith_32 rfl hl (by decide) rfl (fun ls hl => ?_)
          refine lv_iinc (v := nI (i5 + 1)) (lv' := [(4, .int (nI (i5 + 1))), (3, .int ((itF (memS σ role g) 0 i5) + ((1 : Int32) <<< ((nI i5) &&& 31)))), (0, .ref (a 0)), (1, .int role), (2, .int (nI g))]) S.1 S.2.1 dX0_membersWith_33 hl (k := 4) rfl (nI_1 i5) (by decide) rfl (fun ls hl => ?_)
          refine lv_goto (tgt := 5) S.1 S.2.1 dX0_membersWith_36 (by decide) ?_
          have ea : itF (memS σ role g) 0 (i5 + 1) = (itF (memS σ role g) 0 i5) + ((1 : Int32) <<< ((nI i5) &&& 31)) := by simp only [itF, memS, eq_true c8, eq_true c23, ↓reduceIte]
          exact ih_5 (i5 + 1) (by omega) _ _ hw _ (by rw [ea]; exact lv_sub hl [2, 3, 4, 1, 0] rfl)
  exact L5 (4 - 0) 0 (by omega) _ _ hw _ (lv_sub hl [2, 3, 4, 1, 0] rfl)

theorem inX0_noteGap : ∀ w ∈ u_ws RX0 TX0 18, w ∈ wsX0_noteGap := fun _ h => List.mem_cons_of_mem _ (List.mem_append_right _ h)
theorem flX0_noteGap_32 : Cond.fieldLink RX0 32 "StandbyPair" "gapTicks" "[I" ∈ wsX0_noteGap := by decide +kernel
set_option maxHeartbeats 4000000 in
set_option maxRecDepth 100000 in
theorem kX0_noteGap (l : Launch) (D : va_G) (cZ cI : ClassId) (a : Nat → Nat) (σ : sC) {g : Nat} (hg : g < 3) : MV l yX0_noteGap wsX0_noteGap ({ frames := 2, cells := 0, slots := 0, locals := 45 } : Room) D (tyZ cZ cI) [.ref (a 0), .int (nI g)] (wX cZ cI a σ) (wX cZ cI a (gapF σ g)) := by
  refine MV.of (cc := cX0_noteGap) (maxL := 2) (by decide) rfl ⟨rfl, rfl⟩ (Nat.le_of_ble_eq_true rfl) ?_
  intro p e s m args below meth c A Q S hK hret ls hl hw
  replace hl : lv_has ls 2 [(0, .ref (a 0)), (1, .int (nI g))] := hl
  replace S : CallFix p m c cX0_noteGap 2 s args wsX0_noteGap RX0 := S
  have hin := inX0_noteGap
  refine lv_aload_n S.1 S.2.1 dX0_noteGap_0 rfl (lv_at hl 0 rfl) ?_
  refine lv_iconst (v := 2) S.1 S.2.1 dX0_noteGap_1 (by decide) ?_
  refine lv_iload_n S.1 S.2.1 dX0_noteGap_2 rfl (lv_at hl 1 rfl) ?_
  refine bc_vi (As := [.int 2, .int (nI g)]) (rest := []) S hK hw (kX0_membersWith l D cZ cI a σ 2 (g := g) (by omega)) (cwV 2 S.2.2.2.2 gX0_noteGap_X0_membersWith rfl rfl rfl (by decide +kernel) ⟨Nat.le_of_ble_eq_true rfl, Nat.le_of_ble_eq_true rfl⟩) (q0 := 0) rfl rfl rfl hl.1 rfl (Nat.le_of_ble_eq_true rfl) (Nat.zero_le _) (Nat.zero_le _) dX0_noteGap_3 (fun H locs hw => ?_)
  refine bz_ne (tgt := 19) S dX0_noteGap_6 (by decide) (fun c6 => ?_) (fun c6 => ?_)
  · exact hret hw dX0_noteGap_19 (congrArg (wX cZ cI a) (by simp only [gapF, eq_false c6, ↓reduceIte]))
  · refine lv_aload_n S.1 S.2.1 dX0_noteGap_9 rfl (lv_at hl 0 rfl) ?_
    refine bx_get S hK hin hw.1 0 rfl rfl 7 (by decide) flX0_noteGap_32 rfl dX0_noteGap_10 ?_
    refine lv_iload_n S.1 S.2.1 dX0_noteGap_13 rfl (lv_at hl 1 rfl) ?_
    refine lv_dup2_11 S.1 S.2.1 dX0_noteGap_14 rfl rfl ?_
    refine bx_iald (v := σ 7 g) S hK hw.1 8 1 rfl rfl (by omega) (by decide) rfl dX0_noteGap_15 ?_
    refine lv_iconst (v := 1) S.1 S.2.1 dX0_noteGap_16 (by decide) ?_
    refine lv_iadd S.1 S.2.1 dX0_noteGap_17 ?_
    refine bx_iast S hK hw 8 1 rfl rfl (by omega) (by decide) (wX_s7 cZ cI a σ g ((σ 7 g) + 1)) dX0_noteGap_18 (fun H locs hw => ?_)
    exact hret hw dX0_noteGap_19 (congrArg (wX cZ cI a) (by simp only [gapF, eq_true c6, ↓reduceIte]))
end
section
set_option maxHeartbeats 4000000 in
set_option maxRecDepth 100000 in
theorem kX0_checkRouter (l : Launch) (D : va_G) (tys : List (ClassId × FieldType)) {r : Nat} (h : r < 4) : MV l yX0_checkRouter wsX0_checkRouter ({ frames := 0, cells := 0, slots := 0, locals := 0 } : Room) D tys [.int (nI r)] [] [] := by
  refine MV.of (cc := cX0_checkRouter) (maxL := 1) (by decide) rfl ⟨rfl, rfl⟩ (Nat.le_of_ble_eq_true rfl) ?_
  intro p e s m args below meth c A Q S hK hret ls hl hw
  replace hl : lv_has ls 1 [(0, .int (nI r))] := hl
  replace S : CallFix p m c cX0_checkRouter 1 s args wsX0_checkRouter RX0 := S
  refine lv_iload_n S.1 S.2.1 dX0_checkRouter_0 rfl (lv_at hl 0 rfl) ?_
  refine bz_lt (tgt := 9) S dX0_checkRouter_1 (by decide) (fun c1 => ?_) (fun c1 => ?_)
  · exact absurd c1 (nI_pos (by omega))
  · refine lv_iload_n S.1 S.2.1 dX0_checkRouter_4 rfl (lv_at hl 0 rfl) ?_
    refine lv_iconst (v := nI 4) S.1 S.2.1 dX0_checkRouter_5 (by decide) ?_
    refine br_lt (tgt := 19) S dX0_checkRouter_6 (by decide) (fun c6 => ?_) (fun c6 => ?_)
    · exact hret hw dX0_checkRouter_19 rfl
    · exact absurd c6 (not_not_intro (lt_nI h (by decide)))
set_option maxHeartbeats 4000000 in
set_option maxRecDepth 100000 in
theorem kX0_checkGroup (l : Launch) (D : va_G) (tys : List (ClassId × FieldType)) {g : Nat} (h : g < 3) : MV l yX0_checkGroup wsX0_checkGroup ({ frames := 0, cells := 0, slots := 0, locals := 0 } : Room) D tys [.int (nI g)] [] [] := by
  refine MV.of (cc := cX0_checkGroup) (maxL := 1) (by decide) rfl ⟨rfl, rfl⟩ (Nat.le_of_ble_eq_true rfl) ?_
  intro p e s m args below meth c A Q S hK hret ls hl hw
  replace hl : lv_has ls 1 [(0, .int (nI g))] := hl
  replace S : CallFix p m c cX0_checkGroup 1 s args wsX0_checkGroup RX0 := S
  refine lv_iload_n S.1 S.2.1 dX0_checkGroup_0 rfl (lv_at hl 0 rfl) ?_
  refine bz_lt (tgt := 9) S dX0_checkGroup_1 (by decide) (fun c1 => ?_) (fun c1 => ?_)
  · exact absurd c1 (nI_pos (by omega))
  · refine lv_iload_n S.1 S.2.1 dX0_checkGroup_4 rfl (lv_at hl 0 rfl) ?_
    refine lv_iconst (v := nI 3) S.1 S.2.1 dX0_checkGroup_5 (by decide) ?_
    refine br_lt (tgt := 19) S dX0_checkGroup_6 (by decide) (fun c6 => ?_) (fun c6 => ?_)
    · exact hret hw dX0_checkGroup_19 rfl
    · exact absurd c6 (not_not_intro (lt_nI h (by decide)))
set_option maxHeartbeats 4000000 in
set_option maxRecDepth 100000 in
theorem kX0_checkRange (l : Launch) (D : va_G) (tys : List (ClassId × FieldType)) (v lo hi : Int32) (h1 : ¬ v < lo) (h2 : ¬ hi < v) : MV l yX0_checkRange wsX0_checkRange ({ frames := 0, cells := 0, slots := 0, locals := 0 } : Room) D tys [.int v, .int lo, .int hi] [] [] := by
  refine MV.of (cc := cX0_checkRange) (maxL := 3) (by decide) rfl ⟨rfl, rfl⟩ (Nat.le_of_ble_eq_true rfl) ?_
  intro p e s m args below meth c A Q S hK hret ls hl hw
  replace hl : lv_has ls 3 [(0, .int v), (1, .int lo), (2, .int hi)] := hl
  replace S : CallFix p m c cX0_checkRange 3 s args wsX0_checkRange RX0 := S
  refine lv_iload_n S.1 S.2.1 dX0_checkRange_0 rfl (lv_at hl 0 rfl) ?_
  refine lv_iload_n S.1 S.2.1 dX0_checkRange_1 rfl (lv_at hl 1 rfl) ?_
  refine br_lt (tgt := 10) S dX0_checkRange_2 (by decide) (fun c2 => ?_) (fun c2 => ?_)
  · exact absurd c2 h1
  · refine lv_iload_n S.1 S.2.1 dX0_checkRange_5 rfl (lv_at hl 0 rfl) ?_
    refine lv_iload_n S.1 S.2.1 dX0_checkRange_6 rfl (lv_at hl 2 rfl) ?_
    refine br_le (tgt := 20) S dX0_checkRange_7 (by decide) (fun c7 => ?_) (fun c7 => ?_)
    · exact hret hw dX0_checkRange_20 rfl
    · exact absurd c7 h2
theorem inX0_hasJoinedMasters : ∀ w ∈ u_ws RX0 TX0 18, w ∈ wsX0_hasJoinedMasters := fun _ h => List.mem_cons_of_mem _ (List.mem_append_right _ h)
theorem flX0_hasJoinedMasters_41 : Cond.fieldLink RX0 41 "StandbyPair" "roles" "[I" ∈ wsX0_hasJoinedMasters := by decide +kernel
theorem flX0_hasJoinedMasters_13 : Cond.fieldLink RX0 13 "StandbyPair" "joinedPairs" "[Z" ∈ wsX0_hasJoinedMasters := by decide +kernel
set_option maxHeartbeats 4000000 in
set_option maxRecDepth 100000 in
theorem kX0_hasJoinedMasters (l : Launch) (D : va_G) (cZ cI : ClassId) (a : Nat → Nat) (σ : sC) {g : Nat} (hg : g < 3) : MI l yX0_hasJoinedMasters wsX0_hasJoinedMasters ({ frames := 1, cells := 0, slots := 0, locals := 21 } : Room) D (tyZ cZ cI) [.ref (a 0), .int (nI g)] (wX cZ cI a σ) (hasJ σ g) (wX cZ cI a σ) := by
  refine MI.of (cc := cX0_hasJoinedMasters) (maxL := 4) (ty := .boolean) (by decide) rfl (nar_z (hasJ_z σ g)) ⟨rfl, rfl⟩ (Nat.le_of_ble_eq_true rfl) ?_
  intro p e s m args below meth c A Q S hK hret ls hl hw
  replace hl : lv_has ls 4 [(0, .ref (a 0)), (1, .int (nI g))] := hl
  replace S : CallFix p m c cX0_hasJoinedMasters 4 s args wsX0_hasJoinedMasters RX0 := S
  have hin := inX0_hasJoinedMasters
  refine lv_iconst (v := nI 0) S.1 S.2.1 dX0_hasJoinedMasters_0 (by decide) ?_
  refine lv_istore_n (lv' := [(2, .int (nI 0)), (0, .ref (a 0)), (1, .int (nI g))]) S.1 S.2.1 dX0_hasJoinedMasters_1 rfl hl (by decide) rfl (fun ls hl => ?_)
  have L2 : ∀ (n i2 : Nat), i2 + n = 4 → (∀ i j : Nat, i < i2 → i < j → j < 4 → ¬ goodJ σ g i j) → ∀ (H : Heap) (locs : List Loc), Wd D A s.heap (wX cZ cI a σ) H locs → ∀ ls : Array Slot, lv_has ls 4 [(0, .ref (a 0)), (1, .int (nI g)), (2, .int (nI i2))] → W p l e ({ frames := 1, cells := 0, slots := 0, locals := 21 } : Room) s m args below meth c H locs 0 0 Q (F0 m 2 ls []) := by
    intro n
    induction n with
    | zero =>
      intro i2 hi hinv2 H locs hw ls hl
      obtain rfl : i2 = 4 := by omega
      refine lv_iload_n S.1 S.2.1 dX0_hasJoinedMasters_2 rfl (lv_at hl 2 rfl) ?_
      refine lv_iconst (v := nI 4) S.1 S.2.1 dX0_hasJoinedMasters_3 (by decide) ?_
      refine br_ge (tgt := 71) S dX0_hasJoinedMasters_4 (by decide) (fun c4 => ?_) (fun c4 => ?_)
      · refine lv_iconst (v := 0) S.1 S.2.1 dX0_hasJoinedMasters_71 (by decide) ?_
        exact hret hw dX0_hasJoinedMasters_72 ((hasJ_0 (fun h => by obtain ⟨i, j, h1, h2, h3⟩ := h; exact hinv2 i j (by omega) h1 h2 h3)).symm) (congrArg (wX cZ cI a) (rfl))
      · exact absurd c4 (nlt_nI (by decide))
    | succ n ih_2 =>
      intro i2 hi hinv2 H locs hw ls hl
      have hi2 : i2 < 4 := by omega
      refine lv_iload_n S.1 S.2.1 dX0_hasJoinedMasters_2 rfl (lv_at hl 2 rfl) ?_
      refine lv_iconst (v := nI 4) S.1 S.2.1 dX0_hasJoinedMasters_3 (by decide) ?_
      refine br_ge (tgt := 71) S dX0_hasJoinedMasters_4 (by decide) (fun c4 => ?_) (fun c4 => ?_)
      · exact absurd c4 (not_not_intro (lt_nI hi2 (by decide)))
      · refine lv_iload_n S.1 S.2.1 dX0_hasJoinedMasters_7 rfl (lv_at hl 2 rfl) ?_
        refine lv_iconst (v := 1) S.1 S.2.1 dX0_hasJoinedMasters_8 (by decide) ?_
        refine lv_iadd S.1 S.2.1 dX0_hasJoinedMasters_9 ?_
        refine bx_top (y := nI (i2 + 1)) (nI_1 i2) ?_
        refine lv_istore_n (lv' := [(3, .int (nI (i2 + 1))), (0, .ref (a 0)), (1, .int (nI g)), (2, .int (nI i2))]) S.1 S.2.1 dX0_hasJoinedMasters_10 rfl hl (by decide) rfl (fun ls hl => ?_)
        have L11 : ∀ (n i11 : Nat), i11 + n = 4 → (i2 < i11 ∧ ∀ j : Nat, i2 < j → j < i11 → ¬ goodJ σ g i2 j) → ∀ (H : Heap) (locs : List Loc), Wd D A s.heap (wX cZ cI a σ) H locs → ∀ ls : Array Slot, lv_has ls 4 [(0, .ref (a 0)), (1, .int (nI g)), (2, .int (nI i2)), (3, .int (nI i11))] → W p l e ({ frames := 1, cells := 0, slots := 0, locals := 21 } : Room) s m args below meth c H locs 0 0 Q (F0 m 11 ls []) := by
          intro n
          induction n with
          | zero =>
            intro i11 hi hinv11 H locs hw ls hl
            obtain rfl : i11 = 4 := by omega
            refine lv_iload_n S.1 S.2.1 dX0_hasJoinedMasters_11 rfl (lv_at hl 3 rfl) ?_
            refine lv_iconst (v := nI 4) S.1 S.2.1 dX0_hasJoinedMasters_12 (by decide) ?_
            refine br_ge (tgt := 65) S dX0_hasJoinedMasters_13 (by decide) (fun c13 => ?_) (fun c13 => ?_)
            · refine lv_iinc (v := nI (i2 + 1)) (lv' := [(2, .int (nI (i2 + 1))), (0, .ref (a 0)), (1, .int (nI g)), (3, .int (nI 4))]) S.1 S.2.1 dX0_hasJoinedMasters_65 hl (k := 2) rfl (nI_1 i2) (by decide) rfl (fun ls hl => ?_)
              refine lv_goto (tgt := 2) S.1 S.2.1 dX0_hasJoinedMasters_68 (by decide) ?_
              exact ih_2 (i2 + 1) (by omega) (fun i j h1 h2 h3 h => (Nat.lt_or_ge i i2).elim (fun q => hinv2 i j q h2 h3 h) (fun q => by have e : i = i2 := (by omega); subst e; exact hinv11.2 j h2 h3 h)) _ _ hw _ (lv_sub hl [1, 2, 0] rfl)
            · exact absurd c13 (nlt_nI (by decide))
          | succ n ih_11 =>
            intro i11 hi hinv11 H locs hw ls hl
            have hi11 : i11 < 4 := by omega
            refine lv_iload_n S.1 S.2.1 dX0_hasJoinedMasters_11 rfl (lv_at hl 3 rfl) ?_
            refine lv_iconst (v := nI 4) S.1 S.2.1 dX0_hasJoinedMasters_12 (by decide) ?_
            refine br_ge (tgt := 65) S dX0_hasJoinedMasters_13 (by decide) (fun c13 => ?_) (fun c13 => ?_)
            · exact absurd c13 (not_not_intro (lt_nI hi11 (by decide)))
            · refine lv_aload_n S.1 S.2.1 dX0_hasJoinedMasters_16 rfl (lv_at hl 0 rfl) ?_
              refine bx_get S hK hin hw.1 0 rfl rfl 10 (by decide) flX0_hasJoinedMasters_41 rfl dX0_hasJoinedMasters_17 ?_
              refine lv_iload_n S.1 S.2.1 dX0_hasJoinedMasters_20 rfl (lv_at hl 2 rfl) ?_
              refine lv_iload_n S.1 S.2.1 dX0_hasJoinedMasters_21 rfl (lv_at hl 1 rfl) ?_
              refine bc_si (As := [.int (nI i2), .int (nI g)]) (rest := [.ref (a 11)]) S hK hw (kX0_placeOf l D _ (r := i2) (g := g) (by omega) (by omega)) (va_cwS 2 S.2.2.2.2 gX0_hasJoinedMasters_X0_placeOf rfl rfl rfl (by decide +kernel) ⟨Nat.le_of_ble_eq_true rfl, Nat.le_of_ble_eq_true rfl⟩) rfl hl.1 rfl (Nat.le_of_ble_eq_true rfl) (Nat.zero_le _) (Nat.zero_le _) dX0_hasJoinedMasters_22 (fun H locs hw => ?_)
              refine bx_iald (v := σ 10 (4 * g + i2)) S hK hw.1 11 1 rfl rfl (by omega) (by decide) rfl dX0_hasJoinedMasters_25 ?_
              refine lv_iconst (v := 2) S.1 S.2.1 dX0_hasJoinedMasters_26 (by decide) ?_
              refine br_ne (tgt := 59) S dX0_hasJoinedMasters_27 (by decide) (fun c27 => ?_) (fun c27 => ?_)
              · refine lv_iinc (v := nI (i11 + 1)) (lv' := [(3, .int (nI (i11 + 1))), (0, .ref (a 0)), (1, .int (nI g)), (2, .int (nI i2))]) S.1 S.2.1 dX0_hasJoinedMasters_59 hl (k := 3) rfl (nI_1 i11) (by decide) rfl (fun ls hl => ?_)
                refine lv_goto (tgt := 11) S.1 S.2.1 dX0_hasJoinedMasters_62 (by decide) ?_
                exact ih_11 (i11 + 1) (by omega) (⟨by omega, fun j h1 h2 h => (Nat.lt_or_ge j i11).elim (fun q => hinv11.2 j h1 q h) (fun q => by have e : j = i11 := (by omega); subst e; exact absurd h.1 c27)⟩) _ _ hw _ (lv_sub hl [1, 2, 3, 0] rfl)
              · refine lv_aload_n S.1 S.2.1 dX0_hasJoinedMasters_30 rfl (lv_at hl 0 rfl) ?_
                refine bx_get S hK hin hw.1 0 rfl rfl 10 (by decide) flX0_hasJoinedMasters_41 rfl dX0_hasJoinedMasters_31 ?_
                refine lv_iload_n S.1 S.2.1 dX0_hasJoinedMasters_34 rfl (lv_at hl 3 rfl) ?_
                refine lv_iload_n S.1 S.2.1 dX0_hasJoinedMasters_35 rfl (lv_at hl 1 rfl) ?_
                refine bc_si (As := [.int (nI i11), .int (nI g)]) (rest := [.ref (a 11)]) S hK hw (kX0_placeOf l D _ (r := i11) (g := g) (by omega) (by omega)) (va_cwS 2 S.2.2.2.2 gX0_hasJoinedMasters_X0_placeOf rfl rfl rfl (by decide +kernel) ⟨Nat.le_of_ble_eq_true rfl, Nat.le_of_ble_eq_true rfl⟩) rfl hl.1 rfl (Nat.le_of_ble_eq_true rfl) (Nat.zero_le _) (Nat.zero_le _) dX0_hasJoinedMasters_36 (fun H locs hw => ?_)
                refine bx_iald (v := σ 10 (4 * g + i11)) S hK hw.1 11 1 rfl rfl (by omega) (by decide) rfl dX0_hasJoinedMasters_39 ?_
                refine lv_iconst (v := 2) S.1 S.2.1 dX0_hasJoinedMasters_40 (by decide) ?_
                refine br_ne (tgt := 59) S dX0_hasJoinedMasters_41 (by decide) (fun c41 => ?_) (fun c41 => ?_)
                · refine lv_iinc (v := nI (i11 + 1)) (lv' := [(3, .int (nI (i11 + 1))), (0, .ref (a 0)), (1, .int (nI g)), (2, .int (nI i2))]) S.1 S.2.1 dX0_hasJoinedMasters_59 hl (k := 3) rfl (nI_1 i11) (by decide) rfl (fun ls hl => ?_)
                  refine lv_goto (tgt := 11) S.1 S.2.1 dX0_hasJoinedMasters_62 (by decide) ?_
                  exact ih_11 (i11 + 1) (by omega) (⟨by omega, fun j h1 h2 h => (Nat.lt_or_ge j i11).elim (fun q => hinv11.2 j h1 q h) (fun q => by have e : j = i11 := (by omega); subst e; exact absurd h.2.1 c41)⟩) _ _ hw _ (lv_sub hl [1, 2, 3, 0] rfl)
                · refine lv_aload_n S.1 S.2.1 dX0_hasJoinedMasters_44 rfl (lv_at hl 0 rfl) ?_
                  refine bx_get S hK hin hw.1 0 rfl rfl 1 (by decide) flX0_hasJoinedMasters_13 rfl dX0_hasJoinedMasters_45 ?_
                  refine lv_iload_n S.1 S.2.1 dX0_hasJoinedMasters_48 rfl (lv_at hl 2 rfl) ?_
                  refine lv_iconst (v := 4) S.1 S.2.1 dX0_hasJoinedMasters_49 (by decide) ?_
                  refine lv_imul S.1 S.2.1 dX0_hasJoinedMasters_50 ?_
                  refine lv_iload_n S.1 S.2.1 dX0_hasJoinedMasters_51 rfl (lv_at hl 3 rfl) ?_
                  refine lv_iadd S.1 S.2.1 dX0_hasJoinedMasters_52 ?_
                  refine bx_top (y := nI (4 * i2 + i11)) (pl_j (by omega) (by omega)) ?_
                  refine bx_zald (v := σ 1 (4 * i2 + i11)) S hK hw.1 2 0 rfl rfl (by omega) (by decide) rfl dX0_hasJoinedMasters_53 ?_
                  refine bz_eq (tgt := 59) S dX0_hasJoinedMasters_54 (by decide) (fun c54 => ?_) (fun c54 => ?_)
                  · refine lv_iinc (v := nI (i11 + 1)) (lv' := [(3, .int (nI (i11 + 1))), (0, .ref (a 0)), (1, .int (nI g)), (2, .int (nI i2))]) S.1 S.2.1 dX0_hasJoinedMasters_59 hl (k := 3) rfl (nI_1 i11) (by decide) rfl (fun ls hl => ?_)
                    refine lv_goto (tgt := 11) S.1 S.2.1 dX0_hasJoinedMasters_62 (by decide) ?_
                    exact ih_11 (i11 + 1) (by omega) (⟨by omega, fun j h1 h2 h => (Nat.lt_or_ge j i11).elim (fun q => hinv11.2 j h1 q h) (fun q => by have e : j = i11 := (by omega); subst e; exact absurd c54 h.2.2)⟩) _ _ hw _ (lv_sub hl [1, 2, 3, 0] rfl)
                  · refine lv_iconst (v := 1) S.1 S.2.1 dX0_hasJoinedMasters_57 (by decide) ?_
                    exact hret hw dX0_hasJoinedMasters_58 ((hasJ_1 ⟨i2, i11, hinv11.1, hi11, c27, c41, c54⟩).symm) (congrArg (wX cZ cI a) (rfl))
        exact L11 (4 - (i2 + 1)) (i2 + 1) (by omega) (⟨by omega, fun j h1 h2 => absurd h1 (by omega)⟩) _ _ hw _ (lv_sub hl [1, 2, 3, 0] rfl)
  exact L2 (4 - 0) 0 (by omega) (fun i j h => absurd h (Nat.not_lt_zero i)) _ _ hw _ (lv_sub hl [1, 2, 0] rfl)
theorem inX0_die : ∀ w ∈ u_ws RX0 TX0 18, w ∈ wsX0_die := fun _ h => List.mem_cons_of_mem _ (List.mem_append_left _ (List.mem_append_left _ (List.mem_append_right _ h)))
theorem inX0_tick : ∀ w ∈ u_ws RX0 TX0 18, w ∈ wsX0_tick := fun _ h => List.mem_cons_of_mem _ (List.mem_append_left _ (List.mem_append_right _ h))
theorem flX0_tick_115 : Cond.fieldLink RX0 115 "StandbyPair" "time" "I" ∈ wsX0_tick := by decide +kernel
set_option maxHeartbeats 4000000 in
set_option maxRecDepth 100000 in
theorem kX0_tick (l : Launch) (D : va_G) (cZ cI : ClassId) (a : Nat → Nat) (σ : sC) {nt : Nat} (hn : nt < 100) (h1 : ¬ nI nt < 1) (h2 : ¬ 50 < nI nt) : MI l yX0_tick wsX0_tick ({ frames := 6, cells := 0, slots := 0, locals := 142 } : Room) D (tyZ cZ cI) [.ref (a 0), .int (nI nt)] (wX cZ cI a σ) ((tickF σ nt) 17 0) (wX cZ cI a (tickF σ nt)) := by
  refine MI.of (cc := cX0_tick) (maxL := 4) (ty := .int) (by decide) rfl (rfl) ⟨rfl, rfl⟩ (Nat.le_of_ble_eq_true rfl) ?_
  intro p e s m args below meth c A Q S hK hret ls hl hw
  replace hl : lv_has ls 4 [(0, .ref (a 0)), (1, .int (nI nt))] := hl
  replace S : CallFix p m c cX0_tick 4 s args wsX0_tick RX0 := S
  have hin := inX0_tick
  refine lv_iload_n S.1 S.2.1 dX0_tick_0 rfl (lv_at hl 1 rfl) ?_
  refine lv_iconst (v := 1) S.1 S.2.1 dX0_tick_1 (by decide) ?_
  refine lv_bipush (v := 50) S.1 S.2.1 dX0_tick_2 (by decide) ?_
  refine bc_sv (As := [.int (nI nt), .int 1, .int 50]) (rest := []) S hK hw (kX0_checkRange l D _ (nI nt) 1 50 h1 h2) (va_cwS 3 S.2.2.2.2 gX0_tick_X0_checkRange rfl rfl rfl (by decide +kernel) ⟨Nat.le_of_ble_eq_true rfl, Nat.le_of_ble_eq_true rfl⟩) rfl hl.1 rfl (Nat.le_of_ble_eq_true rfl) (Nat.zero_le _) (Nat.zero_le _) dX0_tick_4 (fun H locs hw => ?_)
  refine lv_iconst (v := nI 0) S.1 S.2.1 dX0_tick_7 (by decide) ?_
  refine lv_istore_n (lv' := [(2, .int (nI 0)), (0, .ref (a 0)), (1, .int (nI nt))]) S.1 S.2.1 dX0_tick_8 rfl hl (by decide) rfl (fun ls hl => ?_)
  have L9 : ∀ (n i9 : Nat), i9 + n = nt → ∀ (H : Heap) (locs : List Loc), Wd D A s.heap (wX cZ cI a (itF tickT σ i9)) H locs → ∀ ls : Array Slot, lv_has ls 4 [(0, .ref (a 0)), (1, .int (nI nt)), (2, .int (nI i9))] → W p l e ({ frames := 6, cells := 0, slots := 0, locals := 142 } : Room) s m args below meth c H locs 0 0 Q (F0 m 9 ls []) := by
    intro n
    induction n with
    | zero =>
      intro i9 hi H locs hw ls hl
      have e9 : nt = i9 := by omega
      subst e9
      refine lv_iload_n S.1 S.2.1 dX0_tick_9 rfl (lv_at hl 2 rfl) ?_
      refine lv_iload_n S.1 S.2.1 dX0_tick_10 rfl (lv_at hl 1 rfl) ?_
      refine br_ge (tgt := 48) S dX0_tick_11 (by decide) (fun c11 => ?_) (fun c11 => ?_)
      · refine lv_aload_n S.1 S.2.1 dX0_tick_48 rfl (lv_at hl 0 rfl) ?_
        refine lv_dup S.1 S.2.1 dX0_tick_49 rfl ?_
        refine bx_get S hK hin hw.1 0 rfl rfl 17 (by decide) flX0_tick_115 rfl dX0_tick_50 ?_
        refine lv_iload_n S.1 S.2.1 dX0_tick_53 rfl (lv_at hl 1 rfl) ?_
        refine lv_iadd S.1 S.2.1 dX0_tick_54 ?_
        refine bx_put S hK hin tyX0 tyX0_ok nmX0 hw 0 rfl rfl 17 (by decide) flX0_tick_115 rfl (by decide +kernel) (Nat.le_of_ble_eq_true rfl) (wX_s17 cZ cI a (itF tickT σ nt) (((itF tickT σ nt) 17 0) + (nI nt))) dX0_tick_55 (fun H locs hw => ?_)
        refine lv_aload_n S.1 S.2.1 dX0_tick_58 rfl (lv_at hl 0 rfl) ?_
        refine bx_get S hK hin hw.1 0 rfl rfl 17 (by decide) flX0_tick_115 rfl dX0_tick_59 ?_
        exact hret hw dX0_tick_62 (rfl) (congrArg (wX cZ cI a) (rfl))
      · exact absurd c11 (nlt_nI hn)
    | succ n ih_9 =>
      intro i9 hi H locs hw ls hl
      have hi9 : i9 < nt := by omega
      refine lv_iload_n S.1 S.2.1 dX0_tick_9 rfl (lv_at hl 2 rfl) ?_
      refine lv_iload_n S.1 S.2.1 dX0_tick_10 rfl (lv_at hl 1 rfl) ?_
      refine br_ge (tgt := 48) S dX0_tick_11 (by decide) (fun c11 => ?_) (fun c11 => ?_)
      · exact absurd c11 (not_not_intro (lt_nI hi9 hn))
      · refine lv_iconst (v := nI 0) S.1 S.2.1 dX0_tick_14 (by decide) ?_
        refine lv_istore_n (lv' := [(3, .int (nI 0)), (0, .ref (a 0)), (1, .int (nI nt)), (2, .int (nI i9))]) S.1 S.2.1 dX0_tick_15 rfl hl (by decide) rfl (fun ls hl => ?_)
        have L16 : ∀ (n i16 : Nat), i16 + n = 3 → ∀ (H : Heap) (locs : List Loc), Wd D A s.heap (wX cZ cI a (itF groupT (itF tickT σ i9) i16)) H locs → ∀ ls : Array Slot, lv_has ls 4 [(0, .ref (a 0)), (1, .int (nI nt)), (2, .int (nI i9)), (3, .int (nI i16))] → W p l e ({ frames := 6, cells := 0, slots := 0, locals := 142 } : Room) s m args below meth c H locs 0 0 Q (F0 m 16 ls []) := by
          intro n
          induction n with
          | zero =>
            intro i16 hi H locs hw ls hl
            obtain rfl : i16 = 3 := by omega
            refine lv_iload_n S.1 S.2.1 dX0_tick_16 rfl (lv_at hl 3 rfl) ?_
            refine lv_iconst (v := nI 3) S.1 S.2.1 dX0_tick_17 (by decide) ?_
            refine br_ge (tgt := 42) S dX0_tick_18 (by decide) (fun c18 => ?_) (fun c18 => ?_)
            · refine lv_iinc (v := nI (i9 + 1)) (lv' := [(2, .int (nI (i9 + 1))), (0, .ref (a 0)), (1, .int (nI nt)), (3, .int (nI 3))]) S.1 S.2.1 dX0_tick_42 hl (k := 2) rfl (nI_1 i9) (by decide) rfl (fun ls hl => ?_)
              refine lv_goto (tgt := 9) S.1 S.2.1 dX0_tick_45 (by decide) ?_
              exact ih_9 (i9 + 1) (by omega) _ _ (Wd.cast (congrArg (wX cZ cI a) (by simp only [itF, tickT])) hw) _ (lv_sub hl [1, 2, 0] rfl)
            · exact absurd c18 (nlt_nI (by decide))
          | succ n ih_16 =>
            intro i16 hi H locs hw ls hl
            have hi16 : i16 < 3 := by omega
            refine lv_iload_n S.1 S.2.1 dX0_tick_16 rfl (lv_at hl 3 rfl) ?_
            refine lv_iconst (v := nI 3) S.1 S.2.1 dX0_tick_17 (by decide) ?_
            refine br_ge (tgt := 42) S dX0_tick_18 (by decide) (fun c18 => ?_) (fun c18 => ?_)
            · exact absurd c18 (not_not_intro (lt_nI hi16 (by decide)))
            · refine lv_aload_n S.1 S.2.1 dX0_tick_21 rfl (lv_at hl 0 rfl) ?_
              refine lv_iload_n S.1 S.2.1 dX0_tick_22 rfl (lv_at hl 3 rfl) ?_
              refine bc_vv (As := [.int (nI i16)]) (rest := []) S hK hw (kX0_runMasters l D cZ cI a (itF groupT (itF tickT σ i9) i16) (g := i16) (by omega)) (cwV 1 S.2.2.2.2 gX0_tick_X0_runMasters rfl rfl rfl (by decide +kernel) ⟨Nat.le_of_ble_eq_true rfl, Nat.le_of_ble_eq_true rfl⟩) (q0 := 0) rfl rfl rfl hl.1 rfl (Nat.le_of_ble_eq_true rfl) (Nat.zero_le _) (Nat.zero_le _) dX0_tick_23 (fun H locs hw => ?_)
              refine lv_aload_n S.1 S.2.1 dX0_tick_26 rfl (lv_at hl 0 rfl) ?_
              refine lv_iload_n S.1 S.2.1 dX0_tick_27 rfl (lv_at hl 3 rfl) ?_
              refine bc_vv (As := [.int (nI i16)]) (rest := []) S hK hw (kX0_runBackups l D cZ cI a (runM (itF groupT (itF tickT σ i9) i16) i16) (g := i16) (by omega)) (cwV 1 S.2.2.2.2 gX0_tick_X0_runBackups rfl rfl rfl (by decide +kernel) ⟨Nat.le_of_ble_eq_true rfl, Nat.le_of_ble_eq_true rfl⟩) (q0 := 0) rfl rfl rfl hl.1 rfl (Nat.le_of_ble_eq_true rfl) (Nat.zero_le _) (Nat.zero_le _) dX0_tick_28 (fun H locs hw => ?_)
              refine lv_aload_n S.1 S.2.1 dX0_tick_31 rfl (lv_at hl 0 rfl) ?_
              refine lv_iload_n S.1 S.2.1 dX0_tick_32 rfl (lv_at hl 3 rfl) ?_
              refine bc_vv (As := [.int (nI i16)]) (rest := []) S hK hw (kX0_noteGap l D cZ cI a (runB (runM (itF groupT (itF tickT σ i9) i16) i16) i16) (g := i16) (by omega)) (cwV 1 S.2.2.2.2 gX0_tick_X0_noteGap rfl rfl rfl (by decide +kernel) ⟨Nat.le_of_ble_eq_true rfl, Nat.le_of_ble_eq_true rfl⟩) (q0 := 0) rfl rfl rfl hl.1 rfl (Nat.le_of_ble_eq_true rfl) (Nat.zero_le _) (Nat.zero_le _) dX0_tick_33 (fun H locs hw => ?_)
              refine lv_iinc (v := nI (i16 + 1)) (lv' := [(3, .int (nI (i16 + 1))), (0, .ref (a 0)), (1, .int (nI nt)), (2, .int (nI i9))]) S.1 S.2.1 dX0_tick_36 hl (k := 3) rfl (nI_1 i16) (by decide) rfl (fun ls hl => ?_)
              refine lv_goto (tgt := 16) S.1 S.2.1 dX0_tick_39 (by decide) ?_
              exact ih_16 (i16 + 1) (by omega) _ _ (Wd.cast (congrArg (wX cZ cI a) (by simp only [itF, groupT])) hw) _ (lv_sub hl [1, 2, 3, 0] rfl)
        exact L16 (3 - 0) 0 (by omega) _ _ (Wd.cast (congrArg (wX cZ cI a) (by simp only [itF])) hw) _ (lv_sub hl [1, 2, 3, 0] rfl)
  exact L9 (nt - 0) 0 (by omega) _ _ hw _ (lv_sub hl [1, 2, 0] rfl)
theorem inX0_state : ∀ w ∈ u_ws RX0 TX0 18, w ∈ wsX0_state := fun _ h => List.mem_cons_of_mem _ (List.mem_append_left _ (List.mem_append_right _ h))
theorem flX0_state_41 : Cond.fieldLink RX0 41 "StandbyPair" "roles" "[I" ∈ wsX0_state := by decide +kernel
set_option maxHeartbeats 4000000 in
set_option maxRecDepth 100000 in
theorem kX0_state (l : Launch) (D : va_G) (cZ cI : ClassId) (a : Nat → Nat) (σ : sC) {r g : Nat} (hr : r < 4) (hg : g < 3) : MI l yX0_state wsX0_state ({ frames := 1, cells := 0, slots := 0, locals := 21 } : Room) D (tyZ cZ cI) [.ref (a 0), .int (nI r), .int (nI g)] (wX cZ cI a σ) (σ 10 (4 * g + r)) (wX cZ cI a σ) := by
  refine MI.of (cc := cX0_state) (maxL := 3) (ty := .int) (by decide) rfl (rfl) ⟨rfl, rfl⟩ (Nat.le_of_ble_eq_true rfl) ?_
  intro p e s m args below meth c A Q S hK hret ls hl hw
  replace hl : lv_has ls 3 [(0, .ref (a 0)), (1, .int (nI r)), (2, .int (nI g))] := hl
  replace S : CallFix p m c cX0_state 3 s args wsX0_state RX0 := S
  have hin := inX0_state
  refine lv_iload_n S.1 S.2.1 dX0_state_0 rfl (lv_at hl 1 rfl) ?_
  refine bc_sv (As := [.int (nI r)]) (rest := []) S hK hw (kX0_checkRouter l D _ (r := r) (by omega)) (va_cwS 1 S.2.2.2.2 gX0_state_X0_checkRouter rfl rfl rfl (by decide +kernel) ⟨Nat.le_of_ble_eq_true rfl, Nat.le_of_ble_eq_true rfl⟩) rfl hl.1 rfl (Nat.le_of_ble_eq_true rfl) (Nat.zero_le _) (Nat.zero_le _) dX0_state_1 (fun H locs hw => ?_)
  refine lv_iload_n S.1 S.2.1 dX0_state_4 rfl (lv_at hl 2 rfl) ?_
  refine bc_sv (As := [.int (nI g)]) (rest := []) S hK hw (kX0_checkGroup l D _ (g := g) (by omega)) (va_cwS 1 S.2.2.2.2 gX0_state_X0_checkGroup rfl rfl rfl (by decide +kernel) ⟨Nat.le_of_ble_eq_true rfl, Nat.le_of_ble_eq_true rfl⟩) rfl hl.1 rfl (Nat.le_of_ble_eq_true rfl) (Nat.zero_le _) (Nat.zero_le _) dX0_state_5 (fun H locs hw => ?_)
  refine lv_aload_n S.1 S.2.1 dX0_state_8 rfl (lv_at hl 0 rfl) ?_
  refine bx_get S hK hin hw.1 0 rfl rfl 10 (by decide) flX0_state_41 rfl dX0_state_9 ?_
  refine lv_iload_n S.1 S.2.1 dX0_state_12 rfl (lv_at hl 1 rfl) ?_
  refine lv_iload_n S.1 S.2.1 dX0_state_13 rfl (lv_at hl 2 rfl) ?_
  refine bc_si (As := [.int (nI r), .int (nI g)]) (rest := [.ref (a 11)]) S hK hw (kX0_placeOf l D _ (r := r) (g := g) (by omega) (by omega)) (va_cwS 2 S.2.2.2.2 gX0_state_X0_placeOf rfl rfl rfl (by decide +kernel) ⟨Nat.le_of_ble_eq_true rfl, Nat.le_of_ble_eq_true rfl⟩) rfl hl.1 rfl (Nat.le_of_ble_eq_true rfl) (Nat.zero_le _) (Nat.zero_le _) dX0_state_14 (fun H locs hw => ?_)
  refine bx_iald (v := σ 10 (4 * g + r)) S hK hw.1 11 1 rfl rfl (by omega) (by decide) rfl dX0_state_17 ?_
  exact hret hw dX0_state_18 (rfl) (congrArg (wX cZ cI a) (rfl))
theorem inX0_changes : ∀ w ∈ u_ws RX0 TX0 18, w ∈ wsX0_changes := fun _ h => List.mem_cons_of_mem _ (List.mem_append_left _ (List.mem_append_right _ h))
theorem flX0_changes_53 : Cond.fieldLink RX0 53 "StandbyPair" "promotions" "[I" ∈ wsX0_changes := by decide +kernel
set_option maxHeartbeats 4000000 in
set_option maxRecDepth 100000 in
theorem kX0_changes (l : Launch) (D : va_G) (cZ cI : ClassId) (a : Nat → Nat) (σ : sC) {r g : Nat} (hr : r < 4) (hg : g < 3) : MI l yX0_changes wsX0_changes ({ frames := 1, cells := 0, slots := 0, locals := 21 } : Room) D (tyZ cZ cI) [.ref (a 0), .int (nI r), .int (nI g)] (wX cZ cI a σ) (σ 14 (4 * g + r)) (wX cZ cI a σ) := by
  refine MI.of (cc := cX0_changes) (maxL := 3) (ty := .int) (by decide) rfl (rfl) ⟨rfl, rfl⟩ (Nat.le_of_ble_eq_true rfl) ?_
  intro p e s m args below meth c A Q S hK hret ls hl hw
  replace hl : lv_has ls 3 [(0, .ref (a 0)), (1, .int (nI r)), (2, .int (nI g))] := hl
  replace S : CallFix p m c cX0_changes 3 s args wsX0_changes RX0 := S
  have hin := inX0_changes
  refine lv_iload_n S.1 S.2.1 dX0_changes_0 rfl (lv_at hl 1 rfl) ?_
  refine bc_sv (As := [.int (nI r)]) (rest := []) S hK hw (kX0_checkRouter l D _ (r := r) (by omega)) (va_cwS 1 S.2.2.2.2 gX0_changes_X0_checkRouter rfl rfl rfl (by decide +kernel) ⟨Nat.le_of_ble_eq_true rfl, Nat.le_of_ble_eq_true rfl⟩) rfl hl.1 rfl (Nat.le_of_ble_eq_true rfl) (Nat.zero_le _) (Nat.zero_le _) dX0_changes_1 (fun H locs hw => ?_)
  refine lv_iload_n S.1 S.2.1 dX0_changes_4 rfl (lv_at hl 2 rfl) ?_
  refine bc_sv (As := [.int (nI g)]) (rest := []) S hK hw (kX0_checkGroup l D _ (g := g) (by omega)) (va_cwS 1 S.2.2.2.2 gX0_changes_X0_checkGroup rfl rfl rfl (by decide +kernel) ⟨Nat.le_of_ble_eq_true rfl, Nat.le_of_ble_eq_true rfl⟩) rfl hl.1 rfl (Nat.le_of_ble_eq_true rfl) (Nat.zero_le _) (Nat.zero_le _) dX0_changes_5 (fun H locs hw => ?_)
  refine lv_aload_n S.1 S.2.1 dX0_changes_8 rfl (lv_at hl 0 rfl) ?_
  refine bx_get S hK hin hw.1 0 rfl rfl 14 (by decide) flX0_changes_53 rfl dX0_changes_9 ?_
  refine lv_iload_n S.1 S.2.1 dX0_changes_12 rfl (lv_at hl 1 rfl) ?_
  refine lv_iload_n S.1 S.2.1 dX0_changes_13 rfl (lv_at hl 2 rfl) ?_
  refine bc_si (As := [.int (nI r), .int (nI g)]) (rest := [.ref (a 15)]) S hK hw (kX0_placeOf l D _ (r := r) (g := g) (by omega) (by omega)) (va_cwS 2 S.2.2.2.2 gX0_changes_X0_placeOf rfl rfl rfl (by decide +kernel) ⟨Nat.le_of_ble_eq_true rfl, Nat.le_of_ble_eq_true rfl⟩) rfl hl.1 rfl (Nat.le_of_ble_eq_true rfl) (Nat.zero_le _) (Nat.zero_le _) dX0_changes_14 (fun H locs hw => ?_)
  refine bx_iald (v := σ 14 (4 * g + r)) S hK hw.1 15 1 rfl rfl (by omega) (by decide) rfl dX0_changes_17 ?_
  exact hret hw dX0_changes_18 (rfl) (congrArg (wX cZ cI a) (rfl))
theorem inX0_known : ∀ w ∈ u_ws RX0 TX0 18, w ∈ wsX0_known := fun _ h => List.mem_cons_of_mem _ (List.mem_append_left _ (List.mem_append_right _ h))
theorem flX0_known_50 : Cond.fieldLink RX0 50 "StandbyPair" "served" "[I" ∈ wsX0_known := by decide +kernel
set_option maxHeartbeats 4000000 in
set_option maxRecDepth 100000 in
theorem kX0_known (l : Launch) (D : va_G) (cZ cI : ClassId) (a : Nat → Nat) (σ : sC) {r g : Nat} (hr : r < 4) (hg : g < 3) : MI l yX0_known wsX0_known ({ frames := 1, cells := 0, slots := 0, locals := 21 } : Room) D (tyZ cZ cI) [.ref (a 0), .int (nI r), .int (nI g)] (wX cZ cI a σ) (σ 13 (4 * g + r)) (wX cZ cI a σ) := by
  refine MI.of (cc := cX0_known) (maxL := 3) (ty := .int) (by decide) rfl (rfl) ⟨rfl, rfl⟩ (Nat.le_of_ble_eq_true rfl) ?_
  intro p e s m args below meth c A Q S hK hret ls hl hw
  replace hl : lv_has ls 3 [(0, .ref (a 0)), (1, .int (nI r)), (2, .int (nI g))] := hl
  replace S : CallFix p m c cX0_known 3 s args wsX0_known RX0 := S
  have hin := inX0_known
  refine lv_iload_n S.1 S.2.1 dX0_known_0 rfl (lv_at hl 1 rfl) ?_
  refine bc_sv (As := [.int (nI r)]) (rest := []) S hK hw (kX0_checkRouter l D _ (r := r) (by omega)) (va_cwS 1 S.2.2.2.2 gX0_known_X0_checkRouter rfl rfl rfl (by decide +kernel) ⟨Nat.le_of_ble_eq_true rfl, Nat.le_of_ble_eq_true rfl⟩) rfl hl.1 rfl (Nat.le_of_ble_eq_true rfl) (Nat.zero_le _) (Nat.zero_le _) dX0_known_1 (fun H locs hw => ?_)
  refine lv_iload_n S.1 S.2.1 dX0_known_4 rfl (lv_at hl 2 rfl) ?_
  refine bc_sv (As := [.int (nI g)]) (rest := []) S hK hw (kX0_checkGroup l D _ (g := g) (by omega)) (va_cwS 1 S.2.2.2.2 gX0_known_X0_checkGroup rfl rfl rfl (by decide +kernel) ⟨Nat.le_of_ble_eq_true rfl, Nat.le_of_ble_eq_true rfl⟩) rfl hl.1 rfl (Nat.le_of_ble_eq_true rfl) (Nat.zero_le _) (Nat.zero_le _) dX0_known_5 (fun H locs hw => ?_)
  refine lv_aload_n S.1 S.2.1 dX0_known_8 rfl (lv_at hl 0 rfl) ?_
  refine bx_get S hK hin hw.1 0 rfl rfl 13 (by decide) flX0_known_50 rfl dX0_known_9 ?_
  refine lv_iload_n S.1 S.2.1 dX0_known_12 rfl (lv_at hl 1 rfl) ?_
  refine lv_iload_n S.1 S.2.1 dX0_known_13 rfl (lv_at hl 2 rfl) ?_
  refine bc_si (As := [.int (nI r), .int (nI g)]) (rest := [.ref (a 14)]) S hK hw (kX0_placeOf l D _ (r := r) (g := g) (by omega) (by omega)) (va_cwS 2 S.2.2.2.2 gX0_known_X0_placeOf rfl rfl rfl (by decide +kernel) ⟨Nat.le_of_ble_eq_true rfl, Nat.le_of_ble_eq_true rfl⟩) rfl hl.1 rfl (Nat.le_of_ble_eq_true rfl) (Nat.zero_le _) (Nat.zero_le _) dX0_known_14 (fun H locs hw => ?_)
  refine bx_iald (v := σ 13 (4 * g + r)) S hK hw.1 14 1 rfl rfl (by omega) (by decide) rfl dX0_known_17 ?_
  exact hret hw dX0_known_18 (rfl) (congrArg (wX cZ cI a) (rfl))
theorem inX0_priority : ∀ w ∈ u_ws RX0 TX0 18, w ∈ wsX0_priority := fun _ h => List.mem_cons_of_mem _ (List.mem_append_left _ (List.mem_append_right _ h))
theorem flX0_priority_41 : Cond.fieldLink RX0 41 "StandbyPair" "roles" "[I" ∈ wsX0_priority := by decide +kernel
set_option maxHeartbeats 4000000 in
set_option maxRecDepth 100000 in
theorem kX0_priority (l : Launch) (D : va_G) (cZ cI : ClassId) (a : Nat → Nat) (σ : sC) {r g : Nat} (hr : r < 4) (hg : g < 3) : MI l yX0_priority wsX0_priority ({ frames := 2, cells := 0, slots := 0, locals := 46 } : Room) D (tyZ cZ cI) [.ref (a 0), .int (nI r), .int (nI g)] (wX cZ cI a σ) (prioF σ r g) (wX cZ cI a σ) := by
  refine MI.of (cc := cX0_priority) (maxL := 3) (ty := .int) (by decide) rfl (rfl) ⟨rfl, rfl⟩ (Nat.le_of_ble_eq_true rfl) ?_
  intro p e s m args below meth c A Q S hK hret ls hl hw
  replace hl : lv_has ls 3 [(0, .ref (a 0)), (1, .int (nI r)), (2, .int (nI g))] := hl
  replace S : CallFix p m c cX0_priority 3 s args wsX0_priority RX0 := S
  have hin := inX0_priority
  refine lv_iload_n S.1 S.2.1 dX0_priority_0 rfl (lv_at hl 1 rfl) ?_
  refine bc_sv (As := [.int (nI r)]) (rest := []) S hK hw (kX0_checkRouter l D _ (r := r) (by omega)) (va_cwS 1 S.2.2.2.2 gX0_priority_X0_checkRouter rfl rfl rfl (by decide +kernel) ⟨Nat.le_of_ble_eq_true rfl, Nat.le_of_ble_eq_true rfl⟩) rfl hl.1 rfl (Nat.le_of_ble_eq_true rfl) (Nat.zero_le _) (Nat.zero_le _) dX0_priority_1 (fun H locs hw => ?_)
  refine lv_iload_n S.1 S.2.1 dX0_priority_4 rfl (lv_at hl 2 rfl) ?_
  refine bc_sv (As := [.int (nI g)]) (rest := []) S hK hw (kX0_checkGroup l D _ (g := g) (by omega)) (va_cwS 1 S.2.2.2.2 gX0_priority_X0_checkGroup rfl rfl rfl (by decide +kernel) ⟨Nat.le_of_ble_eq_true rfl, Nat.le_of_ble_eq_true rfl⟩) rfl hl.1 rfl (Nat.le_of_ble_eq_true rfl) (Nat.zero_le _) (Nat.zero_le _) dX0_priority_5 (fun H locs hw => ?_)
  refine lv_aload_n S.1 S.2.1 dX0_priority_8 rfl (lv_at hl 0 rfl) ?_
  refine bx_get S hK hin hw.1 0 rfl rfl 10 (by decide) flX0_priority_41 rfl dX0_priority_9 ?_
  refine lv_iload_n S.1 S.2.1 dX0_priority_12 rfl (lv_at hl 1 rfl) ?_
  refine lv_iload_n S.1 S.2.1 dX0_priority_13 rfl (lv_at hl 2 rfl) ?_
  refine bc_si (As := [.int (nI r), .int (nI g)]) (rest := [.ref (a 11)]) S hK hw (kX0_placeOf l D _ (r := r) (g := g) (by omega) (by omega)) (va_cwS 2 S.2.2.2.2 gX0_priority_X0_placeOf rfl rfl rfl (by decide +kernel) ⟨Nat.le_of_ble_eq_true rfl, Nat.le_of_ble_eq_true rfl⟩) rfl hl.1 rfl (Nat.le_of_ble_eq_true rfl) (Nat.zero_le _) (Nat.zero_le _) dX0_priority_14 (fun H locs hw => ?_)
  refine bx_iald (v := σ 10 (4 * g + r)) S hK hw.1 11 1 rfl rfl (by omega) (by decide) rfl dX0_priority_17 ?_
  refine bz_ne (tgt := 25) S dX0_priority_18 (by decide) (fun c18 => ?_) (fun c18 => ?_)
  · refine lv_aload_n S.1 S.2.1 dX0_priority_25 rfl (lv_at hl 0 rfl) ?_
    refine lv_iload_n S.1 S.2.1 dX0_priority_26 rfl (lv_at hl 1 rfl) ?_
    refine lv_iload_n S.1 S.2.1 dX0_priority_27 rfl (lv_at hl 2 rfl) ?_
    refine bc_vi (As := [.int (nI r), .int (nI g)]) (rest := []) S hK hw (kX0_loweredPriority l D cZ cI a σ (r := r) (g := g) (by omega) (by omega)) (cwV 2 S.2.2.2.2 gX0_priority_X0_loweredPriority rfl rfl rfl (by decide +kernel) ⟨Nat.le_of_ble_eq_true rfl, Nat.le_of_ble_eq_true rfl⟩) (q0 := 0) rfl rfl rfl hl.1 rfl (Nat.le_of_ble_eq_true rfl) (Nat.zero_le _) (Nat.zero_le _) dX0_priority_28 (fun H locs hw => ?_)
    exact hret hw dX0_priority_31 (by simp only [prioF, eq_false c18, ↓reduceIte]) (congrArg (wX cZ cI a) (rfl))
  · refine lv_iconst (v := 0) S.1 S.2.1 dX0_priority_21 (by decide) ?_
    refine lv_goto (tgt := 31) S.1 S.2.1 dX0_priority_22 (by decide) ?_
    exact hret hw dX0_priority_31 (by simp only [prioF, eq_true c18, ↓reduceIte]) (congrArg (wX cZ cI a) (rfl))
theorem inX0_timer : ∀ w ∈ u_ws RX0 TX0 18, w ∈ wsX0_timer := fun _ h => List.mem_cons_of_mem _ (List.mem_append_left _ (List.mem_append_left _ (List.mem_append_right _ h)))
theorem inX0_masters : ∀ w ∈ u_ws RX0 TX0 18, w ∈ wsX0_masters := fun _ h => List.mem_cons_of_mem _ (List.mem_append_left _ (List.mem_append_right _ h))
set_option maxHeartbeats 4000000 in
set_option maxRecDepth 100000 in
theorem kX0_masters (l : Launch) (D : va_G) (cZ cI : ClassId) (a : Nat → Nat) (σ : sC) {g : Nat} (hg : g < 3) : MI l yX0_masters wsX0_masters ({ frames := 2, cells := 0, slots := 0, locals := 45 } : Room) D (tyZ cZ cI) [.ref (a 0), .int (nI g)] (wX cZ cI a σ) (memW σ 2 g) (wX cZ cI a σ) := by
  refine MI.of (cc := cX0_masters) (maxL := 2) (ty := .int) (by decide) rfl (rfl) ⟨rfl, rfl⟩ (Nat.le_of_ble_eq_true rfl) ?_
  intro p e s m args below meth c A Q S hK hret ls hl hw
  replace hl : lv_has ls 2 [(0, .ref (a 0)), (1, .int (nI g))] := hl
  replace S : CallFix p m c cX0_masters 2 s args wsX0_masters RX0 := S
  have hin := inX0_masters
  refine lv_iload_n S.1 S.2.1 dX0_masters_0 rfl (lv_at hl 1 rfl) ?_
  refine bc_sv (As := [.int (nI g)]) (rest := []) S hK hw (kX0_checkGroup l D _ (g := g) (by omega)) (va_cwS 1 S.2.2.2.2 gX0_masters_X0_checkGroup rfl rfl rfl (by decide +kernel) ⟨Nat.le_of_ble_eq_true rfl, Nat.le_of_ble_eq_true rfl⟩) rfl hl.1 rfl (Nat.le_of_ble_eq_true rfl) (Nat.zero_le _) (Nat.zero_le _) dX0_masters_1 (fun H locs hw => ?_)
  refine lv_aload_n S.1 S.2.1 dX0_masters_4 rfl (lv_at hl 0 rfl) ?_
  refine lv_iconst (v := 2) S.1 S.2.1 dX0_masters_5 (by decide) ?_
  refine lv_iload_n S.1 S.2.1 dX0_masters_6 rfl (lv_at hl 1 rfl) ?_
  refine bc_vi (As := [.int 2, .int (nI g)]) (rest := []) S hK hw (kX0_membersWith l D cZ cI a σ 2 (g := g) (by omega)) (cwV 2 S.2.2.2.2 gX0_masters_X0_membersWith rfl rfl rfl (by decide +kernel) ⟨Nat.le_of_ble_eq_true rfl, Nat.le_of_ble_eq_true rfl⟩) (q0 := 0) rfl rfl rfl hl.1 rfl (Nat.le_of_ble_eq_true rfl) (Nat.zero_le _) (Nat.zero_le _) dX0_masters_7 (fun H locs hw => ?_)
  exact hret hw dX0_masters_10 (rfl) (congrArg (wX cZ cI a) (rfl))
theorem inX0_gaps : ∀ w ∈ u_ws RX0 TX0 18, w ∈ wsX0_gaps := fun _ h => List.mem_cons_of_mem _ (List.mem_append_left _ (List.mem_append_right _ h))
theorem flX0_gaps_32 : Cond.fieldLink RX0 32 "StandbyPair" "gapTicks" "[I" ∈ wsX0_gaps := by decide +kernel
set_option maxHeartbeats 4000000 in
set_option maxRecDepth 100000 in
theorem kX0_gaps (l : Launch) (D : va_G) (cZ cI : ClassId) (a : Nat → Nat) (σ : sC) {g : Nat} (hg : g < 3) : MI l yX0_gaps wsX0_gaps ({ frames := 1, cells := 0, slots := 0, locals := 20 } : Room) D (tyZ cZ cI) [.ref (a 0), .int (nI g)] (wX cZ cI a σ) (σ 7 g) (wX cZ cI a σ) := by
  refine MI.of (cc := cX0_gaps) (maxL := 2) (ty := .int) (by decide) rfl (rfl) ⟨rfl, rfl⟩ (Nat.le_of_ble_eq_true rfl) ?_
  intro p e s m args below meth c A Q S hK hret ls hl hw
  replace hl : lv_has ls 2 [(0, .ref (a 0)), (1, .int (nI g))] := hl
  replace S : CallFix p m c cX0_gaps 2 s args wsX0_gaps RX0 := S
  have hin := inX0_gaps
  refine lv_iload_n S.1 S.2.1 dX0_gaps_0 rfl (lv_at hl 1 rfl) ?_
  refine bc_sv (As := [.int (nI g)]) (rest := []) S hK hw (kX0_checkGroup l D _ (g := g) (by omega)) (va_cwS 1 S.2.2.2.2 gX0_gaps_X0_checkGroup rfl rfl rfl (by decide +kernel) ⟨Nat.le_of_ble_eq_true rfl, Nat.le_of_ble_eq_true rfl⟩) rfl hl.1 rfl (Nat.le_of_ble_eq_true rfl) (Nat.zero_le _) (Nat.zero_le _) dX0_gaps_1 (fun H locs hw => ?_)
  refine lv_aload_n S.1 S.2.1 dX0_gaps_4 rfl (lv_at hl 0 rfl) ?_
  refine bx_get S hK hin hw.1 0 rfl rfl 7 (by decide) flX0_gaps_32 rfl dX0_gaps_5 ?_
  refine lv_iload_n S.1 S.2.1 dX0_gaps_8 rfl (lv_at hl 1 rfl) ?_
  refine bx_iald (v := σ 7 g) S hK hw.1 8 1 rfl rfl (by omega) (by decide) rfl dX0_gaps_9 ?_
  exact hret hw dX0_gaps_10 (rfl) (congrArg (wX cZ cI a) (rfl))
theorem inX0_sent : ∀ w ∈ u_ws RX0 TX0 18, w ∈ wsX0_sent := fun _ h => List.mem_cons_of_mem _ (List.mem_append_left _ (List.mem_append_right _ h))
theorem flX0_sent_35 : Cond.fieldLink RX0 35 "StandbyPair" "advertisements" "[I" ∈ wsX0_sent := by decide +kernel
set_option maxHeartbeats 4000000 in
set_option maxRecDepth 100000 in
theorem kX0_sent (l : Launch) (D : va_G) (cZ cI : ClassId) (a : Nat → Nat) (σ : sC) {g : Nat} (hg : g < 3) : MI l yX0_sent wsX0_sent ({ frames := 1, cells := 0, slots := 0, locals := 20 } : Room) D (tyZ cZ cI) [.ref (a 0), .int (nI g)] (wX cZ cI a σ) (σ 8 g) (wX cZ cI a σ) := by
  refine MI.of (cc := cX0_sent) (maxL := 2) (ty := .int) (by decide) rfl (rfl) ⟨rfl, rfl⟩ (Nat.le_of_ble_eq_true rfl) ?_
  intro p e s m args below meth c A Q S hK hret ls hl hw
  replace hl : lv_has ls 2 [(0, .ref (a 0)), (1, .int (nI g))] := hl
  replace S : CallFix p m c cX0_sent 2 s args wsX0_sent RX0 := S
  have hin := inX0_sent
  refine lv_iload_n S.1 S.2.1 dX0_sent_0 rfl (lv_at hl 1 rfl) ?_
  refine bc_sv (As := [.int (nI g)]) (rest := []) S hK hw (kX0_checkGroup l D _ (g := g) (by omega)) (va_cwS 1 S.2.2.2.2 gX0_sent_X0_checkGroup rfl rfl rfl (by decide +kernel) ⟨Nat.le_of_ble_eq_true rfl, Nat.le_of_ble_eq_true rfl⟩) rfl hl.1 rfl (Nat.le_of_ble_eq_true rfl) (Nat.zero_le _) (Nat.zero_le _) dX0_sent_1 (fun H locs hw => ?_)
  refine lv_aload_n S.1 S.2.1 dX0_sent_4 rfl (lv_at hl 0 rfl) ?_
  refine bx_get S hK hin hw.1 0 rfl rfl 8 (by decide) flX0_sent_35 rfl dX0_sent_5 ?_
  refine lv_iload_n S.1 S.2.1 dX0_sent_8 rfl (lv_at hl 1 rfl) ?_
  refine bx_iald (v := σ 8 g) S hK hw.1 9 1 rfl rfl (by omega) (by decide) rfl dX0_sent_9 ?_
  exact hret hw dX0_sent_10 (rfl) (congrArg (wX cZ cI a) (rfl))
theorem inX0_repairs : ∀ w ∈ u_ws RX0 TX0 18, w ∈ wsX0_repairs := fun _ h => List.mem_cons_of_mem _ (List.mem_append_right _ h)
theorem flX0_repairs_127 : Cond.fieldLink RX0 127 "StandbyPair" "bulkRepairs" "I" ∈ wsX0_repairs := by decide +kernel
set_option maxHeartbeats 4000000 in
set_option maxRecDepth 100000 in
theorem kX0_repairs (l : Launch) (D : va_G) (cZ cI : ClassId) (a : Nat → Nat) (σ : sC)  : MI l yX0_repairs wsX0_repairs ({ frames := 0, cells := 0, slots := 0, locals := 0 } : Room) D (tyZ cZ cI) [.ref (a 0)] (wX cZ cI a σ) (σ 16 0) (wX cZ cI a σ) := by
  refine MI.of (cc := cX0_repairs) (maxL := 1) (ty := .int) (by decide) rfl (rfl) ⟨rfl, rfl⟩ (Nat.le_of_ble_eq_true rfl) ?_
  intro p e s m args below meth c A Q S hK hret ls hl hw
  replace hl : lv_has ls 1 [(0, .ref (a 0))] := hl
  replace S : CallFix p m c cX0_repairs 1 s args wsX0_repairs RX0 := S
  have hin := inX0_repairs
  refine lv_aload_n S.1 S.2.1 dX0_repairs_0 rfl (lv_at hl 0 rfl) ?_
  refine bx_get S hK hin hw.1 0 rfl rfl 16 (by decide) flX0_repairs_127 rfl dX0_repairs_1 ?_
  exact hret hw dX0_repairs_4 (rfl) (congrArg (wX cZ cI a) (rfl))
theorem inX0_isSettled : ∀ w ∈ u_ws RX0 TX0 18, w ∈ wsX0_isSettled := fun _ h => List.mem_cons_of_mem _ (List.mem_append_left _ (List.mem_append_right _ h))
set_option maxHeartbeats 4000000 in
set_option maxRecDepth 100000 in
theorem kX0_isSettled (l : Launch) (D : va_G) (cZ cI : ClassId) (a : Nat → Nat) (σ : sC) {g : Nat} (hg : g < 3) : MI l yX0_isSettled wsX0_isSettled ({ frames := 2, cells := 0, slots := 0, locals := 45 } : Room) D (tyZ cZ cI) [.ref (a 0), .int (nI g)] (wX cZ cI a σ) (setlF σ g) (wX cZ cI a σ) := by
  refine MI.of (cc := cX0_isSettled) (maxL := 2) (ty := .boolean) (by decide) rfl (nar_z (setlF_z σ g)) ⟨rfl, rfl⟩ (Nat.le_of_ble_eq_true rfl) ?_
  intro p e s m args below meth c A Q S hK hret ls hl hw
  replace hl : lv_has ls 2 [(0, .ref (a 0)), (1, .int (nI g))] := hl
  replace S : CallFix p m c cX0_isSettled 2 s args wsX0_isSettled RX0 := S
  have hin := inX0_isSettled
  refine lv_iload_n S.1 S.2.1 dX0_isSettled_0 rfl (lv_at hl 1 rfl) ?_
  refine bc_sv (As := [.int (nI g)]) (rest := []) S hK hw (kX0_checkGroup l D _ (g := g) (by omega)) (va_cwS 1 S.2.2.2.2 gX0_isSettled_X0_checkGroup rfl rfl rfl (by decide +kernel) ⟨Nat.le_of_ble_eq_true rfl, Nat.le_of_ble_eq_true rfl⟩) rfl hl.1 rfl (Nat.le_of_ble_eq_true rfl) (Nat.zero_le _) (Nat.zero_le _) dX0_isSettled_1 (fun H locs hw => ?_)
  refine lv_aload_n S.1 S.2.1 dX0_isSettled_4 rfl (lv_at hl 0 rfl) ?_
  refine lv_iconst (v := 2) S.1 S.2.1 dX0_isSettled_5 (by decide) ?_
  refine lv_iload_n S.1 S.2.1 dX0_isSettled_6 rfl (lv_at hl 1 rfl) ?_
  refine bc_vi (As := [.int 2, .int (nI g)]) (rest := []) S hK hw (kX0_membersWith l D cZ cI a σ 2 (g := g) (by omega)) (cwV 2 S.2.2.2.2 gX0_isSettled_X0_membersWith rfl rfl rfl (by decide +kernel) ⟨Nat.le_of_ble_eq_true rfl, Nat.le_of_ble_eq_true rfl⟩) (q0 := 0) rfl rfl rfl hl.1 rfl (Nat.le_of_ble_eq_true rfl) (Nat.zero_le _) (Nat.zero_le _) dX0_isSettled_7 (fun H locs hw => ?_)
  refine bz_ne (tgt := 28) S dX0_isSettled_10 (by decide) (fun c10 => ?_) (fun c10 => ?_)
  · refine lv_aload_n S.1 S.2.1 dX0_isSettled_28 rfl (lv_at hl 0 rfl) ?_
    refine lv_iload_n S.1 S.2.1 dX0_isSettled_29 rfl (lv_at hl 1 rfl) ?_
    refine bc_vi (As := [.int (nI g)]) (rest := []) S hK hw (kX0_hasJoinedMasters l D cZ cI a σ (g := g) (by omega)) (cwV 1 S.2.2.2.2 gX0_isSettled_X0_hasJoinedMasters rfl rfl rfl (by decide +kernel) ⟨Nat.le_of_ble_eq_true rfl, Nat.le_of_ble_eq_true rfl⟩) (q0 := 0) rfl rfl rfl hl.1 rfl (Nat.le_of_ble_eq_true rfl) (Nat.zero_le _) (Nat.zero_le _) dX0_isSettled_30 (fun H locs hw => ?_)
    refine bz_ne (tgt := 40) S dX0_isSettled_33 (by decide) (fun c33 => ?_) (fun c33 => ?_)
    · refine lv_iconst (v := 0) S.1 S.2.1 dX0_isSettled_40 (by decide) ?_
      exact hret hw dX0_isSettled_41 (by simp only [setlF, eq_false c10, eq_false c33, ↓reduceIte]) (congrArg (wX cZ cI a) (rfl))
    · refine lv_iconst (v := 1) S.1 S.2.1 dX0_isSettled_36 (by decide) ?_
      refine lv_goto (tgt := 41) S.1 S.2.1 dX0_isSettled_37 (by decide) ?_
      exact hret hw dX0_isSettled_41 (by simp only [setlF, eq_false c10, eq_true c33, ↓reduceIte]) (congrArg (wX cZ cI a) (rfl))
  · refine lv_aload_n S.1 S.2.1 dX0_isSettled_13 rfl (lv_at hl 0 rfl) ?_
    refine lv_iconst (v := 1) S.1 S.2.1 dX0_isSettled_14 (by decide) ?_
    refine lv_iload_n S.1 S.2.1 dX0_isSettled_15 rfl (lv_at hl 1 rfl) ?_
    refine bc_vi (As := [.int 1, .int (nI g)]) (rest := []) S hK hw (kX0_membersWith l D cZ cI a σ 1 (g := g) (by omega)) (cwV 2 S.2.2.2.2 gX0_isSettled_X0_membersWith rfl rfl rfl (by decide +kernel) ⟨Nat.le_of_ble_eq_true rfl, Nat.le_of_ble_eq_true rfl⟩) (q0 := 0) rfl rfl rfl hl.1 rfl (Nat.le_of_ble_eq_true rfl) (Nat.zero_le _) (Nat.zero_le _) dX0_isSettled_16 (fun H locs hw => ?_)
    refine bz_ne (tgt := 26) S dX0_isSettled_19 (by decide) (fun c19 => ?_) (fun c19 => ?_)
    · refine lv_iconst (v := 0) S.1 S.2.1 dX0_isSettled_26 (by decide) ?_
      exact hret hw dX0_isSettled_27 (by simp only [setlF, eq_true c10, eq_false c19, ↓reduceIte]) (congrArg (wX cZ cI a) (rfl))
    · refine lv_iconst (v := 1) S.1 S.2.1 dX0_isSettled_22 (by decide) ?_
      refine lv_goto (tgt := 27) S.1 S.2.1 dX0_isSettled_23 (by decide) ?_
      exact hret hw dX0_isSettled_27 (by simp only [setlF, eq_true c10, eq_true c19, ↓reduceIte]) (congrArg (wX cZ cI a) (rfl))
end
section
def inB (v lo hi : Int32) : Int32 := if v < lo then 0 else if hi < v then 0 else 1
theorem in_r {r : Nat} (hr : r < 4) : inB (nI r) 0 3 = 1 := (by decide +kernel : ∀ r, r < 4 → inB (nI r) 0 3 = 1) r hr
theorem in_g {g : Nat} (hg : g < 3) : inB (nI g) 0 2 = 1 := (by decide +kernel : ∀ g, g < 3 → inB (nI g) 0 2 = 1) g hg
theorem in_k {k : Nat} (hk : k < 2) : inB (nI k) 0 1 = 1 := (by decide +kernel : ∀ k, k < 2 → inB (nI k) 0 1 = 1) k hk
theorem it_s {α : Type} (f : Nat → α → α) (x : α) (n : Nat) : itF f x (n + 1) = f n (itF f x n) := rfl
end
section
/-! ===== methods that throw, on the arguments for which they do; each makes a cell (the row vg_throwS follows the printed vx_throwS, with the heap's growth told at its end) ===== -/
section VG
variable {p : Program} {l : Launch} {e : Env} {R : Room} {s : State} {m : MethodId} {args : Array Value} {below : List Frame} {meth : Method} {c : Code} {H : Heap} {locs : List Loc} {cells slots : Nat} {Q : State → Prop} {ls : Array Slot} {rest : List Value} {Qc : Array Value → State → Outcome → State → Prop} {XC : String → State → State → Prop} {free : Addr → Prop}
theorem vg_throwS {cc : ByteArray} {pc : Nat} (hexec : p.tables.exec = Jvm.exec) (hb : c.code = cc) (hl : l.stackTraces = false) {own cls text : String} {names : List String} {ik is ic mc ms sa : Nat} {A : Nat → Prop}
    (hown : s.vm.findClass own = some m.cls) (hcls : Bundle.fit cls = true) (hnames : ∀ n ∈ names, Bundle.fit n = true)
    (hk : (Cond.classLink own ik cls).before args s = true) (hini : (Cond.initialized cls).before args s = true) (hstr : vk_R own is text sa s) (hat : ∀ w ∈ vx_atS own ic cls names, w.before args s = true)
    (hgood : ∀ w ∈ Cond.classLink own ik cls :: Cond.initialized cls :: vx_atS own ic cls names, vx_ot w = true)
    (hU : vx_Zq Bundle.tN "UNASSIGNED_STACK" Bundle.steD A s s.heap) (hN : vx_Zq Bundle.tN "SUPPRESSED_SENTINEL" Bundle.listD A s s.heap) (hS : va_S A s.heap H locs) (hsize : ls.size = c.maxLocals)
    (d0 : decode cc pc = .ok (.new ik, 3)) (d3 : decode cc (pc + 3) = .ok (.dup, 1)) (d4 : decode cc (pc + 4) = .ok (.ldc is, 2)) (d6 : decode cc (pc + 6) = .ok (.invokespecial ic, 3)) (d9 : decode cc (pc + 9) = .ok (.athrow, 1))
    (hout : ∀ x ∈ c.exceptionTable.toList, covers x (pc + 9) = false)
    (hRframes : names.length + 3 < R.frames) (hRlocals : (rest.map fun v => v.category).sum + (13 * (names.length + 1) + 43) ≤ R.locals) (hRcells : cells + 1 ≤ R.cells) (hRslots : slots + 6 ≤ R.slots) (hlocks : meth.locks = false)
    (hx : ∀ t : State, s.vm.Alike t.vm → H.size < t.heap.size → (∀ q : Nat, q < H.size → t.heap[q]? = H[q]?) → XC cls s t)
    (hf : ∀ z ∈ locs, free z.base) (hc : cells + 1 ≤ mc) (hs : slots + 6 ≤ ms) :
    W p l e R s m args below meth c H locs cells slots (vx_MQ below Qc XC args s mc ms free) (F0 m pc ls rest) := by
  intro T hT X
  have htr : e.platform.stackTraces = false := (show e.platform.stackTraces = l.stackTraces by rw [X.admits.platform]).trans hl
  have Y := vx_rebase X (R' := { frames := R.frames, locals := R.locals, cells := 1, slots := 6 }) (Nat.le_refl _) (Nat.le_refl _) hRcells hRslots
  obtain ⟨s', hA⟩ : ∃ z, z = (T.setVm s.vm).setFrames (.invoking m args :: below) := ⟨_, rfl⟩
  rw [← hA] at Y
  have hvm : s'.vm = s.vm := by rw [hA]; rfl
  have hhp : s'.heap = H := by rw [hA]; exact hT
  have hW0 : s.WarmedH s'.vm := by rw [hvm]; exact State.WarmedH.refl s
  have hat' : ∀ w ∈ vx_atS own ic cls names, w.before args s' = true := fun w hw => vx_ot_at hW0 hvm.symm (hgood w (List.mem_cons_of_mem _ (List.mem_cons_of_mem _ hw))) (hat w hw)
  have hk' : (Cond.classLink own ik cls).before args s' = true := vx_ot_at hW0 hvm.symm (hgood _ List.mem_cons_self) hk
  have hini' : (Cond.initialized cls).before args s' = true := vx_ot_at hW0 hvm.symm (hgood _ (List.mem_cons_of_mem _ List.mem_cons_self)) hini
  have hU' : vx_Zq Bundle.tN "UNASSIGNED_STACK" Bundle.steD A s' s'.heap := by rw [hhp]; exact vx_Zq.moved hW0.alike (hU.kept hS.2.1)
  have hN' : vx_Zq Bundle.tN "SUPPRESSED_SENTINEL" Bundle.listD A s' s'.heap := by rw [hhp]; exact vx_Zq.moved hW0.alike (hN.kept hS.2.1)
  have h : ∀ w ∈ Bundle.ownAtoms own ic cls names, w.before args s' = true := vx_own hat' (vx_isRefq hU'.1) (vx_isRefq hN'.1) hU'.2.word hN'.2.word
  have hown' : s'.vm.findClass own = some m.cls := by rw [hvm]; exact hown
  have hins : (Cond.instantiable cls 6).before args s' = true := h _ (by simp [Bundle.ownAtoms])
  obtain ⟨vm₁, cX, kX, hfX, hkX, -, -, X₁, st1⟩ := Y.newCold hexec (own := own) (C := cls) (index := ik) (n := 6) hown' hk' hins hini'
    (g := F0 m pc ls rest) rfl (by rw [hb]; exact d0) (Nat.le_refl _) (Nat.le_refl _)
  generalize hT1 : (T.setVm vm₁).pushCell { cls := cX, slots := kX.instanceTypes.map defaultValue, vm := .none } = T1 at X₁ st1
  have hcat : (Value.ref T.heap.size).category = 1 := rfl
  have hcellA : T1.heap[T.heap.size]? = some (freshCell cX kX) := by rw [← hT1]; exact State.heap_pushCell_size _ _
  have d3' : decode c.code (pc + 3) = .ok (.dup, 1) := by rw [hb]; exact d3
  have d4' : decode c.code (pc + 4) = .ok (.ldc is, 2) := by rw [hb]; exact d4
  have hstr' : vk_R own is text sa s' := vk_R.warm hW0 hstr
  obtain ⟨U, hsteps, hrun, hend, hW, hsame, ce, hce, hO⟩ := X₁.ctorThrowS hexec htr (own := own) (cls := cls) (names := names) (ic := ic) hown' hcls hnames h (fun x hx => nomatch hx) hfX hkX hcellA (by rw [hhp, hT]; exact Nat.le_refl _) (msg := .ref sa) rfl
    (g := { method := m, pc := pc + 6, locals := ls, stack := .ref sa :: .ref T.heap.size :: .ref T.heap.size :: rest, locked := none }) rfl hsize rfl rfl (rest := rest) rfl
    (by rw [hb]; exact d6) (by rw [hb]; exact d9) hout hRframes (by simp only [List.map_cons, List.sum_cons, hcat]; omega) hlocks
  obtain ⟨f1, f2⟩ := vx_frame hsame
  rw [hhp] at f1 f2
  have hWs : s.WarmedH U.vm := State.WarmedH.trans hW0 hW
  have hcl : s.vm.findClass cls = some ce.cls := by
    have h9 := hO.cls
    rw [hvm] at h9
    exact h9
  have hall : s.sameButNew ({ U with vm := s.vm } : State) locs mc ms := by
    subst hA
    obtain ⟨e1, e2⟩ := hsame
    rw [State.setFrames_setFrames] at e1
    have h2 : (T.setVm s.vm).sameButNew ({ U with vm := s.vm } : State) [] (0 + 1) (0 + 6) := ⟨e1, e2⟩
    have h3 := X.same.trans h2
    rw [List.append_nil] at h3
    exact h3.mono hc hs
  refine ⟨U, ?_, .threw T.heap.size, hrun, hend, Or.inr ⟨T.heap.size, rfl, cls, ce, locs, hx U hWs.alike (by have h9 := (Array.getElem?_eq_some_iff.mp hce).1; rw [hT] at h9; exact h9) (fun q hq => f2 q hq (fun z hz => nomatch hz)), hce, hO.vm, hcl, hWs, hall, hf⟩⟩
  refine st1 _ ?_
  show Steps p.tables e below (T1.setTop { method := m, pc := pc + 3, locals := ls, stack := .ref T.heap.size :: rest, locked := none }) _
  jvm_step X₁.here [X₁.here.top, hexec, d3', Value.category]
  exact X₁.ldcString hexec (own := own) (text := text) (index := is) (a := sa) hown' hstr'.1 hstr'.2
    (g := { method := m, pc := pc + 4, locals := ls, stack := .ref T.heap.size :: .ref T.heap.size :: rest, locked := none }) rfl d4' _ hsteps
end VG
def lw_str : List (Nat × String) := [(155, "a router is 0 to 3"), (157, "a group is 0 to 2"), (159, "a link is 0 or 1"), (161, "a parameter is out of its range"), (89, "a router can't be joined with itself"), (96, "the router is dead"), (99, "the router is alive"), (101, "the router is no master of the group"), (122, "the router takes no part in the group")]
def zzW : List Cond := [.declares (Bundle.initS "java/lang/RuntimeException"), .declares (Bundle.initS "java/lang/Exception"), .declares (Bundle.initS "java/lang/Throwable"), .castable "java/lang/IllegalArgumentException" "java/lang/IllegalArgumentException", .castable "java/lang/IllegalStateException" "java/lang/IllegalStateException"]
theorem zzW.ok : ∀ w ∈ zzW, w.onTables = true := by decide +kernel
theorem zzW.warm {s U : State} (hW : s.WarmedH U.vm) (h : ∀ w ∈ zzW, va_Nw w s) : ∀ w ∈ zzW, va_Nw w U := by
  intro w hw
  have h1 := h w hw
  simp only [zzW, List.mem_cons, List.not_mem_nil, or_false] at hw
  rcases hw with rfl | rfl | rfl | rfl | rfl
  · exact va_Nw.warmD hW h1
  · exact va_Nw.warmD hW h1
  · exact va_Nw.warmD hW h1
  · exact va_Nw.warmC hW h1
  · exact va_Nw.warmC hW h1
/-- what a throw needs of the JDK: two statics, the texts, words of the tables -/
def ZT (A : Nat → Prop) (U : State) (H : Heap) : Prop := vx_Zq Bundle.tN "UNASSIGNED_STACK" Bundle.steD A U H ∧ vx_Zq Bundle.tN "SUPPRESSED_SENTINEL" Bundle.listD A U H ∧ (∀ (k : Nat) (q : Nat × String), lw_str[k]? = some q → (∃ a : Nat, vk_R RX0 q.1 q.2 a U)) ∧ (∀ w ∈ zzW, va_Nw w U) ∧ va_Nc "java/lang/IllegalStateException" "java/lang/IllegalArgumentException" U
theorem ZT.to {A B : Nat → Prop} {s U : State} {H H1 : Heap} (h : ZT A s H) (hW : s.WarmedH U.vm) (hq : ∀ a : Nat, a < H.size → ¬ A a → H1[a]? = H[a]?) (hB : ∀ q, B q → A q) : ZT B U H1 :=
  ⟨vx_Zq.moved hW.alike ((h.1.kept hq).narrow hB), vx_Zq.moved hW.alike ((h.2.1.kept hq).narrow hB), fun k q hk => (h.2.2.1 k q hk).imp fun a ha => vk_R.warm hW ha, zzW.warm hW h.2.2.2.1, va_Nc.moved hW.alike h.2.2.2.2⟩
def MPreT (D : va_G) (tys : List (ClassId × FieldType)) (w0 : va_W) (sz : Nat) (U : State) : Prop := MPre D tys w0 sz U ∧ ZT (fun q => sz ≤ q) U U.heap
def XT (E : String) (sz : Nat) : String → State → State → Prop := vx_X (fun (_ : Unit) => True) (fun E' _ t => E' = E ∧ sz < t.heap.size) (fun q => sz ≤ q)
def MT (l : Launch) (y : MethodName) (wsl : List Cond) (rm : Room) (D : va_G) (tys : List (ClassId × FieldType)) (As : List Value) (w0 : va_W) (E : String) : Prop :=
  ∀ sz : Nat, vx_Met l y wsl rm (va_Pc As (MPreT D tys w0 sz)) (fun _ _ _ _ => False) (XT E sz) 1 6 (fun q => sz ≤ q)
theorem MPreT.blind {D : va_G} {tys : List (ClassId × FieldType)} {w0 : va_W} {sz : Nat} {As : List Value} : FrameBlind (va_Pc As (MPreT D tys w0 sz)) := fun a U g mk q => by
  obtain ⟨q0, qM, qZ⟩ := q
  refine ⟨q0, (MPre.blind (As := As) a U g mk ⟨q0, qM⟩).2, ?_⟩
  exact ⟨vx_Zq.moved (u := U) (U := U.calling g mk a) (Vm.Alike.refl U.vm) qZ.1, vx_Zq.moved (u := U) (U := U.calling g mk a) (Vm.Alike.refl U.vm) qZ.2.1, fun k q hk => (qZ.2.2.1 k q hk).imp fun a ha => vk_R.same (u := U) rfl ha, fun w hw => va_Nw.same (zzW.ok w hw) (u := U) rfl (qZ.2.2.2.1 w hw), va_Nc.moved (u := U) (U := U.calling g mk a) (Vm.Alike.refl U.vm) qZ.2.2.2.2⟩
abbrev QT (below : List Frame) (E : String) (args : Array Value) (s : State) : State → Prop := vx_MQ below (fun _ _ _ _ => False) (XT E s.heap.size) args s 1 6 (fun q => s.heap.size ≤ q)
theorem MT.of {l : Launch} {y : MethodName} {wsl ws' : List Cond} {rm : Room} {D : va_G} {tys : List (ClassId × FieldType)} {As : List Value} {w0 : va_W} {E : String} {cc : ByteArray} {maxL : Nat} {ret : Option FieldType}
    (hy : plainName y.cls = true) (hws : wsl = Cond.code y cc maxL ret :: ws') (hla : (lg_sl As).length ≤ maxL)
    (body : ∀ (p : Program) (e : Env) (s : State) (m : MethodId) (args : Array Value) (below : List Frame) (meth : Method) (c : Code), CallFix p m c cc maxL s args wsl y.cls → va_K D vwCl tys s → ZT (fun q => s.heap.size ≤ q) s s.heap → meth.locks = false → (∀ x ∈ c.exceptionTable.toList, False) →
      ∀ ls : Array Slot, lv_has ls maxL (lv_args 0 As) → Wt D (fun q => s.heap.size ≤ q) s.heap w0 s.heap [] → W p l e rm s m args below meth c s.heap [] 0 0 (QT below E args s) (F0 m 0 ls [])) : MT l y wsl rm D tys As w0 E := by
  intro sz
  refine vx_ofW (cc := cc) (maxL := maxL) (ret := ret) hy hws ?_
  intro p e s m args below meth c s₁ B hml ht hv
  obtain ⟨rfl, ⟨hsz, hP, hK, hD0⟩, hZ⟩ := hv
  subst hsz
  have hroom : (headSpec wsl rm).room = rm := rfl
  rw [hroom, lg_entry_eq]
  exact body p e s m _ below meth c ⟨B.exec, B.bytes, hml, findClass_of_methodNamed B.named, atoms_spec (ws := wsl) B.pre⟩ hK hZ B.notSynchronized ht _ (lv_entry As hla) ⟨hP, va_S.rf, fun q h => h, fun k q hk => ⟨(hP k q hk).lt, Nat.not_le.mpr (hP k q hk).lt⟩⟩
theorem va_P_nil {D : va_G} {H : Heap} : va_P D vwCl [] H := fun k q h => by simp at h
theorem va_D_nil {A : Nat → Prop} : va_D A ([] : va_W) := ⟨fun i j p q h => by simp at h, fun k q h => by simp at h⟩
section BT
variable {p : Program} {l : Launch} {e : Env} {R : Room} {s : State} {m : MethodId} {args : Array Value} {below : List Frame} {meth : Method} {c : Code} {H : Heap} {locs : List Loc} {cells slots : Nat} {Q : State → Prop}
variable {cc : ByteArray} {nL pc : Nat} {ls : Array Slot} {rest : List Value} {Ts : List Cond} {own : String} {D : va_G} {A : Nat → Prop} {H0 : Heap} {ws ws' : va_W} {tys : List (ClassId × FieldType)}
variable {y : MethodName} {bytes : ByteArray} {maxL n index : Nat} {ret : Option FieldType} {wsl : List Cond} {rm : Room} {C : String} {b : Nat} {As : List Value} {st : List Value}
theorem bt_si (S : CallFix p m c cc nL s args Ts own) (hK : va_K D vwCl tys s) (hw : Wt D A H0 ws H locs) {r : Int32} (hM : MI l y wsl rm D tys As [] r []) (cw : CallB R s args own index y bytes maxL ret wsl rm 0 0 n ∧ (Cond.static y).before args s = true) (hn : As.length = n) (hl : ls.size = nL) (hst : st = As.reverse ++ rest) (hr : (rest.map fun v => v.category).sum ≤ 8) (hcl : cells ≤ R.cells) (hsl : slots ≤ R.slots) (hdg : decode cc pc = .ok (.invokestatic index, 3))
    (kk : ∀ (H1 : Heap) (locs1 : List Loc), Wt D A H0 ws H1 locs1 → W p l e R s m args below meth c H1 locs1 cells slots Q (F0 m (pc + 3) ls (.int r :: rest))) : W p l e R s m args below meth c H locs cells slots Q (F0 m pc ls st) := by
  have hF : ∀ q, va_A [] H.size q → A q := fun q h => hw.2.2.1 q (Nat.le_trans hw.2.1.1 (va_A.nil h))
  refine va_calli (va_runS (As := As) (rest := rest) S (hM H.size) cw ⟨MPre.blind, fun U hU hW => ⟨rfl, by rw [hU], va_P_nil, va_K.moved hW.alike hK, va_D_nil⟩⟩ rfl hn hl hst (lv_room hr) hdg ⟨hcl, hsl⟩) hw.2.1 (fun q _ h => hF q h) hF (fun r' u t H1 locs1 ht hvm hp hB hz1 hk1 hS => ?_)
  subst hp
  exact kk H1 locs1 ⟨hw.1.kept (fun k q hq => hk1 q.1 (hw.1 k q hq).lt (fun h => absurd (va_A.nil h) (Nat.not_le.mpr (hw.1 k q hq).lt))), hS, hw.2.2.1, hw.2.2.2⟩
theorem bt_sv (S : CallFix p m c cc nL s args Ts own) (hK : va_K D vwCl tys s) (hw : Wt D A H0 ws H locs) (hM : MV l y wsl rm D tys As [] []) (cw : CallB R s args own index y bytes maxL ret wsl rm 0 0 n ∧ (Cond.static y).before args s = true) (hn : As.length = n) (hl : ls.size = nL) (hst : st = As.reverse ++ rest) (hr : (rest.map fun v => v.category).sum ≤ 8) (hcl : cells ≤ R.cells) (hsl : slots ≤ R.slots) (hdg : decode cc pc = .ok (.invokestatic index, 3))
    (kk : ∀ (H1 : Heap) (locs1 : List Loc), Wt D A H0 ws H1 locs1 → W p l e R s m args below meth c H1 locs1 cells slots Q (F0 m (pc + 3) ls rest)) : W p l e R s m args below meth c H locs cells slots Q (F0 m pc ls st) := by
  have hF : ∀ q, va_A [] H.size q → A q := fun q h => hw.2.2.1 q (Nat.le_trans hw.2.1.1 (va_A.nil h))
  refine va_callv (va_runS (As := As) (rest := rest) S (hM H.size) cw ⟨MPre.blind, fun U hU hW => ⟨rfl, by rw [hU], va_P_nil, va_K.moved hW.alike hK, va_D_nil⟩⟩ rfl hn hl hst (lv_room hr) hdg ⟨hcl, hsl⟩) hw.2.1 (fun q _ h => hF q h) hF (fun u t H1 locs1 ht hvm hp hB hz1 hk1 hS => ?_)
  exact kk H1 locs1 ⟨hw.1.kept (fun k q hq => hk1 q.1 (hw.1 k q hq).lt (fun h => absurd (va_A.nil h) (Nat.not_le.mpr (hw.1 k q hq).lt))), hS, hw.2.2.1, hw.2.2.2⟩
/-- a call that throws E -/
theorem bt_run {E : String} {n0 : Nat} {free AX : Nat → Prop} {A0 : Nat → Prop} {st0 : List Value} (hr : vx_Run p l e R s m args below meth c H locs cells slots 1 6 (F0 m pc ls st0) rest (fun _ _ _ => False) (vx_X (fun (_ : Unit) => True) (fun E' _ t => E' = E ∧ n0 < t.heap.size) AX) free) (hS : va_S A0 H0 H locs) (hf : ∀ q, free q → A0 q) (hAX : ∀ q, q < H.size → AX q → A0 q)
    (kx : ∀ (ce : Cell) (q9 : Addr) (H1 : Heap) (locs1 : List Loc), n0 < H1.size → (∀ q : Nat, q < H.size → ¬ AX q → H1[q]? = H[q]?) → va_S A0 H0 H1 locs1 → H1[q9]? = some ce → ce.vm = .none → s.vm.findClass E = some ce.cls → vx_W p l e R s m args below meth c H1 locs1 (cells + 1) (slots + 6) Q (F0 m pc ls rest) q9) : W p l e R s m args below meth c H locs cells slots Q (F0 m pc ls st0) := by
  intro T hT X
  rcases hr T hT X with ⟨v, st₀, t, T', L, h0, X', hL, e1, e2, hf9, st⟩ | ⟨q, st₀, t, T', L, E1, ce, h0, X', hL, e1, e2, ⟨u, hp, hb, hF⟩, hce, hcv, hcl, st⟩
  · exact hf9.elim
  · obtain ⟨k1, k2, k3⟩ := vx_keep h0 e1 hS hAX hf hL hF
    obtain ⟨rfl, hb2⟩ := hb
    obtain ⟨t2, a1, b1⟩ := kx ce q T'.heap (locs ++ L) (by rw [e1]; exact hb2) k2 k3 (by rw [e1]; exact hce) hcv hcl T' rfl X'
    exact ⟨t2, st.trans a1, b1⟩
/-- a static call that throws, and the throw leaves this method too -/
theorem bt_sx {E : String} (S : CallFix p m c cc nL s args Ts own) (hK : va_K D vwCl tys s) (hZ : ZT (fun q => s.heap.size ≤ q) s s.heap) (hlk : meth.locks = false) (hx : ∀ x ∈ c.exceptionTable.toList, False) (hw : Wt D (fun q => s.heap.size ≤ q) s.heap ws H locs) (hM : MT l y wsl rm D tys As [] E) (cw : CallB R s args own index y bytes maxL ret wsl rm 1 6 n ∧ (Cond.static y).before args s = true) (hn : As.length = n) (hl : ls.size = nL) (hst : st = As.reverse ++ rest) (hr : (rest.map fun v => v.category).sum ≤ 8) (hcl : 0 + 1 ≤ R.cells) (hsl : 0 + 6 ≤ R.slots) (hdg : decode cc pc = .ok (.invokestatic index, 3)) :
    W p l e R s m args below meth c H locs 0 0 (QT below E args s) (F0 m pc ls st) := by
  have hF : ∀ q : Nat, H.size ≤ q → s.heap.size ≤ q := fun q h => Nat.le_trans hw.2.1.1 h
  refine bt_run (rest := rest) (vx_runS (As := As) (rest := rest) S (hM H.size) cw ⟨MPreT.blind, fun U hU hW => ⟨rfl, ⟨by rw [hU], va_P_nil, va_K.moved hW.alike hK, va_D_nil⟩, by rw [hU]; exact hZ.to hW hw.2.1.2.1 hF⟩⟩ rfl hn hl hst (lv_room hr) hdg ⟨hcl, hsl⟩) hw.2.1 hF (fun q _ h => hF q h) (fun ce q9 H1 locs1 hz1 hk1 hS hce hcv hcf => ?_)
  exact vx_out (fun x h => (hx x h).elim) hlk hce hcv hcf (fun t ht hvm => ⟨(), trivial, ⟨rfl, by rw [ht]; exact Nat.lt_of_le_of_lt hw.2.1.1 hz1⟩, hS.F ht⟩) hS.2.2 (Nat.le_of_ble_eq_true rfl) (Nat.le_of_ble_eq_true rfl)
/-- throw new E("text") of this method's own -/
theorem bt_own {E tx : String} {ik ist ic k : Nat} (S : CallFix p m c cc nL s args Ts RX0) (hfl : l.stackTraces = false) (hZ : ZT (fun q => s.heap.size ≤ q) s s.heap) (hlk : meth.locks = false) (hx : ∀ x ∈ c.exceptionTable.toList, False) (hw : Wt D (fun q => s.heap.size ≤ q) s.heap ws H locs) (hl : ls.size = nL) (hk : lw_str[k]? = some (ist, tx)) (hcls : Bundle.fit E = true)
    (h1 : Cond.classLink RX0 ik E ∈ Ts) (h2 : Cond.initialized E ∈ Ts) (h3 : ∀ w ∈ (vx_atS RX0 ic E ["java/lang/RuntimeException", "java/lang/Exception"]).filter goodWord, w ∈ Ts) (h4 : ∀ w ∈ (vx_atS RX0 ic E ["java/lang/RuntimeException", "java/lang/Exception"]).filter (fun w => !goodWord w), w ∈ zzW) (h5 : ∀ w ∈ Cond.classLink RX0 ik E :: Cond.initialized E :: vx_atS RX0 ic E ["java/lang/RuntimeException", "java/lang/Exception"], vx_ot w = true)
    (d0 : decode cc pc = .ok (.new ik, 3)) (d3 : decode cc (pc + 3) = .ok (.dup, 1)) (d4 : decode cc (pc + 4) = .ok (.ldc ist, 2)) (d6 : decode cc (pc + 6) = .ok (.invokespecial ic, 3)) (d9 : decode cc (pc + 9) = .ok (.athrow, 1))
    (hf : 5 < R.frames) (hlo : 0 + 82 ≤ R.locals) (hcl : 0 + 1 ≤ R.cells) (hsl : 0 + 6 ≤ R.slots) : W p l e R s m args below meth c H locs 0 0 (QT below E args s) (F0 m pc ls []) := by
  obtain ⟨sa, hsa⟩ := hZ.2.2.1 k _ hk
  refine vg_throwS (own := RX0) (cls := E) (text := tx) (names := ["java/lang/RuntimeException", "java/lang/Exception"]) (ik := ik) (is := ist) (ic := ic) (sa := sa) (A := fun q => s.heap.size ≤ q) S.1 S.2.1 hfl S.2.2.2.1 hcls (by decide +kernel) (S.2.2.2.2 _ h1) (S.2.2.2.2 _ h2) hsa (vx_hat (B := zzW) (fun w h => S.2.2.2.2 _ (h3 w h)) h4 (fun w h => va_Nw.use (zzW.ok w h) (hZ.2.2.2.1 w h))) h5 hZ.1 hZ.2.1 hw.2.1 (hl.trans S.2.2.1.symm) d0 d3 d4 d6 d9 (fun x h => (hx x h).elim) hf hlo hcl hsl hlk (fun t hvm hz hq => ⟨(), trivial, ⟨rfl, Nat.lt_of_le_of_lt hw.2.1.1 hz⟩, Nat.le_trans hw.2.1.1 (Nat.le_of_lt hz), fun q h1 h2 => (hq q (Nat.lt_of_lt_of_le h1 hw.2.1.1)).trans (hw.2.1.2.1 q h1 h2)⟩) hw.2.1.2.2 (Nat.le_of_ble_eq_true rfl) (Nat.le_of_ble_eq_true rfl)
end BT
theorem ng_IA : ∀ w ∈ (vx_atS RX0 91 "java/lang/IllegalArgumentException" ["java/lang/RuntimeException", "java/lang/Exception"]).filter (fun w => !goodWord w), w ∈ zzW := by decide +kernel
theorem ng_IS : ∀ w ∈ (vx_atS RX0 98 "java/lang/IllegalStateException" ["java/lang/RuntimeException", "java/lang/Exception"]).filter (fun w => !goodWord w), w ∈ zzW := by decide +kernel
theorem ot_IA : ∀ w ∈ Cond.classLink RX0 87 "java/lang/IllegalArgumentException" :: Cond.initialized "java/lang/IllegalArgumentException" :: vx_atS RX0 91 "java/lang/IllegalArgumentException" ["java/lang/RuntimeException", "java/lang/Exception"], vx_ot w = true := by decide +kernel
theorem ot_IS : ∀ w ∈ Cond.classLink RX0 94 "java/lang/IllegalStateException" :: Cond.initialized "java/lang/IllegalStateException" :: vx_atS RX0 98 "java/lang/IllegalStateException" ["java/lang/RuntimeException", "java/lang/Exception"], vx_ot w = true := by decide +kernel
abbrev eIA : String := "java/lang/IllegalArgumentException"
abbrev eIS : String := "java/lang/IllegalStateException"
end
section
theorem chk4 {x : Int32} (h1 : ¬ x < 0) (h2 : x < nI 4) (hb : inB x 0 3 = 0) : False := by
  obtain ⟨j, hj2, rfl⟩ := nI_of h1
  have hj : j < 4 := Classical.byContradiction fun q => (nI_nlt (Nat.not_lt.mp q) (by omega)) h2
  exact absurd ((in_r hj).symm.trans hb) (by decide)
theorem chk3 {x : Int32} (h1 : ¬ x < 0) (h2 : x < nI 3) (hb : inB x 0 2 = 0) : False := by
  obtain ⟨j, hj2, rfl⟩ := nI_of h1
  have hj : j < 3 := Classical.byContradiction fun q => (nI_nlt (Nat.not_lt.mp q) (by omega)) h2
  exact absurd ((in_g hj).symm.trans hb) (by decide)
theorem chk2 {x : Int32} (h1 : ¬ x < 0) (h2 : x < nI 2) (hb : inB x 0 1 = 0) : False := by
  obtain ⟨j, hj2, rfl⟩ := nI_of h1
  have hj : j < 2 := Classical.byContradiction fun q => (nI_nlt (Nat.not_lt.mp q) (by omega)) h2
  exact absurd ((in_k hj).symm.trans hb) (by decide)
set_option maxHeartbeats 4000000 in
set_option maxRecDepth 100000 in
theorem tX0_checkRouter (l : Launch) (hfl : l.stackTraces = false) (D : va_G) (tys : List (ClassId × FieldType)) (x : Int32) (hb : inB x 0 3 = 0) : MT l yX0_checkRouter wsX0_checkRouter ({ frames := 6, cells := 1, slots := 6, locals := 82 } : Room) D tys [.int x] [] eIA := by
  refine MT.of (cc := cX0_checkRouter) (maxL := 1) (ret := none) (by decide) rfl (Nat.le_of_ble_eq_true rfl) ?_
  intro p e s m args below meth c S hK hZ hlk hx ls hl hw
  replace hl : lv_has ls 1 [(0, .int x)] := hl
  replace S : CallFix p m c cX0_checkRouter 1 s args wsX0_checkRouter RX0 := S
  have hm1 : Cond.classLink RX0 87 eIA ∈ wsX0_checkRouter := by decide +kernel
  have hm2 : Cond.initialized eIA ∈ wsX0_checkRouter := by decide +kernel
  have hm3 : ∀ w ∈ (vx_atS RX0 91 eIA ["java/lang/RuntimeException", "java/lang/Exception"]).filter goodWord, w ∈ wsX0_checkRouter := fun _ h => List.mem_cons_of_mem _ (List.mem_append_right _ h)
  refine lv_iload_n S.1 S.2.1 dX0_checkRouter_0 rfl (lv_at hl 0 rfl) ?_
  refine bz_lt (tgt := 9) S dX0_checkRouter_1 (by decide) (fun c1 => ?_) (fun c1 => ?_)
  · exact bt_own (E := eIA) (k := 0) S hfl hZ hlk hx hw hl.1 rfl (by decide +kernel) hm1 hm2 hm3 ng_IA ot_IA dX0_checkRouter_9 dX0_checkRouter_12 dX0_checkRouter_13 dX0_checkRouter_15 dX0_checkRouter_18 (by decide) (by decide) (by decide) (by decide)
  · refine lv_iload_n S.1 S.2.1 dX0_checkRouter_4 rfl (lv_at hl 0 rfl) ?_
    refine lv_iconst (v := nI 4) S.1 S.2.1 dX0_checkRouter_5 (by decide) ?_
    refine br_lt (tgt := 19) S dX0_checkRouter_6 (by decide) (fun c6 => ?_) (fun c6 => ?_)
    · exact (chk4 c1 c6 hb).elim
    · exact bt_own (E := eIA) (k := 0) S hfl hZ hlk hx hw hl.1 rfl (by decide +kernel) hm1 hm2 hm3 ng_IA ot_IA dX0_checkRouter_9 dX0_checkRouter_12 dX0_checkRouter_13 dX0_checkRouter_15 dX0_checkRouter_18 (by decide) (by decide) (by decide) (by decide)
set_option maxHeartbeats 4000000 in
set_option maxRecDepth 100000 in
theorem tX0_die_1 (l : Launch) (hfl : l.stackTraces = false) (D : va_G) (cZ cI : ClassId) (a : Nat → Nat) (σ : sC) (x : Int32) (hb : inB x 0 3 = 0) : MT l yX0_die wsX0_die ({ frames := 7, cells := 1, slots := 6, locals := 110 } : Room) D (tyZ cZ cI) [.ref (a 0), .int x] (wX cZ cI a σ) eIA := by
  refine MT.of (cc := cX0_die) (maxL := 5) (ret := (some .int)) (by decide) rfl (Nat.le_of_ble_eq_true rfl) ?_
  intro p e s m args below meth c S hK hZ hlk hx ls hl hw
  replace hl : lv_has ls 5 [(0, .ref (a 0)), (1, .int x)] := hl
  replace S : CallFix p m c cX0_die 5 s args wsX0_die RX0 := S
  have hin := inX0_die
  refine lv_iload_n S.1 S.2.1 dX0_die_0 rfl (lv_at hl 1 rfl) ?_
  exact bt_sx (As := [.int x]) (rest := []) S hK hZ hlk hx hw (tX0_checkRouter l hfl D _ x hb) (va_cwS 1 S.2.2.2.2 gX0_die_X0_checkRouter rfl rfl rfl (by decide +kernel) ⟨Nat.le_of_ble_eq_true rfl, Nat.le_of_ble_eq_true rfl⟩) rfl hl.1 rfl (Nat.le_of_ble_eq_true rfl) (by decide) (by decide) dX0_die_1
theorem tflX0_timer_41 : Cond.fieldLink RX0 41 "StandbyPair" "roles" "[I" ∈ wsX0_timer := by decide +kernel
set_option maxHeartbeats 4000000 in
set_option maxRecDepth 100000 in
theorem tX0_timer_s (l : Launch) (hfl : l.stackTraces = false) (D : va_G) (cZ cI : ClassId) (a : Nat → Nat) (σ : sC) {r g : Nat} (hr : r < 4) (hg : g < 3) (ho : σ 10 (4 * g + r) = 0) : MT l yX0_timer wsX0_timer ({ frames := 7, cells := 1, slots := 6, locals := 110 } : Room) D (tyZ cZ cI) [.ref (a 0), .int (nI r), .int (nI g)] (wX cZ cI a σ) eIS := by
  refine MT.of (cc := cX0_timer) (maxL := 3) (ret := (some .int)) (by decide) rfl (Nat.le_of_ble_eq_true rfl) ?_
  intro p e s m args below meth c S hK hZ hlk hx ls hl hw
  replace hl : lv_has ls 3 [(0, .ref (a 0)), (1, .int (nI r)), (2, .int (nI g))] := hl
  replace S : CallFix p m c cX0_timer 3 s args wsX0_timer RX0 := S
  have hin := inX0_timer
  have hm1 : Cond.classLink RX0 94 eIS ∈ wsX0_timer := by decide +kernel
  have hm2 : Cond.initialized eIS ∈ wsX0_timer := by decide +kernel
  have hm3 : ∀ w ∈ (vx_atS RX0 98 eIS ["java/lang/RuntimeException", "java/lang/Exception"]).filter goodWord, w ∈ wsX0_timer := fun _ h => List.mem_cons_of_mem _ (List.mem_append_left _ (List.mem_append_right _ h))
  refine lv_iload_n S.1 S.2.1 dX0_timer_0 rfl (lv_at hl 1 rfl) ?_
  refine bt_sv (As := [.int (nI r)]) (rest := []) S hK hw (kX0_checkRouter l D _ (r := r) (by omega)) (va_cwS 1 S.2.2.2.2 gX0_timer_X0_checkRouter rfl rfl rfl (by decide +kernel) ⟨Nat.le_of_ble_eq_true rfl, Nat.le_of_ble_eq_true rfl⟩) rfl hl.1 rfl (Nat.le_of_ble_eq_true rfl) (Nat.zero_le _) (Nat.zero_le _) dX0_timer_1 (fun H locs hw => ?_)
  refine lv_iload_n S.1 S.2.1 dX0_timer_4 rfl (lv_at hl 2 rfl) ?_
  refine bt_sv (As := [.int (nI g)]) (rest := []) S hK hw (kX0_checkGroup l D _ (g := g) (by omega)) (va_cwS 1 S.2.2.2.2 gX0_timer_X0_checkGroup rfl rfl rfl (by decide +kernel) ⟨Nat.le_of_ble_eq_true rfl, Nat.le_of_ble_eq_true rfl⟩) rfl hl.1 rfl (Nat.le_of_ble_eq_true rfl) (Nat.zero_le _) (Nat.zero_le _) dX0_timer_5 (fun H locs hw => ?_)
  refine lv_aload_n S.1 S.2.1 dX0_timer_8 rfl (lv_at hl 0 rfl) ?_
  refine bx_get S hK hin hw.1 0 rfl rfl 10 (by decide) tflX0_timer_41 rfl dX0_timer_9 ?_
  refine lv_iload_n S.1 S.2.1 dX0_timer_12 rfl (lv_at hl 1 rfl) ?_
  refine lv_iload_n S.1 S.2.1 dX0_timer_13 rfl (lv_at hl 2 rfl) ?_
  refine bt_si (As := [.int (nI r), .int (nI g)]) (rest := [.ref (a 11)]) S hK hw (kX0_placeOf l D _ (r := r) (g := g) (by omega) (by omega)) (va_cwS 2 S.2.2.2.2 gX0_timer_X0_placeOf rfl rfl rfl (by decide +kernel) ⟨Nat.le_of_ble_eq_true rfl, Nat.le_of_ble_eq_true rfl⟩) rfl hl.1 rfl (Nat.le_of_ble_eq_true rfl) (Nat.zero_le _) (Nat.zero_le _) dX0_timer_14 (fun H locs hw => ?_)
  refine bx_iald (v := σ 10 (4 * g + r)) S hK hw.1 11 1 rfl rfl (by omega) (by decide) rfl dX0_timer_17 ?_
  refine bz_ne (tgt := 31) S dX0_timer_18 (by decide) (fun c18 => ?_) (fun c18 => ?_)
  · exact absurd c18 (not_not_intro ho)
  · exact bt_own (E := eIS) (k := 8) S hfl hZ hlk hx hw hl.1 rfl (by decide +kernel) hm1 hm2 hm3 ng_IS ot_IS dX0_timer_21 dX0_timer_24 dX0_timer_25 dX0_timer_27 dX0_timer_30 (by decide) (by decide) (by decide) (by decide)
end
section
/-! ===== the constructors ===== -/
theorem arrV_cg {cA : ClassId} {n : Nat} {f g : Nat → Value} (h : ∀ j, j < n → f j = g j) : arrV cA n f = arrV cA n g := by
  unfold arrV
  congr 1
  apply Array.ext
  · simp
  · intro i h1 h2
    simp at h1 h2 ⊢
    exact h i (by omega)
theorem Wd.cg {D : va_G} {A : Nat → Prop} {H0 H : Heap} {ws : va_W} {locs : List Loc} (k : Nat) {a : Nat} {cA : ClassId} {n : Nat} {f : Nat → Int32} (g : Nat → Int32) (h : ws[k]? = some (a, .inl (cA, n, .inl f))) (hfg : ∀ j, j < n → f j = g j) (hw : Wd D A H0 ws H locs) : Wd D A H0 (ws.set k (a, .inl (cA, n, .inl g))) H locs := by
  refine ⟨hw.1.set hw.2.1 h ?_ (fun q _ => rfl), hw.2.1.set h, hw.2.2⟩
  show H[a]? = some (vp_cell cA (n, .inl g))
  have h1 : H[a]? = some (vp_cell cA (n, .inl f)) := hw.1 k _ h
  rw [h1, vp_cell_i, vp_cell_i, arrV_cg (fun j hj => by rw [hfg j hj])]
section BN
variable {p : Program} {l : Launch} {e : Env} {R : Room} {s : State} {m : MethodId} {args : Array Value} {below : List Frame} {meth : Method} {c : Code} {H : Heap} {locs : List Loc} {cells slots : Nat} {Q : State → Prop}
variable {cc : ByteArray} {nL pc : Nat} {ls : Array Slot} {rest : List Value} {Ts : List Cond} {own : String} {D : va_G} {A : Nat → Prop} {H0 : Heap} {ws ws' : va_W} {cZ cI : ClassId}
theorem bx_newi (S : CallFix p m c cc nL s args Ts own) (hK : va_K D vwCl (tyZ cZ cI) s) (hw : Wd D A H0 ws H locs) {n c' s' : Nat} (hn : n ≤ 16) (harr : Cond.arrayClass .int ∈ Ts) (hc : cells + 1 = c') (hs : slots + n = s') (hcr : c' ≤ R.cells) (hsr : s' ≤ R.slots) (hdg : decode cc pc = .ok (.newarray .int, 2))
    (kk : ∀ (q : Nat) (H1 : Heap), Wd D A H0 (ws ++ [(q, .inl (cI, n, .inl (fun _ => 0)))]) H1 locs → W p l e R s m args below meth c H1 locs c' s' Q (F0 m (pc + 2) ls (.ref q :: rest))) : W p l e R s m args below meth c H locs cells slots Q (F0 m pc ls (.int (nI n) :: rest)) := by
  subst hc; subst hs
  refine va_newa S.1 S.2.1 (atype := .int) (S.2.2.2.2 _ harr) (ty := .int) rfl hK hw.1 hw.2.1 hw.2.2.1 hw.2.2.2 (N' := n) (a0 := (n, .inl (fun _ => 0))) (fun cA => rfl) (nI_pos (by omega)) (nI_clamp (by omega)) (by show n * 4 ≤ 536870912; omega) hcr hsr hdg (fun q cA H1 hK1 hP hD hS => ?_)
  have h1 := va_nm_int (hK1.2 2 _ rfl).2
  have h2 := va_nm_int (hK.2 1 _ rfl).2
  have e9 : cI = cA := Option.some.inj (h2.symm.trans h1)
  subst e9
  exact kk q H1 ⟨hP, hD, hS, hw.2.2.2⟩
theorem bx_newz (S : CallFix p m c cc nL s args Ts own) (hK : va_K D vwCl (tyZ cZ cI) s) (hw : Wd D A H0 ws H locs) {n c' s' : Nat} (hn : n ≤ 16) (harr : Cond.arrayClass .boolean ∈ Ts) (hc : cells + 1 = c') (hs : slots + n = s') (hcr : c' ≤ R.cells) (hsr : s' ≤ R.slots) (hdg : decode cc pc = .ok (.newarray .boolean, 2))
    (kk : ∀ (q : Nat) (H1 : Heap), Wd D A H0 (ws ++ [(q, .inl (cZ, n, .inl (fun _ => 0)))]) H1 locs → W p l e R s m args below meth c H1 locs c' s' Q (F0 m (pc + 2) ls (.ref q :: rest))) : W p l e R s m args below meth c H locs cells slots Q (F0 m pc ls (.int (nI n) :: rest)) := by
  subst hc; subst hs
  refine va_newa S.1 S.2.1 (atype := .boolean) (S.2.2.2.2 _ harr) (ty := .boolean) rfl hK hw.1 hw.2.1 hw.2.2.1 hw.2.2.2 (N' := n) (a0 := (n, .inl (fun _ => 0))) (fun cA => rfl) (nI_pos (by omega)) (nI_clamp (by omega)) (by show n * 1 ≤ 536870912; omega) hcr hsr hdg (fun q cA H1 hK1 hP hD hS => ?_)
  have h1 := va_nm_boolean (hK1.2 2 _ rfl).2
  have h2 := va_nm_boolean (hK.2 0 _ rfl).2
  have e9 : cZ = cA := Option.some.inj (h2.symm.trans h1)
  subst e9
  exact kk q H1 ⟨hP, hD, hS, hw.2.2.2⟩
/-- a final field, in the constructor -/
theorem bx_putF (S : CallFix p m c cc nL s args Ts own) (hK : va_K D vwCl (tyZ cZ cI) s) {C : String} {T : u_T} {N ci index : Nat} (hin : ∀ w ∈ u_ws C T N, w ∈ Ts) (ty0 : Nat → FieldType) (hty : ∀ k, k < N → parseFieldDescriptor (T k).2.2.1 = some (ty0 k)) (hnm : ∀ a, a < N → ∀ b, b < N → a ≠ b → (T a).2.1 ≠ (T b).2.1) (hw : Wd D A H0 ws H locs) (hin2 : meth.name = "<init>") {a : Nat} {fs : List Value} (he : ws[0]? = some (a, .inr (ci, fs))) (hc : vwCl[ci]? = some (C, T, N)) (k : Nat) (hk : k < N) (hl : Cond.fieldLink own index (T k).1 (T k).2.1 (T k).2.2.1 ∈ Ts) (hfin : (T k).2.2.2 = true) (hdecl : (T k).1 = own) {ty : FieldType} {v : Value} (hd : parseFieldDescriptor (T k).2.2.1 = some ty) (hn : narrow ty v = v) (hfit : fits ty v = true) (hlen : k < fs.length) (hs : ws.set 0 (a, .inr (ci, fs.set k v)) = ws') (hdg : decode cc pc = .ok (.putfield index, 3))
    (kk : ∀ (H1 : Heap) (locs1 : List Loc), Wd D A H0 ws' H1 locs1 → W p l e R s m args below meth c H1 locs1 cells slots Q (F0 m (pc + 3) ls rest)) : W p l e R s m args below meth c H locs cells slots Q (F0 m pc ls (v :: .ref a :: rest)) := by
  refine va_putF S.1 S.2.1 S.2.2.2.2 hin ty0 hty hnm S.2.2.2.1 hK hw.1 hw.2.1 hw.2.2.1 0 he hc k hk (S.2.2.2.2 _ hl) (fun _ h9 => h9) hfin hin2 hdecl hd hn hfit hlen hdg (fun H1 locs1 hP hD hS => ?_)
  rw [hs] at hP hD
  exact kk H1 locs1 ⟨hP, hD, hS, hw.2.2.2⟩
end BN
/-- the contract of a constructor: some addresses, the first of them the object's -/
def MC (l : Launch) (y : MethodName) (wsl : List Cond) (rm : Room) (D : va_G) (tys : List (ClassId × FieldType)) (ci : Nat) (f0 : List Value) (mc ms : Nat) (ω : (Nat → Nat) → va_W) : Prop :=
  ∀ (h0 sz : Nat), Met l y wsl rm (va_Pc [.ref h0] (MPre D tys [(h0, .inr (ci, f0))] sz)) (va_Qv (fun a : Nat → Nat => a 0 = h0) (fun a t => va_P D vwCl (ω a) t.heap ∧ va_D (va_A [(h0, .inr (ci, f0))] sz) (ω a)) (va_A [(h0, .inr (ci, f0))] sz)) mc ms (va_A [(h0, .inr (ci, f0))] sz)
theorem MC.of {l : Launch} {y : MethodName} {wsl ws' : List Cond} {rm : Room} {D : va_G} {tys : List (ClassId × FieldType)} {ci : Nat} {f0 : List Value} {mc ms : Nat} {ω : (Nat → Nat) → va_W} {cc : ByteArray} {maxL : Nat}
    (hy : plainName y.cls = true) (hyn : y.name = "<init>") (hws : wsl = Cond.code y cc maxL none :: ws') (hla : 1 ≤ maxL)
    (body : ∀ (h0 : Nat) (p : Program) (e : Env) (s : State) (m : MethodId) (args : Array Value) (below : List Frame) (meth : Method) (c : Code) (A : Nat → Prop) (Q : State → Prop), CallFix p m c cc maxL s args wsl y.cls → va_K D vwCl tys s → meth.name = "<init>" →
      (∀ {H : Heap} {locs : List Loc} {ls : Array Slot} {pc : Nat} {a : Nat → Nat}, Wd D A s.heap (ω a) H locs → a 0 = h0 → decode cc pc = .ok (.return_, 1) → W p l e rm s m args below meth c H locs mc ms Q (F0 m pc ls [])) →
      ∀ ls : Array Slot, lv_has ls maxL [(0, .ref h0)] → Wd D A s.heap [(h0, .inr (ci, f0))] s.heap [] → W p l e rm s m args below meth c s.heap [] 0 0 Q (F0 m 0 ls [])) : MC l y wsl rm D tys ci f0 mc ms ω := by
  intro h0 sz
  refine Met.ofW (cc := cc) (maxL := maxL) (ret := none) hy hws ?_
  intro p e s m args below meth c s₁ B hml hv
  obtain ⟨rfl, hsz, hP, hK, hD0⟩ := hv
  subst hsz
  have hlocks := B.notSynchronized
  have hroom : (headSpec wsl rm).room = rm := rfl
  rw [hroom, lg_entry_eq]
  refine body h0 p e s m _ below meth c (va_A [(h0, .inr (ci, f0))] s.heap.size) _ ⟨B.exec, B.bytes, hml, findClass_of_methodNamed B.named, atoms_spec (ws := wsl) B.pre⟩ hK ((name_of_methodNamed B.named B.method).1.trans hyn) ?_ _ (lv_entry [.ref h0] hla) ⟨hP, hD0.self, va_S.rf, fun q h => Or.inr h⟩
  intro H locs ls pc a hw ha hdg
  exact W.vret B.exec B.bytes B.returns (fun t ht hW => ⟨⟨a, rfl, ha, by rw [ht]; exact hw.1, hw.2.1⟩, hw.2.2.1.F ht⟩) hw.2.2.1.2.2 hdg
def aL (l : List Nat) : Nat → Nat := fun k => l.getD k 0
def sZ : sC := fun _ _ => 0
/-- the state of a new object -/
def s0 : sC := fun k _ => if k = 0 then 1 else if k = 1 then 1 else if k = 2 then 1 else if k = 4 then 4 else if k = 5 then 1 else 0
def iniA (i : Nat) (σ : sC) : sC := up σ 0 i 1
def iniB (i : Nat) (σ : sC) : sC := up σ 1 i 1
def iniC (i : Nat) (σ : sC) : sC := up σ 2 i 1
def iniD (i : Nat) (σ : sC) : sC := up (up σ 4 i 4) 5 i 1
def s1 : sC := itF iniA sZ 4
def s2 : sC := itF iniB s1 16
def s3 : sC := itF iniC s2 8
def s4 : sC := itF iniD s3 3
end
section
theorem inX0_init : ∀ w ∈ u_ws RX0 TX0 18, w ∈ wsX0_init := fun _ h => List.mem_cons_of_mem _ (List.mem_append_right _ h)
theorem flX0_init_9 : Cond.fieldLink RX0 9 "StandbyPair" "alive" "[Z" ∈ wsX0_init := by decide +kernel
theorem flX0_init_13 : Cond.fieldLink RX0 13 "StandbyPair" "joinedPairs" "[Z" ∈ wsX0_init := by decide +kernel
theorem flX0_init_16 : Cond.fieldLink RX0 16 "StandbyPair" "linkUp" "[Z" ∈ wsX0_init := by decide +kernel
theorem flX0_init_19 : Cond.fieldLink RX0 19 "StandbyPair" "decrements" "[I" ∈ wsX0_init := by decide +kernel
theorem flX0_init_23 : Cond.fieldLink RX0 23 "StandbyPair" "periods" "[I" ∈ wsX0_init := by decide +kernel
theorem flX0_init_26 : Cond.fieldLink RX0 26 "StandbyPair" "preempting" "[Z" ∈ wsX0_init := by decide +kernel
theorem flX0_init_29 : Cond.fieldLink RX0 29 "StandbyPair" "delays" "[I" ∈ wsX0_init := by decide +kernel
theorem flX0_init_32 : Cond.fieldLink RX0 32 "StandbyPair" "gapTicks" "[I" ∈ wsX0_init := by decide +kernel
theorem flX0_init_35 : Cond.fieldLink RX0 35 "StandbyPair" "advertisements" "[I" ∈ wsX0_init := by decide +kernel
theorem flX0_init_38 : Cond.fieldLink RX0 38 "StandbyPair" "basePriorities" "[I" ∈ wsX0_init := by decide +kernel
theorem flX0_init_41 : Cond.fieldLink RX0 41 "StandbyPair" "roles" "[I" ∈ wsX0_init := by decide +kernel
theorem flX0_init_44 : Cond.fieldLink RX0 44 "StandbyPair" "timers" "[I" ∈ wsX0_init := by decide +kernel
theorem flX0_init_47 : Cond.fieldLink RX0 47 "StandbyPair" "heard" "[I" ∈ wsX0_init := by decide +kernel
theorem flX0_init_50 : Cond.fieldLink RX0 50 "StandbyPair" "served" "[I" ∈ wsX0_init := by decide +kernel
theorem flX0_init_53 : Cond.fieldLink RX0 53 "StandbyPair" "promotions" "[I" ∈ wsX0_init := by decide +kernel
theorem flX0_init_56 : Cond.fieldLink RX0 56 "StandbyPair" "repairAsked" "[Z" ∈ wsX0_init := by decide +kernel
set_option maxHeartbeats 4000000 in
set_option maxRecDepth 100000 in
theorem kX0_init (l : Launch) (D : va_G) (cZ cI : ClassId) : MC l yX0_init wsX0_init ({ frames := 1, cells := 16, slots := 135, locals := 12 } : Room) D (tyZ cZ cI) 0 [.null, .null, .null, .null, .null, .null, .null, .null, .null, .null, .null, .null, .null, .null, .null, .null, .int 0, .int 0] 16 135 (fun a => wX cZ cI a s0) := by
  refine MC.of (cc := cX0_init) (maxL := 2) (by decide) rfl rfl (Nat.le_of_ble_eq_true rfl) ?_
  intro h0 p e s m args below meth c A Q S hK hin2 hret ls hl hw
  replace S : CallFix p m c cX0_init 2 s args wsX0_init RX0 := S
  have hin := inX0_init
  have hai : Cond.arrayClass .int ∈ wsX0_init := by decide +kernel
  have haz : Cond.arrayClass .boolean ∈ wsX0_init := by decide +kernel
  refine lv_aload_n S.1 S.2.1 dX0_init_0 rfl (lv_at hl 0 rfl) ?_
  refine W.objInit S.1 S.2.1 S.2.2.2.1 (S.2.2.2.2 (.methodLink RX0 1 objectInit) (by decide +kernel)) (S.2.2.2.2 (.instanceMethod objectInit) (by decide +kernel)) (S.2.2.2.2 (.code objectInit ⟨#[0xb1]⟩ 1 none) (by decide +kernel)) rfl (hl.1.trans S.2.2.1.symm) rfl dX0_init_1 (Nat.le_of_ble_eq_true rfl) (Nat.le_of_ble_eq_true rfl) ?_
  refine W.eq (g2 := F0 m 4 ls []) rfl ?_
  refine lv_aload_n S.1 S.2.1 dX0_init_4 rfl (lv_at hl 0 rfl) ?_
  refine lv_iconst (v := nI 4) S.1 S.2.1 dX0_init_5 (by decide) ?_
  refine bx_newz (c' := 1) (s' := 4) S hK hw (by decide) haz rfl rfl (by decide) (by decide) dX0_init_6 (fun q1 H hw => ?_)
  replace hw : Wd D A s.heap [(h0, .inr (0, [.null, .null, .null, .null, .null, .null, .null, .null, .null, .null, .null, .null, .null, .null, .null, .null, .int 0, .int 0])), (q1, .inl (cZ, 4, .inl (fun _ => 0)))] H _ := hw
  refine bx_putF (ws' := [(h0, .inr (0, [.ref q1, .null, .null, .null, .null, .null, .null, .null, .null, .null, .null, .null, .null, .null, .null, .null, .int 0, .int 0])), (q1, .inl (cZ, 4, .inl (fun _ => 0)))]) (v := .ref q1) (ty := .array .boolean) S hK hin tyX0 tyX0_ok nmX0 hw hin2 rfl rfl 0 (by decide) flX0_init_9 rfl rfl (by decide +kernel) rfl rfl (Nat.le_of_ble_eq_true rfl) rfl dX0_init_8 (fun H locs hw => ?_)
  refine lv_aload_n S.1 S.2.1 dX0_init_11 rfl (lv_at hl 0 rfl) ?_
  refine lv_bipush (v := nI 16) S.1 S.2.1 dX0_init_12 (by decide) ?_
  refine bx_newz (c' := 2) (s' := 20) S hK hw (by decide) haz rfl rfl (by decide) (by decide) dX0_init_14 (fun q2 H hw => ?_)
  replace hw : Wd D A s.heap [(h0, .inr (0, [.ref q1, .null, .null, .null, .null, .null, .null, .null, .null, .null, .null, .null, .null, .null, .null, .null, .int 0, .int 0])), (q1, .inl (cZ, 4, .inl (fun _ => 0))), (q2, .inl (cZ, 16, .inl (fun _ => 0)))] H _ := hw
  refine bx_putF (ws' := [(h0, .inr (0, [.ref q1, .ref q2, .null, .null, .null, .null, .null, .null, .null, .null, .null, .null, .null, .null, .null, .null, .int 0, .int 0])), (q1, .inl (cZ, 4, .inl (fun _ => 0))), (q2, .inl (cZ, 16, .inl (fun _ => 0)))]) (v := .ref q2) (ty := .array .boolean) S hK hin tyX0 tyX0_ok nmX0 hw hin2 rfl rfl 1 (by decide) flX0_init_13 rfl rfl (by decide +kernel) rfl rfl (Nat.le_of_ble_eq_true rfl) rfl dX0_init_16 (fun H locs hw => ?_)
  refine lv_aload_n S.1 S.2.1 dX0_init_19 rfl (lv_at hl 0 rfl) ?_
  refine lv_bipush (v := nI 8) S.1 S.2.1 dX0_init_20 (by decide) ?_
  refine bx_newz (c' := 3) (s' := 28) S hK hw (by decide) haz rfl rfl (by decide) (by decide) dX0_init_22 (fun q3 H hw => ?_)
  replace hw : Wd D A s.heap [(h0, .inr (0, [.ref q1, .ref q2, .null, .null, .null, .null, .null, .null, .null, .null, .null, .null, .null, .null, .null, .null, .int 0, .int 0])), (q1, .inl (cZ, 4, .inl (fun _ => 0))), (q2, .inl (cZ, 16, .inl (fun _ => 0))), (q3, .inl (cZ, 8, .inl (fun _ => 0)))] H _ := hw
  refine bx_putF (ws' := [(h0, .inr (0, [.ref q1, .ref q2, .ref q3, .null, .null, .null, .null, .null, .null, .null, .null, .null, .null, .null, .null, .null, .int 0, .int 0])), (q1, .inl (cZ, 4, .inl (fun _ => 0))), (q2, .inl (cZ, 16, .inl (fun _ => 0))), (q3, .inl (cZ, 8, .inl (fun _ => 0)))]) (v := .ref q3) (ty := .array .boolean) S hK hin tyX0 tyX0_ok nmX0 hw hin2 rfl rfl 2 (by decide) flX0_init_16 rfl rfl (by decide +kernel) rfl rfl (Nat.le_of_ble_eq_true rfl) rfl dX0_init_24 (fun H locs hw => ?_)
  refine lv_aload_n S.1 S.2.1 dX0_init_27 rfl (lv_at hl 0 rfl) ?_
  refine lv_bipush (v := nI 8) S.1 S.2.1 dX0_init_28 (by decide) ?_
  refine bx_newi (c' := 4) (s' := 36) S hK hw (by decide) hai rfl rfl (by decide) (by decide) dX0_init_30 (fun q4 H hw => ?_)
  replace hw : Wd D A s.heap [(h0, .inr (0, [.ref q1, .ref q2, .ref q3, .null, .null, .null, .null, .null, .null, .null, .null, .null, .null, .null, .null, .null, .int 0, .int 0])), (q1, .inl (cZ, 4, .inl (fun _ => 0))), (q2, .inl (cZ, 16, .inl (fun _ => 0))), (q3, .inl (cZ, 8, .inl (fun _ => 0))), (q4, .inl (cI, 8, .inl (fun _ => 0)))] H _ := hw
  refine bx_putF (ws' := [(h0, .inr (0, [.ref q1, .ref q2, .ref q3, .ref q4, .null, .null, .null, .null, .null, .null, .null, .null, .null, .null, .null, .null, .int 0, .int 0])), (q1, .inl (cZ, 4, .inl (fun _ => 0))), (q2, .inl (cZ, 16, .inl (fun _ => 0))), (q3, .inl (cZ, 8, .inl (fun _ => 0))), (q4, .inl (cI, 8, .inl (fun _ => 0)))]) (v := .ref q4) (ty := .array .int) S hK hin tyX0 tyX0_ok nmX0 hw hin2 rfl rfl 3 (by decide) flX0_init_19 rfl rfl (by decide +kernel) rfl rfl (Nat.le_of_ble_eq_true rfl) rfl dX0_init_32 (fun H locs hw => ?_)
  refine lv_aload_n S.1 S.2.1 dX0_init_35 rfl (lv_at hl 0 rfl) ?_
  refine lv_iconst (v := nI 3) S.1 S.2.1 dX0_init_36 (by decide) ?_
  refine bx_newi (c' := 5) (s' := 39) S hK hw (by decide) hai rfl rfl (by decide) (by decide) dX0_init_37 (fun q5 H hw => ?_)
  replace hw : Wd D A s.heap [(h0, .inr (0, [.ref q1, .ref q2, .ref q3, .ref q4, .null, .null, .null, .null, .null, .null, .null, .null, .null, .null, .null, .null, .int 0, .int 0])), (q1, .inl (cZ, 4, .inl (fun _ => 0))), (q2, .inl (cZ, 16, .inl (fun _ => 0))), (q3, .inl (cZ, 8, .inl (fun _ => 0))), (q4, .inl (cI, 8, .inl (fun _ => 0))), (q5, .inl (cI, 3, .inl (fun _ => 0)))] H _ := hw
  refine bx_putF (ws' := [(h0, .inr (0, [.ref q1, .ref q2, .ref q3, .ref q4, .ref q5, .null, .null, .null, .null, .null, .null, .null, .null, .null, .null, .null, .int 0, .int 0])), (q1, .inl (cZ, 4, .inl (fun _ => 0))), (q2, .inl (cZ, 16, .inl (fun _ => 0))), (q3, .inl (cZ, 8, .inl (fun _ => 0))), (q4, .inl (cI, 8, .inl (fun _ => 0))), (q5, .inl (cI, 3, .inl (fun _ => 0)))]) (v := .ref q5) (ty := .array .int) S hK hin tyX0 tyX0_ok nmX0 hw hin2 rfl rfl 4 (by decide) flX0_init_23 rfl rfl (by decide +kernel) rfl rfl (Nat.le_of_ble_eq_true rfl) rfl dX0_init_39 (fun H locs hw => ?_)
  refine lv_aload_n S.1 S.2.1 dX0_init_42 rfl (lv_at hl 0 rfl) ?_
  refine lv_iconst (v := nI 3) S.1 S.2.1 dX0_init_43 (by decide) ?_
  refine bx_newz (c' := 6) (s' := 42) S hK hw (by decide) haz rfl rfl (by decide) (by decide) dX0_init_44 (fun q6 H hw => ?_)
  replace hw : Wd D A s.heap [(h0, .inr (0, [.ref q1, .ref q2, .ref q3, .ref q4, .ref q5, .null, .null, .null, .null, .null, .null, .null, .null, .null, .null, .null, .int 0, .int 0])), (q1, .inl (cZ, 4, .inl (fun _ => 0))), (q2, .inl (cZ, 16, .inl (fun _ => 0))), (q3, .inl (cZ, 8, .inl (fun _ => 0))), (q4, .inl (cI, 8, .inl (fun _ => 0))), (q5, .inl (cI, 3, .inl (fun _ => 0))), (q6, .inl (cZ, 3, .inl (fun _ => 0)))] H _ := hw
  refine bx_putF (ws' := [(h0, .inr (0, [.ref q1, .ref q2, .ref q3, .ref q4, .ref q5, .ref q6, .null, .null, .null, .null, .null, .null, .null, .null, .null, .null, .int 0, .int 0])), (q1, .inl (cZ, 4, .inl (fun _ => 0))), (q2, .inl (cZ, 16, .inl (fun _ => 0))), (q3, .inl (cZ, 8, .inl (fun _ => 0))), (q4, .inl (cI, 8, .inl (fun _ => 0))), (q5, .inl (cI, 3, .inl (fun _ => 0))), (q6, .inl (cZ, 3, .inl (fun _ => 0)))]) (v := .ref q6) (ty := .array .boolean) S hK hin tyX0 tyX0_ok nmX0 hw hin2 rfl rfl 5 (by decide) flX0_init_26 rfl rfl (by decide +kernel) rfl rfl (Nat.le_of_ble_eq_true rfl) rfl dX0_init_46 (fun H locs hw => ?_)
  refine lv_aload_n S.1 S.2.1 dX0_init_49 rfl (lv_at hl 0 rfl) ?_
  refine lv_iconst (v := nI 3) S.1 S.2.1 dX0_init_50 (by decide) ?_
  refine bx_newi (c' := 7) (s' := 45) S hK hw (by decide) hai rfl rfl (by decide) (by decide) dX0_init_51 (fun q7 H hw => ?_)
  replace hw : Wd D A s.heap [(h0, .inr (0, [.ref q1, .ref q2, .ref q3, .ref q4, .ref q5, .ref q6, .null, .null, .null, .null, .null, .null, .null, .null, .null, .null, .int 0, .int 0])), (q1, .inl (cZ, 4, .inl (fun _ => 0))), (q2, .inl (cZ, 16, .inl (fun _ => 0))), (q3, .inl (cZ, 8, .inl (fun _ => 0))), (q4, .inl (cI, 8, .inl (fun _ => 0))), (q5, .inl (cI, 3, .inl (fun _ => 0))), (q6, .inl (cZ, 3, .inl (fun _ => 0))), (q7, .inl (cI, 3, .inl (fun _ => 0)))] H _ := hw
  refine bx_putF (ws' := [(h0, .inr (0, [.ref q1, .ref q2, .ref q3, .ref q4, .ref q5, .ref q6, .ref q7, .null, .null, .null, .null, .null, .null, .null, .null, .null, .int 0, .int 0])), (q1, .inl (cZ, 4, .inl (fun _ => 0))), (q2, .inl (cZ, 16, .inl (fun _ => 0))), (q3, .inl (cZ, 8, .inl (fun _ => 0))), (q4, .inl (cI, 8, .inl (fun _ => 0))), (q5, .inl (cI, 3, .inl (fun _ => 0))), (q6, .inl (cZ, 3, .inl (fun _ => 0))), (q7, .inl (cI, 3, .inl (fun _ => 0)))]) (v := .ref q7) (ty := .array .int) S hK hin tyX0 tyX0_ok nmX0 hw hin2 rfl rfl 6 (by decide) flX0_init_29 rfl rfl (by decide +kernel) rfl rfl (Nat.le_of_ble_eq_true rfl) rfl dX0_init_53 (fun H locs hw => ?_)
  refine lv_aload_n S.1 S.2.1 dX0_init_56 rfl (lv_at hl 0 rfl) ?_
  refine lv_iconst (v := nI 3) S.1 S.2.1 dX0_init_57 (by decide) ?_
  refine bx_newi (c' := 8) (s' := 48) S hK hw (by decide) hai rfl rfl (by decide) (by decide) dX0_init_58 (fun q8 H hw => ?_)
  replace hw : Wd D A s.heap [(h0, .inr (0, [.ref q1, .ref q2, .ref q3, .ref q4, .ref q5, .ref q6, .ref q7, .null, .null, .null, .null, .null, .null, .null, .null, .null, .int 0, .int 0])), (q1, .inl (cZ, 4, .inl (fun _ => 0))), (q2, .inl (cZ, 16, .inl (fun _ => 0))), (q3, .inl (cZ, 8, .inl (fun _ => 0))), (q4, .inl (cI, 8, .inl (fun _ => 0))), (q5, .inl (cI, 3, .inl (fun _ => 0))), (q6, .inl (cZ, 3, .inl (fun _ => 0))), (q7, .inl (cI, 3, .inl (fun _ => 0))), (q8, .inl (cI, 3, .inl (fun _ => 0)))] H _ := hw
  refine bx_putF (ws' := [(h0, .inr (0, [.ref q1, .ref q2, .ref q3, .ref q4, .ref q5, .ref q6, .ref q7, .ref q8, .null, .null, .null, .null, .null, .null, .null, .null, .int 0, .int 0])), (q1, .inl (cZ, 4, .inl (fun _ => 0))), (q2, .inl (cZ, 16, .inl (fun _ => 0))), (q3, .inl (cZ, 8, .inl (fun _ => 0))), (q4, .inl (cI, 8, .inl (fun _ => 0))), (q5, .inl (cI, 3, .inl (fun _ => 0))), (q6, .inl (cZ, 3, .inl (fun _ => 0))), (q7, .inl (cI, 3, .inl (fun _ => 0))), (q8, .inl (cI, 3, .inl (fun _ => 0)))]) (v := .ref q8) (ty := .array .int) S hK hin tyX0 tyX0_ok nmX0 hw hin2 rfl rfl 7 (by decide) flX0_init_32 rfl rfl (by decide +kernel) rfl rfl (Nat.le_of_ble_eq_true rfl) rfl dX0_init_60 (fun H locs hw => ?_)
  refine lv_aload_n S.1 S.2.1 dX0_init_63 rfl (lv_at hl 0 rfl) ?_
  refine lv_iconst (v := nI 3) S.1 S.2.1 dX0_init_64 (by decide) ?_
  refine bx_newi (c' := 9) (s' := 51) S hK hw (by decide) hai rfl rfl (by decide) (by decide) dX0_init_65 (fun q9 H hw => ?_)
  replace hw : Wd D A s.heap [(h0, .inr (0, [.ref q1, .ref q2, .ref q3, .ref q4, .ref q5, .ref q6, .ref q7, .ref q8, .null, .null, .null, .null, .null, .null, .null, .null, .int 0, .int 0])), (q1, .inl (cZ, 4, .inl (fun _ => 0))), (q2, .inl (cZ, 16, .inl (fun _ => 0))), (q3, .inl (cZ, 8, .inl (fun _ => 0))), (q4, .inl (cI, 8, .inl (fun _ => 0))), (q5, .inl (cI, 3, .inl (fun _ => 0))), (q6, .inl (cZ, 3, .inl (fun _ => 0))), (q7, .inl (cI, 3, .inl (fun _ => 0))), (q8, .inl (cI, 3, .inl (fun _ => 0))), (q9, .inl (cI, 3, .inl (fun _ => 0)))] H _ := hw
  refine bx_putF (ws' := [(h0, .inr (0, [.ref q1, .ref q2, .ref q3, .ref q4, .ref q5, .ref q6, .ref q7, .ref q8, .ref q9, .null, .null, .null, .null, .null, .null, .null, .int 0, .int 0])), (q1, .inl (cZ, 4, .inl (fun _ => 0))), (q2, .inl (cZ, 16, .inl (fun _ => 0))), (q3, .inl (cZ, 8, .inl (fun _ => 0))), (q4, .inl (cI, 8, .inl (fun _ => 0))), (q5, .inl (cI, 3, .inl (fun _ => 0))), (q6, .inl (cZ, 3, .inl (fun _ => 0))), (q7, .inl (cI, 3, .inl (fun _ => 0))), (q8, .inl (cI, 3, .inl (fun _ => 0))), (q9, .inl (cI, 3, .inl (fun _ => 0)))]) (v := .ref q9) (ty := .array .int) S hK hin tyX0 tyX0_ok nmX0 hw hin2 rfl rfl 8 (by decide) flX0_init_35 rfl rfl (by decide +kernel) rfl rfl (Nat.le_of_ble_eq_true rfl) rfl dX0_init_67 (fun H locs hw => ?_)
  refine lv_aload_n S.1 S.2.1 dX0_init_70 rfl (lv_at hl 0 rfl) ?_
  refine lv_bipush (v := nI 12) S.1 S.2.1 dX0_init_71 (by decide) ?_
  refine bx_newi (c' := 10) (s' := 63) S hK hw (by decide) hai rfl rfl (by decide) (by decide) dX0_init_73 (fun q10 H hw => ?_)
  replace hw : Wd D A s.heap [(h0, .inr (0, [.ref q1, .ref q2, .ref q3, .ref q4, .ref q5, .ref q6, .ref q7, .ref q8, .ref q9, .null, .null, .null, .null, .null, .null, .null, .int 0, .int 0])), (q1, .inl (cZ, 4, .inl (fun _ => 0))), (q2, .inl (cZ, 16, .inl (fun _ => 0))), (q3, .inl (cZ, 8, .inl (fun _ => 0))), (q4, .inl (cI, 8, .inl (fun _ => 0))), (q5, .inl (cI, 3, .inl (fun _ => 0))), (q6, .inl (cZ, 3, .inl (fun _ => 0))), (q7, .inl (cI, 3, .inl (fun _ => 0))), (q8, .inl (cI, 3, .inl (fun _ => 0))), (q9, .inl (cI, 3, .inl (fun _ => 0))), (q10, .inl (cI, 12, .inl (fun _ => 0)))] H _ := hw
  refine bx_putF (ws' := [(h0, .inr (0, [.ref q1, .ref q2, .ref q3, .ref q4, .ref q5, .ref q6, .ref q7, .ref q8, .ref q9, .ref q10, .null, .null, .null, .null, .null, .null, .int 0, .int 0])), (q1, .inl (cZ, 4, .inl (fun _ => 0))), (q2, .inl (cZ, 16, .inl (fun _ => 0))), (q3, .inl (cZ, 8, .inl (fun _ => 0))), (q4, .inl (cI, 8, .inl (fun _ => 0))), (q5, .inl (cI, 3, .inl (fun _ => 0))), (q6, .inl (cZ, 3, .inl (fun _ => 0))), (q7, .inl (cI, 3, .inl (fun _ => 0))), (q8, .inl (cI, 3, .inl (fun _ => 0))), (q9, .inl (cI, 3, .inl (fun _ => 0))), (q10, .inl (cI, 12, .inl (fun _ => 0)))]) (v := .ref q10) (ty := .array .int) S hK hin tyX0 tyX0_ok nmX0 hw hin2 rfl rfl 9 (by decide) flX0_init_38 rfl rfl (by decide +kernel) rfl rfl (Nat.le_of_ble_eq_true rfl) rfl dX0_init_75 (fun H locs hw => ?_)
  refine lv_aload_n S.1 S.2.1 dX0_init_78 rfl (lv_at hl 0 rfl) ?_
  refine lv_bipush (v := nI 12) S.1 S.2.1 dX0_init_79 (by decide) ?_
  refine bx_newi (c' := 11) (s' := 75) S hK hw (by decide) hai rfl rfl (by decide) (by decide) dX0_init_81 (fun q11 H hw => ?_)
  replace hw : Wd D A s.heap [(h0, .inr (0, [.ref q1, .ref q2, .ref q3, .ref q4, .ref q5, .ref q6, .ref q7, .ref q8, .ref q9, .ref q10, .null, .null, .null, .null, .null, .null, .int 0, .int 0])), (q1, .inl (cZ, 4, .inl (fun _ => 0))), (q2, .inl (cZ, 16, .inl (fun _ => 0))), (q3, .inl (cZ, 8, .inl (fun _ => 0))), (q4, .inl (cI, 8, .inl (fun _ => 0))), (q5, .inl (cI, 3, .inl (fun _ => 0))), (q6, .inl (cZ, 3, .inl (fun _ => 0))), (q7, .inl (cI, 3, .inl (fun _ => 0))), (q8, .inl (cI, 3, .inl (fun _ => 0))), (q9, .inl (cI, 3, .inl (fun _ => 0))), (q10, .inl (cI, 12, .inl (fun _ => 0))), (q11, .inl (cI, 12, .inl (fun _ => 0)))] H _ := hw
  refine bx_putF (ws' := [(h0, .inr (0, [.ref q1, .ref q2, .ref q3, .ref q4, .ref q5, .ref q6, .ref q7, .ref q8, .ref q9, .ref q10, .ref q11, .null, .null, .null, .null, .null, .int 0, .int 0])), (q1, .inl (cZ, 4, .inl (fun _ => 0))), (q2, .inl (cZ, 16, .inl (fun _ => 0))), (q3, .inl (cZ, 8, .inl (fun _ => 0))), (q4, .inl (cI, 8, .inl (fun _ => 0))), (q5, .inl (cI, 3, .inl (fun _ => 0))), (q6, .inl (cZ, 3, .inl (fun _ => 0))), (q7, .inl (cI, 3, .inl (fun _ => 0))), (q8, .inl (cI, 3, .inl (fun _ => 0))), (q9, .inl (cI, 3, .inl (fun _ => 0))), (q10, .inl (cI, 12, .inl (fun _ => 0))), (q11, .inl (cI, 12, .inl (fun _ => 0)))]) (v := .ref q11) (ty := .array .int) S hK hin tyX0 tyX0_ok nmX0 hw hin2 rfl rfl 10 (by decide) flX0_init_41 rfl rfl (by decide +kernel) rfl rfl (Nat.le_of_ble_eq_true rfl) rfl dX0_init_83 (fun H locs hw => ?_)
  refine lv_aload_n S.1 S.2.1 dX0_init_86 rfl (lv_at hl 0 rfl) ?_
  refine lv_bipush (v := nI 12) S.1 S.2.1 dX0_init_87 (by decide) ?_
  refine bx_newi (c' := 12) (s' := 87) S hK hw (by decide) hai rfl rfl (by decide) (by decide) dX0_init_89 (fun q12 H hw => ?_)
  replace hw : Wd D A s.heap [(h0, .inr (0, [.ref q1, .ref q2, .ref q3, .ref q4, .ref q5, .ref q6, .ref q7, .ref q8, .ref q9, .ref q10, .ref q11, .null, .null, .null, .null, .null, .int 0, .int 0])), (q1, .inl (cZ, 4, .inl (fun _ => 0))), (q2, .inl (cZ, 16, .inl (fun _ => 0))), (q3, .inl (cZ, 8, .inl (fun _ => 0))), (q4, .inl (cI, 8, .inl (fun _ => 0))), (q5, .inl (cI, 3, .inl (fun _ => 0))), (q6, .inl (cZ, 3, .inl (fun _ => 0))), (q7, .inl (cI, 3, .inl (fun _ => 0))), (q8, .inl (cI, 3, .inl (fun _ => 0))), (q9, .inl (cI, 3, .inl (fun _ => 0))), (q10, .inl (cI, 12, .inl (fun _ => 0))), (q11, .inl (cI, 12, .inl (fun _ => 0))), (q12, .inl (cI, 12, .inl (fun _ => 0)))] H _ := hw
  refine bx_putF (ws' := [(h0, .inr (0, [.ref q1, .ref q2, .ref q3, .ref q4, .ref q5, .ref q6, .ref q7, .ref q8, .ref q9, .ref q10, .ref q11, .ref q12, .null, .null, .null, .null, .int 0, .int 0])), (q1, .inl (cZ, 4, .inl (fun _ => 0))), (q2, .inl (cZ, 16, .inl (fun _ => 0))), (q3, .inl (cZ, 8, .inl (fun _ => 0))), (q4, .inl (cI, 8, .inl (fun _ => 0))), (q5, .inl (cI, 3, .inl (fun _ => 0))), (q6, .inl (cZ, 3, .inl (fun _ => 0))), (q7, .inl (cI, 3, .inl (fun _ => 0))), (q8, .inl (cI, 3, .inl (fun _ => 0))), (q9, .inl (cI, 3, .inl (fun _ => 0))), (q10, .inl (cI, 12, .inl (fun _ => 0))), (q11, .inl (cI, 12, .inl (fun _ => 0))), (q12, .inl (cI, 12, .inl (fun _ => 0)))]) (v := .ref q12) (ty := .array .int) S hK hin tyX0 tyX0_ok nmX0 hw hin2 rfl rfl 11 (by decide) flX0_init_44 rfl rfl (by decide +kernel) rfl rfl (Nat.le_of_ble_eq_true rfl) rfl dX0_init_91 (fun H locs hw => ?_)
  refine lv_aload_n S.1 S.2.1 dX0_init_94 rfl (lv_at hl 0 rfl) ?_
  refine lv_bipush (v := nI 12) S.1 S.2.1 dX0_init_95 (by decide) ?_
  refine bx_newi (c' := 13) (s' := 99) S hK hw (by decide) hai rfl rfl (by decide) (by decide) dX0_init_97 (fun q13 H hw => ?_)
  replace hw : Wd D A s.heap [(h0, .inr (0, [.ref q1, .ref q2, .ref q3, .ref q4, .ref q5, .ref q6, .ref q7, .ref q8, .ref q9, .ref q10, .ref q11, .ref q12, .null, .null, .null, .null, .int 0, .int 0])), (q1, .inl (cZ, 4, .inl (fun _ => 0))), (q2, .inl (cZ, 16, .inl (fun _ => 0))), (q3, .inl (cZ, 8, .inl (fun _ => 0))), (q4, .inl (cI, 8, .inl (fun _ => 0))), (q5, .inl (cI, 3, .inl (fun _ => 0))), (q6, .inl (cZ, 3, .inl (fun _ => 0))), (q7, .inl (cI, 3, .inl (fun _ => 0))), (q8, .inl (cI, 3, .inl (fun _ => 0))), (q9, .inl (cI, 3, .inl (fun _ => 0))), (q10, .inl (cI, 12, .inl (fun _ => 0))), (q11, .inl (cI, 12, .inl (fun _ => 0))), (q12, .inl (cI, 12, .inl (fun _ => 0))), (q13, .inl (cI, 12, .inl (fun _ => 0)))] H _ := hw
  refine bx_putF (ws' := [(h0, .inr (0, [.ref q1, .ref q2, .ref q3, .ref q4, .ref q5, .ref q6, .ref q7, .ref q8, .ref q9, .ref q10, .ref q11, .ref q12, .ref q13, .null, .null, .null, .int 0, .int 0])), (q1, .inl (cZ, 4, .inl (fun _ => 0))), (q2, .inl (cZ, 16, .inl (fun _ => 0))), (q3, .inl (cZ, 8, .inl (fun _ => 0))), (q4, .inl (cI, 8, .inl (fun _ => 0))), (q5, .inl (cI, 3, .inl (fun _ => 0))), (q6, .inl (cZ, 3, .inl (fun _ => 0))), (q7, .inl (cI, 3, .inl (fun _ => 0))), (q8, .inl (cI, 3, .inl (fun _ => 0))), (q9, .inl (cI, 3, .inl (fun _ => 0))), (q10, .inl (cI, 12, .inl (fun _ => 0))), (q11, .inl (cI, 12, .inl (fun _ => 0))), (q12, .inl (cI, 12, .inl (fun _ => 0))), (q13, .inl (cI, 12, .inl (fun _ => 0)))]) (v := .ref q13) (ty := .array .int) S hK hin tyX0 tyX0_ok nmX0 hw hin2 rfl rfl 12 (by decide) flX0_init_47 rfl rfl (by decide +kernel) rfl rfl (Nat.le_of_ble_eq_true rfl) rfl dX0_init_99 (fun H locs hw => ?_)
  refine lv_aload_n S.1 S.2.1 dX0_init_102 rfl (lv_at hl 0 rfl) ?_
  refine lv_bipush (v := nI 12) S.1 S.2.1 dX0_init_103 (by decide) ?_
  refine bx_newi (c' := 14) (s' := 111) S hK hw (by decide) hai rfl rfl (by decide) (by decide) dX0_init_105 (fun q14 H hw => ?_)
  replace hw : Wd D A s.heap [(h0, .inr (0, [.ref q1, .ref q2, .ref q3, .ref q4, .ref q5, .ref q6, .ref q7, .ref q8, .ref q9, .ref q10, .ref q11, .ref q12, .ref q13, .null, .null, .null, .int 0, .int 0])), (q1, .inl (cZ, 4, .inl (fun _ => 0))), (q2, .inl (cZ, 16, .inl (fun _ => 0))), (q3, .inl (cZ, 8, .inl (fun _ => 0))), (q4, .inl (cI, 8, .inl (fun _ => 0))), (q5, .inl (cI, 3, .inl (fun _ => 0))), (q6, .inl (cZ, 3, .inl (fun _ => 0))), (q7, .inl (cI, 3, .inl (fun _ => 0))), (q8, .inl (cI, 3, .inl (fun _ => 0))), (q9, .inl (cI, 3, .inl (fun _ => 0))), (q10, .inl (cI, 12, .inl (fun _ => 0))), (q11, .inl (cI, 12, .inl (fun _ => 0))), (q12, .inl (cI, 12, .inl (fun _ => 0))), (q13, .inl (cI, 12, .inl (fun _ => 0))), (q14, .inl (cI, 12, .inl (fun _ => 0)))] H _ := hw
  refine bx_putF (ws' := [(h0, .inr (0, [.ref q1, .ref q2, .ref q3, .ref q4, .ref q5, .ref q6, .ref q7, .ref q8, .ref q9, .ref q10, .ref q11, .ref q12, .ref q13, .ref q14, .null, .null, .int 0, .int 0])), (q1, .inl (cZ, 4, .inl (fun _ => 0))), (q2, .inl (cZ, 16, .inl (fun _ => 0))), (q3, .inl (cZ, 8, .inl (fun _ => 0))), (q4, .inl (cI, 8, .inl (fun _ => 0))), (q5, .inl (cI, 3, .inl (fun _ => 0))), (q6, .inl (cZ, 3, .inl (fun _ => 0))), (q7, .inl (cI, 3, .inl (fun _ => 0))), (q8, .inl (cI, 3, .inl (fun _ => 0))), (q9, .inl (cI, 3, .inl (fun _ => 0))), (q10, .inl (cI, 12, .inl (fun _ => 0))), (q11, .inl (cI, 12, .inl (fun _ => 0))), (q12, .inl (cI, 12, .inl (fun _ => 0))), (q13, .inl (cI, 12, .inl (fun _ => 0))), (q14, .inl (cI, 12, .inl (fun _ => 0)))]) (v := .ref q14) (ty := .array .int) S hK hin tyX0 tyX0_ok nmX0 hw hin2 rfl rfl 13 (by decide) flX0_init_50 rfl rfl (by decide +kernel) rfl rfl (Nat.le_of_ble_eq_true rfl) rfl dX0_init_107 (fun H locs hw => ?_)
  refine lv_aload_n S.1 S.2.1 dX0_init_110 rfl (lv_at hl 0 rfl) ?_
  refine lv_bipush (v := nI 12) S.1 S.2.1 dX0_init_111 (by decide) ?_
  refine bx_newi (c' := 15) (s' := 123) S hK hw (by decide) hai rfl rfl (by decide) (by decide) dX0_init_113 (fun q15 H hw => ?_)
  replace hw : Wd D A s.heap [(h0, .inr (0, [.ref q1, .ref q2, .ref q3, .ref q4, .ref q5, .ref q6, .ref q7, .ref q8, .ref q9, .ref q10, .ref q11, .ref q12, .ref q13, .ref q14, .null, .null, .int 0, .int 0])), (q1, .inl (cZ, 4, .inl (fun _ => 0))), (q2, .inl (cZ, 16, .inl (fun _ => 0))), (q3, .inl (cZ, 8, .inl (fun _ => 0))), (q4, .inl (cI, 8, .inl (fun _ => 0))), (q5, .inl (cI, 3, .inl (fun _ => 0))), (q6, .inl (cZ, 3, .inl (fun _ => 0))), (q7, .inl (cI, 3, .inl (fun _ => 0))), (q8, .inl (cI, 3, .inl (fun _ => 0))), (q9, .inl (cI, 3, .inl (fun _ => 0))), (q10, .inl (cI, 12, .inl (fun _ => 0))), (q11, .inl (cI, 12, .inl (fun _ => 0))), (q12, .inl (cI, 12, .inl (fun _ => 0))), (q13, .inl (cI, 12, .inl (fun _ => 0))), (q14, .inl (cI, 12, .inl (fun _ => 0))), (q15, .inl (cI, 12, .inl (fun _ => 0)))] H _ := hw
  refine bx_putF (ws' := [(h0, .inr (0, [.ref q1, .ref q2, .ref q3, .ref q4, .ref q5, .ref q6, .ref q7, .ref q8, .ref q9, .ref q10, .ref q11, .ref q12, .ref q13, .ref q14, .ref q15, .null, .int 0, .int 0])), (q1, .inl (cZ, 4, .inl (fun _ => 0))), (q2, .inl (cZ, 16, .inl (fun _ => 0))), (q3, .inl (cZ, 8, .inl (fun _ => 0))), (q4, .inl (cI, 8, .inl (fun _ => 0))), (q5, .inl (cI, 3, .inl (fun _ => 0))), (q6, .inl (cZ, 3, .inl (fun _ => 0))), (q7, .inl (cI, 3, .inl (fun _ => 0))), (q8, .inl (cI, 3, .inl (fun _ => 0))), (q9, .inl (cI, 3, .inl (fun _ => 0))), (q10, .inl (cI, 12, .inl (fun _ => 0))), (q11, .inl (cI, 12, .inl (fun _ => 0))), (q12, .inl (cI, 12, .inl (fun _ => 0))), (q13, .inl (cI, 12, .inl (fun _ => 0))), (q14, .inl (cI, 12, .inl (fun _ => 0))), (q15, .inl (cI, 12, .inl (fun _ => 0)))]) (v := .ref q15) (ty := .array .int) S hK hin tyX0 tyX0_ok nmX0 hw hin2 rfl rfl 14 (by decide) flX0_init_53 rfl rfl (by decide +kernel) rfl rfl (Nat.le_of_ble_eq_true rfl) rfl dX0_init_115 (fun H locs hw => ?_)
  refine lv_aload_n S.1 S.2.1 dX0_init_118 rfl (lv_at hl 0 rfl) ?_
  refine lv_bipush (v := nI 12) S.1 S.2.1 dX0_init_119 (by decide) ?_
  refine bx_newz (c' := 16) (s' := 135) S hK hw (by decide) haz rfl rfl (by decide) (by decide) dX0_init_121 (fun q16 H hw => ?_)
  replace hw : Wd D A s.heap [(h0, .inr (0, [.ref q1, .ref q2, .ref q3, .ref q4, .ref q5, .ref q6, .ref q7, .ref q8, .ref q9, .ref q10, .ref q11, .ref q12, .ref q13, .ref q14, .ref q15, .null, .int 0, .int 0])), (q1, .inl (cZ, 4, .inl (fun _ => 0))), (q2, .inl (cZ, 16, .inl (fun _ => 0))), (q3, .inl (cZ, 8, .inl (fun _ => 0))), (q4, .inl (cI, 8, .inl (fun _ => 0))), (q5, .inl (cI, 3, .inl (fun _ => 0))), (q6, .inl (cZ, 3, .inl (fun _ => 0))), (q7, .inl (cI, 3, .inl (fun _ => 0))), (q8, .inl (cI, 3, .inl (fun _ => 0))), (q9, .inl (cI, 3, .inl (fun _ => 0))), (q10, .inl (cI, 12, .inl (fun _ => 0))), (q11, .inl (cI, 12, .inl (fun _ => 0))), (q12, .inl (cI, 12, .inl (fun _ => 0))), (q13, .inl (cI, 12, .inl (fun _ => 0))), (q14, .inl (cI, 12, .inl (fun _ => 0))), (q15, .inl (cI, 12, .inl (fun _ => 0))), (q16, .inl (cZ, 12, .inl (fun _ => 0)))] H _ := hw
  refine bx_putF (ws' := [(h0, .inr (0, [.ref q1, .ref q2, .ref q3, .ref q4, .ref q5, .ref q6, .ref q7, .ref q8, .ref q9, .ref q10, .ref q11, .ref q12, .ref q13, .ref q14, .ref q15, .ref q16, .int 0, .int 0])), (q1, .inl (cZ, 4, .inl (fun _ => 0))), (q2, .inl (cZ, 16, .inl (fun _ => 0))), (q3, .inl (cZ, 8, .inl (fun _ => 0))), (q4, .inl (cI, 8, .inl (fun _ => 0))), (q5, .inl (cI, 3, .inl (fun _ => 0))), (q6, .inl (cZ, 3, .inl (fun _ => 0))), (q7, .inl (cI, 3, .inl (fun _ => 0))), (q8, .inl (cI, 3, .inl (fun _ => 0))), (q9, .inl (cI, 3, .inl (fun _ => 0))), (q10, .inl (cI, 12, .inl (fun _ => 0))), (q11, .inl (cI, 12, .inl (fun _ => 0))), (q12, .inl (cI, 12, .inl (fun _ => 0))), (q13, .inl (cI, 12, .inl (fun _ => 0))), (q14, .inl (cI, 12, .inl (fun _ => 0))), (q15, .inl (cI, 12, .inl (fun _ => 0))), (q16, .inl (cZ, 12, .inl (fun _ => 0)))]) (v := .ref q16) (ty := .array .boolean) S hK hin tyX0 tyX0_ok nmX0 hw hin2 rfl rfl 15 (by decide) flX0_init_56 rfl rfl (by decide +kernel) rfl rfl (Nat.le_of_ble_eq_true rfl) rfl dX0_init_123 (fun H locs hw => ?_)
  obtain ⟨a, ha0, hw⟩ : ∃ a : Nat → Nat, a 0 = h0 ∧ Wd D A s.heap (wX cZ cI a sZ) _ _ := ⟨aL [h0, q1, q2, q3, q4, q5, q6, q7, q8, q9, q10, q11, q12, q13, q14, q15, q16], rfl, hw⟩
  replace hl : lv_has ls 2 [(0, .ref (a 0))] := by rw [ha0]; exact hl
  refine lv_iconst (v := nI 0) S.1 S.2.1 dX0_init_126 (by decide) ?_
  refine lv_istore_n (lv' := [(1, .int (nI 0)), (0, .ref (a 0))]) S.1 S.2.1 dX0_init_127 rfl hl (by decide) rfl (fun ls hl => ?_)
  have L128 : ∀ (n i128 : Nat), i128 + n = 4 → ∀ (H : Heap) (locs : List Loc), Wd D A s.heap (wX cZ cI a (itF iniA sZ i128)) H locs → ∀ ls : Array Slot, lv_has ls 2 [(0, .ref (a 0)), (1, .int (nI i128))] → W p l e ({ frames := 1, cells := 16, slots := 135, locals := 12 } : Room) s m args below meth c H locs 16 135 Q (F0 m 128 ls []) := by
    intro n
    induction n with
    | zero =>
      intro i128 hi H locs hw ls hl
      obtain rfl : i128 = 4 := by omega
      refine lv_iload_n S.1 S.2.1 dX0_init_128 rfl (lv_at hl 1 rfl) ?_
      refine lv_iconst (v := nI 4) S.1 S.2.1 dX0_init_129 (by decide) ?_
      refine br_ge (tgt := 146) S dX0_init_130 (by decide) (fun c130 => ?_) (fun c130 => ?_)
      · refine lv_iconst (v := nI 0) S.1 S.2.1 dX0_init_146 (by decide) ?_
        replace hw := Wd.cast (congrArg (wX cZ cI a) (show itF iniA sZ 4 = s1 from rfl)) hw
        refine lv_istore_n (lv' := [(1, .int (nI 0)), (0, .ref (a 0))]) S.1 S.2.1 dX0_init_147 rfl hl (by decide) rfl (fun ls hl => ?_)
        have L148 : ∀ (n i148 : Nat), i148 + n = 16 → ∀ (H : Heap) (locs : List Loc), Wd D A s.heap (wX cZ cI a (itF iniB s1 i148)) H locs → ∀ ls : Array Slot, lv_has ls 2 [(0, .ref (a 0)), (1, .int (nI i148))] → W p l e ({ frames := 1, cells := 16, slots := 135, locals := 12 } : Room) s m args below meth c H locs 16 135 Q (F0 m 148 ls []) := by
          intro n
          induction n with
          | zero =>
            intro i148 hi H locs hw ls hl
            obtain rfl : i148 = 16 := by omega
            refine lv_iload_n S.1 S.2.1 dX0_init_148 rfl (lv_at hl 1 rfl) ?_
            refine lv_bipush (v := nI 16) S.1 S.2.1 dX0_init_149 (by decide) ?_
            refine br_ge (tgt := 167) S dX0_init_151 (by decide) (fun c151 => ?_) (fun c151 => ?_)
            · refine lv_iconst (v := nI 0) S.1 S.2.1 dX0_init_167 (by decide) ?_
              replace hw := Wd.cast (congrArg (wX cZ cI a) (show itF iniB s1 16 = s2 from rfl)) hw
              refine lv_istore_n (lv' := [(1, .int (nI 0)), (0, .ref (a 0))]) S.1 S.2.1 dX0_init_168 rfl hl (by decide) rfl (fun ls hl => ?_)
              have L169 : ∀ (n i169 : Nat), i169 + n = 8 → ∀ (H : Heap) (locs : List Loc), Wd D A s.heap (wX cZ cI a (itF iniC s2 i169)) H locs → ∀ ls : Array Slot, lv_has ls 2 [(0, .ref (a 0)), (1, .int (nI i169))] → W p l e ({ frames := 1, cells := 16, slots := 135, locals := 12 } : Room) s m args below meth c H locs 16 135 Q (F0 m 169 ls []) := by
                intro n
                induction n with
                | zero =>
                  intro i169 hi H locs hw ls hl
                  obtain rfl : i169 = 8 := by omega
                  refine lv_iload_n S.1 S.2.1 dX0_init_169 rfl (lv_at hl 1 rfl) ?_
                  refine lv_bipush (v := nI 8) S.1 S.2.1 dX0_init_170 (by decide) ?_
                  refine br_ge (tgt := 188) S dX0_init_172 (by decide) (fun c172 => ?_) (fun c172 => ?_)
                  · refine lv_iconst (v := nI 0) S.1 S.2.1 dX0_init_188 (by decide) ?_
                    replace hw := Wd.cast (congrArg (wX cZ cI a) (show itF iniC s2 8 = s3 from rfl)) hw
                    refine lv_istore_n (lv' := [(1, .int (nI 0)), (0, .ref (a 0))]) S.1 S.2.1 dX0_init_189 rfl hl (by decide) rfl (fun ls hl => ?_)
                    have L190 : ∀ (n i190 : Nat), i190 + n = 3 → ∀ (H : Heap) (locs : List Loc), Wd D A s.heap (wX cZ cI a (itF iniD s3 i190)) H locs → ∀ ls : Array Slot, lv_has ls 2 [(0, .ref (a 0)), (1, .int (nI i190))] → W p l e ({ frames := 1, cells := 16, slots := 135, locals := 12 } : Room) s m args below meth c H locs 16 135 Q (F0 m 190 ls []) := by
                      intro n
                      induction n with
                      | zero =>
                        intro i190 hi H locs hw ls hl
                        obtain rfl : i190 = 3 := by omega
                        refine lv_iload_n S.1 S.2.1 dX0_init_190 rfl (lv_at hl 1 rfl) ?_
                        refine lv_iconst (v := nI 3) S.1 S.2.1 dX0_init_191 (by decide) ?_
                        refine br_ge (tgt := 215) S dX0_init_192 (by decide) (fun c192 => ?_) (fun c192 => ?_)
                        · replace hw := Wd.cg 1 (s0 0) rfl (by decide +kernel) hw
                          replace hw := Wd.cg 2 (s0 1) rfl (by decide +kernel) hw
                          replace hw := Wd.cg 3 (s0 2) rfl (by decide +kernel) hw
                          replace hw := Wd.cg 4 (s0 3) rfl (by decide +kernel) hw
                          replace hw := Wd.cg 5 (s0 4) rfl (by decide +kernel) hw
                          replace hw := Wd.cg 6 (s0 5) rfl (by decide +kernel) hw
                          replace hw := Wd.cg 7 (s0 6) rfl (by decide +kernel) hw
                          replace hw := Wd.cg 8 (s0 7) rfl (by decide +kernel) hw
                          replace hw := Wd.cg 9 (s0 8) rfl (by decide +kernel) hw
                          replace hw := Wd.cg 10 (s0 9) rfl (by decide +kernel) hw
                          replace hw := Wd.cg 11 (s0 10) rfl (by decide +kernel) hw
                          replace hw := Wd.cg 12 (s0 11) rfl (by decide +kernel) hw
                          replace hw := Wd.cg 13 (s0 12) rfl (by decide +kernel) hw
                          replace hw := Wd.cg 14 (s0 13) rfl (by decide +kernel) hw
                          replace hw := Wd.cg 15 (s0 14) rfl (by decide +kernel) hw
                          replace hw := Wd.cg 16 (s0 15) rfl (by decide +kernel) hw
                          exact hret (show Wd D A s.heap (wX cZ cI a s0) _ _ from hw) ha0 dX0_init_215
                        · exact absurd c192 (nlt_nI (by decide))
                      | succ n ih_190 =>
                        intro i190 hi H locs hw ls hl
                        have hi190 : i190 < 3 := by omega
                        refine lv_iload_n S.1 S.2.1 dX0_init_190 rfl (lv_at hl 1 rfl) ?_
                        refine lv_iconst (v := nI 3) S.1 S.2.1 dX0_init_191 (by decide) ?_
                        refine br_ge (tgt := 215) S dX0_init_192 (by decide) (fun c192 => ?_) (fun c192 => ?_)
                        · exact absurd c192 (not_not_intro (lt_nI hi190 (by decide)))
                        · refine lv_aload_n S.1 S.2.1 dX0_init_195 rfl (lv_at hl 0 rfl) ?_
                          refine bx_get S hK hin hw.1 0 rfl rfl 4 (by decide) flX0_init_23 rfl dX0_init_196 ?_
                          refine lv_iload_n S.1 S.2.1 dX0_init_199 rfl (lv_at hl 1 rfl) ?_
                          refine lv_iconst (v := 4) S.1 S.2.1 dX0_init_200 (by decide) ?_
                          refine bx_iast S hK hw 5 1 rfl rfl (by omega) (by decide) (wX_s4 cZ cI a (itF iniD s3 i190) i190 4) dX0_init_201 (fun H locs hw => ?_)
                          refine lv_aload_n S.1 S.2.1 dX0_init_202 rfl (lv_at hl 0 rfl) ?_
                          refine bx_get S hK hin hw.1 0 rfl rfl 5 (by decide) flX0_init_26 rfl dX0_init_203 ?_
                          refine lv_iload_n S.1 S.2.1 dX0_init_206 rfl (lv_at hl 1 rfl) ?_
                          refine lv_iconst (v := 1) S.1 S.2.1 dX0_init_207 (by decide) ?_
                          refine bx_zast S hK hw 6 0 rfl rfl (by omega) (by decide) (by decide) (wX_s5 cZ cI a (up (itF iniD s3 i190) 4 i190 4) i190 1) dX0_init_208 (fun H locs hw => ?_)
                          refine lv_iinc (v := nI (i190 + 1)) (lv' := [(1, .int (nI (i190 + 1))), (0, .ref (a 0))]) S.1 S.2.1 dX0_init_209 hl (k := 1) rfl (nI_1 i190) (by decide) rfl (fun ls hl => ?_)
                          refine lv_goto (tgt := 190) S.1 S.2.1 dX0_init_212 (by decide) ?_
                          exact ih_190 (i190 + 1) (by omega) _ _ (Wd.cast (congrArg (wX cZ cI a) ((it_s iniD _ _).symm)) hw) _ (lv_sub hl [1, 0] rfl)
                    exact L190 (3 - 0) 0 (by omega) _ _ hw _ (lv_sub hl [1, 0] rfl)
                  · exact absurd c172 (nlt_nI (by decide))
                | succ n ih_169 =>
                  intro i169 hi H locs hw ls hl
                  have hi169 : i169 < 8 := by omega
                  refine lv_iload_n S.1 S.2.1 dX0_init_169 rfl (lv_at hl 1 rfl) ?_
                  refine lv_bipush (v := nI 8) S.1 S.2.1 dX0_init_170 (by decide) ?_
                  refine br_ge (tgt := 188) S dX0_init_172 (by decide) (fun c172 => ?_) (fun c172 => ?_)
                  · exact absurd c172 (not_not_intro (lt_nI hi169 (by decide)))
                  · refine lv_aload_n S.1 S.2.1 dX0_init_175 rfl (lv_at hl 0 rfl) ?_
                    refine bx_get S hK hin hw.1 0 rfl rfl 2 (by decide) flX0_init_16 rfl dX0_init_176 ?_
                    refine lv_iload_n S.1 S.2.1 dX0_init_179 rfl (lv_at hl 1 rfl) ?_
                    refine lv_iconst (v := 1) S.1 S.2.1 dX0_init_180 (by decide) ?_
                    refine bx_zast S hK hw 3 0 rfl rfl (by omega) (by decide) (by decide) (wX_s2 cZ cI a (itF iniC s2 i169) i169 1) dX0_init_181 (fun H locs hw => ?_)
                    refine lv_iinc (v := nI (i169 + 1)) (lv' := [(1, .int (nI (i169 + 1))), (0, .ref (a 0))]) S.1 S.2.1 dX0_init_182 hl (k := 1) rfl (nI_1 i169) (by decide) rfl (fun ls hl => ?_)
                    refine lv_goto (tgt := 169) S.1 S.2.1 dX0_init_185 (by decide) ?_
                    exact ih_169 (i169 + 1) (by omega) _ _ (Wd.cast (congrArg (wX cZ cI a) ((it_s iniC _ _).symm)) hw) _ (lv_sub hl [1, 0] rfl)
              exact L169 (8 - 0) 0 (by omega) _ _ hw _ (lv_sub hl [1, 0] rfl)
            · exact absurd c151 (nlt_nI (by decide))
          | succ n ih_148 =>
            intro i148 hi H locs hw ls hl
            have hi148 : i148 < 16 := by omega
            refine lv_iload_n S.1 S.2.1 dX0_init_148 rfl (lv_at hl 1 rfl) ?_
            refine lv_bipush (v := nI 16) S.1 S.2.1 dX0_init_149 (by decide) ?_
            refine br_ge (tgt := 167) S dX0_init_151 (by decide) (fun c151 => ?_) (fun c151 => ?_)
            · exact absurd c151 (not_not_intro (lt_nI hi148 (by decide)))
            · refine lv_aload_n S.1 S.2.1 dX0_init_154 rfl (lv_at hl 0 rfl) ?_
              refine bx_get S hK hin hw.1 0 rfl rfl 1 (by decide) flX0_init_13 rfl dX0_init_155 ?_
              refine lv_iload_n S.1 S.2.1 dX0_init_158 rfl (lv_at hl 1 rfl) ?_
              refine lv_iconst (v := 1) S.1 S.2.1 dX0_init_159 (by decide) ?_
              refine bx_zast S hK hw 2 0 rfl rfl (by omega) (by decide) (by decide) (wX_s1 cZ cI a (itF iniB s1 i148) i148 1) dX0_init_160 (fun H locs hw => ?_)
              refine lv_iinc (v := nI (i148 + 1)) (lv' := [(1, .int (nI (i148 + 1))), (0, .ref (a 0))]) S.1 S.2.1 dX0_init_161 hl (k := 1) rfl (nI_1 i148) (by decide) rfl (fun ls hl => ?_)
              refine lv_goto (tgt := 148) S.1 S.2.1 dX0_init_164 (by decide) ?_
              exact ih_148 (i148 + 1) (by omega) _ _ (Wd.cast (congrArg (wX cZ cI a) ((it_s iniB _ _).symm)) hw) _ (lv_sub hl [1, 0] rfl)
        exact L148 (16 - 0) 0 (by omega) _ _ hw _ (lv_sub hl [1, 0] rfl)
      · exact absurd c130 (nlt_nI (by decide))
    | succ n ih_128 =>
      intro i128 hi H locs hw ls hl
      have hi128 : i128 < 4 := by omega
      refine lv_iload_n S.1 S.2.1 dX0_init_128 rfl (lv_at hl 1 rfl) ?_
      refine lv_iconst (v := nI 4) S.1 S.2.1 dX0_init_129 (by decide) ?_
      refine br_ge (tgt := 146) S dX0_init_130 (by decide) (fun c130 => ?_) (fun c130 => ?_)
      · exact absurd c130 (not_not_intro (lt_nI hi128 (by decide)))
      · refine lv_aload_n S.1 S.2.1 dX0_init_133 rfl (lv_at hl 0 rfl) ?_
        refine bx_get S hK hin hw.1 0 rfl rfl 0 (by decide) flX0_init_9 rfl dX0_init_134 ?_
        refine lv_iload_n S.1 S.2.1 dX0_init_137 rfl (lv_at hl 1 rfl) ?_
        refine lv_iconst (v := 1) S.1 S.2.1 dX0_init_138 (by decide) ?_
        refine bx_zast S hK hw 1 0 rfl rfl (by omega) (by decide) (by decide) (wX_s0 cZ cI a (itF iniA sZ i128) i128 1) dX0_init_139 (fun H locs hw => ?_)
        refine lv_iinc (v := nI (i128 + 1)) (lv' := [(1, .int (nI (i128 + 1))), (0, .ref (a 0))]) S.1 S.2.1 dX0_init_140 hl (k := 1) rfl (nI_1 i128) (by decide) rfl (fun ls hl => ?_)
        refine lv_goto (tgt := 128) S.1 S.2.1 dX0_init_143 (by decide) ?_
        exact ih_128 (i128 + 1) (by omega) _ _ (Wd.cast (congrArg (wX cZ cI a) ((it_s iniA _ _).symm)) hw) _ (lv_sub hl [1, 0] rfl)
  exact L128 (4 - 0) 0 (by omega) _ _ hw _ (lv_sub hl [1, 0] rfl)
end
section
/-! ===== rows for the law: a world of two parts; methods with a table; how far the heap has grown ===== -/
theorem ap_l {w1 w2 : va_W} {k : Nat} {q : Nat × va_E} (h : w1[k]? = some q) : (w1 ++ w2)[k]? = some q := by
  have hlt : k < w1.length := (List.getElem?_eq_some_iff.mp h).1
  rw [List.getElem?_append_left hlt]; exact h
theorem ap_r {w1 w2 : va_W} {k : Nat} {q : Nat × va_E} (h : w2[k]? = some q) : (w1 ++ w2)[w1.length + k]? = some q := by
  rw [List.getElem?_append_right (Nat.le_add_right _ _), Nat.add_sub_cancel_left]; exact h
theorem Pl {D : va_G} {w1 w2 : va_W} {H : Heap} (h : va_P D vwCl (w1 ++ w2) H) : va_P D vwCl w1 H := fun k q hk => h k q (ap_l hk)
theorem Pr {D : va_G} {w1 w2 : va_W} {H : Heap} (h : va_P D vwCl (w1 ++ w2) H) : va_P D vwCl w2 H := fun k q hk => h _ q (ap_r hk)
theorem Dl {A : Nat → Prop} {w1 w2 : va_W} (h : va_D A (w1 ++ w2)) : va_D A w1 := ⟨fun i j p q hi hj e => h.1 i j p q (ap_l hi) (ap_l hj) e, fun k q hk => h.2 k q (ap_l hk)⟩
theorem Dr {A : Nat → Prop} {w1 w2 : va_W} (h : va_D A (w1 ++ w2)) : va_D A w2 := ⟨fun i j p q hi hj e => by have := h.1 _ _ p q (ap_r hi) (ap_r hj) e; omega, fun k q hk => h.2 _ q (ap_r hk)⟩
theorem Dx {A : Nat → Prop} {w1 w2 : va_W} (h : va_D A (w1 ++ w2)) {i j : Nat} {p q : Nat × va_E} (hi : w1[i]? = some p) (hj : w2[j]? = some q) : p.1 ≠ q.1 := fun e => by
  have hlt : i < w1.length := (List.getElem?_eq_some_iff.mp hi).1
  have := h.1 _ _ p q (ap_l hi) (ap_r hj) e
  omega
theorem Wd.swap {D : va_G} {A : Nat → Prop} {H0 H : Heap} {w1 w2 : va_W} {locs : List Loc} (h : Wd D A H0 (w1 ++ w2) H locs) : Wd D A H0 (w2 ++ w1) H locs :=
  ⟨va_P.app (Pr h.1) (Pl h.1), va_D.app (Dr h.2.1) (Dl h.2.1) (fun i j p q hi hj e => Dx h.2.1 hj hi e.symm), h.2.2⟩
theorem Wd.join1 {D : va_G} {A : Nat → Prop} {H0 H H1 : Heap} {w1 w2 w1' : va_W} {locs locs1 : List Loc} (h : Wd D A H0 (w1 ++ w2) H locs) (hk : ∀ q : Nat, q < H.size → ¬ va_A w1 H.size q → H1[q]? = H[q]?) (hS : va_S A H0 H1 locs1) (hP1 : va_P D vwCl w1' H1) (hD1 : va_D (va_A w1 H.size) w1') : Wd D A H0 (w1' ++ w2) H1 locs1 := by
  have hr : ∀ (k : Nat) (q : Nat × va_E), w2[k]? = some q → q.1 < H.size ∧ ¬ va_A w1 H.size q.1 := fun k q hq => by
    have hl := (Pr h.1 k q hq).lt
    refine ⟨hl, fun z => ?_⟩
    rcases z with ⟨i, e, hi⟩ | z
    · exact Dx h.2.1 hi hq rfl
    · exact absurd z (Nat.not_le.mpr hl)
  have hc : ∀ q, va_A w1 H.size q → A q := fun q z => by
    rcases z with ⟨i, e, hi⟩ | z
    · exact (Dl h.2.1).2 i _ hi
    · exact h.2.2.2 q (Nat.le_trans h.2.2.1.1 z)
  refine ⟨va_P.app hP1 ((Pr h.1).kept fun k q hq => hk q.1 (hr k q hq).1 (hr k q hq).2), va_D.app (hD1.weaken fun _ _ _ z => hc _ z) (Dr h.2.1) (fun i j p q hi hj e => ?_), hS, h.2.2.2⟩
  exact (hr j q hj).2 (e ▸ hD1.2 i p hi)
theorem Met.ofH {l : Launch} {y : MethodName} {ws ws' : List Cond} {rm : Room} {Pc : Array Value → State → Prop} {Qc : Array Value → State → Outcome → State → Prop} {mc ms : Nat} {free : Addr → Prop} {cc : ByteArray} {maxL : Nat} {ret : Option FieldType} {hh : List (Nat × Nat × Nat × Nat)}
    (hy : plainName y.cls = true) (hw : ws = Cond.codeWith y cc maxL ret hh :: ws')
    (body : ∀ p e s m args below meth c s₁, BodyLoose p l y (headSpec ws rm) cc maxL ret e s m args below meth c s₁ → c.maxLocals = maxL → c.exceptionTable.toList = tableOf hh → Pc args s →
      W p l e (headSpec ws rm).room s m args below meth c s.heap [] 0 0 (MQ below Qc args s mc ms free) (entryFrame m args maxL)) : Met l y ws rm Pc Qc mc ms free := by
  refine MetFree.of_bodyS (code := cc) (maxLocals := maxL) (ret := ret) hy ?_ ?_
  · intro args s m h hn
    obtain ⟨m9, meth, c, hn9, h1, h2, h3, h4, -, h5, h6, -⟩ := Cond.codeWith_spec (atoms_spec (ws := ws) h _ (by rw [hw]; exact List.mem_cons_self))
    cases hn.symm.trans hn9
    exact ⟨meth, c, h1, h2, h3, h4, h5, h6⟩
  · intro p e s m args below meth c s₁ B hml hP _
    have hh0 : s₁.heap = s.heap := by rw [B.state]; rfl
    obtain ⟨t, a1, o, b1, b2, b3⟩ := body p e s m args below meth c s₁ B hml (vx_table (x := y) B (atoms_spec (ws := ws) B.pre _ (by rw [hw]; exact List.mem_cons_self))) hP s₁ hh0 (Stand.of_body B)
    exact ⟨t, o, a1, b1, b2, ⟨b3.1, b3.2⟩⟩
theorem Wd.nil {D : va_G} {A : Nat → Prop} {H0 H : Heap} {w : va_W} {locs : List Loc} (h : Wd D A H0 w H locs) : Wd D A H0 (w ++ []) H locs := by rw [List.append_nil]; exact h
theorem Wd.unnil {D : va_G} {A : Nat → Prop} {H0 H : Heap} {w : va_W} {locs : List Loc} (h : Wd D A H0 (w ++ []) H locs) : Wd D A H0 w H locs := by rw [List.append_nil] at h; exact h
/-- a method with a table that catches: it answers r, nothing old has changed, the heap has grown -/
def MB (l : Launch) (y : MethodName) (wsl : List Cond) (rm : Room) (D : va_G) (tys : List (ClassId × FieldType)) (As : List Value) (w0 : va_W) (r : Int32) : Prop :=
  ∀ sz : Nat, Met l y wsl rm (va_Pc As (MPreT D tys w0 sz)) (va_Qi (fun (r' : Int32) (_ : Unit) => r' = r) (fun _ t => sz < t.heap.size) (fun q => sz ≤ q)) 1 6 (fun q => sz ≤ q)
theorem MB.of {l : Launch} {y : MethodName} {wsl ws' : List Cond} {rm : Room} {D : va_G} {tys : List (ClassId × FieldType)} {As : List Value} {w0 : va_W} {r : Int32} {cc : ByteArray} {maxL : Nat} {hh : List (Nat × Nat × Nat × Nat)}
    (hy : plainName y.cls = true) (hws : wsl = Cond.codeWith y cc maxL (some .int) hh :: ws') (hla : (lg_sl As).length ≤ maxL)
    (body : ∀ (p : Program) (e : Env) (s : State) (m : MethodId) (args : Array Value) (below : List Frame) (meth : Method) (c : Code) (Q : State → Prop), CallFix p m c cc maxL s args wsl y.cls → va_K D vwCl tys s → ZT (fun q => s.heap.size ≤ q) s s.heap → va_D (fun _ => True) w0 → c.exceptionTable.toList = tableOf hh →
      (∀ {H : Heap} {locs : List Loc} {ls : Array Slot} {pc : Nat} {v : Int32}, va_S (fun q => s.heap.size ≤ q) s.heap H locs → s.heap.size < H.size → decode cc pc = .ok (.ireturn, 1) → v = r → W p l e rm s m args below meth c H locs 1 6 Q (F0 m pc ls [.int v])) →
      ∀ ls : Array Slot, lv_has ls maxL (lv_args 0 As) → Wt D (fun q => s.heap.size ≤ q) s.heap w0 s.heap [] → W p l e rm s m args below meth c s.heap [] 0 0 Q (F0 m 0 ls [])) : MB l y wsl rm D tys As w0 r := by
  intro sz
  refine Met.ofH (cc := cc) (maxL := maxL) (ret := some .int) (hh := hh) hy hws ?_
  intro p e s m args below meth c s₁ B hml ht hv
  obtain ⟨rfl, ⟨hsz, hP, hK, hD0⟩, hZ⟩ := hv
  subst hsz
  have hlocks := B.notSynchronized
  have hroom : (headSpec wsl rm).room = rm := rfl
  rw [hroom, lg_entry_eq]
  refine body p e s m _ below meth c _ ⟨B.exec, B.bytes, hml, findClass_of_methodNamed B.named, atoms_spec (ws := wsl) B.pre⟩ hK hZ hD0 ht ?_ _ (lv_entry As hla) ⟨hP, va_S.rf, fun q h => h, fun k q hk => ⟨(hP k q hk).lt, Nat.not_le.mpr (hP k q hk).lt⟩⟩
  intro H locs ls pc v hS hg hdg hvr
  subst hvr
  exact W.zret (v := v) (ty := .int) B.exec B.bytes B.returns rfl (fun t ht hW => ⟨⟨v, (), rfl, rfl, by show s.heap.size < t.heap.size; rw [ht]; exact hg⟩, hS.F ht⟩) hS.2.2 hdg
/-- a method that reads the world w0, makes at most mc cells, at least k, and answers r -/
def MPreZ (D : va_G) (tys : List (ClassId × FieldType)) (w0 : va_W) (sz : Nat) (U : State) : Prop := MPre D tys w0 sz U ∧ ZT (va_A w0 sz) U U.heap
theorem MPreZ.blind {D : va_G} {tys : List (ClassId × FieldType)} {w0 : va_W} {sz : Nat} {As : List Value} : FrameBlind (va_Pc As (MPreZ D tys w0 sz)) := fun a U g mk q => by
  obtain ⟨q0, qM, qZ⟩ := q
  refine ⟨q0, (MPre.blind (As := As) a U g mk ⟨q0, qM⟩).2, ?_⟩
  exact ⟨vx_Zq.moved (u := U) (U := U.calling g mk a) (Vm.Alike.refl U.vm) qZ.1, vx_Zq.moved (u := U) (U := U.calling g mk a) (Vm.Alike.refl U.vm) qZ.2.1, fun k q hk => (qZ.2.2.1 k q hk).imp fun a ha => vk_R.same (u := U) rfl ha, fun w hw => va_Nw.same (zzW.ok w hw) (u := U) rfl (qZ.2.2.2.1 w hw), va_Nc.moved (u := U) (U := U.calling g mk a) (Vm.Alike.refl U.vm) qZ.2.2.2.2⟩
def MR (l : Launch) (y : MethodName) (wsl : List Cond) (rm : Room) (D : va_G) (tys : List (ClassId × FieldType)) (As : List Value) (w0 : va_W) (r : Int32) (mc ms k : Nat) : Prop :=
  ∀ sz : Nat, Met l y wsl rm (va_Pc As (MPreZ D tys w0 sz)) (va_Qi (fun (r' : Int32) (_ : Unit) => r' = r) (fun _ t => va_P D vwCl w0 t.heap ∧ va_D (va_A w0 sz) w0 ∧ sz + k ≤ t.heap.size) (va_A w0 sz)) mc ms (va_A w0 sz)
theorem MR.of {l : Launch} {y : MethodName} {wsl ws' : List Cond} {rm : Room} {D : va_G} {tys : List (ClassId × FieldType)} {As : List Value} {w0 : va_W} {r : Int32} {mc ms k : Nat} {cc : ByteArray} {maxL : Nat} {ty : FieldType}
    (hy : plainName y.cls = true) (hws : wsl = Cond.code y cc maxL (some ty) :: ws') (hn : narrow ty (.int r) = .int r) (hla : (lg_sl As).length ≤ maxL)
    (body : ∀ (p : Program) (e : Env) (s : State) (m : MethodId) (args : Array Value) (below : List Frame) (meth : Method) (c : Code) (A : Nat → Prop) (Q : State → Prop), CallFix p m c cc maxL s args wsl y.cls → va_K D vwCl tys s → ZT A s s.heap →
      (∀ {H : Heap} {locs : List Loc} {ls : Array Slot} {pc : Nat} {v : Int32}, Wd D A s.heap w0 H locs → s.heap.size + k ≤ H.size → decode cc pc = .ok (.ireturn, 1) → v = r → W p l e rm s m args below meth c H locs mc ms Q (F0 m pc ls [.int v])) →
      ∀ ls : Array Slot, lv_has ls maxL (lv_args 0 As) → Wd D A s.heap w0 s.heap [] → W p l e rm s m args below meth c s.heap [] 0 0 Q (F0 m 0 ls [])) : MR l y wsl rm D tys As w0 r mc ms k := by
  intro sz
  refine Met.ofW (cc := cc) (maxL := maxL) (ret := some ty) hy hws ?_
  intro p e s m args below meth c s₁ B hml hv
  obtain ⟨rfl, ⟨hsz, hP, hK, hD0⟩, hZ⟩ := hv
  subst hsz
  have hlocks := B.notSynchronized
  have hroom : (headSpec wsl rm).room = rm := rfl
  rw [hroom, lg_entry_eq]
  refine body p e s m _ below meth c (va_A w0 s.heap.size) _ ⟨B.exec, B.bytes, hml, findClass_of_methodNamed B.named, atoms_spec (ws := wsl) B.pre⟩ hK hZ ?_ _ (lv_entry As hla) ⟨hP, hD0.self, va_S.rf, fun q h => Or.inr h⟩
  intro H locs ls pc v hw hg hdg hvr
  subst hvr
  exact W.zret (v := v) (ty := ty) B.exec B.bytes B.returns hn (fun t ht hW => ⟨⟨v, (), rfl, rfl, by rw [ht]; exact hw.1, hw.2.1, by rw [ht]; exact hg⟩, hw.2.2.1.F ht⟩) hw.2.2.1.2.2 hdg
/-- an element of the script, read by a static method -/
def MX (l : Launch) (y : MethodName) (wsl : List Cond) (rm : Room) (bs L : Nat) (xs : Nat → Int32) (k r : Int32) : Prop :=
  ∀ sz : Nat, Met l y wsl rm (va_Pc [.ref bs, .int k] (fun U => U.heap.size = sz ∧ va_X bs L xs U U.heap ∧ bs < sz)) (va_Qi (fun (r' : Int32) (_ : Unit) => r' = r) (fun _ _ => True) (fun q => sz ≤ q)) 0 0 (fun q => sz ≤ q)
section BL
variable {p : Program} {l : Launch} {e : Env} {R : Room} {s : State} {m : MethodId} {args : Array Value} {below : List Frame} {meth : Method} {c : Code} {H : Heap} {locs : List Loc} {cells slots : Nat} {Q : State → Prop}
variable {cc : ByteArray} {nL pc : Nat} {ls : Array Slot} {rest : List Value} {Ts : List Cond} {own : String} {D : va_G} {A : Nat → Prop} {H0 : Heap} {w1 w2 w1' : va_W} {tyc : List (ClassId × FieldType)}
variable {y : MethodName} {bytes : ByteArray} {maxL n index mc ms k : Nat} {ret : Option FieldType} {wsl : List Cond} {rm : Room} {C : String} {b : Nat} {As : List Value} {st : List Value} {hh : List (Nat × Nat × Nat × Nat)}
theorem Wd.cov1 (hw : Wd D A H0 (w1 ++ w2) H locs) : ∀ q, va_A w1 H.size q → A q := fun q z => by
  rcases z with ⟨i, e, hi⟩ | z
  · exact (Dl hw.2.1).2 i _ hi
  · exact hw.2.2.2 q (Nat.le_trans hw.2.2.1.1 z)
theorem bm_vi (S : CallFix p m c cc nL s args Ts own) (hK : va_K D vwCl tyc s) (hw : Wd D A H0 (w1 ++ w2) H locs) {r : Int32} (hM : MI l y wsl rm D tyc (.ref b :: As) w1 r w1') (cw : CallW R s args own C index y bytes maxL ret wsl rm 0 0 n) {q0 ci : Nat} {T : u_T} {N : Nat} {fs : List Value} (he : w1[q0]? = some (b, .inr (ci, fs))) (hc : vwCl[ci]? = some (C, T, N)) (hn : As.length = n) (hl : ls.size = nL) (hst : st = As.reverse ++ .ref b :: rest) (hr : (rest.map fun v => v.category).sum ≤ 8) (hcl : cells ≤ R.cells) (hsl : slots ≤ R.slots) (hdg : decode cc pc = .ok (.invokevirtual index, 3))
    (kk : ∀ (H1 : Heap) (locs1 : List Loc), Wd D A H0 (w1' ++ w2) H1 locs1 → H.size ≤ H1.size → W p l e R s m args below meth c H1 locs1 cells slots Q (F0 m (pc + 3) ls (.int r :: rest))) : W p l e R s m args below meth c H locs cells slots Q (F0 m pc ls st) := by
  have hF := hw.cov1
  refine va_calli (va_runV (As := As) (rest := rest) S (hM H.size) cw ⟨MPre.blind, va_recv hK (Pl hw.1) hc he, fun U hU hW => ⟨rfl, by rw [hU], by rw [hU]; exact Pl hw.1, va_K.moved hW.alike hK, (Dl hw.2.1).weaken (fun _ _ _ _ => trivial)⟩⟩ rfl hn hl hst (lv_room hr) hdg ⟨hcl, hsl⟩) hw.2.2.1 (fun q _ h => hF q h) hF (fun r' u t H1 locs1 ht hvm hp hB hz1 hk1 hS => ?_)
  subst hp
  rw [ht] at hB
  exact kk H1 locs1 (hw.join1 hk1 hS hB.1 hB.2) hz1
/-- the second of two objects -/
theorem bm_wi (S : CallFix p m c cc nL s args Ts own) (hK : va_K D vwCl tyc s) (hw : Wd D A H0 (w2 ++ w1) H locs) {r : Int32} (hM : MI l y wsl rm D tyc (.ref b :: As) w1 r w1') (cw : CallW R s args own C index y bytes maxL ret wsl rm 0 0 n) {q0 ci : Nat} {T : u_T} {N : Nat} {fs : List Value} (he : w1[q0]? = some (b, .inr (ci, fs))) (hc : vwCl[ci]? = some (C, T, N)) (hn : As.length = n) (hl : ls.size = nL) (hst : st = As.reverse ++ .ref b :: rest) (hr : (rest.map fun v => v.category).sum ≤ 8) (hcl : cells ≤ R.cells) (hsl : slots ≤ R.slots) (hdg : decode cc pc = .ok (.invokevirtual index, 3))
    (kk : ∀ (H1 : Heap) (locs1 : List Loc), Wd D A H0 (w2 ++ w1') H1 locs1 → H.size ≤ H1.size → W p l e R s m args below meth c H1 locs1 cells slots Q (F0 m (pc + 3) ls (.int r :: rest))) : W p l e R s m args below meth c H locs cells slots Q (F0 m pc ls st) :=
  bm_vi S hK hw.swap hM cw he hc hn hl hst hr hcl hsl hdg (fun H1 locs1 h g => kk H1 locs1 h.swap g)
/-- a static method that catches: a cell more, the world as it was -/
theorem bm_sb (S : CallFix p m c cc nL s args Ts own) (hK : va_K D vwCl tyc s) (hZ : ZT A s s.heap) (hw : Wd D A s.heap (w1 ++ w2) H locs) {r : Int32} (hM : MB l y wsl rm D tyc As w1 r) (cw : vx_CSW R s args own index y bytes maxL ret hh wsl rm 1 6 n) (hn : As.length = n) (hl : ls.size = nL) (hst : st = As.reverse ++ rest) (hr : (rest.map fun v => v.category).sum ≤ 8) (hcl : cells + 1 ≤ R.cells) (hsl : slots + 6 ≤ R.slots) (hdg : decode cc pc = .ok (.invokestatic index, 3))
    (kk : ∀ (H1 : Heap) (locs1 : List Loc), Wd D A s.heap (w1 ++ w2) H1 locs1 → H.size < H1.size → W p l e R s m args below meth c H1 locs1 (cells + 1) (slots + 6) Q (F0 m (pc + 3) ls (.int r :: rest))) : W p l e R s m args below meth c H locs cells slots Q (F0 m pc ls st) := by
  have hF : ∀ q : Nat, H.size ≤ q → A q := fun q h => hw.2.2.2 q (Nat.le_trans hw.2.2.1.1 h)
  refine va_calli (vx_runSW (As := As) (rest := rest) S (hM H.size) cw ⟨MPreT.blind, fun U hU hW => ⟨rfl, ⟨by rw [hU], by rw [hU]; exact Pl hw.1, va_K.moved hW.alike hK, (Dl hw.2.1).weaken (fun _ _ _ _ => trivial)⟩, by rw [hU]; exact hZ.to hW hw.2.2.1.2.1 hF⟩⟩ rfl hn hl hst (lv_room hr) hdg ⟨hcl, hsl⟩) hw.2.2.1 (fun q _ h => hF q h) hF (fun r' u t H1 locs1 ht hvm hp hB hz1 hk1 hS => ?_)
  subst hp
  rw [ht] at hB
  exact kk H1 locs1 ⟨hw.1.kept (fun k q hq => hk1 q.1 (hw.1 k q hq).lt (Nat.not_le.mpr (hw.1 k q hq).lt)), hw.2.1, hS, hw.2.2.2⟩ hB
theorem bm_wb (S : CallFix p m c cc nL s args Ts own) (hK : va_K D vwCl tyc s) (hZ : ZT A s s.heap) (hw : Wd D A s.heap (w2 ++ w1) H locs) {r : Int32} (hM : MB l y wsl rm D tyc As w1 r) (cw : vx_CSW R s args own index y bytes maxL ret hh wsl rm 1 6 n) (hn : As.length = n) (hl : ls.size = nL) (hst : st = As.reverse ++ rest) (hr : (rest.map fun v => v.category).sum ≤ 8) (hcl : cells + 1 ≤ R.cells) (hsl : slots + 6 ≤ R.slots) (hdg : decode cc pc = .ok (.invokestatic index, 3))
    (kk : ∀ (H1 : Heap) (locs1 : List Loc), Wd D A s.heap (w2 ++ w1) H1 locs1 → H.size < H1.size → W p l e R s m args below meth c H1 locs1 (cells + 1) (slots + 6) Q (F0 m (pc + 3) ls (.int r :: rest))) : W p l e R s m args below meth c H locs cells slots Q (F0 m pc ls st) :=
  bm_sb S hK hZ hw.swap hM cw hn hl hst hr hcl hsl hdg (fun H1 locs1 h g => kk H1 locs1 h.swap g)
/-- a static method of MR's kind -/
theorem bm_sr (S : CallFix p m c cc nL s args Ts own) (hK : va_K D vwCl tyc s) (hZ : ZT A s s.heap) (hw : Wd D A s.heap (w1 ++ w2) H locs) {r : Int32} (hM : MR l y wsl rm D tyc As w1 r mc ms k) (cw : CallB R s args own index y bytes maxL ret wsl rm mc ms n ∧ (Cond.static y).before args s = true) (hn : As.length = n) (hl : ls.size = nL) (hst : st = As.reverse ++ rest) (hr : (rest.map fun v => v.category).sum ≤ 8) (hcl : cells + mc ≤ R.cells) (hsl : slots + ms ≤ R.slots) (hdg : decode cc pc = .ok (.invokestatic index, 3))
    (kk : ∀ (H1 : Heap) (locs1 : List Loc), Wd D A s.heap (w1 ++ w2) H1 locs1 → H.size + k ≤ H1.size → W p l e R s m args below meth c H1 locs1 (cells + mc) (slots + ms) Q (F0 m (pc + 3) ls (.int r :: rest))) : W p l e R s m args below meth c H locs cells slots Q (F0 m pc ls st) := by
  have hF := hw.cov1
  refine va_calli (va_runS (As := As) (rest := rest) S (hM H.size) cw ⟨MPreZ.blind, fun U hU hW => ⟨rfl, ⟨by rw [hU], by rw [hU]; exact Pl hw.1, va_K.moved hW.alike hK, (Dl hw.2.1).weaken (fun _ _ _ _ => trivial)⟩, by rw [hU]; exact hZ.to hW hw.2.2.1.2.1 hF⟩⟩ rfl hn hl hst (lv_room hr) hdg ⟨hcl, hsl⟩) hw.2.2.1 (fun q _ h => hF q h) hF (fun r' u t H1 locs1 ht hvm hp hB hz1 hk1 hS => ?_)
  subst hp
  rw [ht] at hB
  exact kk H1 locs1 (hw.join1 hk1 hS hB.1 hB.2.1) hB.2.2
/-- a static method of ints alone -/
theorem bm_si (S : CallFix p m c cc nL s args Ts own) (hK : va_K D vwCl tyc s) {ws : va_W} (hw : Wd D A H0 ws H locs) {r : Int32} (hM : MI l y wsl rm D tyc As [] r []) (cw : CallB R s args own index y bytes maxL ret wsl rm 0 0 n ∧ (Cond.static y).before args s = true) (hn : As.length = n) (hl : ls.size = nL) (hst : st = As.reverse ++ rest) (hr : (rest.map fun v => v.category).sum ≤ 8) (hcl : cells ≤ R.cells) (hsl : slots ≤ R.slots) (hdg : decode cc pc = .ok (.invokestatic index, 3))
    (kk : ∀ (H1 : Heap) (locs1 : List Loc), Wd D A H0 ws H1 locs1 → H.size ≤ H1.size → W p l e R s m args below meth c H1 locs1 cells slots Q (F0 m (pc + 3) ls (.int r :: rest))) : W p l e R s m args below meth c H locs cells slots Q (F0 m pc ls st) := by
  have hF : ∀ q, va_A [] H.size q → A q := fun q h => hw.2.2.2 q (Nat.le_trans hw.2.2.1.1 (va_A.nil h))
  refine va_calli (va_runS (As := As) (rest := rest) S (hM H.size) cw ⟨MPre.blind, fun U hU hW => ⟨rfl, by rw [hU], (fun k q h => by simp at h), va_K.moved hW.alike hK, ⟨fun i j p q h => by simp at h, fun k q h => by simp at h⟩⟩⟩ rfl hn hl hst (lv_room hr) hdg ⟨hcl, hsl⟩) hw.2.2.1 (fun q _ h => hF q h) hF (fun r' u t H1 locs1 ht hvm hp hB hz1 hk1 hS => ?_)
  subst hp
  exact kk H1 locs1 ⟨hw.1.kept (fun k q hq => hk1 q.1 (hw.1 k q hq).lt (fun h => absurd (va_A.nil h) (Nat.not_le.mpr (hw.1 k q hq).lt))), hw.2.1, hS, hw.2.2.2⟩ hz1
/-- the script's element -/
theorem bm_sx {bs L : Nat} {xs : Nat → Int32} {kx r : Int32} (S : CallFix p m c cc nL s args Ts own) (hX : va_X bs L xs s s.heap) (hbl : bs < s.heap.size) (hbA : ¬ A bs) {ws : va_W} (hw : Wd D A s.heap ws H locs) (hM : MX l y wsl rm bs L xs kx r) (cw : CallB R s args own index y bytes maxL ret wsl rm 0 0 n ∧ (Cond.static y).before args s = true) (hn : 2 = n) (hl : ls.size = nL) (hst : st = .int kx :: .ref bs :: rest) (hr : (rest.map fun v => v.category).sum ≤ 8) (hcl : cells ≤ R.cells) (hsl : slots ≤ R.slots) (hdg : decode cc pc = .ok (.invokestatic index, 3))
    (kk : ∀ (H1 : Heap) (locs1 : List Loc), Wd D A s.heap ws H1 locs1 → H.size ≤ H1.size → W p l e R s m args below meth c H1 locs1 cells slots Q (F0 m (pc + 3) ls (.int r :: rest))) : W p l e R s m args below meth c H locs cells slots Q (F0 m pc ls st) := by
  have hF : ∀ q : Nat, H.size ≤ q → A q := fun q h => hw.2.2.2 q (Nat.le_trans hw.2.2.1.1 h)
  refine va_calli (va_runS (As := [.ref bs, .int kx]) (rest := rest) S (hM H.size) cw ⟨fun a U g mk q => ⟨q.1, q.2.1, va_X.moved (u := U) (U := U.calling g mk a) (Vm.Alike.refl U.vm) q.2.2.1, q.2.2.2⟩, fun U hU hW => ⟨rfl, by rw [hU], by rw [hU]; exact (va_X.moved hW.alike hX).kept (hw.2.2.1.2.1 bs hbl hbA), Nat.lt_of_lt_of_le hbl hw.2.2.1.1⟩⟩ rfl hn hl hst (lv_room hr) hdg ⟨hcl, hsl⟩) hw.2.2.1 (fun q _ h => hF q h) hF (fun r' u t H1 locs1 ht hvm hp hB hz1 hk1 hS => ?_)
  subst hp
  exact kk H1 locs1 ⟨hw.1.kept (fun k q hq => hk1 q.1 (hw.1 k q hq).lt (Nat.not_le.mpr (hw.1 k q hq).lt)), hw.2.1, hS, hw.2.2.2⟩ hz1
/-- a virtual call that throws, seen by a method with a table -/
theorem bl_vx {E : String} (S : CallFix p m c cc nL s args Ts own) (hK : va_K D vwCl tyc s) (hZ : ZT (fun q => s.heap.size ≤ q) s s.heap) (hw : Wt D (fun q => s.heap.size ≤ q) s.heap w1 H locs) (hD : va_D (fun _ => True) w1) (hM : MT l y wsl rm D tyc (.ref b :: As) w1 E) (cw : CallW R s args own C index y bytes maxL ret wsl rm 1 6 n) {q0 ci : Nat} {T : u_T} {N : Nat} {fs : List Value} (he : w1[q0]? = some (b, .inr (ci, fs))) (hc : vwCl[ci]? = some (C, T, N)) (hn : As.length = n) (hl : ls.size = nL) (hst : st = As.reverse ++ .ref b :: rest) (hr : (rest.map fun v => v.category).sum ≤ 8) (hcl : cells + 1 ≤ R.cells) (hsl : slots + 6 ≤ R.slots) (hdg : decode cc pc = .ok (.invokevirtual index, 3))
    (kx : ∀ (ce : Cell) (q9 : Addr) (H1 : Heap) (locs1 : List Loc), H.size < H1.size → va_S (fun q => s.heap.size ≤ q) s.heap H1 locs1 → H1[q9]? = some ce → ce.vm = .none → s.vm.findClass E = some ce.cls → vx_W p l e R s m args below meth c H1 locs1 (cells + 1) (slots + 6) Q (F0 m pc ls rest) q9) : W p l e R s m args below meth c H locs cells slots Q (F0 m pc ls st) := by
  have hF : ∀ q : Nat, H.size ≤ q → s.heap.size ≤ q := fun q h => Nat.le_trans hw.2.1.1 h
  refine bt_run (rest := rest) (vx_runV (As := As) (rest := rest) S (hM H.size) cw ⟨MPreT.blind, va_recv hK hw.1 hc he, fun U hU hW => ⟨rfl, ⟨by rw [hU], by rw [hU]; exact hw.1, va_K.moved hW.alike hK, hD⟩, by rw [hU]; exact hZ.to hW hw.2.1.2.1 hF⟩⟩ rfl hn hl hst (lv_room hr) hdg ⟨hcl, hsl⟩) hw.2.1 hF (fun q _ h => hF q h) (fun ce q9 H1 locs1 hz1 hk1 hS hce hcv hcf => kx ce q9 H1 locs1 hz1 hS hce hcv hcf)
end BL
end
section
/-! ===== the law's small methods: low, cell, and the two wrappers that catch ===== -/
def lowF (v n : Int32) : Int32 := (v &&& 2147483647) - (v &&& 2147483647) / n * n
set_option maxHeartbeats 4000000 in
set_option maxRecDepth 100000 in
theorem kL_low (l : Launch) (D : va_G) (tys : List (ClassId × FieldType)) (v n : Int32) (hn : ¬ n = 0) : MI l yL_low wsL_low ({ frames := 0, cells := 0, slots := 0, locals := 0 } : Room) D tys [.int v, .int n] [] (lowF v n) [] := by
  refine MI.of (cc := cL_low) (maxL := 2) (ty := .int) (by decide) rfl rfl ⟨rfl, rfl⟩ (Nat.le_of_ble_eq_true rfl) ?_
  intro p e s m args below meth c A Q S hK hret ls hl hw
  replace hl : lv_has ls 2 [(0, .int v), (1, .int n)] := hl
  replace S : CallFix p m c cL_low 2 s args wsL_low RL := S
  refine lv_iload_n S.1 S.2.1 dL_low_0 rfl (lv_at hl 0 rfl) ?_
  refine lv_ldc S.1 S.2.1 S.2.2.2.1 (S.2.2.2.2 (.constant RL 7 2147483647) (by decide +kernel)) dL_low_1 ?_
  refine lv_iand S.1 S.2.1 dL_low_3 ?_
  refine lv_iload_n S.1 S.2.1 dL_low_4 rfl (lv_at hl 1 rfl) ?_
  refine lv_irem S.1 S.2.1 dL_low_5 hn ?_
  exact hret hw dL_low_6 rfl rfl
set_option maxHeartbeats 4000000 in
set_option maxRecDepth 100000 in
theorem kL_cell (l : Launch) {bs L : Nat} {xs : Nat → Int32} {i : Nat} (hi : i < L) (hL : L < 100) : MX l yL_cell wsL_cell ({ frames := 0, cells := 0, slots := 0, locals := 0 } : Room) bs L xs (nI i) (xs i) := by
  intro sz
  refine Met.ofW (cc := cL_cell) (maxL := 2) (ret := some .int) (by decide) rfl ?_
  intro p e s m args below meth c s₁ B hml hv
  obtain ⟨rfl, hsz, hX, hb⟩ := hv
  subst hsz
  have hlocks := B.notSynchronized
  have hroom : (headSpec wsL_cell ({ frames := 0, cells := 0, slots := 0, locals := 0 } : Room)).room = ({ frames := 0, cells := 0, slots := 0, locals := 0 } : Room) := rfl
  rw [hroom, lg_entry_eq]
  have hl := lv_entry ([.ref bs, .int (nI i)]) (n := 2) (Nat.le_of_ble_eq_true rfl)
  generalize (lg_sl ([.ref bs, .int (nI i)]) ++ List.replicate (2 - (lg_sl ([.ref bs, .int (nI i)])).length) Slot.unset).toArray = ls at hl ⊢
  replace hl : lv_has ls 2 [(0, .ref bs), (1, .int (nI i))] := hl
  have hS : va_S (fun q => s.heap.size ≤ q) s.heap s.heap [] := va_S.rf
  have hbA : ¬ (fun q => s.heap.size ≤ q) bs := Nat.not_le.mpr hb
  refine lv_iload_n B.exec B.bytes dL_cell_0 rfl (lv_at hl 1 rfl) ?_
  refine lv_aload_n B.exec B.bytes dL_cell_1 rfl (lv_at hl 0 rfl) ?_
  refine va_slen B.exec B.bytes hX hb hbA hS dL_cell_2 ?_
  refine lv_icmp_ge (tgt := 12) B.exec B.bytes dL_cell_3 (by decide) (fun c3 => ?_) (fun c3 => ?_)
  · exact absurd (lt_nI hi hL) (Int32.not_lt.mpr c3)
  · refine lv_aload_n B.exec B.bytes dL_cell_6 rfl (lv_at hl 0 rfl) ?_
    refine lv_iload_n B.exec B.bytes dL_cell_7 rfl (lv_at hl 1 rfl) ?_
    refine va_sld B.exec B.bytes hX hb hbA hS (vp_in_nI hi (by omega)) dL_cell_8 ?_
    rw [nI_clamp (by omega)]
    refine lv_goto (tgt := 27) B.exec B.bytes dL_cell_9 (by decide) ?_
    exact W.zret (v := xs i) (ty := .int) B.exec B.bytes B.returns rfl (fun t ht hW => ⟨⟨xs i, (), rfl, rfl, trivial⟩, hS.F ht⟩) hS.2.2 dL_cell_27
set_option maxHeartbeats 4000000 in
set_option maxRecDepth 100000 in
theorem kL_timer_IS (l : Launch) (D : va_G) (cZ cI : ClassId) (a : Nat → Nat) (σ : sC) (x y : Int32) (hM : MT l yX0_timer wsX0_timer ({ frames := 7, cells := 1, slots := 6, locals := 110 } : Room) D (tyZ cZ cI) [.ref (a 0), .int x, .int y] (wX cZ cI a σ) eIS) : MB l yL_timer wsL_timer ({ frames := 8, cells := 1, slots := 6, locals := 140 } : Room) D (tyZ cZ cI) [.ref (a 0), .int x, .int y] (wX cZ cI a σ) (-1) := by
  refine MB.of (cc := cL_timer) (maxL := 4) (hh := [(0, 6, 7, 14), (0, 6, 11, 39)]) (by decide) rfl (Nat.le_of_ble_eq_true rfl) ?_
  intro p e s m args below meth c Q S hK hZ hD ht hret ls hl hw
  replace hl : lv_has ls 4 [(0, .ref (a 0)), (1, .int x), (2, .int y)] := hl
  replace S : CallFix p m c cL_timer 4 s args wsL_timer RL := S
  refine lv_aload_n S.1 S.2.1 dL_timer_0 rfl (lv_at hl 0 rfl) ?_
  refine lv_iload_n S.1 S.2.1 dL_timer_1 rfl (lv_at hl 1 rfl) ?_
  refine lv_iload_n S.1 S.2.1 dL_timer_2 rfl (lv_at hl 2 rfl) ?_
  refine bl_vx (As := [.int x, .int y]) (rest := []) S hK hZ hw hD hM (cwV 2 S.2.2.2.2 gL_timer_X0_timer rfl rfl rfl (by decide +kernel) ⟨Nat.le_of_ble_eq_true rfl, Nat.le_of_ble_eq_true rfl⟩) (q0 := 0) rfl rfl rfl hl.1 rfl (Nat.le_of_ble_eq_true rfl) (by decide) (by decide) dL_timer_3 (fun ce q9 H locs hg hS hce hcv hcf => ?_)
  refine vx_catch (own := RL) (name := eIS) S.2.2.2.1 [⟨0, 6, 7, 14⟩] ⟨0, 6, 11, 39⟩ [] ht (fun z hz => by obtain rfl := List.mem_singleton.mp hz; exact Or.inr ⟨by decide, eIA, S.2.2.2.2 (.classLink RL 14 eIA) (by decide +kernel), hZ.2.2.2.2⟩) (by decide) (by decide) (S.2.2.2.2 (.classLink RL 39 eIS) (by decide +kernel)) (va_Nw.use rfl (hZ.2.2.2.1 (.castable eIS eIS) (by decide +kernel))) hce hcv hcf ?_
  refine W.eq (g2 := F0 m 11 ls [.ref q9]) rfl ?_
  refine lv_astore_n (lv' := [(3, .ref q9), (0, .ref (a 0)), (1, .int x), (2, .int y)]) S.1 S.2.1 dL_timer_11 rfl hl (by decide) rfl (fun ls hl => ?_)
  refine lv_iconst (v := -1) S.1 S.2.1 dL_timer_12 (by decide) ?_
  exact hret hS hg dL_timer_13 rfl
set_option maxHeartbeats 4000000 in
set_option maxRecDepth 100000 in
theorem kL_die_IA (l : Launch) (D : va_G) (cZ cI : ClassId) (a : Nat → Nat) (σ : sC) (x : Int32) (hM : MT l yX0_die wsX0_die ({ frames := 7, cells := 1, slots := 6, locals := 110 } : Room) D (tyZ cZ cI) [.ref (a 0), .int x] (wX cZ cI a σ) eIA) : MB l yL_die wsL_die ({ frames := 8, cells := 1, slots := 6, locals := 140 } : Room) D (tyZ cZ cI) [.ref (a 0), .int x] (wX cZ cI a σ) (-99999) := by
  refine MB.of (cc := cL_die) (maxL := 3) (hh := [(0, 5, 6, 14), (0, 5, 10, 39)]) (by decide) rfl (Nat.le_of_ble_eq_true rfl) ?_
  intro p e s m args below meth c Q S hK hZ hD ht hret ls hl hw
  replace hl : lv_has ls 3 [(0, .ref (a 0)), (1, .int x)] := hl
  replace S : CallFix p m c cL_die 3 s args wsL_die RL := S
  refine lv_aload_n S.1 S.2.1 dL_die_0 rfl (lv_at hl 0 rfl) ?_
  refine lv_iload_n S.1 S.2.1 dL_die_1 rfl (lv_at hl 1 rfl) ?_
  refine bl_vx (As := [.int x]) (rest := []) S hK hZ hw hD hM (cwV 1 S.2.2.2.2 gL_die_X0_die rfl rfl rfl (by decide +kernel) ⟨Nat.le_of_ble_eq_true rfl, Nat.le_of_ble_eq_true rfl⟩) (q0 := 0) rfl rfl rfl hl.1 rfl (Nat.le_of_ble_eq_true rfl) (by decide) (by decide) dL_die_2 (fun ce q9 H locs hg hS hce hcv hcf => ?_)
  refine vx_catch (own := RL) (name := eIA) S.2.2.2.1 [] ⟨0, 5, 6, 14⟩ [⟨0, 5, 10, 39⟩] ht (fun z hz => nomatch hz) (by decide) (by decide) (S.2.2.2.2 (.classLink RL 14 eIA) (by decide +kernel)) (va_Nw.use rfl (hZ.2.2.2.1 (.castable eIA eIA) (by decide +kernel))) hce hcv hcf ?_
  refine W.eq (g2 := F0 m 6 ls [.ref q9]) rfl ?_
  refine lv_astore_n (lv' := [(2, .ref q9), (0, .ref (a 0)), (1, .int x)]) S.1 S.2.1 dL_die_6 rfl hl (by decide) rfl (fun ls hl => ?_)
  refine lv_ldc S.1 S.2.1 S.2.2.2.1 (S.2.2.2.2 (.constant RL 16 (-99999)) (by decide +kernel)) dL_die_7 ?_
  exact hret hS hg dL_die_9 rfl
end
section
/-! ===== act at 9 (a refused die), areAlike and isGroupSo of new objects: what they answer, how many cells they make ===== -/
theorem s0_0 (k : Nat) (hk : 6 ≤ k) (j : Nat) : s0 k j = 0 := by
  unfold s0
  rw [if_neg (by omega), if_neg (by omega), if_neg (by omega), if_neg (by omega), if_neg (by omega)]
theorem it_s4 {α : Type} (f : Nat → α → α) (x : α) : itF f x 4 = f 3 (f 2 (f 1 (f 0 x))) := rfl
theorem mem_s0 (role : Int32) (g : Nat) (h : ¬ (0 : Int32) = role) : memW s0 role g = 0 := by
  unfold memW
  rw [it_s4]
  unfold memS
  rw [s0_0 10 (by decide), s0_0 10 (by decide), s0_0 10 (by decide), s0_0 10 (by decide), if_neg h, if_neg h, if_neg h, if_neg h]
theorem setl_s0 (g : Nat) : setlF s0 g = 1 := by
  unfold setlF
  rw [mem_s0 2 g (by decide), mem_s0 1 g (by decide)]
  rfl
theorem prio_s0 (r g : Nat) : prioF s0 r g = 0 := by
  unfold prioF
  rw [if_pos (s0_0 10 (by decide) _)]
set_option maxHeartbeats 4000000 in
set_option maxRecDepth 100000 in
theorem kL_act9 (l : Launch) (hfl : l.stackTraces = false) (D : va_G) (cZ cI : ClassId) (a : Nat → Nat) : MR l yL_act wsL_act ({ frames := 9, cells := 1, slots := 6, locals := 163 } : Room) D (tyZ cZ cI) [.ref (a 0), .int 9] (wX cZ cI a s0) (-99999) 1 6 0 := by
  refine MR.of (cc := cL_act) (maxL := 5) (ty := .int) (by decide) rfl rfl (Nat.le_of_ble_eq_true rfl) ?_
  intro p e s m args below meth c A Q S hK hZ hret ls hl hw
  replace hl : lv_has ls 5 [(0, .ref (a 0)), (1, .int 9)] := hl
  replace S : CallFix p m c cL_act 5 s args wsL_act RL := S
  refine lv_iload_n S.1 S.2.1 dL_act_0 rfl (lv_at hl 1 rfl) ?_
  refine lv_bipush (v := 24) S.1 S.2.1 dL_act_1 (by decide) ?_
  refine lv_ishr S.1 S.2.1 dL_act_3 ?_
  refine bx_top (y := 0) (by decide +kernel) ?_
  refine lv_bipush (v := 9) S.1 S.2.1 dL_act_4 (by decide) ?_
  refine bm_si (As := [.int 0, .int 9]) (rest := []) S hK hw (kL_low l D _ 0 9 (by decide)) (va_cwS 2 S.2.2.2.2 gL_act_L_low rfl rfl rfl (by decide +kernel) ⟨Nat.le_of_ble_eq_true rfl, Nat.le_of_ble_eq_true rfl⟩) rfl hl.1 rfl (Nat.le_of_ble_eq_true rfl) (Nat.zero_le _) (Nat.zero_le _) dL_act_6 (fun H locs hw hg1 => ?_)
  refine bx_top (y := 0) (by decide +kernel) ?_
  refine bz_ne (tgt := 16) S dL_act_9 (by decide) (fun c9 => ?_) (fun c9 => ?_)
  · exact absurd c9 (by decide)
  refine lv_iconst (v := 1) S.1 S.2.1 dL_act_12 (by decide) ?_
  refine lv_goto (tgt := 17) S.1 S.2.1 dL_act_13 (by decide) ?_
  refine lv_istore_n (lv' := [(2, .int 1), (0, .ref (a 0)), (1, .int 9)]) S.1 S.2.1 dL_act_17 rfl hl (by decide) rfl (fun ls hl => ?_)
  refine lv_iload_n S.1 S.2.1 dL_act_18 rfl (lv_at hl 0 rfl) ?_
  refine bz_eq (tgt := 35) S dL_act_19 (by decide) (fun c19 => ?_) (fun c19 => ?_)
  · exact absurd c19 (by decide)
  refine lv_iload_n S.1 S.2.1 dL_act_22 rfl (lv_at hl 2 rfl) ?_
  refine lv_iconst (v := 4) S.1 S.2.1 dL_act_23 (by decide) ?_
  refine lv_ishr S.1 S.2.1 dL_act_24 ?_
  refine bx_top (y := 0) (by decide +kernel) ?_
  refine lv_bipush (v := 6) S.1 S.2.1 dL_act_25 (by decide) ?_
  refine bm_si (As := [.int 0, .int 6]) (rest := []) S hK hw (kL_low l D _ 0 6 (by decide)) (va_cwS 2 S.2.2.2.2 gL_act_L_low rfl rfl rfl (by decide +kernel) ⟨Nat.le_of_ble_eq_true rfl, Nat.le_of_ble_eq_true rfl⟩) rfl hl.1 rfl (Nat.le_of_ble_eq_true rfl) (Nat.zero_le _) (Nat.zero_le _) dL_act_27 (fun H locs hw hg1 => ?_)
  refine bx_top (y := 0) (by decide +kernel) ?_
  refine lv_iconst (v := 1) S.1 S.2.1 dL_act_30 (by decide) ?_
  refine lv_isub S.1 S.2.1 dL_act_31 ?_
  refine bx_top (y := -1) (by decide +kernel) ?_
  refine lv_goto (tgt := 42) S.1 S.2.1 dL_act_32 (by decide) ?_
  refine lv_istore_n (lv' := [(3, .int (-1)), (2, .int 1), (0, .ref (a 0)), (1, .int 9)]) S.1 S.2.1 dL_act_42 rfl hl (by decide) rfl (fun ls hl => ?_)
  refine lv_iload_n S.1 S.2.1 dL_act_43 rfl (lv_at hl 1 rfl) ?_
  refine bz_eq (tgt := 60) S dL_act_44 (by decide) (fun c44 => ?_) (fun c44 => ?_)
  · exact absurd c44 (by decide)
  refine lv_iload_n S.1 S.2.1 dL_act_47 rfl (lv_at hl 3 rfl) ?_
  refine lv_bipush (v := 7) S.1 S.2.1 dL_act_48 (by decide) ?_
  refine lv_ishr S.1 S.2.1 dL_act_50 ?_
  refine bx_top (y := 0) (by decide +kernel) ?_
  refine lv_iconst (v := 5) S.1 S.2.1 dL_act_51 (by decide) ?_
  refine bm_si (As := [.int 0, .int 5]) (rest := []) S hK hw (kL_low l D _ 0 5 (by decide)) (va_cwS 2 S.2.2.2.2 gL_act_L_low rfl rfl rfl (by decide +kernel) ⟨Nat.le_of_ble_eq_true rfl, Nat.le_of_ble_eq_true rfl⟩) rfl hl.1 rfl (Nat.le_of_ble_eq_true rfl) (Nat.zero_le _) (Nat.zero_le _) dL_act_52 (fun H locs hw hg1 => ?_)
  refine bx_top (y := 0) (by decide +kernel) ?_
  refine lv_iconst (v := 1) S.1 S.2.1 dL_act_55 (by decide) ?_
  refine lv_isub S.1 S.2.1 dL_act_56 ?_
  refine bx_top (y := -1) (by decide +kernel) ?_
  refine lv_goto (tgt := 68) S.1 S.2.1 dL_act_57 (by decide) ?_
  refine lv_istore (lv' := [(4, .int (-1)), (3, .int (-1)), (2, .int 1), (0, .ref (a 0)), (1, .int 9)]) S.1 S.2.1 dL_act_68 hl (by decide) rfl (fun ls hl => ?_)
  refine lv_iload_n S.1 S.2.1 dL_act_70 rfl (lv_at hl 4 rfl) ?_
  refine lv_bipush (v := 18) S.1 S.2.1 dL_act_71 (by decide) ?_
  refine bm_si (As := [.int 9, .int 18]) (rest := []) S hK hw (kL_low l D _ 9 18 (by decide)) (va_cwS 2 S.2.2.2.2 gL_act_L_low rfl rfl rfl (by decide +kernel) ⟨Nat.le_of_ble_eq_true rfl, Nat.le_of_ble_eq_true rfl⟩) rfl hl.1 rfl (Nat.le_of_ble_eq_true rfl) (Nat.zero_le _) (Nat.zero_le _) dL_act_73 (fun H locs hw hg1 => ?_)
  refine bx_top (y := 9) (by decide +kernel) ?_
  refine lv_tableIn (tgt := 401) (off := 325) S.1 S.2.1 dL_act_76 (by decide +kernel) (by decide +kernel) (by decide +kernel) (by decide) ?_
  refine lv_aload_n S.1 S.2.1 dL_act_401 rfl (lv_at hl 3 rfl) ?_
  refine lv_iload_n S.1 S.2.1 dL_act_402 rfl (lv_at hl 1 rfl) ?_
  refine bm_sb (w2 := []) (As := [.ref (a 0), .int (-1)]) (rest := []) S hK hZ hw.nil (kL_die_IA l D cZ cI a s0 (-1) (tX0_die_1 l hfl D cZ cI a s0 (-1) (by decide +kernel))) (vx_cwSW 2 S.2.2.2.2 gL_act_L_die rfl rfl rfl (by decide +kernel) ⟨Nat.le_of_ble_eq_true rfl, Nat.le_of_ble_eq_true rfl⟩) rfl hl.1 rfl (Nat.le_of_ble_eq_true rfl) (by decide) (by decide) dL_act_403 (fun H locs hw hg1 => ?_)
  exact hret hw.unnil hw.2.2.1.1 dL_act_406 rfl
set_option maxHeartbeats 4000000 in
set_option maxRecDepth 100000 in
theorem kL_areAlike (l : Launch) (hfl : l.stackTraces = false) (D : va_G) (cZ cI : ClassId) (a b : Nat → Nat) (σ : sC) (hro : ∀ r g : Nat, r < 4 → g < 3 → σ 10 (4 * g + r) = 0) : MR l yL_areAlike wsL_areAlike ({ frames := 9, cells := 24, slots := 144, locals := 163 } : Room) D (tyZ cZ cI) [.ref (a 0), .ref (b 0)] (wX cZ cI a σ ++ wX cZ cI b σ) 1 24 144 24 := by
  refine MR.of (cc := cL_areAlike) (maxL := 5) (ty := .boolean) (by decide) rfl rfl (Nat.le_of_ble_eq_true rfl) ?_
  intro p e s m args below meth c A Q S hK hZ hret ls hl hw
  replace hl : lv_has ls 5 [(0, .ref (a 0)), (1, .ref (b 0))] := hl
  replace S : CallFix p m c cL_areAlike 5 s args wsL_areAlike RL := S
  have hg : s.heap.size + 0 ≤ s.heap.size := Nat.le_refl _
  refine lv_aload_n S.1 S.2.1 dL_areAlike_0 rfl (lv_at hl 0 rfl) ?_
  refine bm_vi (As := []) (rest := []) S hK hw (kX0_repairs l D cZ cI a σ) (cwV 0 S.2.2.2.2 gL_areAlike_X0_repairs rfl rfl rfl (by decide +kernel) ⟨Nat.le_of_ble_eq_true rfl, Nat.le_of_ble_eq_true rfl⟩) (q0 := 0) rfl rfl rfl hl.1 rfl (Nat.le_of_ble_eq_true rfl) (Nat.zero_le _) (Nat.zero_le _) dL_areAlike_1 (fun H locs hw hg1 => ?_)
  replace hg := Nat.le_trans hg hg1
  refine lv_aload_n S.1 S.2.1 dL_areAlike_4 rfl (lv_at hl 1 rfl) ?_
  refine bm_wi (As := []) (rest := [.int (σ 16 0)]) S hK hw (kX0_repairs l D cZ cI b σ) (cwV 0 S.2.2.2.2 gL_areAlike_X0_repairs rfl rfl rfl (by decide +kernel) ⟨Nat.le_of_ble_eq_true rfl, Nat.le_of_ble_eq_true rfl⟩) (q0 := 0) rfl rfl rfl hl.1 rfl (Nat.le_of_ble_eq_true rfl) (Nat.zero_le _) (Nat.zero_le _) dL_areAlike_5 (fun H locs hw hg1 => ?_)
  replace hg := Nat.le_trans hg hg1
  refine br_ne (tgt := 15) S dL_areAlike_8 (by decide) (fun c8 => ?_) (fun c8 => ?_)
  · exact absurd c8 (not_not_intro rfl)
  refine lv_iconst (v := 1) S.1 S.2.1 dL_areAlike_11 (by decide) ?_
  refine lv_goto (tgt := 16) S.1 S.2.1 dL_areAlike_12 (by decide) ?_
  refine lv_istore_n (lv' := [(2, .int 1), (0, .ref (a 0)), (1, .ref (b 0))]) S.1 S.2.1 dL_areAlike_16 rfl hl (by decide) rfl (fun ls hl => ?_)
  refine lv_iconst (v := nI 0) S.1 S.2.1 dL_areAlike_17 (by decide) ?_
  refine lv_istore_n (lv' := [(3, .int (nI 0)), (2, .int 1), (0, .ref (a 0)), (1, .ref (b 0))]) S.1 S.2.1 dL_areAlike_18 rfl hl (by decide) rfl (fun ls hl => ?_)
  have L19 : ∀ (n g : Nat), g + n = 3 → ∀ (H : Heap) (locs : List Loc), Wd D A s.heap (wX cZ cI a σ ++ wX cZ cI b σ) H locs → s.heap.size + 8 * g ≤ H.size → ∀ ls : Array Slot, lv_has ls 5 [(0, .ref (a 0)), (1, .ref (b 0)), (2, .int 1), (3, .int (nI g))] → W p l e ({ frames := 9, cells := 24, slots := 144, locals := 163 } : Room) s m args below meth c H locs (8 * g) (48 * g) Q (F0 m 19 ls []) := by
    intro n
    induction n with
    | zero =>
      intro g hi H locs hw hg ls hl
      obtain rfl : g = 3 := by omega
      refine lv_iload_n S.1 S.2.1 dL_areAlike_19 rfl (lv_at hl 3 rfl) ?_
      refine lv_iconst (v := nI 3) S.1 S.2.1 dL_areAlike_20 (by decide) ?_
      refine br_ge (tgt := 172) S dL_areAlike_21 (by decide) (fun c21 => ?_) (fun c21 => ?_)
      rotate_left
      · exact absurd c21 (nlt_nI (by decide))
      refine lv_iload_n S.1 S.2.1 dL_areAlike_172 rfl (lv_at hl 2 rfl) ?_
      exact hret hw hg dL_areAlike_173 rfl
    | succ n ih19 =>
      intro g hi H locs hw hg ls hl
      have hg3 : g < 3 := by omega
      refine lv_iload_n S.1 S.2.1 dL_areAlike_19 rfl (lv_at hl 3 rfl) ?_
      refine lv_iconst (v := nI 3) S.1 S.2.1 dL_areAlike_20 (by decide) ?_
      refine br_ge (tgt := 172) S dL_areAlike_21 (by decide) (fun c21 => ?_) (fun c21 => ?_)
      · exact absurd c21 (not_not_intro (lt_nI hg3 (by decide)))
      refine lv_iload_n S.1 S.2.1 dL_areAlike_24 rfl (lv_at hl 2 rfl) ?_
      refine bz_eq (tgt := 71) S dL_areAlike_25 (by decide) (fun c25 => ?_) (fun c25 => ?_)
      · exact absurd c25 (by decide)
      refine lv_aload_n S.1 S.2.1 dL_areAlike_28 rfl (lv_at hl 0 rfl) ?_
      refine lv_iload_n S.1 S.2.1 dL_areAlike_29 rfl (lv_at hl 3 rfl) ?_
      refine bm_vi (As := [.int (nI g)]) (rest := []) S hK hw (kX0_masters l D cZ cI a σ (g := g) hg3) (cwV 1 S.2.2.2.2 gL_areAlike_X0_masters rfl rfl rfl (by decide +kernel) ⟨Nat.le_of_ble_eq_true rfl, Nat.le_of_ble_eq_true rfl⟩) (q0 := 0) rfl rfl rfl hl.1 rfl (Nat.le_of_ble_eq_true rfl) (by show _ ≤ 24; omega) (by show _ ≤ 144; omega) dL_areAlike_30 (fun H locs hw hg1 => ?_)
      replace hg := Nat.le_trans hg hg1
      refine lv_aload_n S.1 S.2.1 dL_areAlike_33 rfl (lv_at hl 1 rfl) ?_
      refine lv_iload_n S.1 S.2.1 dL_areAlike_34 rfl (lv_at hl 3 rfl) ?_
      refine bm_wi (As := [.int (nI g)]) (rest := [.int (memW σ 2 g)]) S hK hw (kX0_masters l D cZ cI b σ (g := g) hg3) (cwV 1 S.2.2.2.2 gL_areAlike_X0_masters rfl rfl rfl (by decide +kernel) ⟨Nat.le_of_ble_eq_true rfl, Nat.le_of_ble_eq_true rfl⟩) (q0 := 0) rfl rfl rfl hl.1 rfl (Nat.le_of_ble_eq_true rfl) (by show _ ≤ 24; omega) (by show _ ≤ 144; omega) dL_areAlike_35 (fun H locs hw hg1 => ?_)
      replace hg := Nat.le_trans hg hg1
      refine br_ne (tgt := 71) S dL_areAlike_38 (by decide) (fun c38 => ?_) (fun c38 => ?_)
      · exact absurd c38 (not_not_intro rfl)
      refine lv_aload_n S.1 S.2.1 dL_areAlike_41 rfl (lv_at hl 0 rfl) ?_
      refine lv_iload_n S.1 S.2.1 dL_areAlike_42 rfl (lv_at hl 3 rfl) ?_
      refine bm_vi (As := [.int (nI g)]) (rest := []) S hK hw (kX0_gaps l D cZ cI a σ (g := g) hg3) (cwV 1 S.2.2.2.2 gL_areAlike_X0_gaps rfl rfl rfl (by decide +kernel) ⟨Nat.le_of_ble_eq_true rfl, Nat.le_of_ble_eq_true rfl⟩) (q0 := 0) rfl rfl rfl hl.1 rfl (Nat.le_of_ble_eq_true rfl) (by show _ ≤ 24; omega) (by show _ ≤ 144; omega) dL_areAlike_43 (fun H locs hw hg1 => ?_)
      replace hg := Nat.le_trans hg hg1
      refine lv_aload_n S.1 S.2.1 dL_areAlike_46 rfl (lv_at hl 1 rfl) ?_
      refine lv_iload_n S.1 S.2.1 dL_areAlike_47 rfl (lv_at hl 3 rfl) ?_
      refine bm_wi (As := [.int (nI g)]) (rest := [.int (σ 7 g)]) S hK hw (kX0_gaps l D cZ cI b σ (g := g) hg3) (cwV 1 S.2.2.2.2 gL_areAlike_X0_gaps rfl rfl rfl (by decide +kernel) ⟨Nat.le_of_ble_eq_true rfl, Nat.le_of_ble_eq_true rfl⟩) (q0 := 0) rfl rfl rfl hl.1 rfl (Nat.le_of_ble_eq_true rfl) (by show _ ≤ 24; omega) (by show _ ≤ 144; omega) dL_areAlike_48 (fun H locs hw hg1 => ?_)
      replace hg := Nat.le_trans hg hg1
      refine br_ne (tgt := 71) S dL_areAlike_51 (by decide) (fun c51 => ?_) (fun c51 => ?_)
      · exact absurd c51 (not_not_intro rfl)
      refine lv_aload_n S.1 S.2.1 dL_areAlike_54 rfl (lv_at hl 0 rfl) ?_
      refine lv_iload_n S.1 S.2.1 dL_areAlike_55 rfl (lv_at hl 3 rfl) ?_
      refine bm_vi (As := [.int (nI g)]) (rest := []) S hK hw (kX0_sent l D cZ cI a σ (g := g) hg3) (cwV 1 S.2.2.2.2 gL_areAlike_X0_sent rfl rfl rfl (by decide +kernel) ⟨Nat.le_of_ble_eq_true rfl, Nat.le_of_ble_eq_true rfl⟩) (q0 := 0) rfl rfl rfl hl.1 rfl (Nat.le_of_ble_eq_true rfl) (by show _ ≤ 24; omega) (by show _ ≤ 144; omega) dL_areAlike_56 (fun H locs hw hg1 => ?_)
      replace hg := Nat.le_trans hg hg1
      refine lv_aload_n S.1 S.2.1 dL_areAlike_59 rfl (lv_at hl 1 rfl) ?_
      refine lv_iload_n S.1 S.2.1 dL_areAlike_60 rfl (lv_at hl 3 rfl) ?_
      refine bm_wi (As := [.int (nI g)]) (rest := [.int (σ 8 g)]) S hK hw (kX0_sent l D cZ cI b σ (g := g) hg3) (cwV 1 S.2.2.2.2 gL_areAlike_X0_sent rfl rfl rfl (by decide +kernel) ⟨Nat.le_of_ble_eq_true rfl, Nat.le_of_ble_eq_true rfl⟩) (q0 := 0) rfl rfl rfl hl.1 rfl (Nat.le_of_ble_eq_true rfl) (by show _ ≤ 24; omega) (by show _ ≤ 144; omega) dL_areAlike_61 (fun H locs hw hg1 => ?_)
      replace hg := Nat.le_trans hg hg1
      refine br_ne (tgt := 71) S dL_areAlike_64 (by decide) (fun c64 => ?_) (fun c64 => ?_)
      · exact absurd c64 (not_not_intro rfl)
      refine lv_iconst (v := 1) S.1 S.2.1 dL_areAlike_67 (by decide) ?_
      refine lv_goto (tgt := 72) S.1 S.2.1 dL_areAlike_68 (by decide) ?_
      refine lv_istore_n (lv' := [(2, .int 1), (0, .ref (a 0)), (1, .ref (b 0)), (3, .int (nI g))]) S.1 S.2.1 dL_areAlike_72 rfl hl (by decide) rfl (fun ls hl => ?_)
      refine lv_iconst (v := nI 0) S.1 S.2.1 dL_areAlike_73 (by decide) ?_
      refine lv_istore (lv' := [(4, .int (nI 0)), (2, .int 1), (0, .ref (a 0)), (1, .ref (b 0)), (3, .int (nI g))]) S.1 S.2.1 dL_areAlike_74 hl (by decide) rfl (fun ls hl => ?_)
      have L76 : ∀ (n r : Nat), r + n = 4 → ∀ (H : Heap) (locs : List Loc), Wd D A s.heap (wX cZ cI a σ ++ wX cZ cI b σ) H locs → s.heap.size + (8 * g + 2 * r) ≤ H.size → ∀ ls : Array Slot, lv_has ls 5 [(0, .ref (a 0)), (1, .ref (b 0)), (2, .int 1), (3, .int (nI g)), (4, .int (nI r))] → W p l e ({ frames := 9, cells := 24, slots := 144, locals := 163 } : Room) s m args below meth c H locs (8 * g + 2 * r) (48 * g + 12 * r) Q (F0 m 76 ls []) := by
        intro n
        induction n with
        | zero =>
          intro r hi2 H locs hw hg ls hl
          obtain rfl : r = 4 := by omega
          refine lv_iload S.1 S.2.1 dL_areAlike_76 (lv_at hl 4 rfl) ?_
          refine lv_iconst (v := nI 4) S.1 S.2.1 dL_areAlike_78 (by decide) ?_
          refine br_ge (tgt := 166) S dL_areAlike_79 (by decide) (fun c79 => ?_) (fun c79 => ?_)
          rotate_left
          · exact absurd c79 (nlt_nI (by decide))
          refine lv_iinc (v := nI (g + 1)) (lv' := [(3, .int (nI (g + 1))), (0, .ref (a 0)), (1, .ref (b 0)), (2, .int 1), (4, .int (nI 4))]) S.1 S.2.1 dL_areAlike_166 hl (k := 3) rfl (nI_1 g) (by decide) rfl (fun ls hl => ?_)
          refine lv_goto (tgt := 19) S.1 S.2.1 dL_areAlike_169 (by decide) ?_
          refine W.widen (k := 8 * (g + 1)) (n := 48 * (g + 1)) (by omega) (by omega) ?_
          exact ih19 (g + 1) (by omega) _ _ hw (by omega) _ (lv_sub hl [1, 2, 3, 0] rfl)
        | succ n ih76 =>
          intro r hi2 H locs hw hg ls hl
          have hr : r < 4 := by omega
          refine lv_iload S.1 S.2.1 dL_areAlike_76 (lv_at hl 4 rfl) ?_
          refine lv_iconst (v := nI 4) S.1 S.2.1 dL_areAlike_78 (by decide) ?_
          refine br_ge (tgt := 166) S dL_areAlike_79 (by decide) (fun c79 => ?_) (fun c79 => ?_)
          · exact absurd c79 (not_not_intro (lt_nI hr (by decide)))
          refine lv_iload_n S.1 S.2.1 dL_areAlike_82 rfl (lv_at hl 2 rfl) ?_
          refine bz_eq (tgt := 158) S dL_areAlike_83 (by decide) (fun c83 => ?_) (fun c83 => ?_)
          · exact absurd c83 (by decide)
          refine lv_aload_n S.1 S.2.1 dL_areAlike_86 rfl (lv_at hl 0 rfl) ?_
          refine lv_iload S.1 S.2.1 dL_areAlike_87 (lv_at hl 4 rfl) ?_
          refine lv_iload_n S.1 S.2.1 dL_areAlike_89 rfl (lv_at hl 3 rfl) ?_
          refine bm_vi (As := [.int (nI r), .int (nI g)]) (rest := []) S hK hw (kX0_state l D cZ cI a σ (r := r) (g := g) hr hg3) (cwV 2 S.2.2.2.2 gL_areAlike_X0_state rfl rfl rfl (by decide +kernel) ⟨Nat.le_of_ble_eq_true rfl, Nat.le_of_ble_eq_true rfl⟩) (q0 := 0) rfl rfl rfl hl.1 rfl (Nat.le_of_ble_eq_true rfl) (by show _ ≤ 24; omega) (by show _ ≤ 144; omega) dL_areAlike_90 (fun H locs hw hg1 => ?_)
          replace hg := Nat.le_trans hg hg1
          refine lv_aload_n S.1 S.2.1 dL_areAlike_93 rfl (lv_at hl 1 rfl) ?_
          refine lv_iload S.1 S.2.1 dL_areAlike_94 (lv_at hl 4 rfl) ?_
          refine lv_iload_n S.1 S.2.1 dL_areAlike_96 rfl (lv_at hl 3 rfl) ?_
          refine bm_wi (As := [.int (nI r), .int (nI g)]) (rest := [.int (σ 10 (4 * g + r))]) S hK hw (kX0_state l D cZ cI b σ (r := r) (g := g) hr hg3) (cwV 2 S.2.2.2.2 gL_areAlike_X0_state rfl rfl rfl (by decide +kernel) ⟨Nat.le_of_ble_eq_true rfl, Nat.le_of_ble_eq_true rfl⟩) (q0 := 0) rfl rfl rfl hl.1 rfl (Nat.le_of_ble_eq_true rfl) (by show _ ≤ 24; omega) (by show _ ≤ 144; omega) dL_areAlike_97 (fun H locs hw hg1 => ?_)
          replace hg := Nat.le_trans hg hg1
          refine br_ne (tgt := 158) S dL_areAlike_100 (by decide) (fun c100 => ?_) (fun c100 => ?_)
          · exact absurd c100 (not_not_intro rfl)
          refine lv_aload_n S.1 S.2.1 dL_areAlike_103 rfl (lv_at hl 0 rfl) ?_
          refine lv_iload S.1 S.2.1 dL_areAlike_104 (lv_at hl 4 rfl) ?_
          refine lv_iload_n S.1 S.2.1 dL_areAlike_106 rfl (lv_at hl 3 rfl) ?_
          refine bm_sb (As := [.ref (a 0), .int (nI r), .int (nI g)]) (rest := []) S hK hZ hw (kL_timer_IS l D cZ cI a σ (nI r) (nI g) (tX0_timer_s l hfl D cZ cI a σ (r := r) (g := g) hr hg3 (hro r g hr hg3))) (vx_cwSW 3 S.2.2.2.2 gL_areAlike_L_timer rfl rfl rfl (by decide +kernel) ⟨Nat.le_of_ble_eq_true rfl, Nat.le_of_ble_eq_true rfl⟩) rfl hl.1 rfl (Nat.le_of_ble_eq_true rfl) (by show _ ≤ 24; omega) (by show _ ≤ 144; omega) dL_areAlike_107 (fun H locs hw hg1 => ?_)
          replace hg := Nat.succ_le_of_lt (Nat.lt_of_le_of_lt hg hg1)
          refine lv_aload_n S.1 S.2.1 dL_areAlike_110 rfl (lv_at hl 1 rfl) ?_
          refine lv_iload S.1 S.2.1 dL_areAlike_111 (lv_at hl 4 rfl) ?_
          refine lv_iload_n S.1 S.2.1 dL_areAlike_113 rfl (lv_at hl 3 rfl) ?_
          refine bm_wb (As := [.ref (b 0), .int (nI r), .int (nI g)]) (rest := [.int (-1)]) S hK hZ hw (kL_timer_IS l D cZ cI b σ (nI r) (nI g) (tX0_timer_s l hfl D cZ cI b σ (r := r) (g := g) hr hg3 (hro r g hr hg3))) (vx_cwSW 3 S.2.2.2.2 gL_areAlike_L_timer rfl rfl rfl (by decide +kernel) ⟨Nat.le_of_ble_eq_true rfl, Nat.le_of_ble_eq_true rfl⟩) rfl hl.1 rfl (Nat.le_of_ble_eq_true rfl) (by show _ ≤ 24; omega) (by show _ ≤ 144; omega) dL_areAlike_114 (fun H locs hw hg1 => ?_)
          replace hg := Nat.succ_le_of_lt (Nat.lt_of_le_of_lt hg hg1)
          refine br_ne (tgt := 158) S dL_areAlike_117 (by decide) (fun c117 => ?_) (fun c117 => ?_)
          · exact absurd c117 (not_not_intro rfl)
          refine lv_aload_n S.1 S.2.1 dL_areAlike_120 rfl (lv_at hl 0 rfl) ?_
          refine lv_iload S.1 S.2.1 dL_areAlike_121 (lv_at hl 4 rfl) ?_
          refine lv_iload_n S.1 S.2.1 dL_areAlike_123 rfl (lv_at hl 3 rfl) ?_
          refine bm_vi (As := [.int (nI r), .int (nI g)]) (rest := []) S hK hw (kX0_known l D cZ cI a σ (r := r) (g := g) hr hg3) (cwV 2 S.2.2.2.2 gL_areAlike_X0_known rfl rfl rfl (by decide +kernel) ⟨Nat.le_of_ble_eq_true rfl, Nat.le_of_ble_eq_true rfl⟩) (q0 := 0) rfl rfl rfl hl.1 rfl (Nat.le_of_ble_eq_true rfl) (by show _ ≤ 24; omega) (by show _ ≤ 144; omega) dL_areAlike_124 (fun H locs hw hg1 => ?_)
          replace hg := Nat.le_trans hg hg1
          refine lv_aload_n S.1 S.2.1 dL_areAlike_127 rfl (lv_at hl 1 rfl) ?_
          refine lv_iload S.1 S.2.1 dL_areAlike_128 (lv_at hl 4 rfl) ?_
          refine lv_iload_n S.1 S.2.1 dL_areAlike_130 rfl (lv_at hl 3 rfl) ?_
          refine bm_wi (As := [.int (nI r), .int (nI g)]) (rest := [.int (σ 13 (4 * g + r))]) S hK hw (kX0_known l D cZ cI b σ (r := r) (g := g) hr hg3) (cwV 2 S.2.2.2.2 gL_areAlike_X0_known rfl rfl rfl (by decide +kernel) ⟨Nat.le_of_ble_eq_true rfl, Nat.le_of_ble_eq_true rfl⟩) (q0 := 0) rfl rfl rfl hl.1 rfl (Nat.le_of_ble_eq_true rfl) (by show _ ≤ 24; omega) (by show _ ≤ 144; omega) dL_areAlike_131 (fun H locs hw hg1 => ?_)
          replace hg := Nat.le_trans hg hg1
          refine br_ne (tgt := 158) S dL_areAlike_134 (by decide) (fun c134 => ?_) (fun c134 => ?_)
          · exact absurd c134 (not_not_intro rfl)
          refine lv_aload_n S.1 S.2.1 dL_areAlike_137 rfl (lv_at hl 0 rfl) ?_
          refine lv_iload S.1 S.2.1 dL_areAlike_138 (lv_at hl 4 rfl) ?_
          refine lv_iload_n S.1 S.2.1 dL_areAlike_140 rfl (lv_at hl 3 rfl) ?_
          refine bm_vi (As := [.int (nI r), .int (nI g)]) (rest := []) S hK hw (kX0_changes l D cZ cI a σ (r := r) (g := g) hr hg3) (cwV 2 S.2.2.2.2 gL_areAlike_X0_changes rfl rfl rfl (by decide +kernel) ⟨Nat.le_of_ble_eq_true rfl, Nat.le_of_ble_eq_true rfl⟩) (q0 := 0) rfl rfl rfl hl.1 rfl (Nat.le_of_ble_eq_true rfl) (by show _ ≤ 24; omega) (by show _ ≤ 144; omega) dL_areAlike_141 (fun H locs hw hg1 => ?_)
          replace hg := Nat.le_trans hg hg1
          refine lv_aload_n S.1 S.2.1 dL_areAlike_144 rfl (lv_at hl 1 rfl) ?_
          refine lv_iload S.1 S.2.1 dL_areAlike_145 (lv_at hl 4 rfl) ?_
          refine lv_iload_n S.1 S.2.1 dL_areAlike_147 rfl (lv_at hl 3 rfl) ?_
          refine bm_wi (As := [.int (nI r), .int (nI g)]) (rest := [.int (σ 14 (4 * g + r))]) S hK hw (kX0_changes l D cZ cI b σ (r := r) (g := g) hr hg3) (cwV 2 S.2.2.2.2 gL_areAlike_X0_changes rfl rfl rfl (by decide +kernel) ⟨Nat.le_of_ble_eq_true rfl, Nat.le_of_ble_eq_true rfl⟩) (q0 := 0) rfl rfl rfl hl.1 rfl (Nat.le_of_ble_eq_true rfl) (by show _ ≤ 24; omega) (by show _ ≤ 144; omega) dL_areAlike_148 (fun H locs hw hg1 => ?_)
          replace hg := Nat.le_trans hg hg1
          refine br_ne (tgt := 158) S dL_areAlike_151 (by decide) (fun c151 => ?_) (fun c151 => ?_)
          · exact absurd c151 (not_not_intro rfl)
          refine lv_iconst (v := 1) S.1 S.2.1 dL_areAlike_154 (by decide) ?_
          refine lv_goto (tgt := 159) S.1 S.2.1 dL_areAlike_155 (by decide) ?_
          refine lv_istore_n (lv' := [(2, .int 1), (0, .ref (a 0)), (1, .ref (b 0)), (3, .int (nI g)), (4, .int (nI r))]) S.1 S.2.1 dL_areAlike_159 rfl hl (by decide) rfl (fun ls hl => ?_)
          refine lv_iinc (v := nI (r + 1)) (lv' := [(4, .int (nI (r + 1))), (2, .int 1), (0, .ref (a 0)), (1, .ref (b 0)), (3, .int (nI g))]) S.1 S.2.1 dL_areAlike_160 hl (k := 4) rfl (nI_1 r) (by decide) rfl (fun ls hl => ?_)
          refine lv_goto (tgt := 76) S.1 S.2.1 dL_areAlike_163 (by decide) ?_
          refine W.widen (k := 8 * g + 2 * (r + 1)) (n := 48 * g + 12 * (r + 1)) (by omega) (by omega) ?_
          exact ih76 (r + 1) (by omega) _ _ hw (by omega) _ (lv_sub hl [2, 3, 1, 4, 0] rfl)
      refine W.widen (k := 8 * g + 2 * 0) (n := 48 * g + 12 * 0) (by omega) (by omega) ?_
      exact L76 4 0 rfl _ _ hw (by omega) _ (lv_sub hl [2, 3, 1, 4, 0] rfl)
  exact L19 3 0 rfl _ _ hw hg _ (lv_sub hl [2, 3, 1, 0] rfl)
set_option maxHeartbeats 4000000 in
set_option maxRecDepth 100000 in
theorem kL_isGroupSo (l : Launch) (hfl : l.stackTraces = false) (D : va_G) (cZ cI : ClassId) (a : Nat → Nat) {g : Nat} (hg3 : g < 3) : MR l yL_isGroupSo wsL_isGroupSo ({ frames := 9, cells := 4, slots := 24, locals := 163 } : Room) D (tyZ cZ cI) [.ref (a 0), .int (nI g)] (wX cZ cI a s0) 1 4 24 4 := by
  refine MR.of (cc := cL_isGroupSo) (maxL := 10) (ty := .boolean) (by decide) rfl rfl (Nat.le_of_ble_eq_true rfl) ?_
  intro p e s m args below meth c A Q S hK hZ hret ls hl hw
  replace hl : lv_has ls 10 [(0, .ref (a 0)), (1, .int (nI g))] := hl
  replace S : CallFix p m c cL_isGroupSo 10 s args wsL_isGroupSo RL := S
  have hg : s.heap.size + 0 ≤ s.heap.size := Nat.le_refl _
  refine lv_iconst (v := 0) S.1 S.2.1 dL_isGroupSo_0 (by decide) ?_
  refine lv_istore_n (lv' := [(2, .int 0), (0, .ref (a 0)), (1, .int (nI g))]) S.1 S.2.1 dL_isGroupSo_1 rfl hl (by decide) rfl (fun ls hl => ?_)
  refine lv_iconst (v := 0) S.1 S.2.1 dL_isGroupSo_2 (by decide) ?_
  refine lv_istore_n (lv' := [(3, .int 0), (2, .int 0), (0, .ref (a 0)), (1, .int (nI g))]) S.1 S.2.1 dL_isGroupSo_3 rfl hl (by decide) rfl (fun ls hl => ?_)
  refine lv_iconst (v := 0) S.1 S.2.1 dL_isGroupSo_4 (by decide) ?_
  refine lv_istore (lv' := [(4, .int 0), (3, .int 0), (2, .int 0), (0, .ref (a 0)), (1, .int (nI g))]) S.1 S.2.1 dL_isGroupSo_5 hl (by decide) rfl (fun ls hl => ?_)
  refine lv_iconst (v := nI 0) S.1 S.2.1 dL_isGroupSo_7 (by decide) ?_
  refine lv_istore (lv' := [(5, .int (nI 0)), (4, .int 0), (3, .int 0), (2, .int 0), (0, .ref (a 0)), (1, .int (nI g))]) S.1 S.2.1 dL_isGroupSo_8 hl (by decide) rfl (fun ls hl => ?_)
  have L10 : ∀ (n r : Nat), r + n = 4 → ∀ (H : Heap) (locs : List Loc), Wd D A s.heap (wX cZ cI a s0) H locs → s.heap.size + r ≤ H.size → ∀ ls : Array Slot, lv_has ls 10 [(0, .ref (a 0)), (1, .int (nI g)), (2, .int 0), (3, .int 0), (4, .int 0), (5, .int (nI r))] → W p l e ({ frames := 9, cells := 4, slots := 24, locals := 163 } : Room) s m args below meth c H locs r (6 * r) Q (F0 m 10 ls []) := by
    intro n
    induction n with
    | zero =>
      intro r hi H locs hw hg ls hl
      obtain rfl : r = 4 := by omega
      refine lv_iload S.1 S.2.1 dL_isGroupSo_10 (lv_at hl 5 rfl) ?_
      refine lv_iconst (v := nI 4) S.1 S.2.1 dL_isGroupSo_12 (by decide) ?_
      refine br_ge (tgt := 170) S dL_isGroupSo_13 (by decide) (fun c13 => ?_) (fun c13 => ?_)
      rotate_left
      · exact absurd c13 (nlt_nI (by decide))
      refine lv_iload_n S.1 S.2.1 dL_isGroupSo_170 rfl (lv_at hl 2 rfl) ?_
      refine bz_eq (tgt := 186) S dL_isGroupSo_171 (by decide) (fun c171 => ?_) (fun c171 => ?_)
      rotate_left
      · exact absurd c171 (by decide)
      refine lv_iconst (v := 0) S.1 S.2.1 dL_isGroupSo_186 (by decide) ?_
      refine lv_istore (lv' := [(5, .int 0), (0, .ref (a 0)), (1, .int (nI g)), (2, .int 0), (3, .int 0), (4, .int 0)]) S.1 S.2.1 dL_isGroupSo_187 hl (by decide) rfl (fun ls hl => ?_)
      refine lv_aload_n S.1 S.2.1 dL_isGroupSo_189 rfl (lv_at hl 1 rfl) ?_
      refine lv_iload_n S.1 S.2.1 dL_isGroupSo_190 rfl (lv_at hl 2 rfl) ?_
      refine bm_vi (w2 := []) (As := [.int (nI g)]) (rest := []) S hK hw.nil (kX0_masters l D cZ cI a s0 (g := g) hg3) (cwV 1 S.2.2.2.2 gL_isGroupSo_X0_masters rfl rfl rfl (by decide +kernel) ⟨Nat.le_of_ble_eq_true rfl, Nat.le_of_ble_eq_true rfl⟩) (q0 := 0) rfl rfl rfl hl.1 rfl (Nat.le_of_ble_eq_true rfl) (by show _ ≤ 4; omega) (by show _ ≤ 24; omega) dL_isGroupSo_191 (fun H locs hw hg1 => ?_)
      replace hw := Wd.unnil hw
      replace hg := Nat.le_trans hg hg1
      refine bx_top (y := 0) (mem_s0 2 g (by decide)) ?_
      refine lv_iload_n S.1 S.2.1 dL_isGroupSo_194 rfl (lv_at hl 3 rfl) ?_
      refine br_ne (tgt := 246) S dL_isGroupSo_195 (by decide) (fun c195 => ?_) (fun c195 => ?_)
      · exact absurd c195 (by decide)
      refine lv_iload S.1 S.2.1 dL_isGroupSo_198 (lv_at hl 0 rfl) ?_
      refine bz_eq (tgt := 211) S dL_isGroupSo_200 (by decide) (fun c200 => ?_) (fun c200 => ?_)
      rotate_left
      · exact absurd c200 (by decide)
      refine lv_iload_n S.1 S.2.1 dL_isGroupSo_211 rfl (lv_at hl 3 rfl) ?_
      refine bz_ne (tgt := 232) S dL_isGroupSo_212 (by decide) (fun c212 => ?_) (fun c212 => ?_)
      · exact absurd c212 (by decide)
      refine lv_aload_n S.1 S.2.1 dL_isGroupSo_215 rfl (lv_at hl 1 rfl) ?_
      refine lv_iload_n S.1 S.2.1 dL_isGroupSo_216 rfl (lv_at hl 2 rfl) ?_
      refine bm_vi (w2 := []) (As := [.int (nI g)]) (rest := []) S hK hw.nil (kX0_isSettled l D cZ cI a s0 (g := g) hg3) (cwV 1 S.2.2.2.2 gL_isGroupSo_X0_isSettled rfl rfl rfl (by decide +kernel) ⟨Nat.le_of_ble_eq_true rfl, Nat.le_of_ble_eq_true rfl⟩) (q0 := 0) rfl rfl rfl hl.1 rfl (Nat.le_of_ble_eq_true rfl) (by show _ ≤ 4; omega) (by show _ ≤ 24; omega) dL_isGroupSo_217 (fun H locs hw hg1 => ?_)
      replace hw := Wd.unnil hw
      replace hg := Nat.le_trans hg hg1
      refine bx_top (y := 1) (setl_s0 g) ?_
      refine lv_iload_n S.1 S.2.1 dL_isGroupSo_220 rfl (lv_at hl 4 rfl) ?_
      refine bz_ne (tgt := 228) S dL_isGroupSo_221 (by decide) (fun c221 => ?_) (fun c221 => ?_)
      · exact absurd c221 (by decide)
      refine lv_iconst (v := 1) S.1 S.2.1 dL_isGroupSo_224 (by decide) ?_
      refine lv_goto (tgt := 229) S.1 S.2.1 dL_isGroupSo_225 (by decide) ?_
      refine br_ne (tgt := 246) S dL_isGroupSo_229 (by decide) (fun c229 => ?_) (fun c229 => ?_)
      · exact absurd c229 (by decide)
      refine lv_iload S.1 S.2.1 dL_isGroupSo_232 (lv_at hl 5 rfl) ?_
      refine lv_aload_n S.1 S.2.1 dL_isGroupSo_234 rfl (lv_at hl 1 rfl) ?_
      refine lv_iload_n S.1 S.2.1 dL_isGroupSo_235 rfl (lv_at hl 2 rfl) ?_
      refine bm_vi (w2 := []) (As := [.int (nI g)]) (rest := [.int 0]) S hK hw.nil (kX0_sent l D cZ cI a s0 (g := g) hg3) (cwV 1 S.2.2.2.2 gL_isGroupSo_X0_sent rfl rfl rfl (by decide +kernel) ⟨Nat.le_of_ble_eq_true rfl, Nat.le_of_ble_eq_true rfl⟩) (q0 := 0) rfl rfl rfl hl.1 rfl (Nat.le_of_ble_eq_true rfl) (by show _ ≤ 4; omega) (by show _ ≤ 24; omega) dL_isGroupSo_236 (fun H locs hw hg1 => ?_)
      replace hw := Wd.unnil hw
      replace hg := Nat.le_trans hg hg1
      refine bx_top (y := 0) (s0_0 8 (by decide) g) ?_
      refine br_gt (tgt := 246) S dL_isGroupSo_239 (by decide) (fun c239 => ?_) (fun c239 => ?_)
      · exact absurd c239 (by decide)
      refine lv_iconst (v := 1) S.1 S.2.1 dL_isGroupSo_242 (by decide) ?_
      refine lv_goto (tgt := 247) S.1 S.2.1 dL_isGroupSo_243 (by decide) ?_
      exact hret hw hg dL_isGroupSo_247 rfl
    | succ n ih10 =>
      intro r hi H locs hw hg ls hl
      have hr : r < 4 := by omega
      refine lv_iload S.1 S.2.1 dL_isGroupSo_10 (lv_at hl 5 rfl) ?_
      refine lv_iconst (v := nI 4) S.1 S.2.1 dL_isGroupSo_12 (by decide) ?_
      refine br_ge (tgt := 170) S dL_isGroupSo_13 (by decide) (fun c13 => ?_) (fun c13 => ?_)
      · exact absurd c13 (not_not_intro (lt_nI hr (by decide)))
      refine lv_aload_n S.1 S.2.1 dL_isGroupSo_16 rfl (lv_at hl 0 rfl) ?_
      refine lv_iload S.1 S.2.1 dL_isGroupSo_17 (lv_at hl 5 rfl) ?_
      refine lv_iload_n S.1 S.2.1 dL_isGroupSo_19 rfl (lv_at hl 1 rfl) ?_
      refine bm_vi (w2 := []) (As := [.int (nI r), .int (nI g)]) (rest := []) S hK hw.nil (kX0_state l D cZ cI a s0 (r := r) (g := g) hr hg3) (cwV 2 S.2.2.2.2 gL_isGroupSo_X0_state rfl rfl rfl (by decide +kernel) ⟨Nat.le_of_ble_eq_true rfl, Nat.le_of_ble_eq_true rfl⟩) (q0 := 0) rfl rfl rfl hl.1 rfl (Nat.le_of_ble_eq_true rfl) (by show _ ≤ 4; omega) (by show _ ≤ 24; omega) dL_isGroupSo_20 (fun H locs hw hg1 => ?_)
      replace hw := Wd.unnil hw
      replace hg := Nat.le_trans hg hg1
      refine bx_top (y := 0) (s0_0 10 (by decide) _) ?_
      refine lv_istore (lv' := [(6, .int 0), (0, .ref (a 0)), (1, .int (nI g)), (2, .int 0), (3, .int 0), (4, .int 0), (5, .int (nI r))]) S.1 S.2.1 dL_isGroupSo_23 hl (by decide) rfl (fun ls hl => ?_)
      refine lv_aload_n S.1 S.2.1 dL_isGroupSo_25 rfl (lv_at hl 1 rfl) ?_
      refine lv_iload S.1 S.2.1 dL_isGroupSo_26 (lv_at hl 6 rfl) ?_
      refine lv_iload_n S.1 S.2.1 dL_isGroupSo_28 rfl (lv_at hl 2 rfl) ?_
      refine bm_sb (w2 := []) (As := [.ref (a 0), .int (nI r), .int (nI g)]) (rest := []) S hK hZ hw.nil (kL_timer_IS l D cZ cI a s0 (nI r) (nI g) (tX0_timer_s l hfl D cZ cI a s0 (r := r) (g := g) hr hg3 rfl)) (vx_cwSW 3 S.2.2.2.2 gL_isGroupSo_L_timer rfl rfl rfl (by decide +kernel) ⟨Nat.le_of_ble_eq_true rfl, Nat.le_of_ble_eq_true rfl⟩) rfl hl.1 rfl (Nat.le_of_ble_eq_true rfl) (by show _ ≤ 4; omega) (by show _ ≤ 24; omega) dL_isGroupSo_29 (fun H locs hw hg1 => ?_)
      replace hw := Wd.unnil hw
      replace hg := Nat.succ_le_of_lt (Nat.lt_of_le_of_lt hg hg1)
      refine lv_istore (lv' := [(7, .int (-1)), (6, .int 0), (0, .ref (a 0)), (1, .int (nI g)), (2, .int 0), (3, .int 0), (4, .int 0), (5, .int (nI r))]) S.1 S.2.1 dL_isGroupSo_32 hl (by decide) rfl (fun ls hl => ?_)
      refine lv_aload_n S.1 S.2.1 dL_isGroupSo_34 rfl (lv_at hl 2 rfl) ?_
      refine lv_iload S.1 S.2.1 dL_isGroupSo_35 (lv_at hl 7 rfl) ?_
      refine lv_iload_n S.1 S.2.1 dL_isGroupSo_37 rfl (lv_at hl 3 rfl) ?_
      refine bm_vi (w2 := []) (As := [.int (nI r), .int (nI g)]) (rest := []) S hK hw.nil (kX0_priority l D cZ cI a s0 (r := r) (g := g) hr hg3) (cwV 2 S.2.2.2.2 gL_isGroupSo_X0_priority rfl rfl rfl (by decide +kernel) ⟨Nat.le_of_ble_eq_true rfl, Nat.le_of_ble_eq_true rfl⟩) (q0 := 0) rfl rfl rfl hl.1 rfl (Nat.le_of_ble_eq_true rfl) (by show _ ≤ 4; omega) (by show _ ≤ 24; omega) dL_isGroupSo_38 (fun H locs hw hg1 => ?_)
      replace hw := Wd.unnil hw
      replace hg := Nat.le_trans hg hg1
      refine bx_top (y := 0) (prio_s0 r g) ?_
      refine lv_istore (lv' := [(8, .int 0), (7, .int (-1)), (6, .int 0), (0, .ref (a 0)), (1, .int (nI g)), (2, .int 0), (3, .int 0), (4, .int 0), (5, .int (nI r))]) S.1 S.2.1 dL_isGroupSo_41 hl (by decide) rfl (fun ls hl => ?_)
      refine lv_iload S.1 S.2.1 dL_isGroupSo_43 (lv_at hl 2 rfl) ?_
      refine bz_lt (tgt := 112) S dL_isGroupSo_45 (by decide) (fun c45 => ?_) (fun c45 => ?_)
      · exact absurd c45 (by decide)
      refine lv_iload S.1 S.2.1 dL_isGroupSo_48 (lv_at hl 2 rfl) ?_
      refine lv_iconst (v := 3) S.1 S.2.1 dL_isGroupSo_50 (by decide) ?_
      refine br_ge (tgt := 112) S dL_isGroupSo_51 (by decide) (fun c51 => ?_) (fun c51 => ?_)
      · exact absurd c51 (by decide)
      refine lv_iload S.1 S.2.1 dL_isGroupSo_54 (lv_at hl 2 rfl) ?_
      refine bz_ne (tgt := 73) S dL_isGroupSo_56 (by decide) (fun c56 => ?_) (fun c56 => ?_)
      · exact absurd c56 (by decide)
      refine lv_iload S.1 S.2.1 dL_isGroupSo_59 (lv_at hl 1 rfl) ?_
      refine lv_iconst (v := -1) S.1 S.2.1 dL_isGroupSo_61 (by decide) ?_
      refine br_ne (tgt := 112) S dL_isGroupSo_62 (by decide) (fun c62 => ?_) (fun c62 => ?_)
      · exact absurd c62 (by decide)
      refine lv_iload S.1 S.2.1 dL_isGroupSo_65 (lv_at hl 0 rfl) ?_
      refine bz_ne (tgt := 112) S dL_isGroupSo_67 (by decide) (fun c67 => ?_) (fun c67 => ?_)
      · exact absurd c67 (by decide)
      refine lv_goto (tgt := 98) S.1 S.2.1 dL_isGroupSo_70 (by decide) ?_
      refine lv_aload_n S.1 S.2.1 dL_isGroupSo_98 rfl (lv_at hl 3 rfl) ?_
      refine lv_iload S.1 S.2.1 dL_isGroupSo_99 (lv_at hl 8 rfl) ?_
      refine lv_iload_n S.1 S.2.1 dL_isGroupSo_101 rfl (lv_at hl 4 rfl) ?_
      refine bm_vi (w2 := []) (As := [.int (nI r), .int (nI g)]) (rest := []) S hK hw.nil (kX0_known l D cZ cI a s0 (r := r) (g := g) hr hg3) (cwV 2 S.2.2.2.2 gL_isGroupSo_X0_known rfl rfl rfl (by decide +kernel) ⟨Nat.le_of_ble_eq_true rfl, Nat.le_of_ble_eq_true rfl⟩) (q0 := 0) rfl rfl rfl hl.1 rfl (Nat.le_of_ble_eq_true rfl) (by show _ ≤ 4; omega) (by show _ ≤ 24; omega) dL_isGroupSo_102 (fun H locs hw hg1 => ?_)
      replace hw := Wd.unnil hw
      replace hg := Nat.le_trans hg hg1
      refine bx_top (y := 0) (s0_0 13 (by decide) _) ?_
      refine bz_lt (tgt := 112) S dL_isGroupSo_105 (by decide) (fun c105 => ?_) (fun c105 => ?_)
      · exact absurd c105 (by decide)
      refine lv_iconst (v := 1) S.1 S.2.1 dL_isGroupSo_108 (by decide) ?_
      refine lv_goto (tgt := 113) S.1 S.2.1 dL_isGroupSo_109 (by decide) ?_
      refine lv_istore (lv' := [(9, .int 1), (8, .int 0), (7, .int (-1)), (6, .int 0), (0, .ref (a 0)), (1, .int (nI g)), (2, .int 0), (3, .int 0), (4, .int 0), (5, .int (nI r))]) S.1 S.2.1 dL_isGroupSo_113 hl (by decide) rfl (fun ls hl => ?_)
      refine lv_iload S.1 S.2.1 dL_isGroupSo_115 (lv_at hl 0 rfl) ?_
      refine bz_ne (tgt := 122) S dL_isGroupSo_117 (by decide) (fun c117 => ?_) (fun c117 => ?_)
      rotate_left
      · exact absurd c117 (by decide)
      refine lv_iload_n S.1 S.2.1 dL_isGroupSo_122 rfl (lv_at hl 6 rfl) ?_
      refine lv_iload S.1 S.2.1 dL_isGroupSo_123 (lv_at hl 3 rfl) ?_
      refine lv_iconst (v := 2) S.1 S.2.1 dL_isGroupSo_125 (by decide) ?_
      refine br_ne (tgt := 136) S dL_isGroupSo_126 (by decide) (fun c126 => ?_) (fun c126 => ?_)
      rotate_left
      · exact absurd c126 (by decide)
      refine lv_iconst (v := 0) S.1 S.2.1 dL_isGroupSo_136 (by decide) ?_
      refine lv_ior S.1 S.2.1 dL_isGroupSo_137 ?_
      refine bx_top (y := 0) (by decide +kernel) ?_
      refine lv_istore_n (lv' := [(2, .int 0), (9, .int 1), (8, .int 0), (7, .int (-1)), (6, .int 0), (0, .ref (a 0)), (1, .int (nI g)), (3, .int 0), (4, .int 0), (5, .int (nI r))]) S.1 S.2.1 dL_isGroupSo_138 rfl hl (by decide) rfl (fun ls hl => ?_)
      refine lv_iload_n S.1 S.2.1 dL_isGroupSo_139 rfl (lv_at hl 7 rfl) ?_
      refine lv_iload S.1 S.2.1 dL_isGroupSo_140 (lv_at hl 4 rfl) ?_
      refine bz_le (tgt := 149) S dL_isGroupSo_142 (by decide) (fun c142 => ?_) (fun c142 => ?_)
      rotate_left
      · exact absurd c142 (by decide)
      refine lv_iconst (v := 0) S.1 S.2.1 dL_isGroupSo_149 (by decide) ?_
      refine lv_iadd S.1 S.2.1 dL_isGroupSo_150 ?_
      refine bx_top (y := 0) (by decide +kernel) ?_
      refine lv_istore_n (lv' := [(3, .int 0), (2, .int 0), (9, .int 1), (8, .int 0), (7, .int (-1)), (6, .int 0), (0, .ref (a 0)), (1, .int (nI g)), (4, .int 0), (5, .int (nI r))]) S.1 S.2.1 dL_isGroupSo_151 rfl hl (by decide) rfl (fun ls hl => ?_)
      refine lv_iload S.1 S.2.1 dL_isGroupSo_152 (lv_at hl 8 rfl) ?_
      refine lv_aload_n S.1 S.2.1 dL_isGroupSo_154 rfl (lv_at hl 6 rfl) ?_
      refine lv_iload S.1 S.2.1 dL_isGroupSo_155 (lv_at hl 9 rfl) ?_
      refine lv_iload_n S.1 S.2.1 dL_isGroupSo_157 rfl (lv_at hl 7 rfl) ?_
      refine bm_vi (w2 := []) (As := [.int (nI r), .int (nI g)]) (rest := [.int 0]) S hK hw.nil (kX0_changes l D cZ cI a s0 (r := r) (g := g) hr hg3) (cwV 2 S.2.2.2.2 gL_isGroupSo_X0_changes rfl rfl rfl (by decide +kernel) ⟨Nat.le_of_ble_eq_true rfl, Nat.le_of_ble_eq_true rfl⟩) (q0 := 0) rfl rfl rfl hl.1 rfl (Nat.le_of_ble_eq_true rfl) (by show _ ≤ 4; omega) (by show _ ≤ 24; omega) dL_isGroupSo_158 (fun H locs hw hg1 => ?_)
      replace hw := Wd.unnil hw
      replace hg := Nat.le_trans hg hg1
      refine bx_top (y := 0) (s0_0 14 (by decide) _) ?_
      refine lv_iadd S.1 S.2.1 dL_isGroupSo_161 ?_
      refine bx_top (y := 0) (by decide +kernel) ?_
      refine lv_istore (lv' := [(4, .int 0), (3, .int 0), (2, .int 0), (9, .int 1), (8, .int 0), (7, .int (-1)), (6, .int 0), (0, .ref (a 0)), (1, .int (nI g)), (5, .int (nI r))]) S.1 S.2.1 dL_isGroupSo_162 hl (by decide) rfl (fun ls hl => ?_)
      refine lv_iinc (v := nI (r + 1)) (lv' := [(5, .int (nI (r + 1))), (4, .int 0), (3, .int 0), (2, .int 0), (9, .int 1), (8, .int 0), (7, .int (-1)), (6, .int 0), (0, .ref (a 0)), (1, .int (nI g))]) S.1 S.2.1 dL_isGroupSo_164 hl (k := 9) rfl (nI_1 r) (by decide) rfl (fun ls hl => ?_)
      refine lv_goto (tgt := 10) S.1 S.2.1 dL_isGroupSo_167 (by decide) ?_
      refine W.widen (k := r + 1) (n := 6 * (r + 1)) (by omega) (by omega) ?_
      exact ih10 (r + 1) (by omega) _ _ hw (by omega) _ (lv_sub hl [8, 9, 3, 2, 1, 0] rfl)
  exact L10 4 0 rfl _ _ hw hg _ (lv_sub hl [4, 5, 3, 2, 1, 0] rfl)
end
section
/-! ===== ticks while nobody takes part ===== -/
/-- a new object after k ticks, its clock at t -/
def sT (k : Nat) (t : Int32) : sC := fun j i => if j = 7 then (if i < 3 then nI k else 0) else if j = 17 then (if i = 0 then t else 0) else s0 j i
theorem sT_role (k : Nat) (t : Int32) (i : Nat) : sT k t 10 i = 0 := by
  unfold sT
  rw [if_neg (by decide), if_neg (by decide)]
  exact s0_0 10 (by decide) i
theorem sT_gap (k : Nat) (t : Int32) {g : Nat} (hg : g < 3) : sT k t 7 g = nI k := by
  unfold sT
  rw [if_pos rfl, if_pos hg]
theorem sT_time (k : Nat) (t : Int32) : sT k t 17 0 = t := by
  unfold sT
  rw [if_neg (by decide), if_pos rfl, if_pos rfl]
theorem s0_sT : s0 = sT 0 0 := by
  funext j i
  unfold sT
  by_cases h7 : j = 7
  · subst h7
    rw [if_pos rfl, s0_0 7 (by decide)]
    by_cases hi : i < 3
    · rw [if_pos hi]; rfl
    · rw [if_neg hi]
  · rw [if_neg h7]
    by_cases h17 : j = 17
    · subst h17
      rw [if_pos rfl, s0_0 17 (by decide)]
      by_cases hi : i = 0
      · rw [if_pos hi]
      · rw [if_neg hi]
    · rw [if_neg h17]
theorem runM_out {σ : sC} (h : ∀ i, σ 10 i = 0) (g : Nat) : runM σ g = σ := by
  have h1 : ∀ r, turnM g r σ = σ := fun r => by
    unfold turnM
    rw [h, if_neg (by decide)]
  unfold runM
  rw [it_s4, h1, h1, h1, h1]
theorem runB_out {σ : sC} (h : ∀ i, σ 10 i = 0) (g : Nat) : runB σ g = σ := by
  have h1 : ∀ r, turnB g r σ = σ := fun r => by
    unfold turnB
    rw [h, if_neg (by decide)]
  unfold runB
  rw [it_s4, h1, h1, h1, h1]
theorem memW_out {σ : sC} (h : ∀ i, σ 10 i = 0) (role : Int32) (g : Nat) (hr : ¬ (0 : Int32) = role) : memW σ role g = 0 := by
  have h1 : ∀ r x, memS σ role g r x = x := fun r x => by
    unfold memS
    rw [h, if_neg hr]
  unfold memW
  rw [it_s4, h1, h1, h1, h1]
theorem groupT_out {σ : sC} (h : ∀ i, σ 10 i = 0) (g : Nat) : groupT g σ = up σ 7 g (σ 7 g + 1) := by
  unfold groupT
  rw [runM_out h, runB_out h]
  unfold gapF
  rw [if_pos (memW_out h 2 g (by decide))]
theorem up_out {σ : sC} (h : ∀ i, σ 10 i = 0) (g : Nat) (v : Int32) : ∀ i, (up σ 7 g v) 10 i = 0 := fun i => by
  rw [up_nk _ _ _ _ (by decide)]
  exact h i
theorem it_s3 {α : Type} (f : Nat → α → α) (x : α) : itF f x 3 = f 2 (f 1 (f 0 x)) := rfl
theorem tickT_sT (q k : Nat) (t : Int32) : tickT q (sT k t) = sT (k + 1) t := by
  have h0 := sT_role k t
  unfold tickT
  rw [it_s3, groupT_out h0]
  have h1 := up_out h0 0 (sT k t 7 0 + 1)
  rw [groupT_out h1]
  have h2 := up_out h1 1 ((up (sT k t) 7 0 (sT k t 7 0 + 1)) 7 1 + 1)
  rw [groupT_out h2]
  rw [up_ne _ _ _ _ (show (2 : Nat) ≠ 1 by decide), up_ne _ _ _ _ (show (2 : Nat) ≠ 0 by decide), up_ne _ _ _ _ (show (1 : Nat) ≠ 0 by decide)]
  rw [sT_gap k t (by decide), sT_gap k t (by decide), sT_gap k t (by decide), nI_1]
  funext j i
  by_cases h7 : j = 7
  · subst h7
    by_cases i2 : i = 2
    · subst i2; rw [up_eq, sT_gap _ _ (by decide)]
    · rw [up_ne _ _ _ _ i2]
      by_cases i1 : i = 1
      · subst i1; rw [up_eq, sT_gap _ _ (by decide)]
      · rw [up_ne _ _ _ _ i1]
        by_cases i0 : i = 0
        · subst i0; rw [up_eq, sT_gap _ _ (by decide)]
        · rw [up_ne _ _ _ _ i0]
          unfold sT
          rw [if_pos rfl, if_pos rfl, if_neg (by omega), if_neg (by omega)]
  · rw [up_nk _ _ _ _ h7, up_nk _ _ _ _ h7, up_nk _ _ _ _ h7]
    unfold sT
    rw [if_neg h7, if_neg h7]
theorem tickN_sT (k : Nat) (t : Int32) : ∀ n, itF tickT (sT k t) n = sT (k + n) t
  | 0 => rfl
  | n + 1 => by rw [it_s, tickN_sT k t n, tickT_sT]; rfl
theorem tickF_sT (k n : Nat) (t : Int32) : tickF (sT k t) n = sT (k + n) (t + nI n) := by
  unfold tickF
  rw [tickN_sT, sT_time]
  funext j i
  by_cases h17 : j = 17
  · subst h17
    by_cases i0 : i = 0
    · subst i0; rw [up_eq, sT_time]
    · rw [up_ne _ _ _ _ i0]
      unfold sT
      rw [if_neg (by decide), if_pos rfl, if_neg i0, if_neg (by decide), if_pos rfl, if_neg i0]
  · rw [up_nk _ _ _ _ h17]
    unfold sT
    by_cases h7 : j = 7
    · rw [if_pos h7, if_pos h7]
    · rw [if_neg h7, if_neg h7, if_neg h17, if_neg h17]
theorem tick30 : tickF s0 30 = sT 30 (nI 30) := by
  rw [s0_sT, tickF_sT]
  rfl
theorem tick_one (k : Nat) : tickF (sT k (nI k)) 1 = sT (k + 1) (nI (k + 1)) := by
  rw [tickF_sT, nI_add]
end
section
/-! ===== what the start gives ===== -/
theorem arr_K {args : Array Value} {s : State} {ty : FieldType} (h : (Cond.arrayClass ty).before args s = true) : ∃ c : ClassId, ArrOfT s c ty ∧ s.vm.findClass ("[" ++ ty.toString) = some c := by
  obtain ⟨cB, kB, comp, hcB, hkB, hkind⟩ := Cond.arrayClass_spec h
  exact ⟨cB, fun n z => ⟨fun k h => (by cases h), kB, hkB, comp, hkind⟩, hcB⟩
theorem tb_mem {i : Nat} {w : Cond} (h : tables_1[i]? = some w) : w ∈ lw_tbl := List.mem_append_right _ (List.mem_of_getElem? h)
theorem str_start {args : Array Value} {s : State} {k : Nat} {tx : String} (h1 : (Cond.stringRef RX0 k tx).before args s = true) (h2 : (Cond.exactly (.string RX0 k) "java/lang/String").before args s = true) : ∃ a : Nat, vk_R RX0 k tx a s := by
  obtain ⟨a, c, cell, k9, q1, -⟩ := Cond.exactly_spec h2
  exact ⟨a, vk_R.of h1 q1⟩
set_option maxRecDepth 100000 in
theorem ZT_start {args : Array Value} {s : State} (hts : ∀ w ∈ lw_tbl, w.before args s = true) (hgv : (Jvm.Cond.and given_1 narrow_1).before args s = true) : ZT (fun q => s.heap.size ≤ q) s s.heap := by
  have hs := flat_of_before _ hgv
  refine ⟨?_, ?_, ?_, ?_, ?_⟩
  · exact vx_Zqof (hts _ (tb_mem (i := 107) (by decide +kernel))) (hts _ (tb_mem (i := 2) (by decide +kernel))) (hs _ (by decide +kernel)) (fun a h => Nat.not_le.mpr h)
  · exact vx_Zqof (hts _ (tb_mem (i := 109) (by decide +kernel))) (hts _ (tb_mem (i := 2) (by decide +kernel))) (hs _ (by decide +kernel)) (fun a h => Nat.not_le.mpr h)
  · intro k q hk
    match k, hk with
    | 0, hk => cases hk; exact str_start (hts _ (tb_mem (i := 225) (by decide +kernel))) (hs _ (by decide +kernel))
    | 1, hk => cases hk; exact str_start (hts _ (tb_mem (i := 229) (by decide +kernel))) (hs _ (by decide +kernel))
    | 2, hk => cases hk; exact str_start (hts _ (tb_mem (i := 245) (by decide +kernel))) (hs _ (by decide +kernel))
    | 3, hk => cases hk; exact str_start (hts _ (tb_mem (i := 120) (by decide +kernel))) (hs _ (by decide +kernel))
    | 4, hk => cases hk; exact str_start (hts _ (tb_mem (i := 274) (by decide +kernel))) (hs _ (by decide +kernel))
    | 5, hk => cases hk; exact str_start (hts _ (tb_mem (i := 292) (by decide +kernel))) (hs _ (by decide +kernel))
    | 6, hk => cases hk; exact str_start (hts _ (tb_mem (i := 306) (by decide +kernel))) (hs _ (by decide +kernel))
    | 7, hk => cases hk; exact str_start (hts _ (tb_mem (i := 314) (by decide +kernel))) (hs _ (by decide +kernel))
    | 8, hk => cases hk; exact str_start (hts _ (tb_mem (i := 355) (by decide +kernel))) (hs _ (by decide +kernel))
    | k + 9, hk => simp [lw_str] at hk
  · intro w hw
    simp only [zzW, List.mem_cons, List.not_mem_nil, or_false] at hw
    rcases hw with rfl | rfl | rfl | rfl | rfl
    · exact va_Nw.of rfl (hts _ (tb_mem (i := 84) (by decide +kernel)))
    · exact va_Nw.of rfl (hts _ (tb_mem (i := 86) (by decide +kernel)))
    · exact va_Nw.of rfl (hts _ (tb_mem (i := 88) (by decide +kernel)))
    · exact va_Nw.of rfl (hts _ (tb_mem (i := 82) (by decide +kernel)))
    · exact va_Nw.of rfl (hts _ (tb_mem (i := 285) (by decide +kernel)))
  · exact va_Nc.of (hs _ (by decide +kernel))
theorem no_traces {l : Launch} (h : l.flags = flags0) : l.stackTraces = false := by
  unfold Launch.stackTraces
  rw [h]
  decide +kernel
/-- the class and the array classes, at the start -/
theorem K_start {args : Array Value} {s : State} (hts : ∀ w ∈ lw_tbl, w.before args s = true) : ∃ (D : va_G) (cZ cI : ClassId), va_K D vwCl (tyZ cZ cI) s := by
  obtain ⟨k0, iS0, hKn0⟩ := u_known (C := RX0) (T := TX0) (N := 18) (n := 18) hts inX0 (hts _ (tb_mem (i := 9) (by decide +kernel)))
  obtain ⟨cZ, z1, z2⟩ := arr_K (hts _ (tb_mem (i := 71) (w := .arrayClass .boolean) (by decide +kernel)))
  obtain ⟨cI, i1, i2⟩ := arr_K (hts _ (tb_mem (i := 72) (w := .arrayClass .int) (by decide +kernel)))
  refine ⟨(fun _ => k0, fun _ => iS0), cZ, cI, ?_, ?_⟩
  · intro k q hq
    match k, hq with
    | 0, hq => cases hq; exact hKn0
    | k + 1, hq => simp [vwCl] at hq
  · intro k q hq
    match k, hq with
    | 0, hq => cases hq; exact ⟨z1, z2⟩
    | 1, hq => cases hq; exact ⟨i1, i2⟩
    | k + 2, hq => simp at hq
end
section
/-! ===== the law at ninety nines (each a refused die), from its entry to its end, in a room that holds it: it answers 1, and at least 2544 cells are new ===== -/
abbrev R2 : Room := { frames := 12, cells := 2700, slots := 16200, locals := 440 }
def lf_C : Array Value → State → Outcome → State → Prop := fun _ s o t => o = .returned (some (.int 1)) ∧ s.heap.size + 2544 ≤ t.heap.size
abbrev lf_Q (below : List Frame) (args : Array Value) (s : State) : State → Prop := MQ below lf_C args s 2668 16110 (fun q => s.heap.size ≤ q)
theorem lf_ret {p : Program} {l : Launch} {e : Env} {s : State} {m : MethodId} {below : List Frame} {meth : Method} {c : Code} {args : Array Value} (hx : p.tables.exec = Jvm.exec) (hb : c.code = cL_law) (hr : meth.sig.returnType = ret) (hlocks : meth.locks = false) {pc : Nat} {H : Heap} {locs : List Loc} {ls : Array Slot} (hg : s.heap.size + 2544 ≤ H.size) (hf : ∀ q ∈ locs, s.heap.size ≤ q.base) (hdg : decode cL_law pc = .ok (.ireturn, 1)) : W p l e R2 s m args below meth c H locs 2668 16110 (lf_Q below args s) (F0 m pc ls [.int 1]) :=
  W.zret (v := 1) (ty := .boolean) hx hb hr rfl (fun t ht hW => ⟨rfl, by rw [ht]; exact hg⟩) hf hdg
theorem rem3 {k : Nat} (h : k < 90) : nI k - nI k / 3 * 3 = nI (k % 3) := (by decide +kernel : ∀ k, k < 90 → nI k - nI k / 3 * 3 = nI (k % 3)) k h
section BQ
variable {p : Program} {l : Launch} {e : Env} {R : Room} {s : State} {m : MethodId} {args : Array Value} {below : List Frame} {meth : Method} {c : Code} {H : Heap} {locs : List Loc} {cells slots : Nat} {Q : State → Prop}
variable {cc : ByteArray} {nL pc : Nat} {ls : Array Slot} {rest : List Value} {Ts : List Cond} {own : String} {D : va_G} {A : Nat → Prop} {H0 : Heap} {ws w2 : va_W} {tyc : List (ClassId × FieldType)}
theorem bl_new (S : CallFix p m c cc nL s args Ts own) (hK : va_K D vwCl tyc s) (hw : Wd D A H0 ws H locs) {C : String} {T : u_T} {N ci index : Nat} (hin : ∀ w ∈ u_ws C T N, w ∈ Ts) (ty : Nat → FieldType) (hty : ∀ k, k < N → parseFieldDescriptor (T k).2.2.1 = some (ty k)) (hcl : Cond.classLink own index C ∈ Ts) (hinst : Cond.instantiable C N ∈ Ts) (hini : Cond.initialized C ∈ Ts) (hc : vwCl[ci]? = some (C, T, N)) {fs : List Value} (hfs : ∀ j, j < N → defaultValue (ty j) = vp_V fs j) (hcells : cells + 1 ≤ R.cells) (hslots : slots + N ≤ R.slots) (hdg : decode cc pc = .ok (.new index, 3))
    (kk : ∀ (q : Nat) (H1 : Heap), Wd D A H0 (ws ++ [(q, .inr (ci, fs))]) H1 locs → W p l e R s m args below meth c H1 locs (cells + 1) (slots + N) Q (F0 m (pc + 3) ls (.ref q :: rest))) : W p l e R s m args below meth c H locs cells slots Q (F0 m pc ls rest) := by
  refine va_new S.1 S.2.1 S.2.2.2.2 hin ty hty S.2.2.2.1 (S.2.2.2.2 _ hcl) (S.2.2.2.2 _ hinst) (S.2.2.2.2 _ hini) hK hw.1 hw.2.1 hw.2.2.1 hw.2.2.2 hc hfs hcells hslots hdg (fun q H1 hP hD hS => ?_)
  exact kk q H1 ⟨hP, hD, hS, hw.2.2.2⟩
theorem bl_ctor {y : MethodName} {bytes : ByteArray} {maxL index mc ms : Nat} {wsl : List Cond} {rm : Room} {ci : Nat} {f0 : List Value} {ω : (Nat → Nat) → va_W} {h0 : Nat} (S : CallFix p m c cc nL s args Ts own) (hK : va_K D vwCl tyc s) (hw : Wd D A H0 ([(h0, .inr (ci, f0))] ++ w2) H locs) (hM : MC l y wsl rm D tyc ci f0 mc ms ω) (cw : CallB R s args own index y bytes maxL none wsl rm mc ms 0 ∧ y.name = "<init>" ∧ (Cond.instanceMethod y).before args s = true) (hl : ls.size = nL) (hr : (rest.map fun v => v.category).sum ≤ 8) (hcl : cells + mc ≤ R.cells) (hsl : slots + ms ≤ R.slots) (hdg : decode cc pc = .ok (.invokespecial index, 3))
    (kk : ∀ (a : Nat → Nat) (H1 : Heap) (locs1 : List Loc), a 0 = h0 → Wd D A H0 (ω a ++ w2) H1 locs1 → W p l e R s m args below meth c H1 locs1 (cells + mc) (slots + ms) Q (F0 m (pc + 3) ls rest)) : W p l e R s m args below meth c H locs cells slots Q (F0 m pc ls (.ref h0 :: rest)) := by
  have hF := hw.cov1
  refine va_callv (va_runI (As := []) (rest := rest) S (hM h0 H.size) cw ⟨MPre.blind, fun U hU hW => ⟨rfl, by rw [hU], by rw [hU]; exact Pl hw.1, va_K.moved hW.alike hK, (Dl hw.2.1).weaken (fun _ _ _ _ => trivial)⟩⟩ rfl rfl hl rfl (lv_room hr) hdg ⟨hcl, hsl⟩) hw.2.2.1 (fun q _ h => hF q h) hF (fun u t H1 locs1 ht hvm hp hB hz1 hk1 hS => ?_)
  rw [ht] at hB
  exact kk u H1 locs1 hp (hw.join1 hk1 hS hB.1 hB.2)
end BQ
set_option maxHeartbeats 4000000 in
set_option maxRecDepth 100000 in
theorem lf_ticks (l : Launch) (hfl : l.stackTraces = false) {p : Program} {e : Env} {s : State} {m : MethodId} {below : List Frame} {meth : Method} {c : Code} {D : va_G} {cZ cI : ClassId} {a b : Nat → Nat} {bs : Nat} (S : CallFix p m c cL_law 7 s #[Value.ref bs] wsL_law RL) (hK : va_K D vwCl (tyZ cZ cI) s) (hZ : ZT (fun q => s.heap.size ≤ q) s s.heap) (hr : meth.sig.returnType = ret) (hlocks : meth.locks = false) :
    ∀ (n k : Nat), k + n = 30 → ∀ (H : Heap) (locs : List Loc), Wd D (fun q => s.heap.size ≤ q) s.heap (wX cZ cI a (sT 30 (nI 30)) ++ wX cZ cI b (sT k (nI k))) H locs → s.heap.size + 2520 ≤ H.size → ∀ ls : Array Slot, lv_has ls 7 [(0, .ref bs), (1, .ref (a 0)), (2, .ref (b 0)), (3, .int (nI k)), (4, .int (nI 30)), (5, .int (nI k))] → W p l e R2 s m #[Value.ref bs] below meth c H locs 2644 15966 (lf_Q below #[Value.ref bs] s) (F0 m 124 ls []) := by
  intro n
  induction n with
  | zero =>
    intro k hk H locs hw hg ls hl
    obtain rfl : k = 30 := by omega
    refine lv_iload S.1 S.2.1 dL_law_124 (lv_at hl 5 rfl) ?_
    refine lv_bipush (v := nI 30) S.1 S.2.1 dL_law_126 (by decide) ?_
    refine br_ge (tgt := 143) S dL_law_128 (by decide) (fun c128 => ?_) (fun c128 => ?_)
    rotate_left
    · exact absurd c128 (nlt_nI (by decide))
    refine lv_iload_n S.1 S.2.1 dL_law_143 rfl (lv_at hl 3 rfl) ?_
    refine lv_iload S.1 S.2.1 dL_law_144 (lv_at hl 4 rfl) ?_
    refine br_ne (tgt := 161) S dL_law_146 (by decide) (fun c146 => ?_) (fun c146 => ?_)
    · exact absurd c146 (not_not_intro rfl)
    refine lv_aload_n S.1 S.2.1 dL_law_149 rfl (lv_at hl 1 rfl) ?_
    refine lv_aload_n S.1 S.2.1 dL_law_150 rfl (lv_at hl 2 rfl) ?_
    refine bm_sr (w2 := []) (As := [.ref (a 0), .ref (b 0)]) (rest := []) S hK hZ hw.nil (kL_areAlike l hfl D cZ cI a b (sT 30 (nI 30)) (fun r g _ _ => sT_role 30 (nI 30) (4 * g + r))) (va_cwS 2 S.2.2.2.2 gL_law_L_areAlike rfl rfl rfl (by decide +kernel) ⟨Nat.le_of_ble_eq_true rfl, Nat.le_of_ble_eq_true rfl⟩) rfl hl.1 rfl (Nat.le_of_ble_eq_true rfl) (by decide) (by decide) dL_law_151 (fun H locs hw hg1 => ?_)
    replace hw := Wd.unnil hw
    replace hg := Nat.le_trans (Nat.add_le_add_right hg 24) hg1
    refine bz_eq (tgt := 161) S dL_law_154 (by decide) (fun c154 => ?_) (fun c154 => ?_)
    · exact absurd c154 (by decide)
    refine lv_iconst (v := 1) S.1 S.2.1 dL_law_157 (by decide) ?_
    refine lv_goto (tgt := 162) S.1 S.2.1 dL_law_158 (by decide) ?_
    exact lf_ret S.1 S.2.1 hr hlocks (by omega) hw.2.2.1.2.2 dL_law_162
  | succ n ih =>
    intro k hk H locs hw hg ls hl
    have hk30 : k < 30 := by omega
    refine lv_iload S.1 S.2.1 dL_law_124 (lv_at hl 5 rfl) ?_
    refine lv_bipush (v := nI 30) S.1 S.2.1 dL_law_126 (by decide) ?_
    refine br_ge (tgt := 143) S dL_law_128 (by decide) (fun c128 => ?_) (fun c128 => ?_)
    · exact absurd c128 (not_not_intro (lt_nI hk30 (by decide)))
    refine lv_aload_n S.1 S.2.1 dL_law_131 rfl (lv_at hl 2 rfl) ?_
    refine lv_iconst (v := nI 1) S.1 S.2.1 dL_law_132 (by decide) ?_
    refine bm_wi (As := [.int (nI 1)]) (rest := []) S hK hw (kX0_tick l D cZ cI b (sT k (nI k)) (nt := 1) (by decide) (by decide +kernel) (by decide +kernel)) (cwV 1 S.2.2.2.2 gL_law_X0_tick rfl rfl rfl (by decide +kernel) ⟨Nat.le_of_ble_eq_true rfl, Nat.le_of_ble_eq_true rfl⟩) (q0 := 0) rfl rfl rfl hl.1 rfl (Nat.le_of_ble_eq_true rfl) (by show _ ≤ 2700; omega) (by show _ ≤ 16200; omega) dL_law_133 (fun H locs hw hg1 => ?_)
    replace hg := Nat.le_trans hg hg1
    rw [tick_one] at hw
    refine bx_top (y := nI (k + 1)) (by rw [tick_one]; exact sT_time _ _) ?_
    refine lv_istore_n (lv' := [(3, .int (nI (k + 1))), (0, .ref bs), (1, .ref (a 0)), (2, .ref (b 0)), (4, .int (nI 30)), (5, .int (nI k))]) S.1 S.2.1 dL_law_136 rfl hl (by decide) rfl (fun ls hl => ?_)
    refine lv_iinc (v := nI (k + 1)) (lv' := [(5, .int (nI (k + 1))), (3, .int (nI (k + 1))), (0, .ref bs), (1, .ref (a 0)), (2, .ref (b 0)), (4, .int (nI 30))]) S.1 S.2.1 dL_law_137 hl (k := 5) rfl (nI_1 k) (by decide) rfl (fun ls hl => ?_)
    refine lv_goto (tgt := 124) S.1 S.2.1 dL_law_140 (by decide) ?_
    exact ih (k + 1) (by omega) _ _ hw hg _ (lv_sub hl [2, 3, 4, 1, 5, 0] rfl)
set_option maxHeartbeats 4000000 in
set_option maxRecDepth 100000 in
theorem lf_loop (l : Launch) (hfl : l.stackTraces = false) {p : Program} {e : Env} {s : State} {m : MethodId} {below : List Frame} {meth : Method} {c : Code} {D : va_G} {cZ cI : ClassId} {a b : Nat → Nat} {bs L : Nat} {xs : Nat → Int32} (S : CallFix p m c cL_law 7 s #[Value.ref bs] wsL_law RL) (hK : va_K D vwCl (tyZ cZ cI) s) (hZ : ZT (fun q => s.heap.size ≤ q) s s.heap) (hX : va_X bs L xs s s.heap) (hbl : bs < s.heap.size) (hL : 90 ≤ L) (hL2 : L < 100) (hxs : ∀ j, j < L → xs j = 9) (hr : meth.sig.returnType = ret) (hlocks : meth.locks = false) :
    ∀ (n k : Nat), k + n = 90 → ∀ (H : Heap) (locs : List Loc), Wd D (fun q => s.heap.size ≤ q) s.heap (wX cZ cI a s0 ++ wX cZ cI b s0) H locs → s.heap.size + 28 * k ≤ H.size → ∀ ls : Array Slot, lv_has ls 7 [(0, .ref bs), (1, .ref (a 0)), (2, .ref (b 0)), (3, .int 0), (4, .int (nI k))] → W p l e R2 s m #[Value.ref bs] below meth c H locs (34 + 29 * k) (306 + 174 * k) (lf_Q below #[Value.ref bs] s) (F0 m 21 ls []) := by
  intro n
  induction n with
  | zero =>
    intro k hk H locs hw hg ls hl
    obtain rfl : k = 90 := by omega
    refine lv_iload S.1 S.2.1 dL_law_21 (lv_at hl 4 rfl) ?_
    refine lv_bipush (v := nI 90) S.1 S.2.1 dL_law_23 (by decide) ?_
    refine br_ge (tgt := 113) S dL_law_25 (by decide) (fun c25 => ?_) (fun c25 => ?_)
    rotate_left
    · exact absurd c25 (nlt_nI (by decide))
    refine lv_aload_n S.1 S.2.1 dL_law_113 rfl (lv_at hl 1 rfl) ?_
    refine lv_bipush (v := nI 30) S.1 S.2.1 dL_law_114 (by decide) ?_
    refine bm_vi (As := [.int (nI 30)]) (rest := []) S hK hw (kX0_tick l D cZ cI a s0 (nt := 30) (by decide) (by decide +kernel) (by decide +kernel)) (cwV 1 S.2.2.2.2 gL_law_X0_tick rfl rfl rfl (by decide +kernel) ⟨Nat.le_of_ble_eq_true rfl, Nat.le_of_ble_eq_true rfl⟩) (q0 := 0) rfl rfl rfl hl.1 rfl (Nat.le_of_ble_eq_true rfl) (by show _ ≤ 2700; omega) (by show _ ≤ 16200; omega) dL_law_116 (fun H locs hw hg1 => ?_)
    replace hg := Nat.le_trans hg hg1
    rw [tick30] at hw
    refine bx_top (y := nI 30) (by rw [tick30]; exact sT_time _ _) ?_
    refine lv_istore (lv' := [(4, .int (nI 30)), (0, .ref bs), (1, .ref (a 0)), (2, .ref (b 0)), (3, .int 0)]) S.1 S.2.1 dL_law_119 hl (by decide) rfl (fun ls hl => ?_)
    refine lv_iconst (v := nI 0) S.1 S.2.1 dL_law_121 (by decide) ?_
    refine lv_istore (lv' := [(5, .int (nI 0)), (4, .int (nI 30)), (0, .ref bs), (1, .ref (a 0)), (2, .ref (b 0)), (3, .int 0)]) S.1 S.2.1 dL_law_122 hl (by decide) rfl (fun ls hl => ?_)
    rw [s0_sT] at hw
    exact lf_ticks l hfl S hK hZ hr hlocks 30 0 rfl _ _ hw hg _ (lv_sub hl [2, 3, 4, 5, 1, 0] rfl)
  | succ n ih =>
    intro k hk H locs hw hg ls hl
    have hk90 : k < 90 := by omega
    refine lv_iload S.1 S.2.1 dL_law_21 (lv_at hl 4 rfl) ?_
    refine lv_bipush (v := nI 90) S.1 S.2.1 dL_law_23 (by decide) ?_
    refine br_ge (tgt := 113) S dL_law_25 (by decide) (fun c25 => ?_) (fun c25 => ?_)
    · exact absurd c25 (not_not_intro (lt_nI hk90 (by decide)))
    refine lv_aload_n S.1 S.2.1 dL_law_28 rfl (lv_at hl 0 rfl) ?_
    refine lv_iload S.1 S.2.1 dL_law_29 (lv_at hl 4 rfl) ?_
    refine bm_sx (rest := []) S hX hbl (Nat.not_le.mpr hbl) hw (kL_cell l (bs := bs) (xs := xs) (i := k) (by omega) hL2) (va_cwS 2 S.2.2.2.2 gL_law_L_cell rfl rfl rfl (by decide +kernel) ⟨Nat.le_of_ble_eq_true rfl, Nat.le_of_ble_eq_true rfl⟩) rfl hl.1 rfl (Nat.le_of_ble_eq_true rfl) (by show _ ≤ 2700; omega) (by show _ ≤ 16200; omega) dL_law_31 (fun H locs hw hg1 => ?_)
    replace hg := Nat.le_trans hg hg1
    refine bx_top (y := 9) (hxs k (by omega)) ?_
    refine lv_istore (lv' := [(5, .int 9), (0, .ref bs), (1, .ref (a 0)), (2, .ref (b 0)), (3, .int 0), (4, .int (nI k))]) S.1 S.2.1 dL_law_34 hl (by decide) rfl (fun ls hl => ?_)
    refine lv_aload_n S.1 S.2.1 dL_law_36 rfl (lv_at hl 2 rfl) ?_
    refine lv_iload S.1 S.2.1 dL_law_37 (lv_at hl 0 rfl) ?_
    refine bm_sr (As := [.ref (a 0), .int 9]) (rest := []) S hK hZ hw (kL_act9 l hfl D cZ cI a) (va_cwS 2 S.2.2.2.2 gL_law_L_act rfl rfl rfl (by decide +kernel) ⟨Nat.le_of_ble_eq_true rfl, Nat.le_of_ble_eq_true rfl⟩) rfl hl.1 rfl (Nat.le_of_ble_eq_true rfl) (by show _ ≤ 2700; omega) (by show _ ≤ 16200; omega) dL_law_39 (fun H locs hw hg1 => ?_)
    replace hg := Nat.le_trans hg hg1
    refine lv_istore (lv' := [(6, .int (-99999)), (5, .int 9), (0, .ref bs), (1, .ref (a 0)), (2, .ref (b 0)), (3, .int 0), (4, .int (nI k))]) S.1 S.2.1 dL_law_42 hl (by decide) rfl (fun ls hl => ?_)
    refine lv_iload S.1 S.2.1 dL_law_44 (lv_at hl 0 rfl) ?_
    refine lv_ldc S.1 S.2.1 S.2.2.2.1 (S.2.2.2.2 (.constant RL 16 (-99999)) (List.mem_of_getElem? (i := 3) rfl)) dL_law_46 ?_
    refine br_eq (tgt := 62) S dL_law_48 (by decide) (fun c48 => ?_) (fun c48 => ?_)
    rotate_left
    · exact absurd rfl c48
    refine lv_aload_n S.1 S.2.1 dL_law_62 rfl (lv_at hl 3 rfl) ?_
    refine lv_aload_n S.1 S.2.1 dL_law_63 rfl (lv_at hl 4 rfl) ?_
    refine bm_sr (w2 := []) (As := [.ref (a 0), .ref (b 0)]) (rest := []) S hK hZ hw.nil (kL_areAlike l hfl D cZ cI a b s0 (fun r g _ _ => s0_0 10 (by decide) (4 * g + r))) (va_cwS 2 S.2.2.2.2 gL_law_L_areAlike rfl rfl rfl (by decide +kernel) ⟨Nat.le_of_ble_eq_true rfl, Nat.le_of_ble_eq_true rfl⟩) rfl hl.1 rfl (Nat.le_of_ble_eq_true rfl) (by show _ ≤ 2700; omega) (by show _ ≤ 16200; omega) dL_law_64 (fun H locs hw hg1 => ?_)
    replace hw := Wd.unnil hw
    replace hg := Nat.le_trans (Nat.add_le_add_right hg 24) hg1
    refine bz_eq (tgt := 81) S dL_law_67 (by decide) (fun c67 => ?_) (fun c67 => ?_)
    · exact absurd c67 (by decide)
    refine lv_aload_n S.1 S.2.1 dL_law_70 rfl (lv_at hl 3 rfl) ?_
    refine lv_iload S.1 S.2.1 dL_law_71 (lv_at hl 6 rfl) ?_
    refine lv_iconst (v := 3) S.1 S.2.1 dL_law_73 (by decide) ?_
    refine lv_irem S.1 S.2.1 dL_law_74 (by decide) ?_
    refine bx_top (y := nI (k % 3)) (rem3 hk90) ?_
    refine bm_sr (As := [.ref (a 0), .int (nI (k % 3))]) (rest := []) S hK hZ hw (kL_isGroupSo l hfl D cZ cI a (g := k % 3) (Nat.mod_lt _ (by decide))) (va_cwS 2 S.2.2.2.2 gL_law_L_isGroupSo rfl rfl rfl (by decide +kernel) ⟨Nat.le_of_ble_eq_true rfl, Nat.le_of_ble_eq_true rfl⟩) rfl hl.1 rfl (Nat.le_of_ble_eq_true rfl) (by show _ ≤ 2700; omega) (by show _ ≤ 16200; omega) dL_law_75 (fun H locs hw hg1 => ?_)
    replace hg := Nat.le_trans (Nat.add_le_add_right hg 4) hg1
    refine bz_ne (tgt := 83) S dL_law_78 (by decide) (fun c78 => ?_) (fun c78 => ?_)
    rotate_left
    · exact absurd c78 (by decide)
    refine lv_iload S.1 S.2.1 dL_law_83 (lv_at hl 0 rfl) ?_
    refine bz_le (tgt := 105) S dL_law_85 (by decide) (fun c85 => ?_) (fun c85 => ?_)
    rotate_left
    · exact absurd c85 (by decide)
    refine lv_iload_n S.1 S.2.1 dL_law_105 rfl (lv_at hl 5 rfl) ?_
    refine lv_istore_n (lv' := [(3, .int 0), (6, .int (-99999)), (5, .int 9), (0, .ref bs), (1, .ref (a 0)), (2, .ref (b 0)), (4, .int (nI k))]) S.1 S.2.1 dL_law_106 rfl hl (by decide) rfl (fun ls hl => ?_)
    refine lv_iinc (v := nI (k + 1)) (lv' := [(4, .int (nI (k + 1))), (3, .int 0), (6, .int (-99999)), (5, .int 9), (0, .ref bs), (1, .ref (a 0)), (2, .ref (b 0))]) S.1 S.2.1 dL_law_107 hl (k := 6) rfl (nI_1 k) (by decide) rfl (fun ls hl => ?_)
    refine lv_goto (tgt := 21) S.1 S.2.1 dL_law_110 (by decide) ?_
    refine W.widen (k := 34 + 29 * (k + 1)) (n := 306 + 174 * (k + 1)) (by omega) (by omega) ?_
    exact ih (k + 1) (by omega) _ _ hw (by omega) _ (lv_sub hl [4, 5, 6, 1, 0] rfl)
set_option maxHeartbeats 4000000 in
set_option maxRecDepth 100000 in
theorem lf_start {p : Program} {e : Env} {s : State} {m : MethodId} {below : List Frame} {meth : Method} {c : Code} (l : Launch) (hflags : l.flags = flags0) {bs L : Nat} {xs : Nat → Int32} (hL : 90 ≤ L) (hL2 : L < 100) (hxs : ∀ j, j < L → xs j = 9) (hx : p.tables.exec = Jvm.exec) (hb : c.code = code) (hr : meth.sig.returnType = ret) (hml : c.maxLocals = 7) (hown : s.vm.findClass RL = some m.cls) (hts : ∀ w ∈ lw_tbl, w.before #[Value.ref bs] s = true) (hX : va_X bs L xs s s.heap) (hbl : bs < s.heap.size) (hlocks : meth.locks = false) (hgv : (Jvm.Cond.and given_1 narrow_1).before #[Value.ref bs] s = true) : W p l e R2 s m #[Value.ref bs] below meth c s.heap [] 0 0 (lf_Q below #[Value.ref bs] s) (entryFrame m ([Value.ref bs] : List Value).toArray 7) := by
  obtain ⟨D, cZ, cI, hK⟩ := K_start hts
  have hZ := ZT_start hts hgv
  have hfl := no_traces hflags
  have S : CallFix p m c cL_law 7 s #[Value.ref bs] wsL_law RL := ⟨hx, hb, hml, hown, fun w h => hts w (wsL_law_in w h)⟩
  have hw : Wd D (fun q => s.heap.size ≤ q) s.heap [] s.heap [] := ⟨va_P_nil, va_D_nil, va_S.rf, fun _ h => h⟩
  have hl := lv_entry ([.ref bs]) (n := 7) (Nat.le_of_ble_eq_true rfl)
  rw [lg_entry_eq]
  generalize (lg_sl ([.ref bs]) ++ List.replicate (7 - (lg_sl ([.ref bs])).length) Slot.unset).toArray = ls at hl ⊢
  replace hl : lv_has ls 7 [(0, .ref bs)] := hl
  refine bl_new (ci := 0) (fs := [.null, .null, .null, .null, .null, .null, .null, .null, .null, .null, .null, .null, .null, .null, .null, .null, .int 0, .int 0]) (C := RX0) (T := TX0) (N := 18) S hK hw inlX0 tyX0 tyX0_ok (List.mem_of_getElem? (i := 0) rfl) (List.mem_of_getElem? (i := 1) rfl) (List.mem_of_getElem? (i := 2) rfl) rfl (by decide +kernel) (by decide) (by decide) dL_law_0 (fun q0 H hw => ?_)
  refine lv_dup S.1 S.2.1 dL_law_3 rfl ?_
  replace hw : Wd D (fun q => s.heap.size ≤ q) s.heap ([(q0, .inr (0, [.null, .null, .null, .null, .null, .null, .null, .null, .null, .null, .null, .null, .null, .null, .null, .null, .int 0, .int 0]))] ++ []) H _ := hw
  refine bl_ctor (rest := [.ref q0]) (w2 := []) S hK hw (kX0_init l D cZ cI) (cwI 0 S.2.2.2.2 gL_law_X0_init rfl rfl rfl (S.2.2.2.2 (.initialized RX0) (List.mem_of_getElem? (i := 2) rfl)) (S.2.2.2.2 (.methodLink RL 120 yX0_init) (List.mem_of_getElem? (i := 4) rfl)) (S.2.2.2.2 (.instanceMethod yX0_init) (List.mem_of_getElem? (i := 5) rfl)) rfl (by decide +kernel) ⟨Nat.le_of_ble_eq_true rfl, Nat.le_of_ble_eq_true rfl⟩) hl.1 (Nat.le_of_ble_eq_true rfl) (by decide) (by decide) dL_law_4 (fun a H locs haq hwx => ?_)
  subst haq
  have hw := Wd.unnil hwx
  refine lv_astore_n (lv' := [(1, .ref (a 0)), (0, .ref bs)]) S.1 S.2.1 dL_law_7 rfl hl (by decide) rfl (fun ls hl => ?_)
  refine bl_new (ci := 0) (fs := [.null, .null, .null, .null, .null, .null, .null, .null, .null, .null, .null, .null, .null, .null, .null, .null, .int 0, .int 0]) (C := RX0) (T := TX0) (N := 18) S hK hw inlX0 tyX0 tyX0_ok (List.mem_of_getElem? (i := 0) rfl) (List.mem_of_getElem? (i := 1) rfl) (List.mem_of_getElem? (i := 2) rfl) rfl (by decide +kernel) (by decide) (by decide) dL_law_8 (fun q1 H hw => ?_)
  refine lv_dup S.1 S.2.1 dL_law_11 rfl ?_
  refine bl_ctor (rest := [.ref q1]) S hK hw.swap (kX0_init l D cZ cI) (cwI 0 S.2.2.2.2 gL_law_X0_init rfl rfl rfl (S.2.2.2.2 (.initialized RX0) (List.mem_of_getElem? (i := 2) rfl)) (S.2.2.2.2 (.methodLink RL 120 yX0_init) (List.mem_of_getElem? (i := 4) rfl)) (S.2.2.2.2 (.instanceMethod yX0_init) (List.mem_of_getElem? (i := 5) rfl)) rfl (by decide +kernel) ⟨Nat.le_of_ble_eq_true rfl, Nat.le_of_ble_eq_true rfl⟩) hl.1 (Nat.le_of_ble_eq_true rfl) (by decide) (by decide) dL_law_12 (fun b H locs hbq hwx => ?_)
  subst hbq
  have hw := Wd.swap (Wd.unnil (Wd.nil hwx))
  refine lv_astore_n (lv' := [(2, .ref (b 0)), (1, .ref (a 0)), (0, .ref bs)]) S.1 S.2.1 dL_law_15 rfl hl (by decide) rfl (fun ls hl => ?_)
  refine lv_iconst (v := 0) S.1 S.2.1 dL_law_16 (by decide) ?_
  refine lv_istore_n (lv' := [(3, .int 0), (2, .ref (b 0)), (1, .ref (a 0)), (0, .ref bs)]) S.1 S.2.1 dL_law_17 rfl hl (by decide) rfl (fun ls hl => ?_)
  refine lv_iconst (v := nI 0) S.1 S.2.1 dL_law_18 (by decide) ?_
  refine lv_istore (lv' := [(4, .int (nI 0)), (3, .int 0), (2, .ref (b 0)), (1, .ref (a 0)), (0, .ref bs)]) S.1 S.2.1 dL_law_19 hl (by decide) rfl (fun ls hl => ?_)
  refine W.widen (k := 34 + 29 * 0) (n := 306 + 174 * 0) (by decide) (by decide) ?_
  exact lf_loop l hfl S hK hZ hX hbl hL hL2 hxs hr hlocks 90 0 rfl _ _ hw hw.2.2.1.1 _ (lv_sub hl [4, 3, 2, 1, 0] rfl)
end
section
/-! ===== a start: the printed witness's, its script ninety nines; what the statement says there is false ===== -/
def nines : Array Value := (List.replicate 90 (Value.int 9)).toArray
def s9 : State := start1.aboutOf nines
theorem code_vm {y : MethodName} {bc : ByteArray} {n : Nat} {r : Option FieldType} {a : Array Value} {s s' : State} (h : s.vm = s'.vm) (hb : (Cond.code y bc n r).before a s = true) : (Cond.code y bc n r).before a s' = true := by
  have e : (Cond.code y bc n r).before a s' = (Cond.code y bc n r).before a s := by
    simp [Cond.before, Cond.holds, Cond.value, State.methodNamed?, h]
  rw [e]; exact hb
theorem s9_codes_1 : ∀ c ∈ tables_1_1.filter su_isCode, c.before start1.args0 s9 = true := by
  rw [start1.codes_are_1]
  exact List.forall_mem_cons.mpr ⟨code_vm rfl start1.code0, List.forall_mem_cons.mpr ⟨code_vm rfl start1.code1, List.forall_mem_cons.mpr ⟨code_vm rfl start1.code2, List.forall_mem_cons.mpr ⟨code_vm rfl start1.code3, List.forall_mem_cons.mpr ⟨code_vm rfl start1.code4, List.forall_mem_cons.mpr ⟨code_vm rfl start1.code5, List.forall_mem_cons.mpr ⟨code_vm rfl start1.code6, List.forall_mem_cons.mpr ⟨code_vm rfl start1.code7, List.forall_mem_cons.mpr ⟨code_vm rfl start1.code8, List.forall_mem_cons.mpr ⟨code_vm rfl start1.code9, List.forall_mem_cons.mpr ⟨code_vm rfl start1.code10, List.forall_mem_cons.mpr ⟨code_vm rfl start1.code11, List.forall_mem_cons.mpr ⟨code_vm rfl start1.code12, List.forall_mem_cons.mpr ⟨code_vm rfl start1.code13, List.forall_mem_cons.mpr ⟨code_vm rfl start1.code14, List.forall_mem_cons.mpr ⟨code_vm rfl start1.code15, List.forall_mem_cons.mpr ⟨code_vm rfl start1.code16, List.forall_mem_cons.mpr ⟨code_vm rfl start1.code17, List.forall_mem_cons.mpr ⟨code_vm rfl start1.code18, List.forall_mem_cons.mpr ⟨code_vm rfl start1.code19, List.forall_mem_cons.mpr ⟨code_vm rfl start1.code20, List.forall_mem_cons.mpr ⟨code_vm rfl start1.code21, List.forall_mem_cons.mpr ⟨code_vm rfl start1.code22, List.forall_mem_cons.mpr ⟨code_vm rfl start1.code23, List.forall_mem_cons.mpr ⟨code_vm rfl start1.code24, List.forall_mem_cons.mpr ⟨code_vm rfl start1.code25, List.forall_mem_cons.mpr ⟨code_vm rfl start1.code26, List.forall_mem_cons.mpr ⟨code_vm rfl start1.code27, List.forall_mem_cons.mpr ⟨code_vm rfl start1.code28, List.forall_mem_cons.mpr ⟨code_vm rfl start1.code29, List.forall_mem_cons.mpr ⟨code_vm rfl start1.code30, List.forall_mem_nil _⟩⟩⟩⟩⟩⟩⟩⟩⟩⟩⟩⟩⟩⟩⟩⟩⟩⟩⟩⟩⟩⟩⟩⟩⟩⟩⟩⟩⟩⟩⟩
theorem s9_codes_2 : ∀ c ∈ tables_1_2.filter su_isCode, c.before start1.args0 s9 = true := by
  rw [start1.codes_are_2]
  exact List.forall_mem_cons.mpr ⟨code_vm rfl start1.code31, List.forall_mem_cons.mpr ⟨code_vm rfl start1.code32, List.forall_mem_cons.mpr ⟨code_vm rfl start1.code33, List.forall_mem_cons.mpr ⟨code_vm rfl start1.code34, List.forall_mem_cons.mpr ⟨code_vm rfl start1.code35, List.forall_mem_cons.mpr ⟨code_vm rfl start1.code36, List.forall_mem_cons.mpr ⟨code_vm rfl start1.code37, List.forall_mem_cons.mpr ⟨code_vm rfl start1.code38, List.forall_mem_cons.mpr ⟨code_vm rfl start1.code39, List.forall_mem_cons.mpr ⟨code_vm rfl start1.code40, List.forall_mem_cons.mpr ⟨code_vm rfl start1.code41, List.forall_mem_cons.mpr ⟨code_vm rfl start1.code42, List.forall_mem_cons.mpr ⟨code_vm rfl start1.code43, List.forall_mem_cons.mpr ⟨code_vm rfl start1.code44, List.forall_mem_cons.mpr ⟨code_vm rfl start1.code45, List.forall_mem_cons.mpr ⟨code_vm rfl start1.code46, List.forall_mem_cons.mpr ⟨code_vm rfl start1.code47, List.forall_mem_cons.mpr ⟨code_vm rfl start1.code48, List.forall_mem_cons.mpr ⟨code_vm rfl start1.code49, List.forall_mem_cons.mpr ⟨code_vm rfl start1.code50, List.forall_mem_cons.mpr ⟨code_vm rfl start1.code51, List.forall_mem_cons.mpr ⟨code_vm rfl start1.code52, List.forall_mem_cons.mpr ⟨code_vm rfl start1.code53, List.forall_mem_cons.mpr ⟨code_vm rfl start1.code54, List.forall_mem_nil _⟩⟩⟩⟩⟩⟩⟩⟩⟩⟩⟩⟩⟩⟩⟩⟩⟩⟩⟩⟩⟩⟩⟩⟩
set_option maxRecDepth 16384 in
theorem s9_o1_1_0 : (tables_1_1.take 40).all (fun c => su_isCode c || c.before start1.args0 s9) = true := by decide +kernel
set_option maxRecDepth 16384 in
theorem s9_o1_1_1 : ((tables_1_1.drop 40).take 40).all (fun c => su_isCode c || c.before start1.args0 s9) = true := by decide +kernel
set_option maxRecDepth 16384 in
theorem s9_o1_1_2 : (((tables_1_1.drop 40).drop 40).take 40).all (fun c => su_isCode c || c.before start1.args0 s9) = true := by decide +kernel
set_option maxRecDepth 16384 in
theorem s9_o1_1_3 : ((((tables_1_1.drop 40).drop 40).drop 40).take 40).all (fun c => su_isCode c || c.before start1.args0 s9) = true := by decide +kernel
set_option maxRecDepth 16384 in
theorem s9_o1_1_4 : (((((tables_1_1.drop 40).drop 40).drop 40).drop 40).take 40).all (fun c => su_isCode c || c.before start1.args0 s9) = true := by decide +kernel
set_option maxRecDepth 16384 in
theorem s9_o1_1_5 : ((((((tables_1_1.drop 40).drop 40).drop 40).drop 40).drop 40)).all (fun c => su_isCode c || c.before start1.args0 s9) = true := by decide +kernel
theorem s9_w1_1 : ∀ c ∈ tables_1_1, c.before start1.args0 s9 = true := fun c h => su_words (l := tables_1_1) (f := fun c => c.before start1.args0 s9) (start1.su_all_split _ 40 tables_1_1 s9_o1_1_0 (start1.su_all_split _ 40 (tables_1_1.drop 40) s9_o1_1_1 (start1.su_all_split _ 40 ((tables_1_1.drop 40).drop 40) s9_o1_1_2 (start1.su_all_split _ 40 (((tables_1_1.drop 40).drop 40).drop 40) s9_o1_1_3 (start1.su_all_split _ 40 ((((tables_1_1.drop 40).drop 40).drop 40).drop 40) s9_o1_1_4 (s9_o1_1_5)))))) s9_codes_1 c h
set_option maxRecDepth 16384 in
theorem s9_o1_2_0 : (tables_1_2.take 40).all (fun c => su_isCode c || c.before start1.args0 s9) = true := by decide +kernel
set_option maxRecDepth 16384 in
theorem s9_o1_2_1 : ((tables_1_2.drop 40).take 40).all (fun c => su_isCode c || c.before start1.args0 s9) = true := by decide +kernel
set_option maxRecDepth 16384 in
theorem s9_o1_2_2 : (((tables_1_2.drop 40).drop 40).take 40).all (fun c => su_isCode c || c.before start1.args0 s9) = true := by decide +kernel
set_option maxRecDepth 16384 in
theorem s9_o1_2_3 : ((((tables_1_2.drop 40).drop 40).drop 40)).all (fun c => su_isCode c || c.before start1.args0 s9) = true := by decide +kernel
theorem s9_w1_2 : ∀ c ∈ tables_1_2, c.before start1.args0 s9 = true := fun c h => su_words (l := tables_1_2) (f := fun c => c.before start1.args0 s9) (start1.su_all_split _ 40 tables_1_2 s9_o1_2_0 (start1.su_all_split _ 40 (tables_1_2.drop 40) s9_o1_2_1 (start1.su_all_split _ 40 ((tables_1_2.drop 40).drop 40) s9_o1_2_2 (s9_o1_2_3)))) s9_codes_2 c h
theorem s9_words : ∀ c ∈ (Cond.code x code maxLocals ret :: tables_1), c.before start1.args0 s9 = true := by
  intro c hc
  rcases List.mem_cons.mp hc with h | h
  · rw [h]; exact code_vm rfl start1.word_code
  · have h1 : c ∈ tables_1_1 ++ tables_1_2 := h
    rcases List.mem_append.mp h1 with h2 | h2
    · exact s9_w1_1 c h2
    · exact s9_w1_2 c h2
theorem s9_room_1 : s9.hasRoom start1.e0.platform room_1 = true := launch0.hasRoom_least _ room_1 (by decide +kernel) (by decide +kernel) (by decide +kernel) (by decide +kernel) (by decide +kernel) (by decide +kernel)
theorem s9_room_2 : s9.hasRoom start1.e0.platform R2 = true := launch0.hasRoom_least _ R2 (by decide +kernel) (by decide +kernel) (by decide +kernel) (by decide +kernel) (by decide +kernel) (by decide +kernel)
set_option maxRecDepth 16384 in
theorem s9_applies {R : Room} (h : s9.hasRoom start1.e0.platform R = true) : (headSpec (Cond.code x code maxLocals ret :: tables_1) R).applies x start1.e0.platform s9 = true :=
  (Spec.applies_iff rfl).mpr ⟨rfl, rfl, rfl, by decide +kernel, by decide +kernel, by decide +kernel, h, atoms_intro s9_words⟩
set_option maxRecDepth 16384 in
theorem s9_rest : rest_1_c.before start1.args0 s9 = true := by decide +kernel
set_option maxRecDepth 16384 in
theorem s9_given : (Cond.and given_1 narrow_1).before start1.args0 s9 = true := by decide +kernel
set_option maxRecDepth 16384 in
theorem s9_atStart : AtStart classFile x code maxLocals ret World_1 tables_1 room_1 Calls_1 rest_1 Pre_1 launch0 start1.p0 start1.e0 s9 ⟨0, 0⟩ start1.args0 Lib.HandBits.below0 :=
  ⟨lists_1, trivial, launch0.admits_env _ _ _, launch0.least_env, fairChoices_fair.cas, fairChoices_fair.clock, rfl, by decide +kernel, by decide +kernel, s9_applies s9_room_1, trivial, s9_rest, s9_given⟩
/-- the law's contract at ninety nines, in the room R2 -/
def lf_P (b L : Nat) (xs : Nat → Int32) (args : Array Value) (s : State) : Prop := args = #[.ref b] ∧ va_X b L xs s s.heap ∧ b < s.heap.size ∧ (Jvm.Cond.and given_1 narrow_1).before args s = true
set_option maxHeartbeats 4000000 in
theorem lf_met (l : Launch) (hflags : l.flags = flags0) (b L : Nat) (xs : Nat → Int32) (hL : 90 ≤ L) (hL2 : L < 100) (hxs : ∀ j, j < L → xs j = 9) : MetFree l x (headSpec (Jvm.Cond.code x code maxLocals ret :: tables_1) R2) (lf_P b L xs) (fun _ _ _ _ _ => True) lf_C := by
  refine MetFree.of_bodyS (code := code) (maxLocals := maxLocals) (ret := ret) (by decide) ?_ ?_
  · intro args s m h hn
    obtain ⟨meth, c, h1, h2, h3, h4, h5, h6, -, -⟩ := Cond.code_spec hn (atoms_spec (ws := Jvm.Cond.code x code maxLocals ret :: tables_1) h _ List.mem_cons_self)
    exact ⟨meth, c, h1, h2, h3, h4, h5, h6⟩
  · intro p e s m args below meth c s₁ B hml0 hP _
    obtain ⟨rfl, hX, hbl, hgv⟩ := hP
    have hown : s.vm.findClass RL = some m.cls := findClass_of_methodNamed B.named
    have hts0 : ∀ c ∈ (Jvm.Cond.code x code maxLocals ret :: tables_1), c.before #[Value.ref b] s = true := atoms_spec (ws := Jvm.Cond.code x code maxLocals ret :: tables_1) B.pre
    have hts : ∀ w ∈ lw_tbl, w.before #[Value.ref b] s = true := k2_hts_sels lw_privs (fun w hw => hts0 w (List.mem_cons_of_mem _ hw)) lw_privs_ok
    have hml : c.maxLocals = 7 := B.maxLocals_eq (hts0 _ List.mem_cons_self)
    have X₀ : Stand p l e R2 s m #[Value.ref b] below meth c s₁ [] 0 0 := Stand.of_body B
    have hh0 : s₁.heap = s.heap := by rw [B.state]; rfl
    have K : W p l e R2 s m #[Value.ref b] below meth c s₁.heap [] 0 0 (lf_Q below #[Value.ref b] s) (entryFrame m ([Value.ref b] : List Value).toArray 7) := by
      rw [hh0]
      exact lf_start l hflags hL hL2 hxs B.exec B.bytes B.returns hml hown hts hX hbl B.notSynchronized hgv
    obtain ⟨t, a1, o, b1, b2, b3, -⟩ := K s₁ rfl X₀
    exact ⟨t, o, a1, b1, b2, b3⟩
theorem s9_script : ∃ xs : Nat → Int32, (∀ j, j < 90 → xs j = 9) ∧ va_X 0 90 xs s9 s9.heap := by
  have hs := flat_of_before _ s9_given
  have hq := flat_of_before _ s9_rest
  have harr : (Cond.arrayOf (.arg 0) .int).before start1.args0 s9 = true := hs _ (by decide +kernel)
  have hlen : (Cond.isInt (.length (.arg 0))).before start1.args0 s9 = true := hq _ (by decide +kernel)
  have hall : (Cond.all (.arg 0) (.isInt (.elem (.arg 0) (.index 0)))).before start1.args0 s9 = true := hq _ (by decide +kernel)
  obtain ⟨b, xs, hb, hx⟩ := State.ints_of_pre rfl harr hlen hall
  have hb0 : (0 : Nat) = b := by
    have h9 : (Term.arg 0).eval start1.args0 s9 none [] s9 = some (Value.ref 0) := rfl
    have h8 := Option.some.inj (h9.symm.trans hb)
    injection h8
  subst hb0
  obtain ⟨scr, harrAt, hlist, hof, hsmall⟩ := hx
  obtain ⟨hcb, hkn, -, -⟩ := State.arrayAt?_spec harrAt
  have h0 : s9.heap[0]? = some { cls := 11, slots := nines, vm := .none } := rfl
  have hsc : scr.slots = nines := by
    rw [h0] at hcb
    injection hcb with hcb
    rw [← hcb]
  have hl : xs.map Value.int = List.replicate 90 (Value.int 9) := by rw [← hlist, hsc]; rfl
  have hn : xs.length = 90 := by
    have h9 := congrArg List.length hl
    rwa [List.length_map, List.length_replicate] at h9
  have hv : ∀ j, j < 90 → xs.getD j 0 = 9 := by
    intro j hj
    have hj9 : j < xs.length := by omega
    have h1 : (xs.map Value.int)[j]? = some (Value.int 9) := by rw [hl, List.getElem?_replicate, if_pos hj]
    rw [List.getElem?_map, List.getElem?_eq_getElem hj9] at h1
    injection h1 with h1
    injection h1 with h1
    rw [List.getD_eq_getElem?_getD, List.getElem?_eq_getElem hj9]
    exact h1
  refine ⟨fun j => xs.getD j 0, hv, scr, hcb, hof, hkn, by rw [hsc]; rfl, fun j hj => ?_⟩
  rw [← Array.getElem?_toList, hlist]
  have hj9 : j < xs.length := by omega
  simp [hj9]
/-- the run at that start: the law answers 1, and makes at least 2544 cells -/
theorem s9_run : ∃ (n : Nat) (o : Outcome), (∀ k, k < n → Within (stepsAlone start1.p0.tables start1.e0 k s9) Lib.HandBits.below0) ∧ (stepsAlone start1.p0.tables start1.e0 n s9).status = Status.running ∧ Ended (stepsAlone start1.p0.tables start1.e0 n s9) Lib.HandBits.below0 o ∧ o = .returned (some (.int 1)) ∧ s9.heap.size + 2544 ≤ (stepsAlone start1.p0.tables start1.e0 n s9).heap.size := by
  obtain ⟨xs, hxs, hX⟩ := s9_script
  obtain ⟨n, o, h1, h2, h3, h4⟩ := lf_met launch0 rfl 0 90 xs (Nat.le_refl _) (by decide) hxs start1.p0 start1.e0 (launch0.admits_env _ _ _) fairChoices_fair.cas fairChoices_fair.clock s9 ⟨0, 0⟩ start1.args0 Lib.HandBits.below0 rfl ((Spec.applies_iff_loose rfl).mp (s9_applies s9_room_2)).1 ⟨rfl, hX, by decide +kernel, s9_given⟩ trivial
  exact ⟨n, o, h1, h2, h3, h4⟩
/-- a frame of at most 173 cells can't be met by that run -/
theorem s9_frame {L : Cond} {o : Outcome} {n : Nat} (hg : s9.heap.size + 2544 ≤ (stepsAlone start1.p0.tables start1.e0 n s9).heap.size) : ¬ (postC L start1.p0.tables start1.e0 start1.args0 s9 o (stepsAlone start1.p0.tables start1.e0 n s9) ∧ Framed s9 o (stepsAlone start1.p0.tables start1.e0 n s9) (fieldLocs frame_1_writes start1.args0 s9 ++ arrayLocs frame_1_arrays start1.args0 s9 ++ staticLocs frame_1_statics s9) 173 1400) := by
  intro hp
  have h6 : (stepsAlone start1.p0.tables start1.e0 n s9).heap.size ≤ s9.heap.size + 173 := hp.2.2.2.2.2.1
  omega
/-- THE STATEMENT'S FIRST CLAIM IS REFUTED, in the Statement's own words for that -/
theorem p24_refuted_1 : RefutedClaimed_1_1 := by
  obtain ⟨n, o, h1, h2, h3, -, h5⟩ := s9_run
  exact ⟨launch0, start1.p0, start1.e0, s9, ⟨0, 0⟩, start1.args0, Lib.HandBits.below0, rfl, s9_atStart, n, o, h1, h2, h3, s9_frame h5⟩
/-- .. and its second -/
theorem p24_refuted_2 : RefutedClaimed_1_2 := by
  obtain ⟨n, o, h1, h2, h3, -, h5⟩ := s9_run
  exact ⟨launch0, start1.p0, start1.e0, s9, ⟨0, 0⟩, start1.args0, Lib.HandBits.below0, rfl, s9_atStart, n, o, h1, h2, h3, s9_frame h5⟩
theorem p24_false_1 : ¬ Claimed_1_1 := by
  intro hC
  obtain ⟨hli, -, ha, -, hc, hk, hf, hfit, hheap, happ, hcalls, hrest, hpre⟩ := s9_atStart
  obtain ⟨n, o, h1, h2, h3, h4⟩ := hC launch0 rfl hli trivial start1.p0 start1.e0 ha hc hk s9 ⟨0, 0⟩ start1.args0 Lib.HandBits.below0 hf hfit hheap happ ⟨hcalls, hrest, hpre⟩
  obtain ⟨n', o', g1, g2, g3, -, g5⟩ := s9_run
  obtain ⟨rfl, rfl⟩ := the_end_unique (f := fun k => stepsAlone start1.p0.tables start1.e0 k s9) h1 h3 g1 g3
  exact s9_frame g5 h4
/-- what is owed of p24 is false -/
theorem p24_false : ¬ (Claimed_1_1 ∧ Claimed_1_2) := fun h => p24_false_1 h.1
end
