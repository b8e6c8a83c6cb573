section
-- ===== PART A: goes FIRST, ahead of the names: the tables' words, and 'selects' of the private methods out of them =====
/-- a private method of a class that the tables say can be made, by its rows of tables_1 -/
def lw_okq (q : MethodName × Nat) : Prop := (q.1.cls ≠ "java/lang/invoke/MethodHandle" ∧ q.1.cls ≠ "java/lang/invoke/VarHandle") ∧ Cond.instantiable q.1.cls q.2 ∈ tables_1 ∧ Cond.privateMethod q.1 ∈ tables_1 ∧ Cond.instanceMethod q.1 ∈ tables_1
theorem lw_p0 : lw_okq (⟨"java/lang/Throwable", "fillInStackTrace", "(I)Ljava/lang/Throwable;"⟩, 6) := ⟨⟨by decide +kernel, by decide +kernel⟩, List.mem_of_getElem? (i := 127) (by decide +kernel), List.mem_of_getElem? (i := 125) (by decide +kernel), List.mem_of_getElem? (i := 126) (by decide +kernel)⟩
theorem lw_p1 : lw_okq (⟨"StandbyPair", "advertise", "(III)V"⟩, 18) := ⟨⟨by decide +kernel, by decide +kernel⟩, List.mem_of_getElem? (i := 10) (by decide +kernel), List.mem_of_getElem? (i := 168) (by decide +kernel), List.mem_of_getElem? (i := 169) (by decide +kernel)⟩
theorem lw_p2 : lw_okq (⟨"StandbyPair", "receiveAsMaster", "(IIII)V"⟩, 18) := ⟨⟨by decide +kernel, by decide +kernel⟩, List.mem_of_getElem? (i := 10) (by decide +kernel), List.mem_of_getElem? (i := 172) (by decide +kernel), List.mem_of_getElem? (i := 173) (by decide +kernel)⟩
theorem lw_p3 : lw_okq (⟨"StandbyPair", "loweredPriority", "(II)I"⟩, 18) := ⟨⟨by decide +kernel, by decide +kernel⟩, List.mem_of_getElem? (i := 10) (by decide +kernel), List.mem_of_getElem? (i := 176) (by decide +kernel), List.mem_of_getElem? (i := 177) (by decide +kernel)⟩
theorem lw_p4 : lw_okq (⟨"StandbyPair", "becomeBackup", "(II)V"⟩, 18) := ⟨⟨by decide +kernel, by decide +kernel⟩, List.mem_of_getElem? (i := 10) (by decide +kernel), List.mem_of_getElem? (i := 186) (by decide +kernel), List.mem_of_getElem? (i := 187) (by decide +kernel)⟩
theorem lw_p5 : lw_okq (⟨"StandbyPair", "waitOf", "(II)I"⟩, 18) := ⟨⟨by decide +kernel, by decide +kernel⟩, List.mem_of_getElem? (i := 10) (by decide +kernel), List.mem_of_getElem? (i := 190) (by decide +kernel), List.mem_of_getElem? (i := 191) (by decide +kernel)⟩
theorem lw_p6 : lw_okq (⟨"StandbyPair", "skewOf", "(II)I"⟩, 18) := ⟨⟨by decide +kernel, by decide +kernel⟩, List.mem_of_getElem? (i := 10) (by decide +kernel), List.mem_of_getElem? (i := 194) (by decide +kernel), List.mem_of_getElem? (i := 195) (by decide +kernel)⟩
theorem lw_p7 : lw_okq (⟨"StandbyPair", "copyServed", "(III)V"⟩, 18) := ⟨⟨by decide +kernel, by decide +kernel⟩, List.mem_of_getElem? (i := 10) (by decide +kernel), List.mem_of_getElem? (i := 198) (by decide +kernel), List.mem_of_getElem? (i := 199) (by decide +kernel)⟩
theorem lw_p8 : lw_okq (⟨"StandbyPair", "receiveAsBackup", "(IIII)V"⟩, 18) := ⟨⟨by decide +kernel, by decide +kernel⟩, List.mem_of_getElem? (i := 10) (by decide +kernel), List.mem_of_getElem? (i := 202) (by decide +kernel), List.mem_of_getElem? (i := 203) (by decide +kernel)⟩
theorem lw_p9 : lw_okq (⟨"StandbyPair", "beginPart", "(II)V"⟩, 18) := ⟨⟨by decide +kernel, by decide +kernel⟩, List.mem_of_getElem? (i := 10) (by decide +kernel), List.mem_of_getElem? (i := 206) (by decide +kernel), List.mem_of_getElem? (i := 207) (by decide +kernel)⟩
theorem lw_p10 : lw_okq (⟨"StandbyPair", "runMasters", "(I)V"⟩, 18) := ⟨⟨by decide +kernel, by decide +kernel⟩, List.mem_of_getElem? (i := 10) (by decide +kernel), List.mem_of_getElem? (i := 304) (by decide +kernel), List.mem_of_getElem? (i := 305) (by decide +kernel)⟩
theorem lw_p11 : lw_okq (⟨"StandbyPair", "runBackups", "(I)V"⟩, 18) := ⟨⟨by decide +kernel, by decide +kernel⟩, List.mem_of_getElem? (i := 10) (by decide +kernel), List.mem_of_getElem? (i := 308) (by decide +kernel), List.mem_of_getElem? (i := 309) (by decide +kernel)⟩
theorem lw_p12 : lw_okq (⟨"StandbyPair", "noteGap", "(I)V"⟩, 18) := ⟨⟨by decide +kernel, by decide +kernel⟩, List.mem_of_getElem? (i := 10) (by decide +kernel), List.mem_of_getElem? (i := 312) (by decide +kernel), List.mem_of_getElem? (i := 313) (by decide +kernel)⟩
theorem lw_p13 : lw_okq (⟨"StandbyPair", "membersWith", "(II)I"⟩, 18) := ⟨⟨by decide +kernel, by decide +kernel⟩, List.mem_of_getElem? (i := 10) (by decide +kernel), List.mem_of_getElem? (i := 316) (by decide +kernel), List.mem_of_getElem? (i := 317) (by decide +kernel)⟩
theorem lw_p14 : lw_okq (⟨"StandbyPair", "hasJoinedMasters", "(I)Z"⟩, 18) := ⟨⟨by decide +kernel, by decide +kernel⟩, List.mem_of_getElem? (i := 10) (by decide +kernel), List.mem_of_getElem? (i := 384) (by decide +kernel), List.mem_of_getElem? (i := 385) (by decide +kernel)⟩
theorem lw_p15 : lw_okq (⟨"StandbyPairModel", "goesWell", "(I)Z"⟩, 19) := ⟨⟨by decide +kernel, by decide +kernel⟩, List.mem_of_getElem? (i := 388) (by decide +kernel), List.mem_of_getElem? (i := 472) (by decide +kernel), List.mem_of_getElem? (i := 473) (by decide +kernel)⟩
def lw_privs_1 : List (MethodName × Nat) := [(⟨"java/lang/Throwable", "fillInStackTrace", "(I)Ljava/lang/Throwable;"⟩, 6), (⟨"StandbyPair", "advertise", "(III)V"⟩, 18), (⟨"StandbyPair", "receiveAsMaster", "(IIII)V"⟩, 18), (⟨"StandbyPair", "loweredPriority", "(II)I"⟩, 18), (⟨"StandbyPair", "becomeBackup", "(II)V"⟩, 18), (⟨"StandbyPair", "waitOf", "(II)I"⟩, 18), (⟨"StandbyPair", "skewOf", "(II)I"⟩, 18), (⟨"StandbyPair", "copyServed", "(III)V"⟩, 18), (⟨"StandbyPair", "receiveAsBackup", "(IIII)V"⟩, 18), (⟨"StandbyPair", "beginPart", "(II)V"⟩, 18), (⟨"StandbyPair", "runMasters", "(I)V"⟩, 18), (⟨"StandbyPair", "runBackups", "(I)V"⟩, 18), (⟨"StandbyPair", "noteGap", "(I)V"⟩, 18), (⟨"StandbyPair", "membersWith", "(II)I"⟩, 18), (⟨"StandbyPair", "hasJoinedMasters", "(I)Z"⟩, 18), (⟨"StandbyPairModel", "goesWell", "(I)Z"⟩, 19)]
theorem lw_r1 : ∀ q ∈ lw_privs_1, lw_okq q := List.forall_mem_cons.mpr ⟨lw_p0, List.forall_mem_cons.mpr ⟨lw_p1, List.forall_mem_cons.mpr ⟨lw_p2, List.forall_mem_cons.mpr ⟨lw_p3, List.forall_mem_cons.mpr ⟨lw_p4, List.forall_mem_cons.mpr ⟨lw_p5, List.forall_mem_cons.mpr ⟨lw_p6, List.forall_mem_cons.mpr ⟨lw_p7, List.forall_mem_cons.mpr ⟨lw_p8, List.forall_mem_cons.mpr ⟨lw_p9, List.forall_mem_cons.mpr ⟨lw_p10, List.forall_mem_cons.mpr ⟨lw_p11, List.forall_mem_cons.mpr ⟨lw_p12, List.forall_mem_cons.mpr ⟨lw_p13, List.forall_mem_cons.mpr ⟨lw_p14, List.forall_mem_cons.mpr ⟨lw_p15, fun _ h => absurd h List.not_mem_nil⟩⟩⟩⟩⟩⟩⟩⟩⟩⟩⟩⟩⟩⟩⟩⟩
theorem lw_p16 : lw_okq (⟨"StandbyPairModel", "advertise", "(II)V"⟩, 19) := ⟨⟨by decide +kernel, by decide +kernel⟩, List.mem_of_getElem? (i := 388) (by decide +kernel), List.mem_of_getElem? (i := 476) (by decide +kernel), List.mem_of_getElem? (i := 477) (by decide +kernel)⟩
theorem lw_p17 : lw_okq (⟨"StandbyPairModel", "receive", "(III)V"⟩, 19) := ⟨⟨by decide +kernel, by decide +kernel⟩, List.mem_of_getElem? (i := 388) (by decide +kernel), List.mem_of_getElem? (i := 480) (by decide +kernel), List.mem_of_getElem? (i := 481) (by decide +kernel)⟩
theorem lw_p18 : lw_okq (⟨"StandbyPairModel", "priorityAt", "(I)I"⟩, 19) := ⟨⟨by decide +kernel, by decide +kernel⟩, List.mem_of_getElem? (i := 388) (by decide +kernel), List.mem_of_getElem? (i := 484) (by decide +kernel), List.mem_of_getElem? (i := 485) (by decide +kernel)⟩
theorem lw_p19 : lw_okq (⟨"StandbyPairModel", "rest", "(II)V"⟩, 19) := ⟨⟨by decide +kernel, by decide +kernel⟩, List.mem_of_getElem? (i := 388) (by decide +kernel), List.mem_of_getElem? (i := 488) (by decide +kernel), List.mem_of_getElem? (i := 489) (by decide +kernel)⟩
theorem lw_p20 : lw_okq (⟨"StandbyPairModel", "waitAt", "(I)I"⟩, 19) := ⟨⟨by decide +kernel, by decide +kernel⟩, List.mem_of_getElem? (i := 388) (by decide +kernel), List.mem_of_getElem? (i := 492) (by decide +kernel), List.mem_of_getElem? (i := 493) (by decide +kernel)⟩
theorem lw_p21 : lw_okq (⟨"StandbyPairModel", "skew", "(I)I"⟩, 19) := ⟨⟨by decide +kernel, by decide +kernel⟩, List.mem_of_getElem? (i := 388) (by decide +kernel), List.mem_of_getElem? (i := 496) (by decide +kernel), List.mem_of_getElem? (i := 497) (by decide +kernel)⟩
theorem lw_p22 : lw_okq (⟨"StandbyPairModel", "copy", "(II)V"⟩, 19) := ⟨⟨by decide +kernel, by decide +kernel⟩, List.mem_of_getElem? (i := 388) (by decide +kernel), List.mem_of_getElem? (i := 500) (by decide +kernel), List.mem_of_getElem? (i := 501) (by decide +kernel)⟩
theorem lw_p23 : lw_okq (⟨"StandbyPairModel", "settle", "(I)V"⟩, 19) := ⟨⟨by decide +kernel, by decide +kernel⟩, List.mem_of_getElem? (i := 388) (by decide +kernel), List.mem_of_getElem? (i := 504) (by decide +kernel), List.mem_of_getElem? (i := 505) (by decide +kernel)⟩
theorem lw_p24 : lw_okq (⟨"StandbyPairModel", "turn", "(II)V"⟩, 19) := ⟨⟨by decide +kernel, by decide +kernel⟩, List.mem_of_getElem? (i := 388) (by decide +kernel), List.mem_of_getElem? (i := 551) (by decide +kernel), List.mem_of_getElem? (i := 552) (by decide +kernel)⟩
theorem lw_p25 : lw_okq (⟨"StandbyPairModel", "hasMaster", "(I)Z"⟩, 19) := ⟨⟨by decide +kernel, by decide +kernel⟩, List.mem_of_getElem? (i := 388) (by decide +kernel), List.mem_of_getElem? (i := 555) (by decide +kernel), List.mem_of_getElem? (i := 556) (by decide +kernel)⟩
def lw_privs_2 : List (MethodName × Nat) := [(⟨"StandbyPairModel", "advertise", "(II)V"⟩, 19), (⟨"StandbyPairModel", "receive", "(III)V"⟩, 19), (⟨"StandbyPairModel", "priorityAt", "(I)I"⟩, 19), (⟨"StandbyPairModel", "rest", "(II)V"⟩, 19), (⟨"StandbyPairModel", "waitAt", "(I)I"⟩, 19), (⟨"StandbyPairModel", "skew", "(I)I"⟩, 19), (⟨"StandbyPairModel", "copy", "(II)V"⟩, 19), (⟨"StandbyPairModel", "settle", "(I)V"⟩, 19), (⟨"StandbyPairModel", "turn", "(II)V"⟩, 19), (⟨"StandbyPairModel", "hasMaster", "(I)Z"⟩, 19)]
theorem lw_r2 : ∀ q ∈ lw_privs_2, lw_okq q := List.forall_mem_cons.mpr ⟨lw_p16, List.forall_mem_cons.mpr ⟨lw_p17, List.forall_mem_cons.mpr ⟨lw_p18, List.forall_mem_cons.mpr ⟨lw_p19, List.forall_mem_cons.mpr ⟨lw_p20, List.forall_mem_cons.mpr ⟨lw_p21, List.forall_mem_cons.mpr ⟨lw_p22, List.forall_mem_cons.mpr ⟨lw_p23, List.forall_mem_cons.mpr ⟨lw_p24, List.forall_mem_cons.mpr ⟨lw_p25, fun _ h => absurd h List.not_mem_nil⟩⟩⟩⟩⟩⟩⟩⟩⟩⟩
def lw_privs : List (MethodName × Nat) := lw_privs_1 ++ (lw_privs_2)
def lw_tbl : List Cond := k2_sels lw_privs ++ tables_1
theorem lw_privs_ok : ∀ q ∈ lw_privs, lw_okq q := by
  show ∀ q ∈ lw_privs_1 ++ (lw_privs_2), lw_okq q
  exact List.forall_mem_append.mpr ⟨lw_r1, lw_r2⟩
end
section
/-! ===== BEGIN words of one list among another's, by their places ===== -/
theorem goodIn_r {big : List Cond} (ws : List Cond) (ps : List Nat) (hp : ws = ps.filterMap (fun i => big[i]?)) (h : ws.all goodWord = true) : GoodIn big ws := by
  intro w hw
  have h1 := List.all_eq_true.mp h w hw
  rw [hp] at hw
  obtain ⟨i, -, hi⟩ := List.mem_filterMap.mp hw
  have hm : w ∈ big := by first | exact List.mem_of_getElem? hi | exact List.getElem?_mem hi
  exact ⟨hm, good_of_word h1⟩
theorem goodIn_app {big a b : List Cond} (ha : GoodIn big a) (hb : GoodIn big b) : GoodIn big (a ++ b) := fun w h => (List.mem_append.mp h).elim (ha w) (hb w)
theorem goodIn_ca {big a b : List Cond} {c : Cond} (ha : GoodIn big (c :: a)) (hb : GoodIn big b) : GoodIn big (c :: (a ++ b)) := fun w h => (List.mem_cons.mp h).elim (fun e => ha w (List.mem_cons.mpr (Or.inl e))) (fun h => (List.mem_append.mp h).elim (fun h => ha w (List.mem_cons.mpr (Or.inr h))) (hb w))
theorem goodIn_sub {big ws : List Cond} (hm : ∀ w ∈ ws, w ∈ big) (h : ws.all goodWord = true) : GoodIn big ws := fun w hw => ⟨hm w hw, good_of_word (List.all_eq_true.mp h w hw)⟩
/-! ===== END ===== -/

/-! ===== BEGIN exceptions that leave a method, and their catching by the caller (launches without stack traces) ===== -/
section VXA
/-! The laws vx_back, vx_callV, vx_callS, vx_callSW, vx_throw0, vx_throwS follow proofs of the library, with one case more: JvmDerived/Free/Laws.lean (Back.of_free), Shelf42/LK1.lean (callV, callS), Shelf/KitTraced.lean (throwNew0V, throwNewS). -/
/-- where a method has thrown q: the class by its name, the cell, what was written, the world -/
def vx_T (XC : String → State → State → Prop) (st : State) (q : Addr) (t : State) (mc ms : Nat) (free : Addr → Prop) : Prop :=
  ∃ (E : String) (ce : Cell) (L : List Loc), XC E st t ∧ t.heap[q]? = some ce ∧ ce.vm = .none ∧ st.vm.findClass E = some ce.cls ∧ st.WarmedH t.vm ∧ st.sameButNew ({ t with vm := st.vm } : State) L mc ms ∧ ∀ z ∈ L, free z.base
def vx_Q (Qc : Array Value → State → Outcome → State → Prop) (XC : String → State → State → Prop) (mc ms : Nat) (free : Addr → Prop) : Array Value → State → Outcome → State → Prop := fun a st o t =>
  (Qc a st o t ∧ ∃ L, FrameEnd st o t L mc ms ∧ ∀ q ∈ L, free q.base) ∨ ∃ q, o = .threw q ∧ vx_T XC st q t mc ms free
/-- a callee that returns or throws -/
def vx_Met (l : Launch) (y : MethodName) (ws : List Cond) (rm : Room) (Pc : Array Value → State → Prop) (Qc : Array Value → State → Outcome → State → Prop) (XC : String → State → State → Prop) (mc ms : Nat) (free : Addr → Prop) : Prop :=
  MetFree l y (headSpec ws rm) Pc (fun _ _ _ _ _ => True) (vx_Q Qc XC mc ms free)
def vx_Post (XC : String → State → State → Prop) (mc ms : Nat) (free : Addr → Prop) : Pt → Array Value → Addr → Pt → Prop := fun A a q B =>
  ∃ (g : JFrame) (mk : MethodId) (t : State) (L : List Loc) (E : String) (ce : Cell), B.U.heap = t.heap ∧ B.U.vm = t.vm ∧ XC E (A.U.calling g mk a) t ∧ t.heap[q]? = some ce ∧ ce.vm = .none ∧ A.U.vm.findClass E = some ce.cls ∧ B.locs = A.locs ++ L ∧ (∀ z ∈ L, free z.base) ∧ B.cells = A.cells + mc ∧ B.slots = A.slots + ms
def vx_Back (l : Launch) (R : Room) (p : Program) (e : Env) (below : List Frame) (s : State) (sargs : Array Value) (y : MethodName) (len W9 : Nat)
    (Pre : Pt → Array Value → Prop) (Post : Pt → Array Value → Option Value → Pt → Prop) (PostX : Pt → Array Value → Addr → Pt → Prop) : Prop :=
  ∀ (m : MethodId) (meth : Method) (c : Code) (A : Pt) (g : JFrame) (ig : Instr) (mk : MethodId) (a : Array Value),
    Stand p l e R s m sargs below meth c A.U A.locs A.cells A.slots → g.method = m → g.locals.size = c.maxLocals → decode c.code g.pc = .ok (ig, len) →
    2 * g.monitorRoom + (g.stack.map fun v => v.category).sum ≤ W9 → A.U.methodNamed? y = some mk → Pre A a →
    (∃ (v : Option Value) (B : Pt), Stand p l e R s m sargs below meth c B.U B.locs B.cells B.slots ∧ Post A a v B ∧
      Steps p.tables e below (doInvoke e (A.U.setTop g) [] mk a).1 (B.U.setTop { g with pc := g.pc + len, stack := v.toList ++ g.stack })) ∨
    (∃ (q : Addr) (B : Pt), Stand p l e R s m sargs below meth c B.U B.locs B.cells B.slots ∧ PostX A a q B ∧
      Steps p.tables e below (doInvoke e (A.U.setTop g) [] mk a).1 ((B.U.setTop g).pushFrame (.throwing q)))
section Payer
variable {l : Launch} {R : Room} {p : Program} {e : Env} {below : List Frame} {s : State} {sargs : Array Value} {y : MethodName} {len W9 : Nat}
theorem vx_back {ws : List Cond} {rm : Room} {Pc : Array Value → State → Prop} {Qc : Array Value → State → Outcome → State → Prop} {XC : String → State → State → Prop} {mc ms : Nat} {free : Addr → Prop} {bytes : ByteArray} {maxL : Nat} {ret : Option FieldType}
    (hM : vx_Met l y ws rm Pc Qc XC mc ms free) (hblind : FrameBlind Pc) (hrc : rm.cells = mc) (hrs : rm.slots = ms)
    (hframes : rm.frames + 1 ≤ R.frames) (hlocals : W9 + (maxL + 11) + rm.locals ≤ R.locals)
    (hws : ∀ w ∈ ws, ∀ a' U, s.WarmedH U.vm → w.before a' U = true) (hcode : Cond.code y bytes maxL ret ∈ ws) (hinit : ∀ a' U, s.WarmedH U.vm → (Cond.initialized y.cls).before a' U = true) :
    vx_Back l R p e below s sargs y len W9 (PreOf R mc ms Pc) (PostOf Qc mc ms free) (vx_Post XC mc ms free) := by
  intro m meth c A g ig mk a X hg hsize hdg hW hn hp
  have h1 : (headSpec ws rm).pre.before a A.U = true := atoms_intro fun w hw => hws w hw _ _ X.warmed
  have h2 : (Cond.code y bytes maxL ret).before a A.U = true := hws _ hcode _ _ X.warmed
  have h3 : (Cond.initialized y.cls).before a A.U = true := hinit _ _ X.warmed
  have h4 : A.cells + (headSpec ws rm).room.cells ≤ R.cells := by rw [show (headSpec ws rm).room.cells = mc from hrc]; exact hp.1
  have h5 : A.slots + (headSpec ws rm).room.slots ≤ R.slots := by rw [show (headSpec ws rm).room.slots = ms from hrs]; exact hp.2.1
  have hPc : Pc a (A.U.calling g mk a) := hblind _ _ _ _ hp.2.2
  obtain ⟨U, Ls, c0, s0⟩ := A
  dsimp only [Pt.U, Pt.locs, Pt.cells, Pt.slots] at h1 h2 h3 h4 h5 X hn hPc ⊢
  obtain ⟨methY, cY, hmY, hcY, -, hlY, -, -, -, -⟩ := Cond.code_spec hn h2
  obtain ⟨kY, hkY, -⟩ := className_of_methodNamed hn
  have hinitY : kY.init = .initialized := Cond.initialized_spec (findClass_of_methodNamed hn) hkY h3
  have h : At U g.method c below := by rw [hg]; exact X.here
  have hlocals9 : W9 + (maxL + 11) + (headSpec ws rm).room.locals ≤ R.locals := hlocals
  have happ : (headSpec ws rm).appliesLoose y e.platform (U.calling g mk a) = true :=
    Spec.appliesLoose_calling (g := g) h hdg hn hkY hinitY
      (X.room_calling (g := g) (R' := (headSpec ws rm).room) hsize hmY hcY hframes (by rw [hlY]; omega) h4 h5) h1
  obtain ⟨mid, hmid⟩ := h.above
  have hfr : (U.setTop g).frames = (.java g :: mid) ++ below := by rw [State.frames_setTop' g h.top, hmid]; rfl
  obtain ⟨o, s₂, hsteps, -, hend, hq⟩ := Steps.callFree hM p X.admits X.cas X.clock (acts := []) hfr happ hPc trivial
  have hq' : vx_Q Qc XC mc ms free a (U.calling g mk a) o s₂ := hq
  rw [State.frames_setTop' g h.top] at hend
  obtain ⟨g₀, hg0⟩ := Option.isSome_iff_exists.mp h.top
  obtain ⟨r, hr⟩ := State.topJava?_eq_some.mp hg0
  have hr' : (({ U with heap := s₂.heap, slotsUsed := s₂.slotsUsed } : State).setVm s₂.vm).frames = .java g₀ :: r := hr
  rcases hq' with ⟨hqc, L, hfe, hL⟩ | ⟨q, rfl, E, ce, L, hx, hce, hcv, hcl, hW₂, hsm, hL⟩
  · obtain ⟨⟨v, rfl⟩, hW₂, e2, q2, q3, q4, q5, q6⟩ := id hfe
    have e3 : s₂ = ({ (U.calling g mk a).setFrames s₂.frames with heap := s₂.heap, slotsUsed := s₂.slotsUsed } : State).setVm s₂.vm := by
      have : s₂ = ({ s₂ with vm := (U.calling g mk a).vm } : State).setVm s₂.vm := rfl
      rw [e2] at this
      exact this
    obtain ⟨c₂, i₂, len₂, hc₂, hd₂, hf₂⟩ := hend
    have hW' : U.WarmedH s₂.vm := hW₂
    have hcc : c₂ = c := by
      have h1 : s₂.code? g.method = U.code? g.method := by
        rw [State.code?_eq, State.code?_eq, hW'.alike.method?]
      exact Option.some.inj (hc₂.symm.trans (h1.trans h.code))
    subst hcc
    have hlen : len₂ = len := by rw [hdg] at hd₂; cases hd₂; rfl
    subst hlen
    have hs₂ : s₂ = (({ U with heap := s₂.heap, slotsUsed := s₂.slotsUsed } : State).setVm s₂.vm).setTop { g with pc := g.pc + len₂, stack := v.toList ++ g.stack } := by
      refine e3.trans ?_
      rw [hf₂, State.calling_eq h.top, State.setFrames_setFrames, State.setTop_of_frames _ hr', hr]
      rfl
    have hsame : U.sameButNew ({ U with heap := s₂.heap, slotsUsed := s₂.slotsUsed } : State) L mc ms := by
      refine ⟨?_, q2, q3, q4, q5, q6⟩
      obtain ⟨t, ht, -⟩ := State.frames_cons hr
      show ({ U with heap := s₂.heap, slotsUsed := s₂.slotsUsed } : State) = { U.setFrames U.frames with heap := s₂.heap, slotsUsed := s₂.slotsUsed }
      rw [State.setFrames_self ht]
    subst hg
    refine Or.inl ⟨v, ⟨(({ U with heap := s₂.heap, slotsUsed := s₂.slotsUsed } : State).setVm s₂.vm), Ls ++ L, c0 + mc, s0 + ms⟩,
      ⟨X.admits, X.cas, X.clock, X.frames, X.room, X.hears, X.method, X.code, (X.here.setHeapUsed s₂.heap s₂.slotsUsed).setVm hW'.alike, X.tail, State.WarmedH.trans X.warmed hW', X.limits, X.bytes, X.same.trans (hsame.setVm s.vm)⟩,
      ⟨g, mk, s₂, L, rfl, rfl, hqc, rfl, hL, rfl, rfl⟩, ?_⟩
    show Steps p.tables e below _ ((({ U with heap := s₂.heap, slotsUsed := s₂.slotsUsed } : State).setVm s₂.vm).setTop { g with pc := g.pc + len₂, stack := v.toList ++ g.stack })
    rw [← hs₂]
    exact hsteps
  · obtain ⟨e2, q2, q3, q4, q5, q6⟩ := id hsm
    have e3 : s₂ = ({ (U.calling g mk a).setFrames s₂.frames with heap := s₂.heap, slotsUsed := s₂.slotsUsed } : State).setVm s₂.vm := by
      have : s₂ = ({ s₂ with vm := (U.calling g mk a).vm } : State).setVm s₂.vm := rfl
      rw [e2] at this
      exact this
    have hf₂ : s₂.frames = .throwing q :: .java g :: U.frames.tail := hend
    have hW' : U.WarmedH s₂.vm := hW₂
    have hs₂ : s₂ = ((({ U with heap := s₂.heap, slotsUsed := s₂.slotsUsed } : State).setVm s₂.vm).setTop g).pushFrame (.throwing q) := by
      refine e3.trans ?_
      rw [hf₂, State.calling_eq h.top, State.setFrames_setFrames, State.pushFrame, State.frames_setTop _ hr', State.setTop_of_frames _ hr', State.setFrames_setFrames, hr]
      rfl
    have hsame : U.sameButNew ({ U with heap := s₂.heap, slotsUsed := s₂.slotsUsed } : State) L mc ms := by
      refine ⟨?_, q2, q3, q4, q5, q6⟩
      obtain ⟨t, ht, -⟩ := State.frames_cons hr
      show ({ U with heap := s₂.heap, slotsUsed := s₂.slotsUsed } : State) = { U.setFrames U.frames with heap := s₂.heap, slotsUsed := s₂.slotsUsed }
      rw [State.setFrames_self ht]
    subst hg
    refine Or.inr ⟨q, ⟨(({ U with heap := s₂.heap, slotsUsed := s₂.slotsUsed } : State).setVm s₂.vm), Ls ++ L, c0 + mc, s0 + ms⟩,
      ⟨X.admits, X.cas, X.clock, X.frames, X.room, X.hears, X.method, X.code, (X.here.setHeapUsed s₂.heap s₂.slotsUsed).setVm hW'.alike, X.tail, State.WarmedH.trans X.warmed hW', X.limits, X.bytes, X.same.trans (hsame.setVm s.vm)⟩,
      ⟨g, mk, s₂, L, E, ce, rfl, rfl, hx, hce, hcv, hcl, rfl, hL, rfl, rfl⟩, ?_⟩
    show Steps p.tables e below _ (((({ U with heap := s₂.heap, slotsUsed := s₂.slotsUsed } : State).setVm s₂.vm).setTop g).pushFrame (.throwing q))
    rw [← hs₂]
    exact hsteps
end Payer
section Calls
variable {p : Program} {l : Launch} {e : Env} {R : Room} {s : State} {m : MethodId} {args : Array Value} {below : List Frame} {meth : Method} {c : Code} {T : State} {locs : List Loc} {cells slots : Nat}
theorem vx_callV (X : Stand p l e R s m args below meth c T locs cells slots) (hexec : p.tables.exec = Jvm.exec) {own C : String} {index : Nat} {y : MethodName} {bytes : ByteArray} {maxL : Nat} {ret : Option FieldType}
    (hown : s.vm.findClass own = some m.cls) (hlink : (Cond.methodLink own index y).before args s = true) (hinst : (Cond.instanceMethod y).before args s = true) (hsel : (Cond.selects C y y).before args s = true)
    (hcode : (Cond.code y bytes maxL ret).before args s = true) (hy : y.cls ≠ "java/lang/invoke/MethodHandle" ∧ y.cls ≠ "java/lang/invoke/VarHandle")
    {W9 : Nat} {Pre : Pt → Array Value → Prop} {Post : Pt → Array Value → Option Value → Pt → Prop} {PostX : Pt → Array Value → Addr → Pt → Prop} (hK : vx_Back l R p e below s args y 3 W9 Pre Post PostX)
    {b : Addr} {cellB : Cell} (hcell : T.heap[b]? = some cellB) (hobj : cellB.vm.isStatics = false) (hcls : s.vm.findClass C = some cellB.cls)
    {g : JFrame} (hg : g.method = m) (hsize : g.locals.size = c.maxLocals) {argsL rest : List Value} (hlen : ∀ sig, parseMethodDescriptor y.desc = some sig → argsL.length = sig.parameters.length)
    (hstack : g.stack = argsL.reverse ++ .ref b :: rest) (hW : 2 * g.monitorRoom + (rest.map fun v => v.category).sum ≤ W9) (hdg : decode c.code g.pc = .ok (.invokevirtual index, 3))
    (hpre : ∀ vm₁, s.WarmedH vm₁ → Pre ⟨T.setVm vm₁, locs, cells, slots⟩ (Value.ref b :: argsL).toArray) :
    (∃ (v : Option Value) (vm₁ : Vm) (B : Pt), s.WarmedH vm₁ ∧ Stand p l e R s m args below meth c B.U B.locs B.cells B.slots ∧ Post ⟨T.setVm vm₁, locs, cells, slots⟩ (Value.ref b :: argsL).toArray v B ∧
      ∀ target, Steps p.tables e below (B.U.setTop { g with pc := g.pc + 3, stack := v.toList ++ rest }) target → Steps p.tables e below (T.setTop g) target) ∨
    (∃ (q : Addr) (vm₁ : Vm) (B : Pt), s.WarmedH vm₁ ∧ Stand p l e R s m args below meth c B.U B.locs B.cells B.slots ∧ PostX ⟨T.setVm vm₁, locs, cells, slots⟩ (Value.ref b :: argsL).toArray q B ∧
      Steps p.tables e below (T.setTop g) ((B.U.setTop { g with stack := rest }).pushFrame (.throwing q))) := by
  obtain ⟨mk, methM, hnamed, hmethM, hstM, habM⟩ := Cond.instanceMethod_spec hinst
  obtain ⟨methM', cM, hmethM', -, -, -, -, -, -, hsigM⟩ := Cond.code_spec hnamed hcode
  cases hmethM.symm.trans hmethM'
  obtain ⟨c2, r2, m2, q1, q2, q3, q4, kP, hkP, hkPi⟩ := Cond.selects_spec hsel
  cases hcls.symm.trans q1
  cases (State.methodFound?_of_named hnamed hy).symm.trans q2
  cases hnamed.symm.trans q3
  have hselP : selectMethod e.platform s.vm cellB.cls mk = .method mk := by rw [Launch.admits_selectMethod X.admits]; exact q4
  obtain ⟨vm₁, X₁, hstep₁⟩ := X.invokevirtual hexec hown hlink hnamed hmethM hstM hkP hkPi hy (a := b) (cell := cellB) hcell
    (fun z h => by rw [h] at hobj; cases hobj) hselP hmethM habM hkP hkPi (g := g) hg (argsL := argsL) (rest := rest) (hlen _ hsigM) hstack hdg
  rcases hK m meth c ⟨T.setVm vm₁, locs, cells, slots⟩ { g with stack := rest } (.invokevirtual index) mk (Value.ref b :: argsL).toArray X₁ hg hsize hdg hW (X₁.named hnamed) (hpre vm₁ X₁.warmed) with ⟨v, B, X', hpost, hsteps⟩ | ⟨q, B, X', hpost, hsteps⟩
  · exact Or.inl ⟨v, vm₁, B, X₁.warmed, X', hpost, fun target h => hstep₁ _ fun acts => by rw [doInvoke_state]; exact hsteps.trans h⟩
  · exact Or.inr ⟨q, vm₁, B, X₁.warmed, X', hpost, hstep₁ _ fun acts => by rw [doInvoke_state]; exact hsteps⟩
theorem vx_callS (X : Stand p l e R s m args below meth c T locs cells slots) (hexec : p.tables.exec = Jvm.exec) {own : String} {index : Nat} {y : MethodName} {bytes : ByteArray} {maxL : Nat} {ret : Option FieldType}
    (hown : s.vm.findClass own = some m.cls) (hlink : (Cond.methodLink own index y).before args s = true) (hstat : (Cond.static y).before args s = true) (hinit : (Cond.initialized y.cls).before args s = true)
    (hcode : (Cond.code y bytes maxL ret).before args s = true) (hy : y.cls ≠ "java/lang/invoke/MethodHandle" ∧ y.cls ≠ "java/lang/invoke/VarHandle")
    {W9 : Nat} {Pre : Pt → Array Value → Prop} {Post : Pt → Array Value → Option Value → Pt → Prop} {PostX : Pt → Array Value → Addr → Pt → Prop} (hK : vx_Back l R p e below s args y 3 W9 Pre Post PostX)
    {g : JFrame} (hg : g.method = m) (hsize : g.locals.size = c.maxLocals) {argsL rest : List Value} (hlen : ∀ sig, parseMethodDescriptor y.desc = some sig → argsL.length = sig.parameters.length)
    (hstack : g.stack = argsL.reverse ++ rest) (hW : 2 * g.monitorRoom + (rest.map fun v => v.category).sum ≤ W9) (hdg : decode c.code g.pc = .ok (.invokestatic index, 3))
    (hpre : ∀ vm₁, s.WarmedH vm₁ → Pre ⟨T.setVm vm₁, locs, cells, slots⟩ argsL.toArray) :
    (∃ (v : Option Value) (vm₁ : Vm) (B : Pt), s.WarmedH vm₁ ∧ Stand p l e R s m args below meth c B.U B.locs B.cells B.slots ∧ Post ⟨T.setVm vm₁, locs, cells, slots⟩ argsL.toArray v B ∧
      ∀ target, Steps p.tables e below (B.U.setTop { g with pc := g.pc + 3, stack := v.toList ++ rest }) target → Steps p.tables e below (T.setTop g) target) ∨
    (∃ (q : Addr) (vm₁ : Vm) (B : Pt), s.WarmedH vm₁ ∧ Stand p l e R s m args below meth c B.U B.locs B.cells B.slots ∧ PostX ⟨T.setVm vm₁, locs, cells, slots⟩ argsL.toArray q B ∧
      Steps p.tables e below (T.setTop g) ((B.U.setTop { g with stack := rest }).pushFrame (.throwing q))) := by
  obtain ⟨mk, hnamed⟩ := Cond.code_named hcode
  obtain ⟨methM, cM, hmethM, -, -, -, -, -, -, hsigM⟩ := Cond.code_spec hnamed hcode
  have hstatic : methM.isStatic = true := Cond.static_spec hnamed hmethM hstat
  obtain ⟨kP, hkP, -⟩ := className_of_methodNamed hnamed
  have hinitP : kP.init = .initialized := Cond.initialized_spec (findClass_of_methodNamed hnamed) hkP hinit
  obtain ⟨vm₁, X₁, hstep₁⟩ := X.invokestatic hexec hown hlink hnamed hmethM hstatic hkP hinitP hy (g := g) hg (argsL := argsL) (rest := rest) (hlen _ hsigM) hstack hdg
  rcases hK m meth c ⟨T.setVm vm₁, locs, cells, slots⟩ { g with stack := rest } (.invokestatic index) mk argsL.toArray X₁ hg hsize hdg hW (X₁.named hnamed) (hpre vm₁ X₁.warmed) with ⟨v, B, X', hpost, hsteps⟩ | ⟨q, B, X', hpost, hsteps⟩
  · exact Or.inl ⟨v, vm₁, B, X₁.warmed, X', hpost, fun target h => hstep₁ _ fun acts => by rw [doInvoke_state]; exact hsteps.trans h⟩
  · exact Or.inr ⟨q, vm₁, B, X₁.warmed, X', hpost, hstep₁ _ fun acts => by rw [doInvoke_state]; exact hsteps⟩
end Calls
theorem vx_cls {s : State} {T : State} {vm₁ : Vm} {E : String} {k : ClassId} (hW : s.WarmedH vm₁) (h : (T.setVm vm₁).vm.findClass E = some k) : s.vm.findClass E = some k := by
  have h1 : vm₁.findClass E = some k := h
  rw [hW.alike.findClass] at h1
  exact h1
/-- the method's frame g, with q thrown over it -/
def vx_W (p : Program) (l : Launch) (e : Env) (R : Room) (s : State) (m : MethodId) (args : Array Value) (below : List Frame) (meth : Method) (c : Code) (H : Heap) (locs : List Loc) (cells slots : Nat) (Q : State → Prop) (g : JFrame) (q : Addr) : Prop :=
  ∀ T : State, T.heap = H → Stand p l e R s m args below meth c T locs cells slots → ∃ t, Steps p.tables e below ((T.setTop g).pushFrame (.throwing q)) t ∧ Q t
def vx_Run (p : Program) (l : Launch) (e : Env) (R : Room) (s : State) (m : MethodId) (args : Array Value) (below : List Frame) (meth : Method) (c : Code) (H : Heap) (locs : List Loc) (cells slots mc ms : Nat) (g : JFrame) (rest : List Value) (Qa : State → Outcome → State → Prop) (XC : String → State → State → Prop) (free : Addr → Prop) : Prop :=
  ∀ T : State, T.heap = H → Stand p l e R s m args below meth c T locs cells slots →
    (∃ (v : Option Value) (st₀ t T' : State) (L : List Loc), st₀.heap = H ∧ Stand p l e R s m args below meth c T' (locs ++ L) (cells + mc) (slots + ms) ∧ (∀ q ∈ L, free q.base) ∧ T'.heap = t.heap ∧ T'.vm = t.vm ∧ Qa st₀ (.returned v) t ∧
      Goes p e below T g T' { g with pc := g.pc + 3, stack := v.toList ++ rest }) ∨
    (∃ (q : Addr) (st₀ t T' : State) (L : List Loc) (E : String) (ce : Cell), st₀.heap = H ∧ Stand p l e R s m args below meth c T' (locs ++ L) (cells + mc) (slots + ms) ∧ (∀ z ∈ L, free z.base) ∧ T'.heap = t.heap ∧ T'.vm = t.vm ∧ XC E st₀ t ∧ t.heap[q]? = some ce ∧ ce.vm = .none ∧ s.vm.findClass E = some ce.cls ∧
      Steps p.tables e below (T.setTop g) ((T'.setTop { g with stack := rest }).pushFrame (.throwing q)))
def vx_X {S : Type} (px : S → Prop) (B : String → S → State → Prop) (A : Nat → Prop) : String → State → State → Prop := fun E st t => ∃ u : S, px u ∧ B E u t ∧ va_F A st t
section Runs
variable {p : Program} {l : Launch} {e : Env} {R : Room} {s : State} {m : MethodId} {args : Array Value} {below : List Frame} {meth : Method} {c : Code} {H : Heap} {locs : List Loc} {cells slots : Nat}
variable {y : MethodName} {bytes cc : ByteArray} {maxL nL mc ms n index : Nat} {ret : Option FieldType} {ws : List Cond} {rm : Room} {Pc : Array Value → State → Prop} {Qc : Array Value → State → Outcome → State → Prop} {XC : String → State → State → Prop} {free : Addr → Prop} {Ts : List Cond} {own C : String} {b : Addr} {As rest : List Value} {g : JFrame}
theorem vx_callBack (cb : CallB R s args own index y bytes maxL ret ws rm mc ms n) (hM : vx_Met l y ws rm Pc Qc XC mc ms free) (hbl : FrameBlind Pc) : vx_Back l R p e below s args y 3 8 (PreOf R mc ms Pc) (PostOf Qc mc ms free) (vx_Post XC mc ms free) := by
  obtain ⟨hrc, hrs, hfr, hlo, hws, hcw, -, hini, -⟩ := cb
  exact vx_back (bytes := bytes) (maxL := maxL) (ret := ret) hM hbl hrc hrs hfr hlo hws hcw (fun a' U hW => word_at hW (Or.inl (by first | rfl | simp [Cond.onTables, Cond.keeps, Cond.steady])) hini)
theorem vx_runV (S : CallFix p m c cc nL s args Ts own) (hM : vx_Met l y ws rm Pc Qc XC mc ms free) (cw : CallW R s args own C index y bytes maxL ret ws rm mc ms n) (hp : PreV s H C b Pc As)
    (hg : g.method = m) (hn : As.length = n) (hsize : g.locals.size = nL) (hstack : g.stack = As.reverse ++ .ref b :: rest) (hW : 2 * g.monitorRoom + (rest.map fun v => v.category).sum ≤ 8) (hdg : decode cc g.pc = .ok (.invokevirtual index, 3)) (hf : cells + mc ≤ R.cells ∧ slots + ms ≤ R.slots) :
    vx_Run p l e R s m args below meth c H locs cells slots mc ms g rest (Qc (Value.ref b :: As).toArray) XC free := by
  have hK : vx_Back l R p e below s args y 3 8 (PreOf R mc ms Pc) (PostOf Qc mc ms free) (vx_Post XC mc ms free) := vx_callBack cw.1 hM hp.1
  obtain ⟨⟨-, -, -, -, -, -, hcode, -, hy, hlen, hl⟩, hin, hse⟩ := cw
  obtain ⟨hx, hb, hml, ho, -⟩ := S
  obtain ⟨-, ⟨cellB, hcB, hoB, hclB⟩, hPc⟩ := hp
  intro T hT X
  rcases vx_callV X hx (C := C) (bytes := bytes) (maxL := maxL) (ret := ret) ho hl hin hse hcode hy hK (by rw [hT]; exact hcB) hoB hclB hg (hsize.trans hml.symm) (argsL := As) (rest := rest) (fun sig h => hn.trans (hlen sig h)) hstack hW (by rw [hb]; exact hdg)
    (fun vm₁ hW₁ => ⟨hf.1, hf.2, hPc (T.setVm vm₁) hT hW₁⟩) with ⟨v, vm₁, ⟨U', l2, c2, s2⟩, hW₁, X', ⟨g', mk, t, L, e1, e2, hq, h1, hL, h2, h3⟩, st⟩ | ⟨q, vm₁, ⟨U', l2, c2, s2⟩, hW₁, X', ⟨g', mk, t, L, E, ce, e1, e2, hq, hce, hcv, hcl, h1, hL, h2, h3⟩, st⟩
  · dsimp only [Pt.U, Pt.locs, Pt.cells, Pt.slots] at X' e1 e2 h1 h2 h3 st
    subst h1; subst h2; subst h3
    exact Or.inl ⟨v, (T.setVm vm₁).calling g' mk (Value.ref b :: As).toArray, t, U', L, hT, X', hL, e1, e2, hq, st⟩
  · dsimp only [Pt.U, Pt.locs, Pt.cells, Pt.slots] at X' e1 e2 h1 h2 h3 st hcl
    subst h1; subst h2; subst h3
    exact Or.inr ⟨q, (T.setVm vm₁).calling g' mk (Value.ref b :: As).toArray, t, U', L, E, ce, hT, X', hL, e1, e2, hq, hce, hcv, vx_cls hW₁ hcl, st⟩
theorem vx_runS (S : CallFix p m c cc nL s args Ts own) (hM : vx_Met l y ws rm Pc Qc XC mc ms free) (cw : CallB R s args own index y bytes maxL ret ws rm mc ms n ∧ (Cond.static y).before args s = true) (hp : PreS s H Pc As)
    (hg : g.method = m) (hn : As.length = n) (hsize : g.locals.size = nL) (hstack : g.stack = As.reverse ++ rest) (hW : 2 * g.monitorRoom + (rest.map fun v => v.category).sum ≤ 8) (hdg : decode cc g.pc = .ok (.invokestatic index, 3)) (hf : cells + mc ≤ R.cells ∧ slots + ms ≤ R.slots) :
    vx_Run p l e R s m args below meth c H locs cells slots mc ms g rest (Qc As.toArray) XC free := by
  have hK : vx_Back l R p e below s args y 3 8 (PreOf R mc ms Pc) (PostOf Qc mc ms free) (vx_Post XC mc ms free) := vx_callBack cw.1 hM hp.1
  obtain ⟨⟨-, -, -, -, -, -, hcode, hini, hy, hlen, hl⟩, hstt⟩ := cw
  obtain ⟨hx, hb, hml, ho, -⟩ := S
  intro T hT X
  rcases vx_callS X hx (bytes := bytes) (maxL := maxL) (ret := ret) ho hl hstt hini hcode hy hK hg (hsize.trans hml.symm) (argsL := As) (rest := rest) (fun sig h => hn.trans (hlen sig h)) hstack hW (by rw [hb]; exact hdg)
    (fun vm₁ hW₁ => ⟨hf.1, hf.2, hp.2 (T.setVm vm₁) hT hW₁⟩) with ⟨v, vm₁, ⟨U', l2, c2, s2⟩, hW₁, X', ⟨g', mk, t, L, e1, e2, hq, h1, hL, h2, h3⟩, st⟩ | ⟨q, vm₁, ⟨U', l2, c2, s2⟩, hW₁, X', ⟨g', mk, t, L, E, ce, e1, e2, hq, hce, hcv, hcl, h1, hL, h2, h3⟩, st⟩
  · dsimp only [Pt.U, Pt.locs, Pt.cells, Pt.slots] at X' e1 e2 h1 h2 h3 st
    subst h1; subst h2; subst h3
    exact Or.inl ⟨v, (T.setVm vm₁).calling g' mk As.toArray, t, U', L, hT, X', hL, e1, e2, hq, st⟩
  · dsimp only [Pt.U, Pt.locs, Pt.cells, Pt.slots] at X' e1 e2 h1 h2 h3 st hcl
    subst h1; subst h2; subst h3
    exact Or.inr ⟨q, (T.setVm vm₁).calling g' mk As.toArray, t, U', L, E, ce, hT, X', hL, e1, e2, hq, hce, hcv, vx_cls hW₁ hcl, st⟩
end Runs
section Rows
variable {p : Program} {l : Launch} {e : Env} {R : Room} {s : State} {m : MethodId} {args : Array Value} {below : List Frame} {meth : Method} {c : Code} {H : Heap} {locs : List Loc} {cells slots : Nat} {Q : State → Prop}
variable {mc ms : Nat} {free : Addr → Prop} {A0 A1 : Nat → Prop} {H0 : Heap} {a : Array Value} {pc : Nat} {ls : Array Slot} {st0 rest : List Value}
theorem vx_keep {st₀ t T' : State} {L : List Loc} (h0 : st₀.heap = H) (e1 : T'.heap = t.heap) (hS : va_S A0 H0 H locs) (hA : ∀ q, q < H.size → A1 q → A0 q) (hf : ∀ q, free q → A0 q) (hL : ∀ q ∈ L, free q.base) (hF : va_F A1 st₀ t) :
    H.size ≤ T'.heap.size ∧ (∀ q : Nat, q < H.size → ¬ A1 q → T'.heap[q]? = H[q]?) ∧ va_S A0 H0 T'.heap (locs ++ L) := by
  obtain ⟨hz, hk⟩ := hF
  rw [h0] at hz hk
  exact ⟨by rw [e1]; exact hz, fun q h1 h2 => by rw [e1]; exact hk q h1 h2,
    ⟨Nat.le_trans hS.1 (by rw [e1]; exact hz), fun q h1 h2 => by rw [e1, hk q (Nat.lt_of_lt_of_le h1 hS.1) (fun z => h2 (hA q (Nat.lt_of_lt_of_le h1 hS.1) z))]; exact hS.2.1 q h1 h2, fun q hq => by
      rcases List.mem_append.mp hq with h | h
      · exact hS.2.2 q h
      · exact hf _ (hL q h)⟩⟩
theorem vx_calli {S SX : Type} {post : Int32 → S → Prop} {px : SX → Prop} {B : S → State → Prop} {BX : String → SX → State → Prop} {AX : Nat → Prop} (hr : vx_Run p l e R s m args below meth c H locs cells slots mc ms (F0 m pc ls st0) rest (va_Qi post B A1 a) (vx_X px BX AX) free) (hS : va_S A0 H0 H locs) (hA : ∀ q, q < H.size → A1 q → A0 q) (hf : ∀ q, free q → A0 q) (hAX : ∀ q, q < H.size → AX q → A0 q)
    (kx : ∀ (E : String) (ce : Cell) (q9 : Addr) (u : SX) (t : State) (H1 : Heap) (locs1 : List Loc), t.heap = H1 → s.vm.Alike t.vm → px u → BX E u t → H.size ≤ H1.size → (∀ q : Nat, q < H.size → ¬ AX q → H1[q]? = H[q]?) → va_S A0 H0 H1 locs1 → H1[q9]? = some ce → ce.vm = .none → s.vm.findClass E = some ce.cls → vx_W p l e R s m args below meth c H1 locs1 (cells + mc) (slots + ms) Q (F0 m pc ls rest) q9)
    (kk : ∀ (r : Int32) (u : S) (t : State) (H1 : Heap) (locs1 : List Loc), t.heap = H1 → s.vm.Alike t.vm → post r u → B u t → H.size ≤ H1.size → (∀ q : Nat, q < H.size → ¬ A1 q → H1[q]? = H[q]?) → va_S A0 H0 H1 locs1 → W p l e R s m args below meth c H1 locs1 (cells + mc) (slots + ms) Q (F0 m (pc + 3) ls (.int r :: rest))) : W p l e R s m args below meth c H locs cells slots Q (F0 m pc ls st0) := by
  intro T hT X
  rcases hr T hT X with ⟨v, st₀, t, T', L, h0, X', hL, e1, e2, ⟨⟨r, u, hv, hp, hb⟩, hF⟩, st⟩ | ⟨q, st₀, t, T', L, E, ce, h0, X', hL, e1, e2, ⟨u, hp, hb, hF⟩, hce, hcv, hcl, st⟩
  · cases hv
    obtain ⟨k1, k2, k3⟩ := vx_keep h0 e1 hS hA hf hL hF
    obtain ⟨t2, a1, b1⟩ := kk r u t T'.heap (locs ++ L) e1.symm (by rw [← e2]; exact X'.warmed.alike) hp hb k1 k2 k3 T' rfl X'
    exact ⟨t2, st t2 a1, b1⟩
  · obtain ⟨k1, k2, k3⟩ := vx_keep h0 e1 hS hAX hf hL hF
    obtain ⟨t2, a1, b1⟩ := kx E ce q u t T'.heap (locs ++ L) e1.symm (by rw [← e2]; exact X'.warmed.alike) hp hb k1 k2 k3 (by rw [e1]; exact hce) hcv hcl T' rfl X'
    exact ⟨t2, st.trans a1, b1⟩
theorem vx_calll {S SX : Type} {post : Int64 → S → Prop} {px : SX → Prop} {B : S → State → Prop} {BX : String → SX → State → Prop} {AX : Nat → Prop} (hr : vx_Run p l e R s m args below meth c H locs cells slots mc ms (F0 m pc ls st0) rest (va_Ql post B A1 a) (vx_X px BX AX) free) (hS : va_S A0 H0 H locs) (hA : ∀ q, q < H.size → A1 q → A0 q) (hf : ∀ q, free q → A0 q) (hAX : ∀ q, q < H.size → AX q → A0 q)
    (kx : ∀ (E : String) (ce : Cell) (q9 : Addr) (u : SX) (t : State) (H1 : Heap) (locs1 : List Loc), t.heap = H1 → s.vm.Alike t.vm → px u → BX E u t → H.size ≤ H1.size → (∀ q : Nat, q < H.size → ¬ AX q → H1[q]? = H[q]?) → va_S A0 H0 H1 locs1 → H1[q9]? = some ce → ce.vm = .none → s.vm.findClass E = some ce.cls → vx_W p l e R s m args below meth c H1 locs1 (cells + mc) (slots + ms) Q (F0 m pc ls rest) q9)
    (kk : ∀ (r : Int64) (u : S) (t : State) (H1 : Heap) (locs1 : List Loc), t.heap = H1 → s.vm.Alike t.vm → post r u → B u t → H.size ≤ H1.size → (∀ q : Nat, q < H.size → ¬ A1 q → H1[q]? = H[q]?) → va_S A0 H0 H1 locs1 → W p l e R s m args below meth c H1 locs1 (cells + mc) (slots + ms) Q (F0 m (pc + 3) ls (.long r :: rest))) : W p l e R s m args below meth c H locs cells slots Q (F0 m pc ls st0) := by
  intro T hT X
  rcases hr T hT X with ⟨v, st₀, t, T', L, h0, X', hL, e1, e2, ⟨⟨r, u, hv, hp, hb⟩, hF⟩, st⟩ | ⟨q, st₀, t, T', L, E, ce, h0, X', hL, e1, e2, ⟨u, hp, hb, hF⟩, hce, hcv, hcl, st⟩
  · cases hv
    obtain ⟨k1, k2, k3⟩ := vx_keep h0 e1 hS hA hf hL hF
    obtain ⟨t2, a1, b1⟩ := kk r u t T'.heap (locs ++ L) e1.symm (by rw [← e2]; exact X'.warmed.alike) hp hb k1 k2 k3 T' rfl X'
    exact ⟨t2, st t2 a1, b1⟩
  · obtain ⟨k1, k2, k3⟩ := vx_keep h0 e1 hS hAX hf hL hF
    obtain ⟨t2, a1, b1⟩ := kx E ce q u t T'.heap (locs ++ L) e1.symm (by rw [← e2]; exact X'.warmed.alike) hp hb k1 k2 k3 (by rw [e1]; exact hce) hcv hcl T' rfl X'
    exact ⟨t2, st.trans a1, b1⟩
theorem vx_callf {S SX : Type} {post : UInt32 → S → Prop} {px : SX → Prop} {B : S → State → Prop} {BX : String → SX → State → Prop} {AX : Nat → Prop} (hr : vx_Run p l e R s m args below meth c H locs cells slots mc ms (F0 m pc ls st0) rest (va_Qf post B A1 a) (vx_X px BX AX) free) (hS : va_S A0 H0 H locs) (hA : ∀ q, q < H.size → A1 q → A0 q) (hf : ∀ q, free q → A0 q) (hAX : ∀ q, q < H.size → AX q → A0 q)
    (kx : ∀ (E : String) (ce : Cell) (q9 : Addr) (u : SX) (t : State) (H1 : Heap) (locs1 : List Loc), t.heap = H1 → s.vm.Alike t.vm → px u → BX E u t → H.size ≤ H1.size → (∀ q : Nat, q < H.size → ¬ AX q → H1[q]? = H[q]?) → va_S A0 H0 H1 locs1 → H1[q9]? = some ce → ce.vm = .none → s.vm.findClass E = some ce.cls → vx_W p l e R s m args below meth c H1 locs1 (cells + mc) (slots + ms) Q (F0 m pc ls rest) q9)
    (kk : ∀ (r : UInt32) (u : S) (t : State) (H1 : Heap) (locs1 : List Loc), t.heap = H1 → s.vm.Alike t.vm → post r u → B u t → H.size ≤ H1.size → (∀ q : Nat, q < H.size → ¬ A1 q → H1[q]? = H[q]?) → va_S A0 H0 H1 locs1 → W p l e R s m args below meth c H1 locs1 (cells + mc) (slots + ms) Q (F0 m (pc + 3) ls (.float r :: rest))) : W p l e R s m args below meth c H locs cells slots Q (F0 m pc ls st0) := by
  intro T hT X
  rcases hr T hT X with ⟨v, st₀, t, T', L, h0, X', hL, e1, e2, ⟨⟨r, u, hv, hp, hb⟩, hF⟩, st⟩ | ⟨q, st₀, t, T', L, E, ce, h0, X', hL, e1, e2, ⟨u, hp, hb, hF⟩, hce, hcv, hcl, st⟩
  · cases hv
    obtain ⟨k1, k2, k3⟩ := vx_keep h0 e1 hS hA hf hL hF
    obtain ⟨t2, a1, b1⟩ := kk r u t T'.heap (locs ++ L) e1.symm (by rw [← e2]; exact X'.warmed.alike) hp hb k1 k2 k3 T' rfl X'
    exact ⟨t2, st t2 a1, b1⟩
  · obtain ⟨k1, k2, k3⟩ := vx_keep h0 e1 hS hAX hf hL hF
    obtain ⟨t2, a1, b1⟩ := kx E ce q u t T'.heap (locs ++ L) e1.symm (by rw [← e2]; exact X'.warmed.alike) hp hb k1 k2 k3 (by rw [e1]; exact hce) hcv hcl T' rfl X'
    exact ⟨t2, st.trans a1, b1⟩
theorem vx_calld {S SX : Type} {post : UInt64 → S → Prop} {px : SX → Prop} {B : S → State → Prop} {BX : String → SX → State → Prop} {AX : Nat → Prop} (hr : vx_Run p l e R s m args below meth c H locs cells slots mc ms (F0 m pc ls st0) rest (va_Qd post B A1 a) (vx_X px BX AX) free) (hS : va_S A0 H0 H locs) (hA : ∀ q, q < H.size → A1 q → A0 q) (hf : ∀ q, free q → A0 q) (hAX : ∀ q, q < H.size → AX q → A0 q)
    (kx : ∀ (E : String) (ce : Cell) (q9 : Addr) (u : SX) (t : State) (H1 : Heap) (locs1 : List Loc), t.heap = H1 → s.vm.Alike t.vm → px u → BX E u t → H.size ≤ H1.size → (∀ q : Nat, q < H.size → ¬ AX q → H1[q]? = H[q]?) → va_S A0 H0 H1 locs1 → H1[q9]? = some ce → ce.vm = .none → s.vm.findClass E = some ce.cls → vx_W p l e R s m args below meth c H1 locs1 (cells + mc) (slots + ms) Q (F0 m pc ls rest) q9)
    (kk : ∀ (r : UInt64) (u : S) (t : State) (H1 : Heap) (locs1 : List Loc), t.heap = H1 → s.vm.Alike t.vm → post r u → B u t → H.size ≤ H1.size → (∀ q : Nat, q < H.size → ¬ A1 q → H1[q]? = H[q]?) → va_S A0 H0 H1 locs1 → W p l e R s m args below meth c H1 locs1 (cells + mc) (slots + ms) Q (F0 m (pc + 3) ls (.double r :: rest))) : W p l e R s m args below meth c H locs cells slots Q (F0 m pc ls st0) := by
  intro T hT X
  rcases hr T hT X with ⟨v, st₀, t, T', L, h0, X', hL, e1, e2, ⟨⟨r, u, hv, hp, hb⟩, hF⟩, st⟩ | ⟨q, st₀, t, T', L, E, ce, h0, X', hL, e1, e2, ⟨u, hp, hb, hF⟩, hce, hcv, hcl, st⟩
  · cases hv
    obtain ⟨k1, k2, k3⟩ := vx_keep h0 e1 hS hA hf hL hF
    obtain ⟨t2, a1, b1⟩ := kk r u t T'.heap (locs ++ L) e1.symm (by rw [← e2]; exact X'.warmed.alike) hp hb k1 k2 k3 T' rfl X'
    exact ⟨t2, st t2 a1, b1⟩
  · obtain ⟨k1, k2, k3⟩ := vx_keep h0 e1 hS hAX hf hL hF
    obtain ⟨t2, a1, b1⟩ := kx E ce q u t T'.heap (locs ++ L) e1.symm (by rw [← e2]; exact X'.warmed.alike) hp hb k1 k2 k3 (by rw [e1]; exact hce) hcv hcl T' rfl X'
    exact ⟨t2, st.trans a1, b1⟩
theorem vx_callv {S SX : Type} {post : S → Prop} {px : SX → Prop} {B : S → State → Prop} {BX : String → SX → State → Prop} {AX : Nat → Prop} (hr : vx_Run p l e R s m args below meth c H locs cells slots mc ms (F0 m pc ls st0) rest (va_Qv post B A1 a) (vx_X px BX AX) free) (hS : va_S A0 H0 H locs) (hA : ∀ q, q < H.size → A1 q → A0 q) (hf : ∀ q, free q → A0 q) (hAX : ∀ q, q < H.size → AX q → A0 q)
    (kx : ∀ (E : String) (ce : Cell) (q9 : Addr) (u : SX) (t : State) (H1 : Heap) (locs1 : List Loc), t.heap = H1 → s.vm.Alike t.vm → px u → BX E u t → H.size ≤ H1.size → (∀ q : Nat, q < H.size → ¬ AX q → H1[q]? = H[q]?) → va_S A0 H0 H1 locs1 → H1[q9]? = some ce → ce.vm = .none → s.vm.findClass E = some ce.cls → vx_W p l e R s m args below meth c H1 locs1 (cells + mc) (slots + ms) Q (F0 m pc ls rest) q9)
    (kk : ∀ (u : S) (t : State) (H1 : Heap) (locs1 : List Loc), t.heap = H1 → s.vm.Alike t.vm → post u → B u t → H.size ≤ H1.size → (∀ q : Nat, q < H.size → ¬ A1 q → H1[q]? = H[q]?) → va_S A0 H0 H1 locs1 → W p l e R s m args below meth c H1 locs1 (cells + mc) (slots + ms) Q (F0 m (pc + 3) ls (rest))) : W p l e R s m args below meth c H locs cells slots Q (F0 m pc ls st0) := by
  intro T hT X
  rcases hr T hT X with ⟨v, st₀, t, T', L, h0, X', hL, e1, e2, ⟨⟨u, hv, hp, hb⟩, hF⟩, st⟩ | ⟨q, st₀, t, T', L, E, ce, h0, X', hL, e1, e2, ⟨u, hp, hb, hF⟩, hce, hcv, hcl, st⟩
  · cases hv
    obtain ⟨k1, k2, k3⟩ := vx_keep h0 e1 hS hA hf hL hF
    obtain ⟨t2, a1, b1⟩ := kk u t T'.heap (locs ++ L) e1.symm (by rw [← e2]; exact X'.warmed.alike) hp hb k1 k2 k3 T' rfl X'
    exact ⟨t2, st t2 a1, b1⟩
  · obtain ⟨k1, k2, k3⟩ := vx_keep h0 e1 hS hAX hf hL hF
    obtain ⟨t2, a1, b1⟩ := kx E ce q u t T'.heap (locs ++ L) e1.symm (by rw [← e2]; exact X'.warmed.alike) hp hb k1 k2 k3 (by rw [e1]; exact hce) hcv hcl T' rfl X'
    exact ⟨t2, st.trans a1, b1⟩
/-- caught by the row x of this method's table; the rows ahead don't take it -/
theorem vx_catch {own name : String} {E : String} {ce : Cell} {q : Addr} (hown : s.vm.findClass own = some m.cls) (pre : List ExceptionTableEntry) (x : ExceptionTableEntry) (suf : List ExceptionTableEntry) (hsplit : c.exceptionTable.toList = pre ++ x :: suf)
    (hpass : ∀ z ∈ pre, covers z pc = false ∨ (z.catchType ≠ 0 ∧ ∃ nm : String, (Cond.classLink own z.catchType nm).before args s = true ∧ va_Nc E nm s)) (hx : covers x pc = true) (h0 : x.catchType ≠ 0)
    (hlink : (Cond.classLink own x.catchType name).before args s = true) (hcast : (Cond.castable E name).before args s = true) (hcell : H[q]? = some ce) (hv : ce.vm = .none) (hcl : s.vm.findClass E = some ce.cls)
    (kk : W p l e R s m args below meth c H locs cells slots Q (F0 m x.handlerPc ls [.ref q])) : vx_W p l e R s m args below meth c H locs cells slots Q (F0 m pc ls rest) q := by
  intro T hT X
  have hpl : e.platform.magicAccessors = ({} : Platform).magicAccessors := by rw [X.admits.platform]
  obtain ⟨c3, c4, hc3, hc4, hasg⟩ := Cond.castable_spec hcast
  cases Option.some.inj (hc3.symm.trans hcl)
  obtain ⟨c5, hc5, hcl5⟩ := Cond.classLink_spec hown hlink e.platform hpl
  cases Option.some.inj (hc4.symm.trans hc5)
  obtain ⟨vm', X', st⟩ := X.thenCaughtThrough q (g := F0 m pc ls rest) rfl (Steps.refl _) (by rw [hT]; exact hcell) (by rw [hv]; rfl) (by obtain ⟨k9, h9, -⟩ := Vm.findClass_spec hcl; exact ⟨k9, h9⟩) pre x suf hsplit
    (fun z hz => by
      rcases hpass z hz with h | ⟨hz0, nm, hl1, hn1⟩
      · exact Or.inl h
      · obtain ⟨c6, hc6, hcl6⟩ := Cond.classLink_spec hown hl1 e.platform hpl
        obtain ⟨a8, b8, h1, h2, h3⟩ := hn1
        cases Option.some.inj (h1.symm.trans hcl)
        cases Option.some.inj (h2.symm.trans hc6)
        exact Or.inr ⟨hz0, _, hcl6, h3⟩) hx (Or.inr ⟨h0, c4, hcl5, hasg⟩)
  obtain ⟨t, a1, b1⟩ := kk (T.setVm vm') hT X'
  exact ⟨t, st.trans a1, b1⟩
end Rows
section Ends
variable {p : Program} {l : Launch} {e : Env} {R : Room} {s : State} {m : MethodId} {args : Array Value} {below : List Frame} {meth : Method} {c : Code} {H : Heap} {locs : List Loc} {cells slots : Nat} {Q : State → Prop}
variable {mc ms : Nat} {free : Addr → Prop} {A0 A1 : Nat → Prop} {H0 : Heap} {a : Array Value} {ls : Array Slot} {st0 rest : List Value}
variable {Qc : Array Value → State → Outcome → State → Prop} {XC : String → State → State → Prop}
/-- what a body that may throw owes at its end -/
def vx_MQ (below : List Frame) (Qc : Array Value → State → Outcome → State → Prop) (XC : String → State → State → Prop) (a : Array Value) (s : State) (mc ms : Nat) (free : Addr → Prop) : State → Prop := fun t =>
  ∃ o, t.status = .running ∧ Ended t below o ∧ vx_Q Qc XC mc ms free a s o t
theorem vx_ret {g : JFrame} {mc ms : Nat} (k : W p l e R s m args below meth c H locs cells slots (MQ below Qc args s mc ms free) g) : W p l e R s m args below meth c H locs cells slots (vx_MQ below Qc XC args s mc ms free) g := by
  intro T hT X
  obtain ⟨t, a1, o, b1, b2, b3, b4⟩ := k T hT X
  exact ⟨t, a1, o, b1, b2, Or.inl ⟨b3, b4⟩⟩
/-- not caught here: it goes on to the caller -/
theorem vx_widen {g : JFrame} {q : Addr} {k n : Nat} (h1 : cells ≤ k) (h2 : slots ≤ n) (kk : vx_W p l e R s m args below meth c H locs k n Q g q) : vx_W p l e R s m args below meth c H locs cells slots Q g q := fun T hT X => kk T hT (stand_widen X h1 h2)
theorem vx_out {pc : Nat} {E : String} {ce : Cell} {q : Addr} {mc ms : Nat} (hout : ∀ x ∈ c.exceptionTable.toList, covers x pc = false) (hlocks : meth.locks = false) (hcell : H[q]? = some ce) (hv : ce.vm = .none) (hcl : s.vm.findClass E = some ce.cls)
    (hx : ∀ t : State, t.heap = H → s.vm.Alike t.vm → XC E s t) (hf : ∀ z ∈ locs, free z.base) (hc : cells ≤ mc) (hs : slots ≤ ms) :
    vx_W p l e R s m args below meth c H locs cells slots (vx_MQ below Qc XC args s mc ms free) (F0 m pc ls rest) q := by
  intro T hT X
  obtain ⟨st1, hrun, hend, hW, hsm⟩ := X.leaveThrown q (g := F0 m pc ls rest) rfl rfl rfl hout hlocks
  have hcell9 : (T.setFrames (.throwing q :: below)).heap[q]? = some ce := by
    show T.heap[q]? = some ce
    rw [hT]; exact hcell
  exact ⟨_, st1, .threw q, hrun, hend, Or.inr ⟨q, rfl, E, ce, locs, hx _ hT hW.alike, hcell9, hv, hcl, hW, hsm.mono hc hs, hf⟩⟩
theorem vx_frame {U : State} {k n : Nat} (h : s.sameButNew ({ U with vm := s.vm } : State) locs k n) : s.heap.size ≤ U.heap.size ∧ ∀ q : Nat, q < s.heap.size → (∀ z ∈ locs, z.base ≠ q) → U.heap[q]? = s.heap[q]? := by
  obtain ⟨-, h2, -, -, -, h6⟩ := h
  refine ⟨h2, fun q hq hz => ?_⟩
  obtain ⟨c9, e1, e2, e3, e4⟩ := h6 q _ (Array.getElem?_eq_getElem hq)
  have hs : c9.slots = (s.heap[q]).slots := Array.ext_getElem? fun i => e4 i fun hm => hz _ hm rfl
  have h9 : c9 = s.heap[q] := by
    rw [hs] at e2
    exact e2
  have e5 : U.heap[q]? = some c9 := e1
  rw [e5, h9, Array.getElem?_eq_getElem hq]
/-- the words of a throw but the four that speak of the heap -/
def vx_no (w : Cond) : Bool := decide (w ≠ .isRef (.static Bundle.tN "UNASSIGNED_STACK" Bundle.steD)) && decide (w ≠ .isRef (.static Bundle.tN "SUPPRESSED_SENTINEL" Bundle.listD)) && decide (w ≠ .laysStatic Bundle.tN "UNASSIGNED_STACK" Bundle.steD) && decide (w ≠ .laysStatic Bundle.tN "SUPPRESSED_SENTINEL" Bundle.listD)
def vx_at0 (own : String) (ic : Nat) (X : String) (names : List String) : List Cond := (Bundle.ownAtoms0 own ic X names).filter vx_no
def vx_atS (own : String) (ic : Nat) (X : String) (names : List String) : List Cond := (Bundle.ownAtoms own ic X names).filter vx_no
/-- a word that the tables alone decide, or a good one -/
def vx_ot (w : Cond) : Bool := w.onTables || goodWord w
theorem vx_ot_at {args a' : Array Value} {s U : State} {w : Cond} (hW : s.WarmedH U.vm) (hvm : s.vm = U.vm) (hg : vx_ot w = true) (h : w.before args s = true) : w.before a' U = true := by
  simp only [vx_ot, Bool.or_eq_true] at hg
  rcases hg with hg | hg
  · exact va_tabs hg hvm h
  · exact word_at hW (good_of_word hg) h
/-- a list's words: the good ones out of the method's own list, the others by premises of their own -/
theorem vx_hat {args : Array Value} {s : State} {L B : List Cond} (h1 : ∀ w ∈ L.filter goodWord, w.before args s = true) (h2 : ∀ w ∈ L.filter (fun w => !goodWord w), w ∈ B) (h3 : ∀ w ∈ B, w.before args s = true) : ∀ w ∈ L, w.before args s = true := by
  intro w hw
  by_cases g : goodWord w = true
  · exact h1 w (List.mem_filter.mpr ⟨hw, g⟩)
  · refine h3 w (h2 w (List.mem_filter.mpr ⟨hw, ?_⟩))
    show (!goodWord w) = true
    cases hgw : goodWord w
    · rfl
    · exact absurd hgw g
theorem vx_c {args : Array Value} {s : State} {w : Cond} {B : List Cond} (h : w.before args s = true) (t : ∀ w ∈ B, w.before args s = true) : ∀ w' ∈ w :: B, w'.before args s = true := fun w' h' => (List.mem_cons.mp h').elim (fun e => by rw [e]; exact h) (t w')
theorem vx_n {args : Array Value} {s : State} : ∀ w ∈ ([] : List Cond), w.before args s = true := fun _ h => nomatch h
theorem vx_own {args : Array Value} {s : State} {L : List Cond} (h1 : ∀ w ∈ L.filter vx_no, w.before args s = true)
    (hU : (Cond.isRef (.static Bundle.tN "UNASSIGNED_STACK" Bundle.steD)).before args s = true) (hN : (Cond.isRef (.static Bundle.tN "SUPPRESSED_SENTINEL" Bundle.listD)).before args s = true)
    (lU : (Cond.laysStatic Bundle.tN "UNASSIGNED_STACK" Bundle.steD).before args s = true) (lN : (Cond.laysStatic Bundle.tN "SUPPRESSED_SENTINEL" Bundle.listD).before args s = true) : ∀ w ∈ L, w.before args s = true := by
  intro w hw
  by_cases e1 : w = .isRef (.static Bundle.tN "UNASSIGNED_STACK" Bundle.steD)
  · rw [e1]; exact hU
  · by_cases e2 : w = .isRef (.static Bundle.tN "SUPPRESSED_SENTINEL" Bundle.listD)
    · rw [e2]; exact hN
    · by_cases e3 : w = .laysStatic Bundle.tN "UNASSIGNED_STACK" Bundle.steD
      · rw [e3]; exact lU
      · by_cases e4 : w = .laysStatic Bundle.tN "SUPPRESSED_SENTINEL" Bundle.listD
        · rw [e4]; exact lN
        · exact h1 w (List.mem_filter.mpr ⟨hw, by unfold vx_no; rw [decide_eq_true e1, decide_eq_true e2, decide_eq_true e3, decide_eq_true e4]; rfl⟩)
/-- where a static field lies, its class's statics cell in H -/
def vx_L (C n d : String) (A : Nat → Prop) (U : State) (H : Heap) : Prop := ∃ (c : ClassId) (k : Class) (i : Nat) (f : Field) (a : Nat) (cell : Cell), U.vm.findClass C = some c ∧ U.fieldFound? C n d = some (c, k, i, f) ∧ f.isStatic = true ∧ k.statics = some a ∧ H[a]? = some cell ∧ cell.vm.isStatics = true ∧ cell.cls = c ∧ f.slot < cell.slots.size ∧ k.staticTypes[f.slot]? = some f.type ∧ ¬ A a
theorem vx_L.moved {C n d : String} {A : Nat → Prop} {u U : State} {H : Heap} (hvm : u.vm.Alike U.vm) (h : vx_L C n d A u H) : vx_L C n d A U H := by
  obtain ⟨c, k, i, f, a, cell, h1, h2, h3, h4, h5, h6, h7, h8, h9, h10⟩ := h
  obtain ⟨k', hi', he⟩ := State.fieldFound?_setVm hvm h2
  exact ⟨c, k', i, f, a, cell, by rw [hvm.findClass]; exact h1, hi', h3, by rw [he]; exact h4, h5, h6, h7, h8, by rw [he]; exact h9, h10⟩
theorem vx_L.kept {C n d : String} {A : Nat → Prop} {U : State} {H H1 : Heap} (h : vx_L C n d A U H) (hq : ∀ a : Nat, a < H.size → ¬ A a → H1[a]? = H[a]?) : vx_L C n d A U H1 := by
  obtain ⟨c, k, i, f, a, cell, h1, h2, h3, h4, h5, h6, h7, h8, h9, h10⟩ := h
  exact ⟨c, k, i, f, a, cell, h1, h2, h3, h4, by rw [hq a (Array.getElem?_eq_some_iff.mp h5).1 h10]; exact h5, h6, h7, h8, h9, h10⟩
theorem vx_L.narrow {C n d : String} {A B : Nat → Prop} {U : State} {H : Heap} (h : vx_L C n d A U H) (hAB : ∀ q, B q → A q) : vx_L C n d B U H := by
  obtain ⟨c, k, i, f, a, cell, h1, h2, h3, h4, h5, h6, h7, h8, h9, h10⟩ := h
  exact ⟨c, k, i, f, a, cell, h1, h2, h3, h4, h5, h6, h7, h8, h9, fun z => h10 (hAB _ z)⟩
theorem vx_L.word {C n d : String} {A : Nat → Prop} {s : State} {args : Array Value} (h : vx_L C n d A s s.heap) : (Cond.laysStatic C n d).before args s = true := by
  obtain ⟨c, k, i, f, a, cell, h1, h2, h3, h4, h5, h6, h7, h8, h9, -⟩ := h
  show (Cond.laysStatic C n d).holds args s none s [] = true
  exact Cond.laysStatic_of h1 h2 h3 h4 h5 h6 h7 h8 h9
/-- .. and what it holds: null or some reference -/
def vx_Zq (C n d : String) (A : Nat → Prop) (U : State) (H : Heap) : Prop := va_Zq C n d A U H ∧ vx_L C n d A U H
theorem vx_Zq.moved {C n d : String} {A : Nat → Prop} {u U : State} {H : Heap} (hvm : u.vm.Alike U.vm) (h : vx_Zq C n d A u H) : vx_Zq C n d A U H := ⟨va_Zq.moved hvm h.1, vx_L.moved hvm h.2⟩
theorem vx_Zq.kept {C n d : String} {A : Nat → Prop} {U : State} {H H1 : Heap} (h : vx_Zq C n d A U H) (hq : ∀ a : Nat, a < H.size → ¬ A a → H1[a]? = H[a]?) : vx_Zq C n d A U H1 := ⟨va_Zq.kept h.1 hq, vx_L.kept h.2 hq⟩
theorem vx_Zq.narrow {C n d : String} {A B : Nat → Prop} {U : State} {H : Heap} (h : vx_Zq C n d A U H) (hAB : ∀ q, B q → A q) : vx_Zq C n d B U H := ⟨va_Zq.narrow h.1 hAB, vx_L.narrow h.2 hAB⟩
theorem vx_Zqof {args : Array Value} {s : State} {C n d : String} {A : Nat → Prop} (hl : (Cond.laysStatic C n d).before args s = true) (hini : (Cond.initialized C).before args s = true) (h : (Cond.isRef (.static C n d)).before args s = true) (hA : ∀ a : Nat, a < s.heap.size → ¬ A a) : vx_Zq C n d A s s.heap := by
  refine ⟨va_Zqof hl hini h hA, ?_⟩
  obtain ⟨c, k, i, f, a, cell, h1, h2, h3, h4, h5, h6, h7, h8, h9⟩ := Cond.laysStatic_spec hl
  exact ⟨c, k, i, f, a, cell, h1, h2, h3, h4, h5, h6, h7, h8, h9, hA a (Array.getElem?_eq_some_iff.mp h5).1⟩
theorem vx_isRef {C n d : String} {v : Value} {A : Nat → Prop} {s : State} {args : Array Value} (h : va_Z C n d v A s s.heap) (hv : v.isRef = true) : (Cond.isRef (.static C n d)).before args s = true := by
  obtain ⟨cf, kf, fi, f, a, cell, h1, h2, h3, h4, h5, h6, h7, -⟩ := h
  have he : (Term.static C n d).eval args s none [] s = some v := by
    simp [Term.eval, State.fieldNamed?, h1, h2, h4, h5, h6, h7]
  simp only [Cond.before, Cond.holds, Cond.value, he]
  cases v <;> simp_all [Value.isRef]
theorem vx_isRefq {C n d : String} {A : Nat → Prop} {s : State} {args : Array Value} (h : va_Zq C n d A s s.heap) : (Cond.isRef (.static C n d)).before args s = true := by
  rcases h with h | ⟨t, h⟩
  · exact vx_isRef h rfl
  · exact vx_isRef h rfl
/-- the same frame, seen from here: as if the method were called anew in this heap -/
theorem vx_rebase {T : State} (X : Stand p l e R s m args below meth c T locs cells slots) {R' : Room} (hf : R'.frames ≤ R.frames) (hl : R'.locals ≤ R.locals) (hc : cells + R'.cells ≤ R.cells) (hs : slots + R'.slots ≤ R.slots) :
    Stand p l e R' ((T.setVm s.vm).setFrames (.invoking m args :: below)) m args below meth c T [] 0 0 := by
  have htop : (T.setVm s.vm).topJava?.isSome := X.here.top
  have hF : ((T.setVm s.vm).setFrames (.invoking m args :: below)).frames = .invoking m args :: below := State.frames_setFrames _ (State.cur_lt_of_top htop)
  obtain ⟨g₀, hg0⟩ := Option.isSome_iff_exists.mp htop
  obtain ⟨r, hr⟩ := State.topJava?_eq_some.mp hg0
  have hl9 : e.platform.stackLimits (T.setVm s.vm).me = e.platform.stackLimits s.me := X.limits
  have hb9 : (T.setVm s.vm).me.stackBytes = s.me.stackBytes := X.bytes
  refine ⟨X.admits, X.cas, X.clock, hF, ?_, X.hears, X.method, X.code, X.here, X.tail, X.warmed, ?_, ?_, ?_⟩
  · have h := X.room
    have hU : ((T.setVm s.vm).setFrames (.invoking m args :: below)).localsInUse = s.localsInUse := by
      rw [State.localsInUse_invoking hF (meth := meth) (c := c) X.method X.code, State.localsInUse_invoking X.frames X.method X.code]
    simp only [State.hasRoom, Bool.and_eq_true, decide_eq_true_eq] at h ⊢
    obtain ⟨⟨⟨⟨h1, h2, h3, h4, h5, h6⟩, h7⟩, h8⟩, h9⟩ := h
    rw [X.frames, List.length_cons] at h2 h3
    have q1 := X.heapSize
    have q2 := X.used
    simp only [hF, hU, List.length_cons, State.stackLimits_setFrames, State.stackBytes_setFrames, hl9, hb9]
    refine ⟨⟨⟨⟨by omega, by omega, by omega, by omega, by omega, h6⟩, ?_⟩, ?_⟩, X.book⟩
    · show T.heap.size + R'.cells ≤ e.platform.maxCells
      omega
    · show T.slotsUsed + R'.slots ≤ e.platform.maxSlots
      omega
  · rw [State.stackLimits_setFrames]; rfl
  · rw [State.stackBytes_setFrames]; rfl
  · refine ⟨?_, Nat.le_refl _, Nat.le_refl _, ?_, ?_, fun a c9 h9 => ⟨c9, h9, rfl, rfl, fun _ _ => rfl⟩⟩
    · obtain ⟨t, ht, -⟩ := State.frames_cons hr
      show T.setVm s.vm = { ((T.setVm s.vm).setFrames (.invoking m args :: below)).setFrames (T.setVm s.vm).frames with heap := T.heap, slotsUsed := T.slotsUsed }
      rw [State.setFrames_setFrames, State.setFrames_self ht]
      rfl
    · show T.slotsUsed = T.slotsUsed + ((T.heap.toList.drop T.heap.size).map (·.slots.size)).sum
      rw [List.drop_eq_nil_of_le (Nat.le_of_eq Array.length_toList)]
      rfl
    · show ((T.heap.toList.drop T.heap.size).map (·.slots.size)).sum ≤ 0
      rw [List.drop_eq_nil_of_le (Nat.le_of_eq Array.length_toList)]
      exact Nat.le_refl _
/-- 'throw new E()': new; dup; invokespecial; athrow -/
theorem vx_throw0 {cc : ByteArray} {pc : Nat} (hexec : p.tables.exec = Jvm.exec) (hb : c.code = cc) (hl : l.stackTraces = false) {own cls : String} {names : List String} {ik ic mc ms : Nat} {A : Nat → Prop}
    (hown : s.vm.findClass own = some m.cls) (hcls : Bundle.fit cls = true) (hnames : ∀ n ∈ names, Bundle.fit n = true)
    (hk : (Cond.classLink own ik cls).before args s = true) (hini : (Cond.initialized cls).before args s = true) (hat : ∀ w ∈ vx_at0 own ic cls names, w.before args s = true)
    (hgood : ∀ w ∈ Cond.classLink own ik cls :: Cond.initialized cls :: vx_at0 own ic cls names, vx_ot w = true)
    (hU : vx_Zq Bundle.tN "UNASSIGNED_STACK" Bundle.steD A s s.heap) (hN : vx_Zq Bundle.tN "SUPPRESSED_SENTINEL" Bundle.listD A s s.heap) (hS : va_S A s.heap H locs) (hsize : ls.size = c.maxLocals)
    (d0 : decode cc pc = .ok (.new ik, 3)) (d3 : decode cc (pc + 3) = .ok (.dup, 1)) (d4 : decode cc (pc + 4) = .ok (.invokespecial ic, 3)) (d7 : decode cc (pc + 7) = .ok (.athrow, 1))
    (hout : ∀ x ∈ c.exceptionTable.toList, covers x (pc + 7) = false)
    (hRframes : names.length + 3 < R.frames) (hRlocals : (rest.map fun v => v.category).sum + (13 * (names.length + 1) + 42) ≤ R.locals) (hRcells : cells + 1 ≤ R.cells) (hRslots : slots + 6 ≤ R.slots) (hlocks : meth.locks = false)
    (hx : ∀ t : State, s.vm.Alike t.vm → H.size ≤ t.heap.size → (∀ q : Nat, q < H.size → t.heap[q]? = H[q]?) → XC cls s t)
    (hf : ∀ z ∈ locs, free z.base) (hc : cells + 1 ≤ mc) (hs : slots + 6 ≤ ms) :
    W p l e R s m args below meth c H locs cells slots (vx_MQ below Qc XC args s mc ms free) (F0 m pc ls rest) := by
  intro T hT X
  have htr : e.platform.stackTraces = false := (show e.platform.stackTraces = l.stackTraces by rw [X.admits.platform]).trans hl
  have Y := vx_rebase X (R' := { frames := R.frames, locals := R.locals, cells := 1, slots := 6 }) (Nat.le_refl _) (Nat.le_refl _) hRcells hRslots
  obtain ⟨s', hA⟩ : ∃ z, z = (T.setVm s.vm).setFrames (.invoking m args :: below) := ⟨_, rfl⟩
  rw [← hA] at Y
  have hvm : s'.vm = s.vm := by rw [hA]; rfl
  have hhp : s'.heap = H := by rw [hA]; exact hT
  have hW0 : s.WarmedH s'.vm := by rw [hvm]; exact State.WarmedH.refl s
  have hat' : ∀ w ∈ vx_at0 own ic cls names, w.before args s' = true := fun w hw => vx_ot_at hW0 hvm.symm (hgood w (List.mem_cons_of_mem _ (List.mem_cons_of_mem _ hw))) (hat w hw)
  have hk' : (Cond.classLink own ik cls).before args s' = true := vx_ot_at hW0 hvm.symm (hgood _ List.mem_cons_self) hk
  have hini' : (Cond.initialized cls).before args s' = true := vx_ot_at hW0 hvm.symm (hgood _ (List.mem_cons_of_mem _ List.mem_cons_self)) hini
  have hU' : vx_Zq Bundle.tN "UNASSIGNED_STACK" Bundle.steD A s' s'.heap := by rw [hhp]; exact vx_Zq.moved hW0.alike (hU.kept hS.2.1)
  have hN' : vx_Zq Bundle.tN "SUPPRESSED_SENTINEL" Bundle.listD A s' s'.heap := by rw [hhp]; exact vx_Zq.moved hW0.alike (hN.kept hS.2.1)
  have h : ∀ w ∈ Bundle.ownAtoms0 own ic cls names, w.before args s' = true := vx_own hat' (vx_isRefq hU'.1) (vx_isRefq hN'.1) hU'.2.word hN'.2.word
  have hown' : s'.vm.findClass own = some m.cls := by rw [hvm]; exact hown
  have hins : (Cond.instantiable cls 6).before args s' = true := h _ (by simp [Bundle.ownAtoms0])
  obtain ⟨vm₁, cX, kX, hfX, hkX, -, -, X₁, st1⟩ := Y.newCold hexec (own := own) (C := cls) (index := ik) (n := 6) hown' hk' hins hini'
    (g := F0 m pc ls rest) rfl (by rw [hb]; exact d0) (Nat.le_refl _) (Nat.le_refl _)
  generalize hT1 : (T.setVm vm₁).pushCell { cls := cX, slots := kX.instanceTypes.map defaultValue, vm := .none } = T1 at X₁ st1
  have hcat : (Value.ref T.heap.size).category = 1 := rfl
  have hcellA : T1.heap[T.heap.size]? = some (freshCell cX kX) := by rw [← hT1]; exact State.heap_pushCell_size _ _
  have d3' : decode c.code (pc + 3) = .ok (.dup, 1) := by rw [hb]; exact d3
  obtain ⟨U, hsteps, hrun, hend, hW, hsame, ce, hce, hO⟩ := X₁.ctorThrow0 hexec htr (own := own) (cls := cls) (names := names) (ic := ic) hown' hcls hnames h (fun x hx => nomatch hx) hfX hkX hcellA (by rw [hhp, hT]; exact Nat.le_refl _)
    (g := { method := m, pc := pc + 4, locals := ls, stack := .ref T.heap.size :: .ref T.heap.size :: rest, locked := none }) rfl hsize rfl rfl (rest := rest) rfl
    (by rw [hb]; exact d4) (by rw [hb]; exact d7) hout hRframes (by simp only [List.map_cons, List.sum_cons, hcat]; omega) hlocks
  obtain ⟨f1, f2⟩ := vx_frame hsame
  rw [hhp] at f1 f2
  have hWs : s.WarmedH U.vm := State.WarmedH.trans hW0 hW
  have hcl : s.vm.findClass cls = some ce.cls := by
    have h9 := hO.cls
    rw [hvm] at h9
    exact h9
  have hall : s.sameButNew ({ U with vm := s.vm } : State) locs mc ms := by
    subst hA
    obtain ⟨e1, e2⟩ := hsame
    rw [State.setFrames_setFrames] at e1
    have h2 : (T.setVm s.vm).sameButNew ({ U with vm := s.vm } : State) [] (0 + 1) (0 + 6) := ⟨e1, e2⟩
    have h3 := X.same.trans h2
    rw [List.append_nil] at h3
    exact h3.mono hc hs
  refine ⟨U, ?_, .threw T.heap.size, hrun, hend, Or.inr ⟨T.heap.size, rfl, cls, ce, locs, hx U hWs.alike f1 (fun q hq => f2 q hq (fun z hz => nomatch hz)), hce, hO.vm, hcl, hWs, hall, hf⟩⟩
  refine st1 _ ?_
  show Steps p.tables e below (T1.setTop { method := m, pc := pc + 3, locals := ls, stack := .ref T.heap.size :: rest, locked := none }) _
  jvm_step X₁.here [X₁.here.top, hexec, d3', Value.category]
  exact hsteps
/-- 'throw new E("text")': new; dup; ldc; invokespecial; athrow -/
theorem vx_throwS {cc : ByteArray} {pc : Nat} (hexec : p.tables.exec = Jvm.exec) (hb : c.code = cc) (hl : l.stackTraces = false) {own cls text : String} {names : List String} {ik is ic mc ms sa : Nat} {A : Nat → Prop}
    (hown : s.vm.findClass own = some m.cls) (hcls : Bundle.fit cls = true) (hnames : ∀ n ∈ names, Bundle.fit n = true)
    (hk : (Cond.classLink own ik cls).before args s = true) (hini : (Cond.initialized cls).before args s = true) (hstr : vk_R own is text sa s) (hat : ∀ w ∈ vx_atS own ic cls names, w.before args s = true)
    (hgood : ∀ w ∈ Cond.classLink own ik cls :: Cond.initialized cls :: vx_atS own ic cls names, vx_ot w = true)
    (hU : vx_Zq Bundle.tN "UNASSIGNED_STACK" Bundle.steD A s s.heap) (hN : vx_Zq Bundle.tN "SUPPRESSED_SENTINEL" Bundle.listD A s s.heap) (hS : va_S A s.heap H locs) (hsize : ls.size = c.maxLocals)
    (d0 : decode cc pc = .ok (.new ik, 3)) (d3 : decode cc (pc + 3) = .ok (.dup, 1)) (d4 : decode cc (pc + 4) = .ok (.ldc is, 2)) (d6 : decode cc (pc + 6) = .ok (.invokespecial ic, 3)) (d9 : decode cc (pc + 9) = .ok (.athrow, 1))
    (hout : ∀ x ∈ c.exceptionTable.toList, covers x (pc + 9) = false)
    (hRframes : names.length + 3 < R.frames) (hRlocals : (rest.map fun v => v.category).sum + (13 * (names.length + 1) + 43) ≤ R.locals) (hRcells : cells + 1 ≤ R.cells) (hRslots : slots + 6 ≤ R.slots) (hlocks : meth.locks = false)
    (hx : ∀ t : State, s.vm.Alike t.vm → H.size ≤ t.heap.size → (∀ q : Nat, q < H.size → t.heap[q]? = H[q]?) → XC cls s t)
    (hf : ∀ z ∈ locs, free z.base) (hc : cells + 1 ≤ mc) (hs : slots + 6 ≤ ms) :
    W p l e R s m args below meth c H locs cells slots (vx_MQ below Qc XC args s mc ms free) (F0 m pc ls rest) := by
  intro T hT X
  have htr : e.platform.stackTraces = false := (show e.platform.stackTraces = l.stackTraces by rw [X.admits.platform]).trans hl
  have Y := vx_rebase X (R' := { frames := R.frames, locals := R.locals, cells := 1, slots := 6 }) (Nat.le_refl _) (Nat.le_refl _) hRcells hRslots
  obtain ⟨s', hA⟩ : ∃ z, z = (T.setVm s.vm).setFrames (.invoking m args :: below) := ⟨_, rfl⟩
  rw [← hA] at Y
  have hvm : s'.vm = s.vm := by rw [hA]; rfl
  have hhp : s'.heap = H := by rw [hA]; exact hT
  have hW0 : s.WarmedH s'.vm := by rw [hvm]; exact State.WarmedH.refl s
  have hat' : ∀ w ∈ vx_atS own ic cls names, w.before args s' = true := fun w hw => vx_ot_at hW0 hvm.symm (hgood w (List.mem_cons_of_mem _ (List.mem_cons_of_mem _ hw))) (hat w hw)
  have hk' : (Cond.classLink own ik cls).before args s' = true := vx_ot_at hW0 hvm.symm (hgood _ List.mem_cons_self) hk
  have hini' : (Cond.initialized cls).before args s' = true := vx_ot_at hW0 hvm.symm (hgood _ (List.mem_cons_of_mem _ List.mem_cons_self)) hini
  have hU' : vx_Zq Bundle.tN "UNASSIGNED_STACK" Bundle.steD A s' s'.heap := by rw [hhp]; exact vx_Zq.moved hW0.alike (hU.kept hS.2.1)
  have hN' : vx_Zq Bundle.tN "SUPPRESSED_SENTINEL" Bundle.listD A s' s'.heap := by rw [hhp]; exact vx_Zq.moved hW0.alike (hN.kept hS.2.1)
  have h : ∀ w ∈ Bundle.ownAtoms own ic cls names, w.before args s' = true := vx_own hat' (vx_isRefq hU'.1) (vx_isRefq hN'.1) hU'.2.word hN'.2.word
  have hown' : s'.vm.findClass own = some m.cls := by rw [hvm]; exact hown
  have hins : (Cond.instantiable cls 6).before args s' = true := h _ (by simp [Bundle.ownAtoms])
  obtain ⟨vm₁, cX, kX, hfX, hkX, -, -, X₁, st1⟩ := Y.newCold hexec (own := own) (C := cls) (index := ik) (n := 6) hown' hk' hins hini'
    (g := F0 m pc ls rest) rfl (by rw [hb]; exact d0) (Nat.le_refl _) (Nat.le_refl _)
  generalize hT1 : (T.setVm vm₁).pushCell { cls := cX, slots := kX.instanceTypes.map defaultValue, vm := .none } = T1 at X₁ st1
  have hcat : (Value.ref T.heap.size).category = 1 := rfl
  have hcellA : T1.heap[T.heap.size]? = some (freshCell cX kX) := by rw [← hT1]; exact State.heap_pushCell_size _ _
  have d3' : decode c.code (pc + 3) = .ok (.dup, 1) := by rw [hb]; exact d3
  have d4' : decode c.code (pc + 4) = .ok (.ldc is, 2) := by rw [hb]; exact d4
  have hstr' : vk_R own is text sa s' := vk_R.warm hW0 hstr
  obtain ⟨U, hsteps, hrun, hend, hW, hsame, ce, hce, hO⟩ := X₁.ctorThrowS hexec htr (own := own) (cls := cls) (names := names) (ic := ic) hown' hcls hnames h (fun x hx => nomatch hx) hfX hkX hcellA (by rw [hhp, hT]; exact Nat.le_refl _) (msg := .ref sa) rfl
    (g := { method := m, pc := pc + 6, locals := ls, stack := .ref sa :: .ref T.heap.size :: .ref T.heap.size :: rest, locked := none }) rfl hsize rfl rfl (rest := rest) rfl
    (by rw [hb]; exact d6) (by rw [hb]; exact d9) hout hRframes (by simp only [List.map_cons, List.sum_cons, hcat]; omega) hlocks
  obtain ⟨f1, f2⟩ := vx_frame hsame
  rw [hhp] at f1 f2
  have hWs : s.WarmedH U.vm := State.WarmedH.trans hW0 hW
  have hcl : s.vm.findClass cls = some ce.cls := by
    have h9 := hO.cls
    rw [hvm] at h9
    exact h9
  have hall : s.sameButNew ({ U with vm := s.vm } : State) locs mc ms := by
    subst hA
    obtain ⟨e1, e2⟩ := hsame
    rw [State.setFrames_setFrames] at e1
    have h2 : (T.setVm s.vm).sameButNew ({ U with vm := s.vm } : State) [] (0 + 1) (0 + 6) := ⟨e1, e2⟩
    have h3 := X.same.trans h2
    rw [List.append_nil] at h3
    exact h3.mono hc hs
  refine ⟨U, ?_, .threw T.heap.size, hrun, hend, Or.inr ⟨T.heap.size, rfl, cls, ce, locs, hx U hWs.alike f1 (fun q hq => f2 q hq (fun z hz => nomatch hz)), hce, hO.vm, hcl, hWs, hall, hf⟩⟩
  refine st1 _ ?_
  show Steps p.tables e below (T1.setTop { method := m, pc := pc + 3, locals := ls, stack := .ref T.heap.size :: rest, locked := none }) _
  jvm_step X₁.here [X₁.here.top, hexec, d3', Value.category]
  exact X₁.ldcString hexec (own := own) (text := text) (index := is) (a := sa) hown' hstr'.1 hstr'.2
    (g := { method := m, pc := pc + 4, locals := ls, stack := .ref T.heap.size :: .ref T.heap.size :: rest, locked := none }) rfl d4' _ hsteps
/-- 'throw new E("text")', the text by a wide index -/
theorem vx_throwSW {cc : ByteArray} {pc : Nat} (hexec : p.tables.exec = Jvm.exec) (hb : c.code = cc) (hl : l.stackTraces = false) {own cls text : String} {names : List String} {ik is ic mc ms sa : Nat} {A : Nat → Prop}
    (hown : s.vm.findClass own = some m.cls) (hcls : Bundle.fit cls = true) (hnames : ∀ n ∈ names, Bundle.fit n = true)
    (hk : (Cond.classLink own ik cls).before args s = true) (hini : (Cond.initialized cls).before args s = true) (hstr : vk_R own is text sa s) (hat : ∀ w ∈ vx_atS own ic cls names, w.before args s = true)
    (hgood : ∀ w ∈ Cond.classLink own ik cls :: Cond.initialized cls :: vx_atS own ic cls names, vx_ot w = true)
    (hU : vx_Zq Bundle.tN "UNASSIGNED_STACK" Bundle.steD A s s.heap) (hN : vx_Zq Bundle.tN "SUPPRESSED_SENTINEL" Bundle.listD A s s.heap) (hS : va_S A s.heap H locs) (hsize : ls.size = c.maxLocals)
    (d0 : decode cc pc = .ok (.new ik, 3)) (d3 : decode cc (pc + 3) = .ok (.dup, 1)) (d4 : decode cc (pc + 4) = .ok (.ldc_w is, 3)) (d7 : decode cc (pc + 7) = .ok (.invokespecial ic, 3)) (d10 : decode cc (pc + 10) = .ok (.athrow, 1))
    (hout : ∀ x ∈ c.exceptionTable.toList, covers x (pc + 10) = false)
    (hRframes : names.length + 3 < R.frames) (hRlocals : (rest.map fun v => v.category).sum + (13 * (names.length + 1) + 43) ≤ R.locals) (hRcells : cells + 1 ≤ R.cells) (hRslots : slots + 6 ≤ R.slots) (hlocks : meth.locks = false)
    (hx : ∀ t : State, s.vm.Alike t.vm → H.size ≤ t.heap.size → (∀ q : Nat, q < H.size → t.heap[q]? = H[q]?) → XC cls s t)
    (hf : ∀ z ∈ locs, free z.base) (hc : cells + 1 ≤ mc) (hs : slots + 6 ≤ ms) :
    W p l e R s m args below meth c H locs cells slots (vx_MQ below Qc XC args s mc ms free) (F0 m pc ls rest) := by
  intro T hT X
  have htr : e.platform.stackTraces = false := (show e.platform.stackTraces = l.stackTraces by rw [X.admits.platform]).trans hl
  have Y := vx_rebase X (R' := { frames := R.frames, locals := R.locals, cells := 1, slots := 6 }) (Nat.le_refl _) (Nat.le_refl _) hRcells hRslots
  obtain ⟨s', hA⟩ : ∃ z, z = (T.setVm s.vm).setFrames (.invoking m args :: below) := ⟨_, rfl⟩
  rw [← hA] at Y
  have hvm : s'.vm = s.vm := by rw [hA]; rfl
  have hhp : s'.heap = H := by rw [hA]; exact hT
  have hW0 : s.WarmedH s'.vm := by rw [hvm]; exact State.WarmedH.refl s
  have hat' : ∀ w ∈ vx_atS own ic cls names, w.before args s' = true := fun w hw => vx_ot_at hW0 hvm.symm (hgood w (List.mem_cons_of_mem _ (List.mem_cons_of_mem _ hw))) (hat w hw)
  have hk' : (Cond.classLink own ik cls).before args s' = true := vx_ot_at hW0 hvm.symm (hgood _ List.mem_cons_self) hk
  have hini' : (Cond.initialized cls).before args s' = true := vx_ot_at hW0 hvm.symm (hgood _ (List.mem_cons_of_mem _ List.mem_cons_self)) hini
  have hU' : vx_Zq Bundle.tN "UNASSIGNED_STACK" Bundle.steD A s' s'.heap := by rw [hhp]; exact vx_Zq.moved hW0.alike (hU.kept hS.2.1)
  have hN' : vx_Zq Bundle.tN "SUPPRESSED_SENTINEL" Bundle.listD A s' s'.heap := by rw [hhp]; exact vx_Zq.moved hW0.alike (hN.kept hS.2.1)
  have h : ∀ w ∈ Bundle.ownAtoms own ic cls names, w.before args s' = true := vx_own hat' (vx_isRefq hU'.1) (vx_isRefq hN'.1) hU'.2.word hN'.2.word
  have hown' : s'.vm.findClass own = some m.cls := by rw [hvm]; exact hown
  have hins : (Cond.instantiable cls 6).before args s' = true := h _ (by simp [Bundle.ownAtoms])
  obtain ⟨vm₁, cX, kX, hfX, hkX, -, -, X₁, st1⟩ := Y.newCold hexec (own := own) (C := cls) (index := ik) (n := 6) hown' hk' hins hini'
    (g := F0 m pc ls rest) rfl (by rw [hb]; exact d0) (Nat.le_refl _) (Nat.le_refl _)
  generalize hT1 : (T.setVm vm₁).pushCell { cls := cX, slots := kX.instanceTypes.map defaultValue, vm := .none } = T1 at X₁ st1
  have hcat : (Value.ref T.heap.size).category = 1 := rfl
  have hcellA : T1.heap[T.heap.size]? = some (freshCell cX kX) := by rw [← hT1]; exact State.heap_pushCell_size _ _
  have d3' : decode c.code (pc + 3) = .ok (.dup, 1) := by rw [hb]; exact d3
  have d4' : decode c.code (pc + 4) = .ok (.ldc_w is, 3) := by rw [hb]; exact d4
  have hstr' : vk_R own is text sa s' := vk_R.warm hW0 hstr
  obtain ⟨U, hsteps, hrun, hend, hW, hsame, ce, hce, hO⟩ := X₁.ctorThrowS hexec htr (own := own) (cls := cls) (names := names) (ic := ic) hown' hcls hnames h (fun x hx => nomatch hx) hfX hkX hcellA (by rw [hhp, hT]; exact Nat.le_refl _) (msg := .ref sa) rfl
    (g := { method := m, pc := pc + 7, locals := ls, stack := .ref sa :: .ref T.heap.size :: .ref T.heap.size :: rest, locked := none }) rfl hsize rfl rfl (rest := rest) rfl
    (by rw [hb]; exact d7) (by rw [hb]; exact d10) hout hRframes (by simp only [List.map_cons, List.sum_cons, hcat]; omega) hlocks
  obtain ⟨f1, f2⟩ := vx_frame hsame
  rw [hhp] at f1 f2
  have hWs : s.WarmedH U.vm := State.WarmedH.trans hW0 hW
  have hcl : s.vm.findClass cls = some ce.cls := by
    have h9 := hO.cls
    rw [hvm] at h9
    exact h9
  have hall : s.sameButNew ({ U with vm := s.vm } : State) locs mc ms := by
    subst hA
    obtain ⟨e1, e2⟩ := hsame
    rw [State.setFrames_setFrames] at e1
    have h2 : (T.setVm s.vm).sameButNew ({ U with vm := s.vm } : State) [] (0 + 1) (0 + 6) := ⟨e1, e2⟩
    have h3 := X.same.trans h2
    rw [List.append_nil] at h3
    exact h3.mono hc hs
  refine ⟨U, ?_, .threw T.heap.size, hrun, hend, Or.inr ⟨T.heap.size, rfl, cls, ce, locs, hx U hWs.alike f1 (fun q hq => f2 q hq (fun z hz => nomatch hz)), hce, hO.vm, hcl, hWs, hall, hf⟩⟩
  refine st1 _ ?_
  show Steps p.tables e below (T1.setTop { method := m, pc := pc + 3, locals := ls, stack := .ref T.heap.size :: rest, locked := none }) _
  jvm_step X₁.here [X₁.here.top, hexec, d3', Value.category]
  exact X₁.ldcStringW hexec (own := own) (text := text) (index := is) (a := sa) hown' hstr'.1 hstr'.2
    (g := { method := m, pc := pc + 4, locals := ls, stack := .ref T.heap.size :: .ref T.heap.size :: rest, locked := none }) rfl d4' _ hsteps
end Ends
section Bodies
variable {l : Launch}
theorem vx_ofW {y : MethodName} {ws ws' : List Cond} {rm : Room} {Pc : Array Value → State → Prop} {Qc : Array Value → State → Outcome → State → Prop} {XC : String → State → State → Prop} {mc ms : Nat} {free : Addr → Prop} {cc : ByteArray} {maxL : Nat} {ret : Option FieldType}
    (hy : plainName y.cls = true) (hw : ws = Cond.code y cc maxL ret :: ws')
    (body : ∀ p e s m args below meth c s₁, BodyLoose p l y (headSpec ws rm) cc maxL ret e s m args below meth c s₁ → c.maxLocals = maxL → (∀ x ∈ c.exceptionTable.toList, False) → Pc args s →
      W p l e (headSpec ws rm).room s m args below meth c s.heap [] 0 0 (vx_MQ below Qc XC args s mc ms free) (entryFrame m args maxL)) : vx_Met l y ws rm Pc Qc XC mc ms free := by
  refine MetFree.of_bodyS (code := cc) (maxLocals := maxL) (ret := ret) hy ?_ ?_
  · intro args s m h hn
    obtain ⟨meth, c, h1, h2, h3, h4, h5, h6, -, -⟩ := Cond.code_spec hn (atoms_spec (ws := ws) h _ (by rw [hw]; exact List.mem_cons_self))
    exact ⟨meth, c, h1, h2, h3, h4, h5, h6⟩
  · intro p e s m args below meth c s₁ B hml hP _
    have hh0 : s₁.heap = s.heap := by rw [B.state]; rfl
    have ht : ∀ x ∈ c.exceptionTable.toList, False := by
      obtain ⟨meth9, c9, h1, h2, -, -, -, -, h7, -⟩ := Cond.code_spec B.named (atoms_spec (ws := ws) B.pre _ (by rw [hw]; exact List.mem_cons_self))
      cases Option.some.inj (h1.symm.trans B.method)
      cases Option.some.inj (h2.symm.trans (Stand.of_body B).code)
      intro x hx
      rw [Array.isEmpty_iff.mp h7] at hx
      cases hx
    obtain ⟨t, a1, o, b1, b2, b3⟩ := body p e s m args below meth c s₁ B hml ht hP s₁ hh0 (Stand.of_body B)
    exact ⟨t, o, a1, b1, b2, b3⟩
/-- the table of a body with handlers -/
theorem vx_table {p : Program} {x y : MethodName} {S : Spec} {cc bytes : ByteArray} {maxL maxL' : Nat} {ret ret' : Option FieldType} {e : Env} {s s₁ : State} {m : MethodId} {args : Array Value} {below : List Frame} {meth : Method} {c : Code} {hh : List (Nat × Nat × Nat × Nat)}
    (B : BodyLoose p l y S cc maxL ret e s m args below meth c s₁) (h : (Cond.codeWith y bytes maxL' ret' hh).before args s = true) : c.exceptionTable.toList = tableOf hh := by
  obtain ⟨m9, meth9, c9, hn9, h1, h2, -, -, h6, -⟩ := Cond.codeWith_spec h
  cases Option.some.inj (hn9.symm.trans B.named)
  cases Option.some.inj (h1.symm.trans B.method)
  cases Option.some.inj (h2.symm.trans (Stand.of_body B).code)
  rw [← h6, table_eq]
end Bodies
end VXA
/-! ===== END ===== -/
/-! ===== BEGIN a static call of a method with an exception table ===== -/
section VXS
variable {p : Program} {l : Launch} {e : Env} {R : Room} {s : State} {m : MethodId} {args : Array Value} {below : List Frame} {meth : Method} {c : Code} {T : State} {H : Heap} {locs : List Loc} {cells slots : Nat}
abbrev vx_CSW (R : Room) (s : State) (args : Array Value) (own : String) (index : Nat) (y : MethodName) (bytes : ByteArray) (maxL : Nat) (ret : Option FieldType) (hh : List (Nat × Nat × Nat × Nat)) (ws : List Cond) (rm : Room) (mc ms n : Nat) : Prop :=
  (rm.cells = mc ∧ rm.slots = ms ∧ rm.frames + 1 ≤ R.frames ∧ 8 + (maxL + 11) + rm.locals ≤ R.locals ∧ (∀ w ∈ ws, ∀ (a' : Array Value) (U : State), s.WarmedH U.vm → w.before a' U = true) ∧ Cond.codeWith y bytes maxL ret hh ∈ ws) ∧
  (Cond.codeWith y bytes maxL ret hh).before args s = true ∧ (Cond.initialized y.cls).before args s = true ∧ (y.cls ≠ "java/lang/invoke/MethodHandle" ∧ y.cls ≠ "java/lang/invoke/VarHandle") ∧
  (∀ sig, parseMethodDescriptor y.desc = some sig → n = sig.parameters.length) ∧ (Cond.methodLink own index y).before args s = true ∧ (Cond.static y).before args s = true
theorem vx_cwSW {own : String} {index maxL mc ms : Nat} {y : MethodName} {bytes : ByteArray} {ret : Option FieldType} {hh : List (Nat × Nat × Nat × Nat)} {Ts ws ws' : List Cond} {rm : Room} (n : Nat) (ht : ∀ w ∈ Ts, w.before args s = true) (hT : GoodIn Ts (va_wsS own index y ws)) (hw : ws = Cond.codeWith y bytes maxL ret hh :: ws') (hrc : rm.cells = mc) (hrs : rm.slots = ms)
    (hd : y.cls ≠ "java/lang/invoke/MethodHandle" ∧ y.cls ≠ "java/lang/invoke/VarHandle" ∧ (parseMethodDescriptor y.desc).map (fun d => d.parameters.length) = some n) (hR : rm.frames + 1 ≤ R.frames ∧ 8 + (maxL + 11) + rm.locals ≤ R.locals) :
    vx_CSW R s args own index y bytes maxL ret hh ws rm mc ms n := by
  have ok : ∀ w ∈ va_wsS own index y ws, w.before args s = true := fun w h => ht w (hT w h).1
  have hG : GoodIn Ts ws := fun w h => hT w (by unfold va_wsS; exact List.mem_append_right _ h)
  have hc : Cond.codeWith y bytes maxL ret hh ∈ ws := by rw [hw]; exact List.mem_cons_self
  refine ⟨⟨hrc, hrs, hR.1, hR.2, pay_in ht hG, hc⟩, ht _ (hG _ hc).1, ok _ (by simp [va_wsS]), ⟨hd.1, hd.2.1⟩, fun sig h => ?_, ok _ (by simp [va_wsS]), ok _ (by simp [va_wsS])⟩
  have h2 := hd.2.2
  rw [h] at h2
  exact (Option.some.inj h2).symm
theorem vx_callSW (X : Stand p l e R s m args below meth c T locs cells slots) (hexec : p.tables.exec = Jvm.exec) {own : String} {index : Nat} {y : MethodName} {bytes : ByteArray} {maxL : Nat} {ret : Option FieldType} {hh : List (Nat × Nat × Nat × Nat)}
    (hown : s.vm.findClass own = some m.cls) (hlink : (Cond.methodLink own index y).before args s = true) (hstat : (Cond.static y).before args s = true) (hinit : (Cond.initialized y.cls).before args s = true)
    (hcode : (Cond.codeWith y bytes maxL ret hh).before args s = true) (hy : y.cls ≠ "java/lang/invoke/MethodHandle" ∧ y.cls ≠ "java/lang/invoke/VarHandle")
    {W9 : Nat} {Pre : Pt → Array Value → Prop} {Post : Pt → Array Value → Option Value → Pt → Prop} (hK : Back l R p e below s args y 3 W9 Pre Post)
    {g : JFrame} (hg : g.method = m) (hsize : g.locals.size = c.maxLocals) {argsL rest : List Value} (hlen : ∀ sig, parseMethodDescriptor y.desc = some sig → argsL.length = sig.parameters.length)
    (hstack : g.stack = argsL.reverse ++ rest) (hW : 2 * g.monitorRoom + (rest.map fun v => v.category).sum ≤ W9) (hdg : decode c.code g.pc = .ok (.invokestatic index, 3))
    (hpre : ∀ vm₁, s.WarmedH vm₁ → Pre ⟨T.setVm vm₁, locs, cells, slots⟩ argsL.toArray) :
    ∃ (v : Option Value) (vm₁ : Vm) (B : Pt), s.WarmedH vm₁ ∧ Stand p l e R s m args below meth c B.U B.locs B.cells B.slots ∧ Post ⟨T.setVm vm₁, locs, cells, slots⟩ argsL.toArray v B ∧
      ∀ target, Steps p.tables e below (B.U.setTop { g with pc := g.pc + 3, stack := v.toList ++ rest }) target → Steps p.tables e below (T.setTop g) target := by
  obtain ⟨mk, methM, cM, hnamed, hmethM, -, -, -, -, -, -, hsigM⟩ := Cond.codeWith_spec hcode
  have hstatic : methM.isStatic = true := Cond.static_spec hnamed hmethM hstat
  obtain ⟨kP, hkP, -⟩ := className_of_methodNamed hnamed
  have hinitP : kP.init = .initialized := Cond.initialized_spec (findClass_of_methodNamed hnamed) hkP hinit
  obtain ⟨vm₁, X₁, hstep₁⟩ := X.invokestatic hexec hown hlink hnamed hmethM hstatic hkP hinitP hy (g := g) hg (argsL := argsL) (rest := rest) (hlen _ hsigM) hstack hdg
  obtain ⟨v, B, X', hpost, hsteps⟩ := hK m meth c ⟨T.setVm vm₁, locs, cells, slots⟩ { g with stack := rest } (.invokestatic index) mk argsL.toArray X₁ hg hsize hdg hW (X₁.named hnamed) (hpre vm₁ X₁.warmed)
  exact ⟨v, vm₁, B, X₁.warmed, X', hpost, fun target h => hstep₁ _ fun acts => by rw [doInvoke_state]; exact hsteps.trans h⟩
theorem vx_runSW {y : MethodName} {bytes cc : ByteArray} {maxL nL mc ms n index : Nat} {ret : Option FieldType} {hh : List (Nat × Nat × Nat × Nat)} {ws : List Cond} {rm : Room} {Pc : Array Value → State → Prop} {Qc : Array Value → State → Outcome → State → Prop} {free : Addr → Prop} {Ts : List Cond} {own : String} {As rest : List Value} {g : JFrame}
    (S : CallFix p m c cc nL s args Ts own) (hM : Met l y ws rm Pc Qc mc ms free) (cw : vx_CSW R s args own index y bytes maxL ret hh ws rm mc ms n) (hp : PreS s H Pc As)
    (hg : g.method = m) (hn : As.length = n) (hsize : g.locals.size = nL) (hstack : g.stack = As.reverse ++ rest) (hW : 2 * g.monitorRoom + (rest.map fun v => v.category).sum ≤ 8) (hdg : decode cc g.pc = .ok (.invokestatic index, 3)) (hf : cells + mc ≤ R.cells ∧ slots + ms ≤ R.slots) :
    va_Run p l e R s m args below meth c H locs cells slots mc ms g rest (Qc As.toArray) (free) := by
  obtain ⟨⟨hrc, hrs, hfr, hlo, hws, hcw⟩, hcode, hini, hy, hlen, hl, hstt⟩ := cw
  have hK : Back l R p e below s args y 3 8 (PreOf R mc ms Pc) (PostOf Qc mc ms free) := va_backW (hh := hh) (bytes := bytes) (maxL := maxL) (ret := ret) hM hp.1 hrc hrs hfr hlo hws hcw (fun a' U hW => word_at hW (Or.inl (by first | rfl | simp [Cond.onTables, Cond.keeps, Cond.steady])) hini)
  obtain ⟨hx, hb, hml, ho, -⟩ := S
  intro T hT X
  obtain ⟨v, vm₁, ⟨U', l2, c2, s2⟩, hW₁, X', ⟨g', mk, t, L, e1, e2, hq, h1, hL, h2, h3⟩, st⟩ := vx_callSW X hx (hh := hh) (bytes := bytes) (maxL := maxL) (ret := ret) ho hl hstt hini hcode hy hK hg (hsize.trans hml.symm) (argsL := As) (rest := rest) (fun sig h => hn.trans (hlen sig h)) hstack hW (by rw [hb]; exact hdg)
    (fun vm₁ hW₁ => ⟨hf.1, hf.2, hp.2 (T.setVm vm₁) hT hW₁⟩)
  dsimp only [Pt.U, Pt.locs, Pt.cells, Pt.slots] at X' e1 e2 h1 h2 h3 st
  subst h1; subst h2; subst h3
  exact ⟨v, (T.setVm vm₁).calling g' mk As.toArray, t, U', L, hT, X', hL, e1, e2, hq, st⟩
/-- not caught here, past rows that name other classes: it goes on to the caller -/
theorem vx_outP {p : Program} {l : Launch} {e : Env} {R : Room} {s : State} {m : MethodId} {args : Array Value} {below : List Frame} {meth : Method} {c : Code} {H : Heap} {locs : List Loc} {cells slots : Nat} {free : Addr → Prop} {ls : Array Slot} {rest : List Value} {Qc : Array Value → State → Outcome → State → Prop} {XC : String → State → State → Prop}
    {pc : Nat} {own E : String} {ce : Cell} {q : Addr} {mc ms : Nat} (hown : s.vm.findClass own = some m.cls) (hlocks : meth.locks = false)
    (hpass : ∀ z ∈ c.exceptionTable.toList, covers z pc = false ∨ (z.catchType ≠ 0 ∧ ∃ nm : String, (Cond.classLink own z.catchType nm).before args s = true ∧ va_Nc E nm s)) (hcell : H[q]? = some ce) (hv : ce.vm = .none) (hcl : s.vm.findClass E = some ce.cls)
    (hx : ∀ t : State, t.heap = H → s.vm.Alike t.vm → XC E s t) (hf : ∀ z ∈ locs, free z.base) (hc : cells ≤ mc) (hs : slots ≤ ms) :
    vx_W p l e R s m args below meth c H locs cells slots (vx_MQ below Qc XC args s mc ms free) (F0 m pc ls rest) q := by
  intro T hT X
  have hpl : e.platform.magicAccessors = ({} : Platform).magicAccessors := by rw [X.admits.platform]
  obtain ⟨vm', hW', X', st⟩ := X.outThrough hlocks q (g := F0 m pc ls rest) rfl rfl rfl (cell := ce) (by rw [hT]; exact hcell) (by rw [hv]; rfl)
    (by obtain ⟨k9, h9, -⟩ := Vm.findClass_spec hcl; exact ⟨k9, h9⟩) (fun z hz => by
      rcases hpass z hz with h | ⟨hz0, nm, hl1, hn1⟩
      · exact Or.inl h
      · obtain ⟨c6, hc6, hcl6⟩ := Cond.classLink_spec hown hl1 e.platform hpl
        obtain ⟨a8, b8, h1, h2, h3⟩ := hn1
        cases Option.some.inj (h1.symm.trans hcl)
        cases Option.some.inj (h2.symm.trans hc6)
        exact Or.inr ⟨hz0, _, hcl6, h3⟩)
  obtain ⟨g₀, hfr⟩ := X'.frames_eq
  have hcell9 : ((T.setVm vm').setFrames (.throwing q :: below)).heap[q]? = some ce := by
    show T.heap[q]? = some ce
    rw [hT]; exact hcell
  have hend : Ended ((T.setVm vm').setFrames (.throwing q :: below)) below (.threw q) := State.frames_setFrames _ (State.cur_lt_of_frames hfr)
  refine ⟨(T.setVm vm').setFrames (.throwing q :: below), ?_, .threw q, X'.here.running, hend, Or.inr ⟨q, rfl, E, ce, locs, hx _ hT (X'.ends _).1.alike, hcell9, hv, hcl, (X'.ends _).1, (X'.ends _).2.mono hc hs, hf⟩⟩
  rw [X.pushThrowing_eq]
  exact st
/-- a thing of a world lies in the heap -/
theorem vx_lt {D : va_G} {cl : List vw_C} {ws : va_W} {H1 : Heap} (h : va_P D cl ws H1) {k : Nat} {q : Nat × va_E} (hk : ws[k]? = some q) : q.1 < H1.size := (h k q hk).lt
end VXS
/-! ===== END ===== -/
/-! ===== BEGIN methods with a table of their own: called by a name, returning or throwing ===== -/
section VXH
/-! vx_backW, vx_callVX, vx_callSX, vx_callVW, vx_runVW, vx_runVX, vx_runSX, vx_ofWH follow the same proofs as their sisters above (Free/Laws.lean, Shelf42/LK1.lean); vx_outP calls Shelf42/NT130.lean (outThrough). -/
section
variable {l : Launch} {R : Room} {p : Program} {e : Env} {below : List Frame} {s : State} {sargs : Array Value} {y : MethodName} {len W9 : Nat}
theorem vx_backW {ws : List Cond} {rm : Room} {Pc : Array Value → State → Prop} {Qc : Array Value → State → Outcome → State → Prop} {XC : String → State → State → Prop} {mc ms : Nat} {free : Addr → Prop} {bytes : ByteArray} {maxL : Nat} {ret : Option FieldType} {hh : List (Nat × Nat × Nat × Nat)}
    (hM : vx_Met l y ws rm Pc Qc XC mc ms free) (hblind : FrameBlind Pc) (hrc : rm.cells = mc) (hrs : rm.slots = ms)
    (hframes : rm.frames + 1 ≤ R.frames) (hlocals : W9 + (maxL + 11) + rm.locals ≤ R.locals)
    (hws : ∀ w ∈ ws, ∀ a' U, s.WarmedH U.vm → w.before a' U = true) (hcode : Cond.codeWith y bytes maxL ret hh ∈ ws) (hinit : ∀ a' U, s.WarmedH U.vm → (Cond.initialized y.cls).before a' U = true) :
    vx_Back l R p e below s sargs y len W9 (PreOf R mc ms Pc) (PostOf Qc mc ms free) (vx_Post XC mc ms free) := by
  intro m meth c A g ig mk a X hg hsize hdg hW hn hp
  have h1 : (headSpec ws rm).pre.before a A.U = true := atoms_intro fun w hw => hws w hw _ _ X.warmed
  have h2 : (Cond.codeWith y bytes maxL ret hh).before a A.U = true := hws _ hcode _ _ X.warmed
  have h3 : (Cond.initialized y.cls).before a A.U = true := hinit _ _ X.warmed
  have h4 : A.cells + (headSpec ws rm).room.cells ≤ R.cells := by rw [show (headSpec ws rm).room.cells = mc from hrc]; exact hp.1
  have h5 : A.slots + (headSpec ws rm).room.slots ≤ R.slots := by rw [show (headSpec ws rm).room.slots = ms from hrs]; exact hp.2.1
  have hPc : Pc a (A.U.calling g mk a) := hblind _ _ _ _ hp.2.2
  obtain ⟨U, Ls, c0, s0⟩ := A
  dsimp only [Pt.U, Pt.locs, Pt.cells, Pt.slots] at h1 h2 h3 h4 h5 X hn hPc ⊢
  obtain ⟨m9, methY, cY, hn9, hmY, hcY, -, hlY, -⟩ := Cond.codeWith_spec h2
  cases Option.some.inj (hn9.symm.trans hn)
  obtain ⟨kY, hkY, -⟩ := className_of_methodNamed hn
  have hinitY : kY.init = .initialized := Cond.initialized_spec (findClass_of_methodNamed hn) hkY h3
  have h : At U g.method c below := by rw [hg]; exact X.here
  have hlocals9 : W9 + (maxL + 11) + (headSpec ws rm).room.locals ≤ R.locals := hlocals
  have happ : (headSpec ws rm).appliesLoose y e.platform (U.calling g mk a) = true :=
    Spec.appliesLoose_calling (g := g) h hdg hn hkY hinitY
      (X.room_calling (g := g) (R' := (headSpec ws rm).room) hsize hmY hcY hframes (by rw [hlY]; omega) h4 h5) h1
  obtain ⟨mid, hmid⟩ := h.above
  have hfr : (U.setTop g).frames = (.java g :: mid) ++ below := by rw [State.frames_setTop' g h.top, hmid]; rfl
  obtain ⟨o, s₂, hsteps, -, hend, hq⟩ := Steps.callFree hM p X.admits X.cas X.clock (acts := []) hfr happ hPc trivial
  have hq' : vx_Q Qc XC mc ms free a (U.calling g mk a) o s₂ := hq
  rw [State.frames_setTop' g h.top] at hend
  obtain ⟨g₀, hg0⟩ := Option.isSome_iff_exists.mp h.top
  obtain ⟨r, hr⟩ := State.topJava?_eq_some.mp hg0
  have hr' : (({ U with heap := s₂.heap, slotsUsed := s₂.slotsUsed } : State).setVm s₂.vm).frames = .java g₀ :: r := hr
  rcases hq' with ⟨hqc, L, hfe, hL⟩ | ⟨q, rfl, E, ce, L, hx, hce, hcv, hcl, hW₂, hsm, hL⟩
  · obtain ⟨⟨v, rfl⟩, hW₂, e2, q2, q3, q4, q5, q6⟩ := id hfe
    have e3 : s₂ = ({ (U.calling g mk a).setFrames s₂.frames with heap := s₂.heap, slotsUsed := s₂.slotsUsed } : State).setVm s₂.vm := by
      have : s₂ = ({ s₂ with vm := (U.calling g mk a).vm } : State).setVm s₂.vm := rfl
      rw [e2] at this
      exact this
    obtain ⟨c₂, i₂, len₂, hc₂, hd₂, hf₂⟩ := hend
    have hW' : U.WarmedH s₂.vm := hW₂
    have hcc : c₂ = c := by
      have h1 : s₂.code? g.method = U.code? g.method := by
        rw [State.code?_eq, State.code?_eq, hW'.alike.method?]
      exact Option.some.inj (hc₂.symm.trans (h1.trans h.code))
    subst hcc
    have hlen : len₂ = len := by rw [hdg] at hd₂; cases hd₂; rfl
    subst hlen
    have hs₂ : s₂ = (({ U with heap := s₂.heap, slotsUsed := s₂.slotsUsed } : State).setVm s₂.vm).setTop { g with pc := g.pc + len₂, stack := v.toList ++ g.stack } := by
      refine e3.trans ?_
      rw [hf₂, State.calling_eq h.top, State.setFrames_setFrames, State.setTop_of_frames _ hr', hr]
      rfl
    have hsame : U.sameButNew ({ U with heap := s₂.heap, slotsUsed := s₂.slotsUsed } : State) L mc ms := by
      refine ⟨?_, q2, q3, q4, q5, q6⟩
      obtain ⟨t, ht, -⟩ := State.frames_cons hr
      show ({ U with heap := s₂.heap, slotsUsed := s₂.slotsUsed } : State) = { U.setFrames U.frames with heap := s₂.heap, slotsUsed := s₂.slotsUsed }
      rw [State.setFrames_self ht]
    subst hg
    refine Or.inl ⟨v, ⟨(({ U with heap := s₂.heap, slotsUsed := s₂.slotsUsed } : State).setVm s₂.vm), Ls ++ L, c0 + mc, s0 + ms⟩,
      ⟨X.admits, X.cas, X.clock, X.frames, X.room, X.hears, X.method, X.code, (X.here.setHeapUsed s₂.heap s₂.slotsUsed).setVm hW'.alike, X.tail, State.WarmedH.trans X.warmed hW', X.limits, X.bytes, X.same.trans (hsame.setVm s.vm)⟩,
      ⟨g, mk, s₂, L, rfl, rfl, hqc, rfl, hL, rfl, rfl⟩, ?_⟩
    show Steps p.tables e below _ ((({ U with heap := s₂.heap, slotsUsed := s₂.slotsUsed } : State).setVm s₂.vm).setTop { g with pc := g.pc + len₂, stack := v.toList ++ g.stack })
    rw [← hs₂]
    exact hsteps
  · obtain ⟨e2, q2, q3, q4, q5, q6⟩ := id hsm
    have e3 : s₂ = ({ (U.calling g mk a).setFrames s₂.frames with heap := s₂.heap, slotsUsed := s₂.slotsUsed } : State).setVm s₂.vm := by
      have : s₂ = ({ s₂ with vm := (U.calling g mk a).vm } : State).setVm s₂.vm := rfl
      rw [e2] at this
      exact this
    have hf₂ : s₂.frames = .throwing q :: .java g :: U.frames.tail := hend
    have hW' : U.WarmedH s₂.vm := hW₂
    have hs₂ : s₂ = ((({ U with heap := s₂.heap, slotsUsed := s₂.slotsUsed } : State).setVm s₂.vm).setTop g).pushFrame (.throwing q) := by
      refine e3.trans ?_
      rw [hf₂, State.calling_eq h.top, State.setFrames_setFrames, State.pushFrame, State.frames_setTop _ hr', State.setTop_of_frames _ hr', State.setFrames_setFrames, hr]
      rfl
    have hsame : U.sameButNew ({ U with heap := s₂.heap, slotsUsed := s₂.slotsUsed } : State) L mc ms := by
      refine ⟨?_, q2, q3, q4, q5, q6⟩
      obtain ⟨t, ht, -⟩ := State.frames_cons hr
      show ({ U with heap := s₂.heap, slotsUsed := s₂.slotsUsed } : State) = { U.setFrames U.frames with heap := s₂.heap, slotsUsed := s₂.slotsUsed }
      rw [State.setFrames_self ht]
    subst hg
    refine Or.inr ⟨q, ⟨(({ U with heap := s₂.heap, slotsUsed := s₂.slotsUsed } : State).setVm s₂.vm), Ls ++ L, c0 + mc, s0 + ms⟩,
      ⟨X.admits, X.cas, X.clock, X.frames, X.room, X.hears, X.method, X.code, (X.here.setHeapUsed s₂.heap s₂.slotsUsed).setVm hW'.alike, X.tail, State.WarmedH.trans X.warmed hW', X.limits, X.bytes, X.same.trans (hsame.setVm s.vm)⟩,
      ⟨g, mk, s₂, L, E, ce, rfl, rfl, hx, hce, hcv, hcl, rfl, hL, rfl, rfl⟩, ?_⟩
    show Steps p.tables e below _ (((({ U with heap := s₂.heap, slotsUsed := s₂.slotsUsed } : State).setVm s₂.vm).setTop g).pushFrame (.throwing q))
    rw [← hs₂]
    exact hsteps
end
variable {p : Program} {l : Launch} {e : Env} {R : Room} {s : State} {m : MethodId} {args : Array Value} {below : List Frame} {meth : Method} {c : Code} {T : State} {H : Heap} {locs : List Loc} {cells slots : Nat}
theorem vx_callVX (X : Stand p l e R s m args below meth c T locs cells slots) (hexec : p.tables.exec = Jvm.exec) {own C : String} {index : Nat} {y : MethodName} {bytes : ByteArray} {maxL : Nat} {ret : Option FieldType} {hh : List (Nat × Nat × Nat × Nat)}
    (hown : s.vm.findClass own = some m.cls) (hlink : (Cond.methodLink own index y).before args s = true) (hinst : (Cond.instanceMethod y).before args s = true) (hsel : (Cond.selects C y y).before args s = true)
    (hcode : (Cond.codeWith y bytes maxL ret hh).before args s = true) (hy : y.cls ≠ "java/lang/invoke/MethodHandle" ∧ y.cls ≠ "java/lang/invoke/VarHandle")
    {W9 : Nat} {Pre : Pt → Array Value → Prop} {Post : Pt → Array Value → Option Value → Pt → Prop} {PostX : Pt → Array Value → Addr → Pt → Prop} (hK : vx_Back l R p e below s args y 3 W9 Pre Post PostX)
    {b : Addr} {cellB : Cell} (hcell : T.heap[b]? = some cellB) (hobj : cellB.vm.isStatics = false) (hcls : s.vm.findClass C = some cellB.cls)
    {g : JFrame} (hg : g.method = m) (hsize : g.locals.size = c.maxLocals) {argsL rest : List Value} (hlen : ∀ sig, parseMethodDescriptor y.desc = some sig → argsL.length = sig.parameters.length)
    (hstack : g.stack = argsL.reverse ++ .ref b :: rest) (hW : 2 * g.monitorRoom + (rest.map fun v => v.category).sum ≤ W9) (hdg : decode c.code g.pc = .ok (.invokevirtual index, 3))
    (hpre : ∀ vm₁, s.WarmedH vm₁ → Pre ⟨T.setVm vm₁, locs, cells, slots⟩ (Value.ref b :: argsL).toArray) :
    (∃ (v : Option Value) (vm₁ : Vm) (B : Pt), s.WarmedH vm₁ ∧ Stand p l e R s m args below meth c B.U B.locs B.cells B.slots ∧ Post ⟨T.setVm vm₁, locs, cells, slots⟩ (Value.ref b :: argsL).toArray v B ∧
      ∀ target, Steps p.tables e below (B.U.setTop { g with pc := g.pc + 3, stack := v.toList ++ rest }) target → Steps p.tables e below (T.setTop g) target) ∨
    (∃ (q : Addr) (vm₁ : Vm) (B : Pt), s.WarmedH vm₁ ∧ Stand p l e R s m args below meth c B.U B.locs B.cells B.slots ∧ PostX ⟨T.setVm vm₁, locs, cells, slots⟩ (Value.ref b :: argsL).toArray q B ∧
      Steps p.tables e below (T.setTop g) ((B.U.setTop { g with stack := rest }).pushFrame (.throwing q))) := by
  obtain ⟨mk, methM, hnamed, hmethM, hstM, habM⟩ := Cond.instanceMethod_spec hinst
  obtain ⟨m8, methM', cM, hn8, hmethM', -, -, -, -, -, -, hsigM⟩ := Cond.codeWith_spec hcode
  cases Option.some.inj (hn8.symm.trans hnamed)
  cases hmethM.symm.trans hmethM'
  obtain ⟨c2, r2, m2, q1, q2, q3, q4, kP, hkP, hkPi⟩ := Cond.selects_spec hsel
  cases hcls.symm.trans q1
  cases (State.methodFound?_of_named hnamed hy).symm.trans q2
  cases hnamed.symm.trans q3
  have hselP : selectMethod e.platform s.vm cellB.cls mk = .method mk := by rw [Launch.admits_selectMethod X.admits]; exact q4
  obtain ⟨vm₁, X₁, hstep₁⟩ := X.invokevirtual hexec hown hlink hnamed hmethM hstM hkP hkPi hy (a := b) (cell := cellB) hcell
    (fun z h => by rw [h] at hobj; cases hobj) hselP hmethM habM hkP hkPi (g := g) hg (argsL := argsL) (rest := rest) (hlen _ hsigM) hstack hdg
  rcases hK m meth c ⟨T.setVm vm₁, locs, cells, slots⟩ { g with stack := rest } (.invokevirtual index) mk (Value.ref b :: argsL).toArray X₁ hg hsize hdg hW (X₁.named hnamed) (hpre vm₁ X₁.warmed) with ⟨v, B, X', hpost, hsteps⟩ | ⟨q, B, X', hpost, hsteps⟩
  · exact Or.inl ⟨v, vm₁, B, X₁.warmed, X', hpost, fun target h => hstep₁ _ fun acts => by rw [doInvoke_state]; exact hsteps.trans h⟩
  · exact Or.inr ⟨q, vm₁, B, X₁.warmed, X', hpost, hstep₁ _ fun acts => by rw [doInvoke_state]; exact hsteps⟩
theorem vx_callSX (X : Stand p l e R s m args below meth c T locs cells slots) (hexec : p.tables.exec = Jvm.exec) {own : String} {index : Nat} {y : MethodName} {bytes : ByteArray} {maxL : Nat} {ret : Option FieldType} {hh : List (Nat × Nat × Nat × Nat)}
    (hown : s.vm.findClass own = some m.cls) (hlink : (Cond.methodLink own index y).before args s = true) (hstat : (Cond.static y).before args s = true) (hinit : (Cond.initialized y.cls).before args s = true)
    (hcode : (Cond.codeWith y bytes maxL ret hh).before args s = true) (hy : y.cls ≠ "java/lang/invoke/MethodHandle" ∧ y.cls ≠ "java/lang/invoke/VarHandle")
    {W9 : Nat} {Pre : Pt → Array Value → Prop} {Post : Pt → Array Value → Option Value → Pt → Prop} {PostX : Pt → Array Value → Addr → Pt → Prop} (hK : vx_Back l R p e below s args y 3 W9 Pre Post PostX)
    {g : JFrame} (hg : g.method = m) (hsize : g.locals.size = c.maxLocals) {argsL rest : List Value} (hlen : ∀ sig, parseMethodDescriptor y.desc = some sig → argsL.length = sig.parameters.length)
    (hstack : g.stack = argsL.reverse ++ rest) (hW : 2 * g.monitorRoom + (rest.map fun v => v.category).sum ≤ W9) (hdg : decode c.code g.pc = .ok (.invokestatic index, 3))
    (hpre : ∀ vm₁, s.WarmedH vm₁ → Pre ⟨T.setVm vm₁, locs, cells, slots⟩ argsL.toArray) :
    (∃ (v : Option Value) (vm₁ : Vm) (B : Pt), s.WarmedH vm₁ ∧ Stand p l e R s m args below meth c B.U B.locs B.cells B.slots ∧ Post ⟨T.setVm vm₁, locs, cells, slots⟩ argsL.toArray v B ∧
      ∀ target, Steps p.tables e below (B.U.setTop { g with pc := g.pc + 3, stack := v.toList ++ rest }) target → Steps p.tables e below (T.setTop g) target) ∨
    (∃ (q : Addr) (vm₁ : Vm) (B : Pt), s.WarmedH vm₁ ∧ Stand p l e R s m args below meth c B.U B.locs B.cells B.slots ∧ PostX ⟨T.setVm vm₁, locs, cells, slots⟩ argsL.toArray q B ∧
      Steps p.tables e below (T.setTop g) ((B.U.setTop { g with stack := rest }).pushFrame (.throwing q))) := by
  obtain ⟨mk, methM, cM, hnamed, hmethM, -, -, -, -, -, -, hsigM⟩ := Cond.codeWith_spec hcode
  have hstatic : methM.isStatic = true := Cond.static_spec hnamed hmethM hstat
  obtain ⟨kP, hkP, -⟩ := className_of_methodNamed hnamed
  have hinitP : kP.init = .initialized := Cond.initialized_spec (findClass_of_methodNamed hnamed) hkP hinit
  obtain ⟨vm₁, X₁, hstep₁⟩ := X.invokestatic hexec hown hlink hnamed hmethM hstatic hkP hinitP hy (g := g) hg (argsL := argsL) (rest := rest) (hlen _ hsigM) hstack hdg
  rcases hK m meth c ⟨T.setVm vm₁, locs, cells, slots⟩ { g with stack := rest } (.invokestatic index) mk argsL.toArray X₁ hg hsize hdg hW (X₁.named hnamed) (hpre vm₁ X₁.warmed) with ⟨v, B, X', hpost, hsteps⟩ | ⟨q, B, X', hpost, hsteps⟩
  · exact Or.inl ⟨v, vm₁, B, X₁.warmed, X', hpost, fun target h => hstep₁ _ fun acts => by rw [doInvoke_state]; exact hsteps.trans h⟩
  · exact Or.inr ⟨q, vm₁, B, X₁.warmed, X', hpost, hstep₁ _ fun acts => by rw [doInvoke_state]; exact hsteps⟩
theorem vx_callVW (X : Stand p l e R s m args below meth c T locs cells slots) (hexec : p.tables.exec = Jvm.exec) {own C : String} {index : Nat} {y : MethodName} {bytes : ByteArray} {maxL : Nat} {ret : Option FieldType} {hh : List (Nat × Nat × Nat × Nat)}
    (hown : s.vm.findClass own = some m.cls) (hlink : (Cond.methodLink own index y).before args s = true) (hinst : (Cond.instanceMethod y).before args s = true) (hsel : (Cond.selects C y y).before args s = true)
    (hcode : (Cond.codeWith y bytes maxL ret hh).before args s = true) (hy : y.cls ≠ "java/lang/invoke/MethodHandle" ∧ y.cls ≠ "java/lang/invoke/VarHandle")
    {W9 : Nat} {Pre : Pt → Array Value → Prop} {Post : Pt → Array Value → Option Value → Pt → Prop} (hK : Back l R p e below s args y 3 W9 Pre Post)
    {b : Addr} {cellB : Cell} (hcell : T.heap[b]? = some cellB) (hobj : cellB.vm.isStatics = false) (hcls : s.vm.findClass C = some cellB.cls)
    {g : JFrame} (hg : g.method = m) (hsize : g.locals.size = c.maxLocals) {argsL rest : List Value} (hlen : ∀ sig, parseMethodDescriptor y.desc = some sig → argsL.length = sig.parameters.length)
    (hstack : g.stack = argsL.reverse ++ .ref b :: rest) (hW : 2 * g.monitorRoom + (rest.map fun v => v.category).sum ≤ W9) (hdg : decode c.code g.pc = .ok (.invokevirtual index, 3))
    (hpre : ∀ vm₁, s.WarmedH vm₁ → Pre ⟨T.setVm vm₁, locs, cells, slots⟩ (Value.ref b :: argsL).toArray) :
    ∃ (v : Option Value) (vm₁ : Vm) (B : Pt), s.WarmedH vm₁ ∧ Stand p l e R s m args below meth c B.U B.locs B.cells B.slots ∧ Post ⟨T.setVm vm₁, locs, cells, slots⟩ (Value.ref b :: argsL).toArray v B ∧
      ∀ target, Steps p.tables e below (B.U.setTop { g with pc := g.pc + 3, stack := v.toList ++ rest }) target → Steps p.tables e below (T.setTop g) target := by
  obtain ⟨mk, methM, hnamed, hmethM, hstM, habM⟩ := Cond.instanceMethod_spec hinst
  obtain ⟨m8, methM', cM, hn8, hmethM', -, -, -, -, -, -, hsigM⟩ := Cond.codeWith_spec hcode
  cases Option.some.inj (hn8.symm.trans hnamed)
  cases hmethM.symm.trans hmethM'
  obtain ⟨c2, r2, m2, q1, q2, q3, q4, kP, hkP, hkPi⟩ := Cond.selects_spec hsel
  cases hcls.symm.trans q1
  cases (State.methodFound?_of_named hnamed hy).symm.trans q2
  cases hnamed.symm.trans q3
  have hselP : selectMethod e.platform s.vm cellB.cls mk = .method mk := by rw [Launch.admits_selectMethod X.admits]; exact q4
  obtain ⟨vm₁, X₁, hstep₁⟩ := X.invokevirtual hexec hown hlink hnamed hmethM hstM hkP hkPi hy (a := b) (cell := cellB) hcell
    (fun z h => by rw [h] at hobj; cases hobj) hselP hmethM habM hkP hkPi (g := g) hg (argsL := argsL) (rest := rest) (hlen _ hsigM) hstack hdg
  obtain ⟨v, B, X', hpost, hsteps⟩ := hK m meth c ⟨T.setVm vm₁, locs, cells, slots⟩ { g with stack := rest } (.invokevirtual index) mk (Value.ref b :: argsL).toArray X₁ hg hsize hdg hW (X₁.named hnamed) (hpre vm₁ X₁.warmed)
  exact ⟨v, vm₁, B, X₁.warmed, X', hpost, fun target h => hstep₁ _ fun acts => by rw [doInvoke_state]; exact hsteps.trans h⟩
abbrev vx_CVW (R : Room) (s : State) (args : Array Value) (own C : String) (index : Nat) (y : MethodName) (bytes : ByteArray) (maxL : Nat) (ret : Option FieldType) (hh : List (Nat × Nat × Nat × Nat)) (ws : List Cond) (rm : Room) (mc ms n : Nat) : Prop :=
  (rm.cells = mc ∧ rm.slots = ms ∧ rm.frames + 1 ≤ R.frames ∧ 8 + (maxL + 11) + rm.locals ≤ R.locals ∧ (∀ w ∈ ws, ∀ (a' : Array Value) (U : State), s.WarmedH U.vm → w.before a' U = true) ∧ Cond.codeWith y bytes maxL ret hh ∈ ws) ∧
  (Cond.codeWith y bytes maxL ret hh).before args s = true ∧ (Cond.initialized y.cls).before args s = true ∧ (y.cls ≠ "java/lang/invoke/MethodHandle" ∧ y.cls ≠ "java/lang/invoke/VarHandle") ∧
  (∀ sig, parseMethodDescriptor y.desc = some sig → n = sig.parameters.length) ∧ (Cond.methodLink own index y).before args s = true ∧ (Cond.instanceMethod y).before args s = true ∧ (Cond.selects C y y).before args s = true
theorem vx_cwVW {own C : String} {index maxL mc ms : Nat} {y : MethodName} {bytes : ByteArray} {ret : Option FieldType} {hh : List (Nat × Nat × Nat × Nat)} {Ts ws ws' : List Cond} {rm : Room} (n : Nat) (ht : ∀ w ∈ Ts, w.before args s = true) (hT : GoodIn Ts (wsV own index C y ws)) (hw : ws = Cond.codeWith y bytes maxL ret hh :: ws') (hrc : rm.cells = mc) (hrs : rm.slots = ms)
    (hd : y.cls = C ∧ y.cls ≠ "java/lang/invoke/MethodHandle" ∧ y.cls ≠ "java/lang/invoke/VarHandle" ∧ (parseMethodDescriptor y.desc).map (fun d => d.parameters.length) = some n) (hR : rm.frames + 1 ≤ R.frames ∧ 8 + (maxL + 11) + rm.locals ≤ R.locals) :
    vx_CVW R s args own C index y bytes maxL ret hh ws rm mc ms n := by
  obtain ⟨hC, hd⟩ := hd
  subst hC
  have ok : ∀ w ∈ wsV own index y.cls y ws, w.before args s = true := fun w h => ht w (hT w h).1
  have hG : GoodIn Ts ws := fun w h => hT w (by unfold wsV; exact List.mem_append_right _ h)
  have hc : Cond.codeWith y bytes maxL ret hh ∈ ws := by rw [hw]; exact List.mem_cons_self
  refine ⟨⟨hrc, hrs, hR.1, hR.2, pay_in ht hG, hc⟩, ht _ (hG _ hc).1, ok _ (by simp [wsV]), ⟨hd.1, hd.2.1⟩, fun sig h => ?_, ok _ (by simp [wsV]), ok _ (by simp [wsV]), ok _ (by simp [wsV])⟩
  have h2 := hd.2.2
  rw [h] at h2
  exact (Option.some.inj h2).symm
theorem vx_runVW {y : MethodName} {bytes cc : ByteArray} {maxL nL mc ms n index : Nat} {ret : Option FieldType} {hh : List (Nat × Nat × Nat × Nat)} {ws : List Cond} {rm : Room} {Pc : Array Value → State → Prop} {Qc : Array Value → State → Outcome → State → Prop} {free : Addr → Prop} {Ts : List Cond} {own C : String} {b : Addr} {As rest : List Value} {g : JFrame}
    (S : CallFix p m c cc nL s args Ts own) (hM : Met l y ws rm Pc Qc mc ms free) (cw : vx_CVW R s args own C index y bytes maxL ret hh ws rm mc ms n) (hp : PreV s H C b Pc As)
    (hg : g.method = m) (hn : As.length = n) (hsize : g.locals.size = nL) (hstack : g.stack = As.reverse ++ .ref b :: rest) (hW : 2 * g.monitorRoom + (rest.map fun v => v.category).sum ≤ 8) (hdg : decode cc g.pc = .ok (.invokevirtual index, 3)) (hf : cells + mc ≤ R.cells ∧ slots + ms ≤ R.slots) :
    va_Run p l e R s m args below meth c H locs cells slots mc ms g rest (Qc (Value.ref b :: As).toArray) free := by
  obtain ⟨⟨hrc, hrs, hfr, hlo, hws, hcw⟩, hcode, hini, hy, hlen, hl, hin, hse⟩ := cw
  have hK : Back l R p e below s args y 3 8 (PreOf R mc ms Pc) (PostOf Qc mc ms free) := va_backW (hh := hh) (bytes := bytes) (maxL := maxL) (ret := ret) hM hp.1 hrc hrs hfr hlo hws hcw (fun a' U hW => word_at hW (Or.inl (by first | rfl | simp [Cond.onTables, Cond.keeps, Cond.steady])) hini)
  obtain ⟨hx, hb, hml, ho, -⟩ := S
  obtain ⟨-, ⟨cellB, hcB, hoB, hclB⟩, hPc⟩ := hp
  intro T hT X
  obtain ⟨v, vm₁, ⟨U', l2, c2, s2⟩, hW₁, X', ⟨g', mk, t, L, e1, e2, hq, h1, hL, h2, h3⟩, st⟩ := vx_callVW X hx (C := C) (hh := hh) (bytes := bytes) (maxL := maxL) (ret := ret) ho hl hin hse hcode hy hK (by rw [hT]; exact hcB) hoB hclB hg (hsize.trans hml.symm) (argsL := As) (rest := rest) (fun sig h => hn.trans (hlen sig h)) hstack hW (by rw [hb]; exact hdg)
    (fun vm₁ hW₁ => ⟨hf.1, hf.2, hPc (T.setVm vm₁) hT hW₁⟩)
  dsimp only [Pt.U, Pt.locs, Pt.cells, Pt.slots] at X' e1 e2 h1 h2 h3 st
  subst h1; subst h2; subst h3
  exact ⟨v, (T.setVm vm₁).calling g' mk (Value.ref b :: As).toArray, t, U', L, hT, X', hL, e1, e2, hq, st⟩
section
variable {y : MethodName} {bytes cc : ByteArray} {maxL nL mc ms n index : Nat} {ret : Option FieldType} {ws : List Cond} {rm : Room} {Pc : Array Value → State → Prop} {Qc : Array Value → State → Outcome → State → Prop} {XC : String → State → State → Prop} {free : Addr → Prop} {Ts : List Cond} {own C : String} {b : Addr} {As rest : List Value} {g : JFrame}
theorem vx_runVX {hh : List (Nat × Nat × Nat × Nat)} (S : CallFix p m c cc nL s args Ts own) (hM : vx_Met l y ws rm Pc Qc XC mc ms free) (cw : vx_CVW R s args own C index y bytes maxL ret hh ws rm mc ms n) (hp : PreV s H C b Pc As)
    (hg : g.method = m) (hn : As.length = n) (hsize : g.locals.size = nL) (hstack : g.stack = As.reverse ++ .ref b :: rest) (hW : 2 * g.monitorRoom + (rest.map fun v => v.category).sum ≤ 8) (hdg : decode cc g.pc = .ok (.invokevirtual index, 3)) (hf : cells + mc ≤ R.cells ∧ slots + ms ≤ R.slots) :
    vx_Run p l e R s m args below meth c H locs cells slots mc ms g rest (Qc (Value.ref b :: As).toArray) XC free := by
  obtain ⟨⟨hrc, hrs, hfr, hlo, hws, hcw⟩, hcode, hini, hy, hlen, hl, hin, hse⟩ := cw
  have hK : vx_Back l R p e below s args y 3 8 (PreOf R mc ms Pc) (PostOf Qc mc ms free) (vx_Post XC mc ms free) := vx_backW (hh := hh) (bytes := bytes) (maxL := maxL) (ret := ret) hM hp.1 hrc hrs hfr hlo hws hcw (fun a' U hW => word_at hW (Or.inl (by first | rfl | simp [Cond.onTables, Cond.keeps, Cond.steady])) hini)
  obtain ⟨hx, hb, hml, ho, -⟩ := S
  obtain ⟨-, ⟨cellB, hcB, hoB, hclB⟩, hPc⟩ := hp
  intro T hT X
  rcases vx_callVX X hx (C := C) (hh := hh) (bytes := bytes) (maxL := maxL) (ret := ret) ho hl hin hse hcode hy hK (by rw [hT]; exact hcB) hoB hclB hg (hsize.trans hml.symm) (argsL := As) (rest := rest) (fun sig h => hn.trans (hlen sig h)) hstack hW (by rw [hb]; exact hdg)
    (fun vm₁ hW₁ => ⟨hf.1, hf.2, hPc (T.setVm vm₁) hT hW₁⟩) with ⟨v, vm₁, ⟨U', l2, c2, s2⟩, hW₁, X', ⟨g', mk, t, L, e1, e2, hq, h1, hL, h2, h3⟩, st⟩ | ⟨q, vm₁, ⟨U', l2, c2, s2⟩, hW₁, X', ⟨g', mk, t, L, E, ce, e1, e2, hq, hce, hcv, hcl, h1, hL, h2, h3⟩, st⟩
  · dsimp only [Pt.U, Pt.locs, Pt.cells, Pt.slots] at X' e1 e2 h1 h2 h3 st
    subst h1; subst h2; subst h3
    exact Or.inl ⟨v, (T.setVm vm₁).calling g' mk (Value.ref b :: As).toArray, t, U', L, hT, X', hL, e1, e2, hq, st⟩
  · dsimp only [Pt.U, Pt.locs, Pt.cells, Pt.slots] at X' e1 e2 h1 h2 h3 st hcl
    subst h1; subst h2; subst h3
    exact Or.inr ⟨q, (T.setVm vm₁).calling g' mk (Value.ref b :: As).toArray, t, U', L, E, ce, hT, X', hL, e1, e2, hq, hce, hcv, vx_cls hW₁ hcl, st⟩
theorem vx_runSX {hh : List (Nat × Nat × Nat × Nat)} (S : CallFix p m c cc nL s args Ts own) (hM : vx_Met l y ws rm Pc Qc XC mc ms free) (cw : vx_CSW R s args own index y bytes maxL ret hh ws rm mc ms n) (hp : PreS s H Pc As)
    (hg : g.method = m) (hn : As.length = n) (hsize : g.locals.size = nL) (hstack : g.stack = As.reverse ++ rest) (hW : 2 * g.monitorRoom + (rest.map fun v => v.category).sum ≤ 8) (hdg : decode cc g.pc = .ok (.invokestatic index, 3)) (hf : cells + mc ≤ R.cells ∧ slots + ms ≤ R.slots) :
    vx_Run p l e R s m args below meth c H locs cells slots mc ms g rest (Qc As.toArray) XC free := by
  obtain ⟨⟨hrc, hrs, hfr, hlo, hws, hcw⟩, hcode, hini, hy, hlen, hl, hstt⟩ := cw
  have hK : vx_Back l R p e below s args y 3 8 (PreOf R mc ms Pc) (PostOf Qc mc ms free) (vx_Post XC mc ms free) := vx_backW (hh := hh) (bytes := bytes) (maxL := maxL) (ret := ret) hM hp.1 hrc hrs hfr hlo hws hcw (fun a' U hW => word_at hW (Or.inl (by first | rfl | simp [Cond.onTables, Cond.keeps, Cond.steady])) hini)
  obtain ⟨hx, hb, hml, ho, -⟩ := S
  intro T hT X
  rcases vx_callSX X hx (hh := hh) (bytes := bytes) (maxL := maxL) (ret := ret) ho hl hstt hini hcode hy hK hg (hsize.trans hml.symm) (argsL := As) (rest := rest) (fun sig h => hn.trans (hlen sig h)) hstack hW (by rw [hb]; exact hdg)
    (fun vm₁ hW₁ => ⟨hf.1, hf.2, hp.2 (T.setVm vm₁) hT hW₁⟩) with ⟨v, vm₁, ⟨U', l2, c2, s2⟩, hW₁, X', ⟨g', mk, t, L, e1, e2, hq, h1, hL, h2, h3⟩, st⟩ | ⟨q, vm₁, ⟨U', l2, c2, s2⟩, hW₁, X', ⟨g', mk, t, L, E, ce, e1, e2, hq, hce, hcv, hcl, h1, hL, h2, h3⟩, st⟩
  · dsimp only [Pt.U, Pt.locs, Pt.cells, Pt.slots] at X' e1 e2 h1 h2 h3 st
    subst h1; subst h2; subst h3
    exact Or.inl ⟨v, (T.setVm vm₁).calling g' mk As.toArray, t, U', L, hT, X', hL, e1, e2, hq, st⟩
  · dsimp only [Pt.U, Pt.locs, Pt.cells, Pt.slots] at X' e1 e2 h1 h2 h3 st hcl
    subst h1; subst h2; subst h3
    exact Or.inr ⟨q, (T.setVm vm₁).calling g' mk As.toArray, t, U', L, E, ce, hT, X', hL, e1, e2, hq, hce, hcv, vx_cls hW₁ hcl, st⟩
end
end VXH
theorem vx_ofWH {l : Launch} {y : MethodName} {ws ws' : List Cond} {rm : Room} {Pc : Array Value → State → Prop} {Qc : Array Value → State → Outcome → State → Prop} {XC : String → State → State → Prop} {mc ms : Nat} {free : Addr → Prop} {cc : ByteArray} {maxL : Nat} {ret : Option FieldType} {hh : List (Nat × Nat × Nat × Nat)}
    (hy : plainName y.cls = true) (hw : ws = Cond.codeWith y cc maxL ret hh :: ws')
    (body : ∀ p e s m args below meth c s₁, BodyLoose p l y (headSpec ws rm) cc maxL ret e s m args below meth c s₁ → c.maxLocals = maxL → Pc args s →
      W p l e (headSpec ws rm).room s m args below meth c s.heap [] 0 0 (vx_MQ below Qc XC args s mc ms free) (entryFrame m args maxL)) : vx_Met l y ws rm Pc Qc XC mc ms free := by
  refine MetFree.of_bodyS (code := cc) (maxLocals := maxL) (ret := ret) hy ?_ ?_
  · intro args s m h hn
    obtain ⟨m9, meth, c, hn9, h1, h2, h3, h4, -, h5, h6, -⟩ := Cond.codeWith_spec (atoms_spec (ws := ws) h _ (by rw [hw]; exact List.mem_cons_self))
    cases hn.symm.trans hn9
    exact ⟨meth, c, h1, h2, h3, h4, h5, h6⟩
  · intro p e s m args below meth c s₁ B hml hP _
    have hh0 : s₁.heap = s.heap := by rw [B.state]; rfl
    obtain ⟨t, a1, o, b1, b2, b3⟩ := body p e s m args below meth c s₁ B hml hP s₁ hh0 (Stand.of_body B)
    exact ⟨t, o, a1, b1, b2, b3⟩
/-! ===== END ===== -/
end
section
/-! ===== BEGIN printed: names, fields, word lists, decode rows ===== -/
def RX0 : String := "StandbyPair"
def TX0 : u_T := fun k => match k with
  | 0 => ("StandbyPair", "alive", "[Z", true)
  | 1 => ("StandbyPair", "joinedPairs", "[Z", true)
  | 2 => ("StandbyPair", "linkUp", "[Z", true)
  | 3 => ("StandbyPair", "decrements", "[I", true)
  | 4 => ("StandbyPair", "periods", "[I", true)
  | 5 => ("StandbyPair", "preempting", "[Z", true)
  | 6 => ("StandbyPair", "delays", "[I", true)
  | 7 => ("StandbyPair", "gapTicks", "[I", true)
  | 8 => ("StandbyPair", "advertisements", "[I", true)
  | 9 => ("StandbyPair", "basePriorities", "[I", true)
  | 10 => ("StandbyPair", "roles", "[I", true)
  | 11 => ("StandbyPair", "timers", "[I", true)
  | 12 => ("StandbyPair", "heard", "[I", true)
  | 13 => ("StandbyPair", "served", "[I", true)
  | 14 => ("StandbyPair", "promotions", "[I", true)
  | 15 => ("StandbyPair", "repairAsked", "[Z", true)
  | 16 => ("StandbyPair", "bulkRepairs", "I", false)
  | _ => ("StandbyPair", "time", "I", false)
def tyX0 : Nat → FieldType := fun k => match k with
  | 0 => .array .boolean
  | 1 => .array .boolean
  | 2 => .array .boolean
  | 3 => .array .int
  | 4 => .array .int
  | 5 => .array .boolean
  | 6 => .array .int
  | 7 => .array .int
  | 8 => .array .int
  | 9 => .array .int
  | 10 => .array .int
  | 11 => .array .int
  | 12 => .array .int
  | 13 => .array .int
  | 14 => .array .int
  | 15 => .array .boolean
  | 16 => .int
  | _ => .int
abbrev wsX00 : List Cond := u_ws RX0 TX0 18
theorem nmX0 : ∀ a, a < 18 → ∀ b, b < 18 → a ≠ b → (TX0 a).2.1 ≠ (TX0 b).2.1 := by decide +kernel
theorem tyX0_ok : ∀ k, k < 18 → parseFieldDescriptor (TX0 k).2.2.1 = some (tyX0 k) := by decide +kernel
abbrev cX0_init : ByteArray := prog_1_method_1_code
def yX0_init : MethodName := ⟨RX0, "<init>", "()V"⟩
abbrev cX0_setPriority : ByteArray := prog_1_method_2_code
def yX0_setPriority : MethodName := ⟨RX0, "setPriority", "(III)I"⟩
abbrev cX0_track : ByteArray := prog_1_method_3_code
def yX0_track : MethodName := ⟨RX0, "track", "(III)I"⟩
abbrev cX0_setLink : ByteArray := prog_1_method_4_code
def yX0_setLink : MethodName := ⟨RX0, "setLink", "(IIZ)Z"⟩
abbrev cX0_setPeriod : ByteArray := prog_1_method_5_code
def yX0_setPeriod : MethodName := ⟨RX0, "setPeriod", "(II)I"⟩
abbrev cX0_setPreemption : ByteArray := prog_1_method_6_code
def yX0_setPreemption : MethodName := ⟨RX0, "setPreemption", "(IZI)V"⟩
abbrev cX0_join : ByteArray := prog_1_method_7_code
def yX0_join : MethodName := ⟨RX0, "join", "(IIZ)Z"⟩
abbrev cX0_die : ByteArray := prog_1_method_8_code
def yX0_die : MethodName := ⟨RX0, "die", "(I)I"⟩
abbrev cX0_live : ByteArray := prog_1_method_9_code
def yX0_live : MethodName := ⟨RX0, "live", "(I)I"⟩
abbrev cX0_handOver : ByteArray := prog_1_method_10_code
def yX0_handOver : MethodName := ⟨RX0, "handOver", "(II)V"⟩
abbrev cX0_serve : ByteArray := prog_1_method_11_code
def yX0_serve : MethodName := ⟨RX0, "serve", "(II)I"⟩
abbrev cX0_tick : ByteArray := prog_1_method_12_code
def yX0_tick : MethodName := ⟨RX0, "tick", "(I)I"⟩
abbrev cX0_state : ByteArray := prog_1_method_13_code
def yX0_state : MethodName := ⟨RX0, "state", "(II)I"⟩
abbrev cX0_priority : ByteArray := prog_1_method_14_code
def yX0_priority : MethodName := ⟨RX0, "priority", "(II)I"⟩
abbrev cX0_timer : ByteArray := prog_1_method_15_code
def yX0_timer : MethodName := ⟨RX0, "timer", "(II)I"⟩
abbrev cX0_masters : ByteArray := prog_1_method_16_code
def yX0_masters : MethodName := ⟨RX0, "masters", "(I)I"⟩
abbrev cX0_changes : ByteArray := prog_1_method_17_code
def yX0_changes : MethodName := ⟨RX0, "changes", "(II)I"⟩
abbrev cX0_gaps : ByteArray := prog_1_method_18_code
def yX0_gaps : MethodName := ⟨RX0, "gaps", "(I)I"⟩
abbrev cX0_sent : ByteArray := prog_1_method_19_code
def yX0_sent : MethodName := ⟨RX0, "sent", "(I)I"⟩
abbrev cX0_known : ByteArray := prog_1_method_20_code
def yX0_known : MethodName := ⟨RX0, "known", "(II)I"⟩
abbrev cX0_repairs : ByteArray := prog_1_method_21_code
def yX0_repairs : MethodName := ⟨RX0, "repairs", "()I"⟩
abbrev cX0_isSettled : ByteArray := prog_1_method_22_code
def yX0_isSettled : MethodName := ⟨RX0, "isSettled", "(I)Z"⟩
abbrev cX0_runMasters : ByteArray := prog_1_method_23_code
def yX0_runMasters : MethodName := ⟨RX0, "runMasters", "(I)V"⟩
abbrev cX0_runBackups : ByteArray := prog_1_method_24_code
def yX0_runBackups : MethodName := ⟨RX0, "runBackups", "(I)V"⟩
abbrev cX0_noteGap : ByteArray := prog_1_method_25_code
def yX0_noteGap : MethodName := ⟨RX0, "noteGap", "(I)V"⟩
abbrev cX0_advertise : ByteArray := prog_1_method_26_code
def yX0_advertise : MethodName := ⟨RX0, "advertise", "(III)V"⟩
abbrev cX0_receiveAsMaster : ByteArray := prog_1_method_27_code
def yX0_receiveAsMaster : MethodName := ⟨RX0, "receiveAsMaster", "(IIII)V"⟩
abbrev cX0_receiveAsBackup : ByteArray := prog_1_method_28_code
def yX0_receiveAsBackup : MethodName := ⟨RX0, "receiveAsBackup", "(IIII)V"⟩
abbrev cX0_copyServed : ByteArray := prog_1_method_29_code
def yX0_copyServed : MethodName := ⟨RX0, "copyServed", "(III)V"⟩
abbrev cX0_beginPart : ByteArray := prog_1_method_30_code
def yX0_beginPart : MethodName := ⟨RX0, "beginPart", "(II)V"⟩
abbrev cX0_becomeBackup : ByteArray := prog_1_method_31_code
def yX0_becomeBackup : MethodName := ⟨RX0, "becomeBackup", "(II)V"⟩
abbrev cX0_membersWith : ByteArray := prog_1_method_32_code
def yX0_membersWith : MethodName := ⟨RX0, "membersWith", "(II)I"⟩
abbrev cX0_hasJoinedMasters : ByteArray := prog_1_method_33_code
def yX0_hasJoinedMasters : MethodName := ⟨RX0, "hasJoinedMasters", "(I)Z"⟩
abbrev cX0_loweredPriority : ByteArray := prog_1_method_34_code
def yX0_loweredPriority : MethodName := ⟨RX0, "loweredPriority", "(II)I"⟩
abbrev cX0_waitOf : ByteArray := prog_1_method_35_code
def yX0_waitOf : MethodName := ⟨RX0, "waitOf", "(II)I"⟩
abbrev cX0_skewOf : ByteArray := prog_1_method_36_code
def yX0_skewOf : MethodName := ⟨RX0, "skewOf", "(II)I"⟩
abbrev cX0_placeOf : ByteArray := prog_1_method_37_code
def yX0_placeOf : MethodName := ⟨RX0, "placeOf", "(II)I"⟩
abbrev cX0_linkOf : ByteArray := prog_1_method_38_code
def yX0_linkOf : MethodName := ⟨RX0, "linkOf", "(II)I"⟩
abbrev cX0_checkRouter : ByteArray := prog_1_method_39_code
def yX0_checkRouter : MethodName := ⟨RX0, "checkRouter", "(I)V"⟩
abbrev cX0_checkGroup : ByteArray := prog_1_method_40_code
def yX0_checkGroup : MethodName := ⟨RX0, "checkGroup", "(I)V"⟩
abbrev cX0_checkLink : ByteArray := prog_1_method_41_code
def yX0_checkLink : MethodName := ⟨RX0, "checkLink", "(I)V"⟩
abbrev cX0_checkRange : ByteArray := prog_1_method_42_code
def yX0_checkRange : MethodName := ⟨RX0, "checkRange", "(III)V"⟩
def RX1 : String := "StandbyPairModel"
def TX1 : u_T := fun k => match k with
  | 0 => ("StandbyPairModel", "thrown", "I", false)
  | 1 => ("StandbyPairModel", "isDead", "[Z", true)
  | 2 => ("StandbyPairModel", "bases", "[I", true)
  | 3 => ("StandbyPairModel", "decrements", "[I", true)
  | 4 => ("StandbyPairModel", "isDown", "[Z", true)
  | 5 => ("StandbyPairModel", "isCut", "[Z", true)
  | 6 => ("StandbyPairModel", "periods", "[I", true)
  | 7 => ("StandbyPairModel", "isOff", "[Z", true)
  | 8 => ("StandbyPairModel", "delays", "[I", true)
  | 9 => ("StandbyPairModel", "states", "[I", true)
  | 10 => ("StandbyPairModel", "timers", "[I", true)
  | 11 => ("StandbyPairModel", "heard", "[I", true)
  | 12 => ("StandbyPairModel", "served", "[I", true)
  | 13 => ("StandbyPairModel", "isAsked", "[Z", true)
  | 14 => ("StandbyPairModel", "changes", "[I", true)
  | 15 => ("StandbyPairModel", "gaps", "[I", true)
  | 16 => ("StandbyPairModel", "sent", "[I", true)
  | 17 => ("StandbyPairModel", "repairs", "I", false)
  | _ => ("StandbyPairModel", "time", "I", false)
def tyX1 : Nat → FieldType := fun k => match k with
  | 0 => .int
  | 1 => .array .boolean
  | 2 => .array .int
  | 3 => .array .int
  | 4 => .array .boolean
  | 5 => .array .boolean
  | 6 => .array .int
  | 7 => .array .boolean
  | 8 => .array .int
  | 9 => .array .int
  | 10 => .array .int
  | 11 => .array .int
  | 12 => .array .int
  | 13 => .array .boolean
  | 14 => .array .int
  | 15 => .array .int
  | 16 => .array .int
  | 17 => .int
  | _ => .int
abbrev wsX10 : List Cond := u_ws RX1 TX1 19
theorem nmX1 : ∀ a, a < 19 → ∀ b, b < 19 → a ≠ b → (TX1 a).2.1 ≠ (TX1 b).2.1 := by decide +kernel
theorem tyX1_ok : ∀ k, k < 19 → parseFieldDescriptor (TX1 k).2.2.1 = some (tyX1 k) := by decide +kernel
abbrev cX1_init : ByteArray := prog_3_method_1_code
def yX1_init : MethodName := ⟨RX1, "<init>", "()V"⟩
abbrev cX1_thrown : ByteArray := prog_3_method_2_code
def yX1_thrown : MethodName := ⟨RX1, "thrown", "()I"⟩
abbrev cX1_goesWell : ByteArray := prog_3_method_3_code
def yX1_goesWell : MethodName := ⟨RX1, "goesWell", "(I)Z"⟩
abbrev cX1_in : ByteArray := prog_3_method_4_code
def yX1_in : MethodName := ⟨RX1, "in", "(III)Z"⟩
abbrev cX1_isRouter : ByteArray := prog_3_method_5_code
def yX1_isRouter : MethodName := ⟨RX1, "isRouter", "(I)Z"⟩
abbrev cX1_isGroup : ByteArray := prog_3_method_6_code
def yX1_isGroup : MethodName := ⟨RX1, "isGroup", "(I)Z"⟩
abbrev cX1_are : ByteArray := prog_3_method_7_code
def yX1_are : MethodName := ⟨RX1, "are", "(II)Z"⟩
abbrev cX1_priorityAt : ByteArray := prog_3_method_8_code
def yX1_priorityAt : MethodName := ⟨RX1, "priorityAt", "(I)I"⟩
abbrev cX1_skew : ByteArray := prog_3_method_9_code
def yX1_skew : MethodName := ⟨RX1, "skew", "(I)I"⟩
abbrev cX1_waitAt : ByteArray := prog_3_method_10_code
def yX1_waitAt : MethodName := ⟨RX1, "waitAt", "(I)I"⟩
abbrev cX1_copy : ByteArray := prog_3_method_11_code
def yX1_copy : MethodName := ⟨RX1, "copy", "(II)V"⟩
abbrev cX1_rest : ByteArray := prog_3_method_12_code
def yX1_rest : MethodName := ⟨RX1, "rest", "(II)V"⟩
abbrev cX1_receive : ByteArray := prog_3_method_13_code
def yX1_receive : MethodName := ⟨RX1, "receive", "(III)V"⟩
abbrev cX1_advertise : ByteArray := prog_3_method_14_code
def yX1_advertise : MethodName := ⟨RX1, "advertise", "(II)V"⟩
abbrev cX1_settle : ByteArray := prog_3_method_15_code
def yX1_settle : MethodName := ⟨RX1, "settle", "(I)V"⟩
abbrev cX1_setPriority : ByteArray := prog_3_method_16_code
def yX1_setPriority : MethodName := ⟨RX1, "setPriority", "(III)I"⟩
abbrev cX1_isLink : ByteArray := prog_3_method_17_code
def yX1_isLink : MethodName := ⟨RX1, "isLink", "(II)Z"⟩
abbrev cX1_track : ByteArray := prog_3_method_18_code
def yX1_track : MethodName := ⟨RX1, "track", "(III)I"⟩
abbrev cX1_setLink : ByteArray := prog_3_method_19_code
def yX1_setLink : MethodName := ⟨RX1, "setLink", "(IIZ)Z"⟩
abbrev cX1_setPeriod : ByteArray := prog_3_method_20_code
def yX1_setPeriod : MethodName := ⟨RX1, "setPeriod", "(II)I"⟩
abbrev cX1_setPreemption : ByteArray := prog_3_method_21_code
def yX1_setPreemption : MethodName := ⟨RX1, "setPreemption", "(IZI)V"⟩
abbrev cX1_join : ByteArray := prog_3_method_22_code
def yX1_join : MethodName := ⟨RX1, "join", "(IIZ)Z"⟩
abbrev cX1_die : ByteArray := prog_3_method_23_code
def yX1_die : MethodName := ⟨RX1, "die", "(I)I"⟩
abbrev cX1_live : ByteArray := prog_3_method_24_code
def yX1_live : MethodName := ⟨RX1, "live", "(I)I"⟩
abbrev cX1_handOver : ByteArray := prog_3_method_25_code
def yX1_handOver : MethodName := ⟨RX1, "handOver", "(II)V"⟩
abbrev cX1_serve : ByteArray := prog_3_method_26_code
def yX1_serve : MethodName := ⟨RX1, "serve", "(II)I"⟩
abbrev cX1_turn : ByteArray := prog_3_method_27_code
def yX1_turn : MethodName := ⟨RX1, "turn", "(II)V"⟩
abbrev cX1_hasMaster : ByteArray := prog_3_method_28_code
def yX1_hasMaster : MethodName := ⟨RX1, "hasMaster", "(I)Z"⟩
abbrev cX1_tick : ByteArray := prog_3_method_29_code
def yX1_tick : MethodName := ⟨RX1, "tick", "(I)I"⟩
abbrev cX1_state : ByteArray := prog_3_method_30_code
def yX1_state : MethodName := ⟨RX1, "state", "(II)I"⟩
abbrev cX1_priority : ByteArray := prog_3_method_31_code
def yX1_priority : MethodName := ⟨RX1, "priority", "(II)I"⟩
abbrev cX1_timer : ByteArray := prog_3_method_32_code
def yX1_timer : MethodName := ⟨RX1, "timer", "(II)I"⟩
abbrev cX1_masters : ByteArray := prog_3_method_33_code
def yX1_masters : MethodName := ⟨RX1, "masters", "(I)I"⟩
abbrev cX1_changes : ByteArray := prog_3_method_34_code
def yX1_changes : MethodName := ⟨RX1, "changes", "(II)I"⟩
abbrev cX1_gaps : ByteArray := prog_3_method_35_code
def yX1_gaps : MethodName := ⟨RX1, "gaps", "(I)I"⟩
abbrev cX1_sent : ByteArray := prog_3_method_36_code
def yX1_sent : MethodName := ⟨RX1, "sent", "(I)I"⟩
abbrev cX1_known : ByteArray := prog_3_method_37_code
def yX1_known : MethodName := ⟨RX1, "known", "(II)I"⟩
abbrev cX1_repairs : ByteArray := prog_3_method_38_code
def yX1_repairs : MethodName := ⟨RX1, "repairs", "()I"⟩
abbrev cX1_isSettled : ByteArray := prog_3_method_39_code
def yX1_isSettled : MethodName := ⟨RX1, "isSettled", "(I)Z"⟩
def RJ9 : String := "java/lang/Math"
def TJ9 : u_T := fun k => match k with
  | _ => ("", "", "", false)
def tyJ9 : Nat → FieldType := fun k => match k with
  | _ => .int
abbrev wsJ90 : List Cond := u_ws RJ9 TJ9 0
theorem nmJ9 : ∀ a, a < 0 → ∀ b, b < 0 → a ≠ b → (TJ9 a).2.1 ≠ (TJ9 b).2.1 := by decide +kernel
theorem tyJ9_ok : ∀ k, k < 0 → parseFieldDescriptor (TJ9 k).2.2.1 = some (tyJ9 k) := by decide +kernel
abbrev cJ9_max_7cf53 : ByteArray := prog_7_method_65_code
def yJ9_max_7cf53 : MethodName := ⟨RJ9, "max", "(II)I"⟩
def RJ0 : String := "java/lang/String"
def TJ0 : u_T := fun k => match k with
  | _ => ("", "", "", false)
def tyJ0 : Nat → FieldType := fun k => match k with
  | _ => .int
abbrev wsJ00 : List Cond := u_ws RJ0 TJ0 0
theorem nmJ0 : ∀ a, a < 0 → ∀ b, b < 0 → a ≠ b → (TJ0 a).2.1 ≠ (TJ0 b).2.1 := by decide +kernel
theorem tyJ0_ok : ∀ k, k < 0 → parseFieldDescriptor (TJ0 k).2.2.1 = some (tyJ0 k) := by decide +kernel
def RL : String := "StandbyPairLaw"
abbrev cL_setPriority : ByteArray := method_3_code
def yL_setPriority : MethodName := ⟨RL, "setPriority", "(LStandbyPair;III[J)I"⟩
abbrev cL_track : ByteArray := method_4_code
def yL_track : MethodName := ⟨RL, "track", "(LStandbyPair;III[J)I"⟩
abbrev cL_setLink : ByteArray := method_5_code
def yL_setLink : MethodName := ⟨RL, "setLink", "(LStandbyPair;IIZ[J)I"⟩
abbrev cL_setPeriod : ByteArray := method_6_code
def yL_setPeriod : MethodName := ⟨RL, "setPeriod", "(LStandbyPair;II[J)I"⟩
abbrev cL_setPreemption : ByteArray := method_7_code
def yL_setPreemption : MethodName := ⟨RL, "setPreemption", "(LStandbyPair;IZI)I"⟩
abbrev cL_join : ByteArray := method_8_code
def yL_join : MethodName := ⟨RL, "join", "(LStandbyPair;IIZ[J)I"⟩
abbrev cL_die : ByteArray := method_9_code
def yL_die : MethodName := ⟨RL, "die", "(LStandbyPair;I[J)I"⟩
abbrev cL_live : ByteArray := method_10_code
def yL_live : MethodName := ⟨RL, "live", "(LStandbyPair;I[J)I"⟩
abbrev cL_handOver : ByteArray := method_11_code
def yL_handOver : MethodName := ⟨RL, "handOver", "(LStandbyPair;II)I"⟩
abbrev cL_serve : ByteArray := method_12_code
def yL_serve : MethodName := ⟨RL, "serve", "(LStandbyPair;II[J)I"⟩
abbrev cL_tick : ByteArray := method_13_code
def yL_tick : MethodName := ⟨RL, "tick", "(LStandbyPair;I[J)I"⟩
abbrev cL_state : ByteArray := method_14_code
def yL_state : MethodName := ⟨RL, "state", "(LStandbyPair;II[J)I"⟩
abbrev cL_priority : ByteArray := method_15_code
def yL_priority : MethodName := ⟨RL, "priority", "(LStandbyPair;II[J)I"⟩
abbrev cL_timer : ByteArray := method_16_code
def yL_timer : MethodName := ⟨RL, "timer", "(LStandbyPair;II[J)I"⟩
abbrev cL_masters : ByteArray := method_17_code
def yL_masters : MethodName := ⟨RL, "masters", "(LStandbyPair;I[J)I"⟩
abbrev cL_changes : ByteArray := method_18_code
def yL_changes : MethodName := ⟨RL, "changes", "(LStandbyPair;II[J)I"⟩
abbrev cL_gaps : ByteArray := method_19_code
def yL_gaps : MethodName := ⟨RL, "gaps", "(LStandbyPair;I[J)I"⟩
abbrev cL_sent : ByteArray := method_20_code
def yL_sent : MethodName := ⟨RL, "sent", "(LStandbyPair;I[J)I"⟩
abbrev cL_known : ByteArray := method_21_code
def yL_known : MethodName := ⟨RL, "known", "(LStandbyPair;II[J)I"⟩
abbrev cL_isSettled : ByteArray := method_22_code
def yL_isSettled : MethodName := ⟨RL, "isSettled", "(LStandbyPair;I[J)I"⟩
abbrev cL_law : ByteArray := code
def yL_law : MethodName := ⟨RL, "law", "([I)Z"⟩
def wsX0_init : List Cond := .code yX0_init cX0_init 2 none :: ([.methodLink RX0 1 objectInit, .instanceMethod objectInit, .code objectInit ⟨#[0xb1]⟩ 1 none, .arrayClass .boolean, .fieldLink RX0 9 "StandbyPair" "alive" "[Z", .fieldLink RX0 13 "StandbyPair" "joinedPairs" "[Z", .fieldLink RX0 16 "StandbyPair" "linkUp" "[Z", .arrayClass .int, .fieldLink RX0 19 "StandbyPair" "decrements" "[I", .fieldLink RX0 23 "StandbyPair" "periods" "[I", .fieldLink RX0 26 "StandbyPair" "preempting" "[Z", .fieldLink RX0 29 "StandbyPair" "delays" "[I", .fieldLink RX0 32 "StandbyPair" "gapTicks" "[I", .fieldLink RX0 35 "StandbyPair" "advertisements" "[I", .fieldLink RX0 38 "StandbyPair" "basePriorities" "[I", .fieldLink RX0 41 "StandbyPair" "roles" "[I", .fieldLink RX0 44 "StandbyPair" "timers" "[I", .fieldLink RX0 47 "StandbyPair" "heard" "[I", .fieldLink RX0 50 "StandbyPair" "served" "[I", .fieldLink RX0 53 "StandbyPair" "promotions" "[I", .fieldLink RX0 56 "StandbyPair" "repairAsked" "[Z"] ++ wsX00)
def wsX0_checkRouter : List Cond := .code yX0_checkRouter cX0_checkRouter 1 none :: ([.classLink RX0 87 "java/lang/IllegalArgumentException", .initialized "java/lang/IllegalArgumentException"] ++ (vx_atS RX0 91 "java/lang/IllegalArgumentException" ["java/lang/RuntimeException", "java/lang/Exception"]).filter goodWord)
def wsX0_checkGroup : List Cond := .code yX0_checkGroup cX0_checkGroup 1 none :: ([.classLink RX0 87 "java/lang/IllegalArgumentException", .initialized "java/lang/IllegalArgumentException"] ++ (vx_atS RX0 91 "java/lang/IllegalArgumentException" ["java/lang/RuntimeException", "java/lang/Exception"]).filter goodWord)
def wsX0_checkRange : List Cond := .code yX0_checkRange cX0_checkRange 3 none :: ([.classLink RX0 87 "java/lang/IllegalArgumentException", .initialized "java/lang/IllegalArgumentException"] ++ (vx_atS RX0 91 "java/lang/IllegalArgumentException" ["java/lang/RuntimeException", "java/lang/Exception"]).filter goodWord)
def wsX0_placeOf : List Cond := .code yX0_placeOf cX0_placeOf 2 (some .int) :: ([])
def wsX0_linkOf : List Cond := .code yX0_linkOf cX0_linkOf 2 (some .int) :: ([])
def wsX0_loweredPriority : List Cond := .code yX0_loweredPriority cX0_loweredPriority 6 (some .int) :: ([.fieldLink RX0 38 "StandbyPair" "basePriorities" "[I", .fieldLink RX0 16 "StandbyPair" "linkUp" "[Z", .fieldLink RX0 19 "StandbyPair" "decrements" "[I", .methodLink RX0 150 Lib.Math.max.name, .static Lib.Math.max.name, .initialized "java/lang/Math", .code Lib.Math.max.name Lib.Math.max.code 2 (some .int), .methodLink RX0 70 yX0_placeOf, .static yX0_placeOf, .initialized RX0, .code yX0_placeOf cX0_placeOf 2 (some .int), .methodLink RX0 84 yX0_linkOf, .static yX0_linkOf, .code yX0_linkOf cX0_linkOf 2 (some .int)] ++ wsX00)
def wsX0_skewOf : List Cond := .code yX0_skewOf cX0_skewOf 3 (some .int) :: ([.fieldLink RX0 23 "StandbyPair" "periods" "[I"] ++ wsX00)
def wsX0_waitOf : List Cond := .code yX0_waitOf cX0_waitOf 3 (some .int) :: ([.fieldLink RX0 23 "StandbyPair" "periods" "[I", .methodLink RX0 144 yX0_skewOf, .instanceMethod yX0_skewOf, .selects RX0 yX0_skewOf yX0_skewOf, .initialized RX0, .code yX0_skewOf cX0_skewOf 3 (some .int)] ++ wsX00)
def wsX0_becomeBackup_r1 : List Cond := [Cond.fieldLink RX0 41 "StandbyPair" "roles" "[I", Cond.fieldLink RX0 47 "StandbyPair" "heard" "[I", Cond.fieldLink RX0 44 "StandbyPair" "timers" "[I", Cond.methodLink RX0 70 yX0_placeOf, Cond.static yX0_placeOf, Cond.initialized RX0, Cond.code yX0_placeOf cX0_placeOf 2 (some .int), Cond.methodLink RX0 119 yX0_loweredPriority, Cond.instanceMethod yX0_loweredPriority, Cond.selects RX0 yX0_loweredPriority yX0_loweredPriority, Cond.code yX0_loweredPriority cX0_loweredPriority 6 (some .int), Cond.fieldLink RX0 38 "StandbyPair" "basePriorities" "[I", Cond.fieldLink RX0 16 "StandbyPair" "linkUp" "[Z", Cond.fieldLink RX0 19 "StandbyPair" "decrements" "[I", Cond.methodLink RX0 150 Lib.Math.max.name, Cond.static Lib.Math.max.name, Cond.initialized "java/lang/Math", Cond.code Lib.Math.max.name Lib.Math.max.code 2 (some .int), Cond.methodLink RX0 84 yX0_linkOf, Cond.static yX0_linkOf, Cond.code yX0_linkOf cX0_linkOf 2 (some .int), Cond.methodLink RX0 147 yX0_waitOf, Cond.instanceMethod yX0_waitOf, Cond.selects RX0 yX0_waitOf yX0_waitOf]
def wsX0_becomeBackup_r2 : List Cond := [Cond.code yX0_waitOf cX0_waitOf 3 (some .int), Cond.fieldLink RX0 23 "StandbyPair" "periods" "[I", Cond.methodLink RX0 144 yX0_skewOf, Cond.instanceMethod yX0_skewOf, Cond.selects RX0 yX0_skewOf yX0_skewOf, Cond.code yX0_skewOf cX0_skewOf 3 (some .int)]
def wsX0_becomeBackup : List Cond := .code yX0_becomeBackup cX0_becomeBackup 4 none :: ((wsX0_becomeBackup_r1 ++ wsX0_becomeBackup_r2) ++ wsX00)
def wsX0_copyServed : List Cond := .code yX0_copyServed cX0_copyServed 6 none :: ([.fieldLink RX0 50 "StandbyPair" "served" "[I", .fieldLink RX0 56 "StandbyPair" "repairAsked" "[Z", .fieldLink RX0 127 "StandbyPair" "bulkRepairs" "I", .methodLink RX0 70 yX0_placeOf, .static yX0_placeOf, .initialized RX0, .code yX0_placeOf cX0_placeOf 2 (some .int)] ++ wsX00)
def wsX0_receiveAsMaster_r1 : List Cond := [Cond.methodLink RX0 119 yX0_loweredPriority, Cond.instanceMethod yX0_loweredPriority, Cond.selects RX0 yX0_loweredPriority yX0_loweredPriority, Cond.initialized RX0, Cond.code yX0_loweredPriority cX0_loweredPriority 6 (some .int), Cond.fieldLink RX0 38 "StandbyPair" "basePriorities" "[I", Cond.fieldLink RX0 16 "StandbyPair" "linkUp" "[Z", Cond.fieldLink RX0 19 "StandbyPair" "decrements" "[I", Cond.methodLink RX0 150 Lib.Math.max.name, Cond.static Lib.Math.max.name, Cond.initialized "java/lang/Math", Cond.code Lib.Math.max.name Lib.Math.max.code 2 (some .int), Cond.methodLink RX0 70 yX0_placeOf, Cond.static yX0_placeOf, Cond.code yX0_placeOf cX0_placeOf 2 (some .int), Cond.methodLink RX0 84 yX0_linkOf, Cond.static yX0_linkOf, Cond.code yX0_linkOf cX0_linkOf 2 (some .int), Cond.methodLink RX0 103 yX0_becomeBackup, Cond.instanceMethod yX0_becomeBackup, Cond.selects RX0 yX0_becomeBackup yX0_becomeBackup, Cond.code yX0_becomeBackup cX0_becomeBackup 4 none, Cond.fieldLink RX0 41 "StandbyPair" "roles" "[I", Cond.fieldLink RX0 47 "StandbyPair" "heard" "[I"]
def wsX0_receiveAsMaster_r2 : List Cond := [Cond.fieldLink RX0 44 "StandbyPair" "timers" "[I", Cond.methodLink RX0 147 yX0_waitOf, Cond.instanceMethod yX0_waitOf, Cond.selects RX0 yX0_waitOf yX0_waitOf, Cond.code yX0_waitOf cX0_waitOf 3 (some .int), Cond.fieldLink RX0 23 "StandbyPair" "periods" "[I", Cond.methodLink RX0 144 yX0_skewOf, Cond.instanceMethod yX0_skewOf, Cond.selects RX0 yX0_skewOf yX0_skewOf, Cond.code yX0_skewOf cX0_skewOf 3 (some .int), Cond.methodLink RX0 141 yX0_copyServed, Cond.instanceMethod yX0_copyServed, Cond.selects RX0 yX0_copyServed yX0_copyServed, Cond.code yX0_copyServed cX0_copyServed 6 none, Cond.fieldLink RX0 50 "StandbyPair" "served" "[I", Cond.fieldLink RX0 56 "StandbyPair" "repairAsked" "[Z", Cond.fieldLink RX0 127 "StandbyPair" "bulkRepairs" "I"]
def wsX0_receiveAsMaster : List Cond := .code yX0_receiveAsMaster cX0_receiveAsMaster 6 none :: ((wsX0_receiveAsMaster_r1 ++ wsX0_receiveAsMaster_r2) ++ wsX00)
def wsX0_receiveAsBackup_r1 : List Cond := [Cond.fieldLink RX0 44 "StandbyPair" "timers" "[I", Cond.fieldLink RX0 26 "StandbyPair" "preempting" "[Z", Cond.fieldLink RX0 47 "StandbyPair" "heard" "[I", Cond.fieldLink RX0 29 "StandbyPair" "delays" "[I", Cond.methodLink RX0 70 yX0_placeOf, Cond.static yX0_placeOf, Cond.initialized RX0, Cond.code yX0_placeOf cX0_placeOf 2 (some .int), Cond.methodLink RX0 119 yX0_loweredPriority, Cond.instanceMethod yX0_loweredPriority, Cond.selects RX0 yX0_loweredPriority yX0_loweredPriority, Cond.code yX0_loweredPriority cX0_loweredPriority 6 (some .int), Cond.fieldLink RX0 38 "StandbyPair" "basePriorities" "[I", Cond.fieldLink RX0 16 "StandbyPair" "linkUp" "[Z", Cond.fieldLink RX0 19 "StandbyPair" "decrements" "[I", Cond.methodLink RX0 150 Lib.Math.max.name, Cond.static Lib.Math.max.name, Cond.initialized "java/lang/Math", Cond.code Lib.Math.max.name Lib.Math.max.code 2 (some .int), Cond.methodLink RX0 84 yX0_linkOf, Cond.static yX0_linkOf, Cond.code yX0_linkOf cX0_linkOf 2 (some .int), Cond.methodLink RX0 144 yX0_skewOf, Cond.instanceMethod yX0_skewOf]
def wsX0_receiveAsBackup_r2 : List Cond := [Cond.selects RX0 yX0_skewOf yX0_skewOf, Cond.code yX0_skewOf cX0_skewOf 3 (some .int), Cond.fieldLink RX0 23 "StandbyPair" "periods" "[I", Cond.methodLink RX0 147 yX0_waitOf, Cond.instanceMethod yX0_waitOf, Cond.selects RX0 yX0_waitOf yX0_waitOf, Cond.code yX0_waitOf cX0_waitOf 3 (some .int), Cond.methodLink RX0 141 yX0_copyServed, Cond.instanceMethod yX0_copyServed, Cond.selects RX0 yX0_copyServed yX0_copyServed, Cond.code yX0_copyServed cX0_copyServed 6 none, Cond.fieldLink RX0 50 "StandbyPair" "served" "[I", Cond.fieldLink RX0 56 "StandbyPair" "repairAsked" "[Z", Cond.fieldLink RX0 127 "StandbyPair" "bulkRepairs" "I"]
def wsX0_receiveAsBackup : List Cond := .code yX0_receiveAsBackup cX0_receiveAsBackup 7 none :: ((wsX0_receiveAsBackup_r1 ++ wsX0_receiveAsBackup_r2) ++ wsX00)
def wsX0_advertise_r1 : List Cond := [Cond.fieldLink RX0 35 "StandbyPair" "advertisements" "[I", Cond.fieldLink RX0 13 "StandbyPair" "joinedPairs" "[Z", Cond.fieldLink RX0 41 "StandbyPair" "roles" "[I", Cond.methodLink RX0 70 yX0_placeOf, Cond.static yX0_placeOf, Cond.initialized RX0, Cond.code yX0_placeOf cX0_placeOf 2 (some .int), Cond.methodLink RX0 134 yX0_receiveAsMaster, Cond.instanceMethod yX0_receiveAsMaster, Cond.selects RX0 yX0_receiveAsMaster yX0_receiveAsMaster, Cond.code yX0_receiveAsMaster cX0_receiveAsMaster 6 none, Cond.methodLink RX0 119 yX0_loweredPriority, Cond.instanceMethod yX0_loweredPriority, Cond.selects RX0 yX0_loweredPriority yX0_loweredPriority, Cond.code yX0_loweredPriority cX0_loweredPriority 6 (some .int), Cond.fieldLink RX0 38 "StandbyPair" "basePriorities" "[I", Cond.fieldLink RX0 16 "StandbyPair" "linkUp" "[Z", Cond.fieldLink RX0 19 "StandbyPair" "decrements" "[I", Cond.methodLink RX0 150 Lib.Math.max.name, Cond.static Lib.Math.max.name, Cond.initialized "java/lang/Math", Cond.code Lib.Math.max.name Lib.Math.max.code 2 (some .int), Cond.methodLink RX0 84 yX0_linkOf, Cond.static yX0_linkOf]
def wsX0_advertise_r2 : List Cond := [Cond.code yX0_linkOf cX0_linkOf 2 (some .int), Cond.methodLink RX0 103 yX0_becomeBackup, Cond.instanceMethod yX0_becomeBackup, Cond.selects RX0 yX0_becomeBackup yX0_becomeBackup, Cond.code yX0_becomeBackup cX0_becomeBackup 4 none, Cond.fieldLink RX0 47 "StandbyPair" "heard" "[I", Cond.fieldLink RX0 44 "StandbyPair" "timers" "[I", Cond.methodLink RX0 147 yX0_waitOf, Cond.instanceMethod yX0_waitOf, Cond.selects RX0 yX0_waitOf yX0_waitOf, Cond.code yX0_waitOf cX0_waitOf 3 (some .int), Cond.fieldLink RX0 23 "StandbyPair" "periods" "[I", Cond.methodLink RX0 144 yX0_skewOf, Cond.instanceMethod yX0_skewOf, Cond.selects RX0 yX0_skewOf yX0_skewOf, Cond.code yX0_skewOf cX0_skewOf 3 (some .int), Cond.methodLink RX0 141 yX0_copyServed, Cond.instanceMethod yX0_copyServed, Cond.selects RX0 yX0_copyServed yX0_copyServed, Cond.code yX0_copyServed cX0_copyServed 6 none, Cond.fieldLink RX0 50 "StandbyPair" "served" "[I", Cond.fieldLink RX0 56 "StandbyPair" "repairAsked" "[Z", Cond.fieldLink RX0 127 "StandbyPair" "bulkRepairs" "I", Cond.methodLink RX0 138 yX0_receiveAsBackup]
def wsX0_advertise_r3 : List Cond := [Cond.instanceMethod yX0_receiveAsBackup, Cond.selects RX0 yX0_receiveAsBackup yX0_receiveAsBackup, Cond.code yX0_receiveAsBackup cX0_receiveAsBackup 7 none, Cond.fieldLink RX0 26 "StandbyPair" "preempting" "[Z", Cond.fieldLink RX0 29 "StandbyPair" "delays" "[I"]
def wsX0_advertise : List Cond := .code yX0_advertise cX0_advertise 6 none :: ((wsX0_advertise_r1 ++ (wsX0_advertise_r2 ++ wsX0_advertise_r3)) ++ wsX00)
def wsX0_beginPart_r1 : List Cond := [Cond.fieldLink RX0 56 "StandbyPair" "repairAsked" "[Z", Cond.methodLink RX0 103 yX0_becomeBackup, Cond.instanceMethod yX0_becomeBackup, Cond.selects RX0 yX0_becomeBackup yX0_becomeBackup, Cond.initialized RX0, Cond.code yX0_becomeBackup cX0_becomeBackup 4 none, Cond.fieldLink RX0 41 "StandbyPair" "roles" "[I", Cond.fieldLink RX0 47 "StandbyPair" "heard" "[I", Cond.fieldLink RX0 44 "StandbyPair" "timers" "[I", Cond.methodLink RX0 70 yX0_placeOf, Cond.static yX0_placeOf, Cond.code yX0_placeOf cX0_placeOf 2 (some .int), Cond.methodLink RX0 119 yX0_loweredPriority, Cond.instanceMethod yX0_loweredPriority, Cond.selects RX0 yX0_loweredPriority yX0_loweredPriority, Cond.code yX0_loweredPriority cX0_loweredPriority 6 (some .int), Cond.fieldLink RX0 38 "StandbyPair" "basePriorities" "[I", Cond.fieldLink RX0 16 "StandbyPair" "linkUp" "[Z", Cond.fieldLink RX0 19 "StandbyPair" "decrements" "[I", Cond.methodLink RX0 150 Lib.Math.max.name, Cond.static Lib.Math.max.name, Cond.initialized "java/lang/Math", Cond.code Lib.Math.max.name Lib.Math.max.code 2 (some .int), Cond.methodLink RX0 84 yX0_linkOf]
def wsX0_beginPart_r2 : List Cond := [Cond.static yX0_linkOf, Cond.code yX0_linkOf cX0_linkOf 2 (some .int), Cond.methodLink RX0 147 yX0_waitOf, Cond.instanceMethod yX0_waitOf, Cond.selects RX0 yX0_waitOf yX0_waitOf, Cond.code yX0_waitOf cX0_waitOf 3 (some .int), Cond.fieldLink RX0 23 "StandbyPair" "periods" "[I", Cond.methodLink RX0 144 yX0_skewOf, Cond.instanceMethod yX0_skewOf, Cond.selects RX0 yX0_skewOf yX0_skewOf, Cond.code yX0_skewOf cX0_skewOf 3 (some .int)]
def wsX0_beginPart : List Cond := .code yX0_beginPart cX0_beginPart 3 none :: ((wsX0_beginPart_r1 ++ wsX0_beginPart_r2) ++ wsX00)
def wsX0_setPriority_r1 : List Cond := [Cond.fieldLink RX0 38 "StandbyPair" "basePriorities" "[I", Cond.fieldLink RX0 41 "StandbyPair" "roles" "[I", Cond.fieldLink RX0 9 "StandbyPair" "alive" "[Z", Cond.methodLink RX0 59 yX0_checkRouter, Cond.static yX0_checkRouter, Cond.initialized RX0, Cond.code yX0_checkRouter cX0_checkRouter 1 none, Cond.classLink RX0 87 "java/lang/IllegalArgumentException", Cond.initialized "java/lang/IllegalArgumentException", Cond.methodLink RX0 63 yX0_checkGroup, Cond.static yX0_checkGroup, Cond.code yX0_checkGroup cX0_checkGroup 1 none, Cond.methodLink RX0 66 yX0_checkRange, Cond.static yX0_checkRange, Cond.code yX0_checkRange cX0_checkRange 3 none, Cond.methodLink RX0 70 yX0_placeOf, Cond.static yX0_placeOf, Cond.code yX0_placeOf cX0_placeOf 2 (some .int), Cond.methodLink RX0 74 yX0_advertise, Cond.instanceMethod yX0_advertise, Cond.selects RX0 yX0_advertise yX0_advertise, Cond.code yX0_advertise cX0_advertise 6 none, Cond.fieldLink RX0 35 "StandbyPair" "advertisements" "[I", Cond.fieldLink RX0 13 "StandbyPair" "joinedPairs" "[Z"]
def wsX0_setPriority_r2 : List Cond := [Cond.methodLink RX0 134 yX0_receiveAsMaster, Cond.instanceMethod yX0_receiveAsMaster, Cond.selects RX0 yX0_receiveAsMaster yX0_receiveAsMaster, Cond.code yX0_receiveAsMaster cX0_receiveAsMaster 6 none, Cond.methodLink RX0 119 yX0_loweredPriority, Cond.instanceMethod yX0_loweredPriority, Cond.selects RX0 yX0_loweredPriority yX0_loweredPriority, Cond.code yX0_loweredPriority cX0_loweredPriority 6 (some .int), Cond.fieldLink RX0 16 "StandbyPair" "linkUp" "[Z", Cond.fieldLink RX0 19 "StandbyPair" "decrements" "[I", Cond.methodLink RX0 150 Lib.Math.max.name, Cond.static Lib.Math.max.name, Cond.initialized "java/lang/Math", Cond.code Lib.Math.max.name Lib.Math.max.code 2 (some .int), Cond.methodLink RX0 84 yX0_linkOf, Cond.static yX0_linkOf, Cond.code yX0_linkOf cX0_linkOf 2 (some .int), Cond.methodLink RX0 103 yX0_becomeBackup, Cond.instanceMethod yX0_becomeBackup, Cond.selects RX0 yX0_becomeBackup yX0_becomeBackup, Cond.code yX0_becomeBackup cX0_becomeBackup 4 none, Cond.fieldLink RX0 47 "StandbyPair" "heard" "[I", Cond.fieldLink RX0 44 "StandbyPair" "timers" "[I", Cond.methodLink RX0 147 yX0_waitOf]
def wsX0_setPriority_r3 : List Cond := [Cond.instanceMethod yX0_waitOf, Cond.selects RX0 yX0_waitOf yX0_waitOf, Cond.code yX0_waitOf cX0_waitOf 3 (some .int), Cond.fieldLink RX0 23 "StandbyPair" "periods" "[I", Cond.methodLink RX0 144 yX0_skewOf, Cond.instanceMethod yX0_skewOf, Cond.selects RX0 yX0_skewOf yX0_skewOf, Cond.code yX0_skewOf cX0_skewOf 3 (some .int), Cond.methodLink RX0 141 yX0_copyServed, Cond.instanceMethod yX0_copyServed, Cond.selects RX0 yX0_copyServed yX0_copyServed, Cond.code yX0_copyServed cX0_copyServed 6 none, Cond.fieldLink RX0 50 "StandbyPair" "served" "[I", Cond.fieldLink RX0 56 "StandbyPair" "repairAsked" "[Z", Cond.fieldLink RX0 127 "StandbyPair" "bulkRepairs" "I", Cond.methodLink RX0 138 yX0_receiveAsBackup, Cond.instanceMethod yX0_receiveAsBackup, Cond.selects RX0 yX0_receiveAsBackup yX0_receiveAsBackup, Cond.code yX0_receiveAsBackup cX0_receiveAsBackup 7 none, Cond.fieldLink RX0 26 "StandbyPair" "preempting" "[Z", Cond.fieldLink RX0 29 "StandbyPair" "delays" "[I", Cond.methodLink RX0 77 yX0_beginPart, Cond.instanceMethod yX0_beginPart, Cond.selects RX0 yX0_beginPart yX0_beginPart]
def wsX0_setPriority_r4 : List Cond := [Cond.code yX0_beginPart cX0_beginPart 3 none]
def wsX0_setPriority : List Cond := .code yX0_setPriority cX0_setPriority 6 (some .int) :: ((wsX0_setPriority_r1 ++ (wsX0_setPriority_r2 ++ (wsX0_setPriority_r3 ++ wsX0_setPriority_r4))) ++ wsX00 ++ (vx_atS RX0 91 "java/lang/IllegalArgumentException" ["java/lang/RuntimeException", "java/lang/Exception"]).filter goodWord)
def wsX0_checkLink : List Cond := .code yX0_checkLink cX0_checkLink 1 none :: ([.classLink RX0 87 "java/lang/IllegalArgumentException", .initialized "java/lang/IllegalArgumentException"] ++ (vx_atS RX0 91 "java/lang/IllegalArgumentException" ["java/lang/RuntimeException", "java/lang/Exception"]).filter goodWord)
def wsX0_track : List Cond := .code yX0_track cX0_track 6 (some .int) :: ([.fieldLink RX0 19 "StandbyPair" "decrements" "[I", .methodLink RX0 59 yX0_checkRouter, .static yX0_checkRouter, .initialized RX0, .code yX0_checkRouter cX0_checkRouter 1 none, .classLink RX0 87 "java/lang/IllegalArgumentException", .initialized "java/lang/IllegalArgumentException", .methodLink RX0 81 yX0_checkLink, .static yX0_checkLink, .code yX0_checkLink cX0_checkLink 1 none, .methodLink RX0 66 yX0_checkRange, .static yX0_checkRange, .code yX0_checkRange cX0_checkRange 3 none, .methodLink RX0 84 yX0_linkOf, .static yX0_linkOf, .code yX0_linkOf cX0_linkOf 2 (some .int)] ++ wsX00 ++ (vx_atS RX0 91 "java/lang/IllegalArgumentException" ["java/lang/RuntimeException", "java/lang/Exception"]).filter goodWord)
def wsX0_setLink : List Cond := .code yX0_setLink cX0_setLink 6 (some .boolean) :: ([.fieldLink RX0 16 "StandbyPair" "linkUp" "[Z", .methodLink RX0 59 yX0_checkRouter, .static yX0_checkRouter, .initialized RX0, .code yX0_checkRouter cX0_checkRouter 1 none, .classLink RX0 87 "java/lang/IllegalArgumentException", .initialized "java/lang/IllegalArgumentException", .methodLink RX0 81 yX0_checkLink, .static yX0_checkLink, .code yX0_checkLink cX0_checkLink 1 none, .methodLink RX0 84 yX0_linkOf, .static yX0_linkOf, .code yX0_linkOf cX0_linkOf 2 (some .int)] ++ wsX00 ++ (vx_atS RX0 91 "java/lang/IllegalArgumentException" ["java/lang/RuntimeException", "java/lang/Exception"]).filter goodWord)
def wsX0_setPeriod : List Cond := .code yX0_setPeriod cX0_setPeriod 4 (some .int) :: ([.fieldLink RX0 23 "StandbyPair" "periods" "[I", .methodLink RX0 63 yX0_checkGroup, .static yX0_checkGroup, .initialized RX0, .code yX0_checkGroup cX0_checkGroup 1 none, .classLink RX0 87 "java/lang/IllegalArgumentException", .initialized "java/lang/IllegalArgumentException", .methodLink RX0 66 yX0_checkRange, .static yX0_checkRange, .code yX0_checkRange cX0_checkRange 3 none] ++ wsX00 ++ (vx_atS RX0 91 "java/lang/IllegalArgumentException" ["java/lang/RuntimeException", "java/lang/Exception"]).filter goodWord)
def wsX0_setPreemption : List Cond := .code yX0_setPreemption cX0_setPreemption 4 none :: ([.fieldLink RX0 26 "StandbyPair" "preempting" "[Z", .fieldLink RX0 29 "StandbyPair" "delays" "[I", .methodLink RX0 63 yX0_checkGroup, .static yX0_checkGroup, .initialized RX0, .code yX0_checkGroup cX0_checkGroup 1 none, .classLink RX0 87 "java/lang/IllegalArgumentException", .initialized "java/lang/IllegalArgumentException", .methodLink RX0 66 yX0_checkRange, .static yX0_checkRange, .code yX0_checkRange cX0_checkRange 3 none] ++ wsX00 ++ (vx_atS RX0 91 "java/lang/IllegalArgumentException" ["java/lang/RuntimeException", "java/lang/Exception"]).filter goodWord)
def wsX0_join : List Cond := .code yX0_join cX0_join 5 (some .boolean) :: ([.classLink RX0 87 "java/lang/IllegalArgumentException", .initialized "java/lang/IllegalArgumentException", .fieldLink RX0 13 "StandbyPair" "joinedPairs" "[Z", .methodLink RX0 59 yX0_checkRouter, .static yX0_checkRouter, .initialized RX0, .code yX0_checkRouter cX0_checkRouter 1 none] ++ wsX00 ++ (vx_atS RX0 91 "java/lang/IllegalArgumentException" ["java/lang/RuntimeException", "java/lang/Exception"]).filter goodWord)
def wsX0_die : List Cond := .code yX0_die cX0_die 5 (some .int) :: ([.classLink RX0 94 "java/lang/IllegalStateException", .initialized "java/lang/IllegalStateException", .fieldLink RX0 9 "StandbyPair" "alive" "[Z", .fieldLink RX0 41 "StandbyPair" "roles" "[I", .methodLink RX0 59 yX0_checkRouter, .static yX0_checkRouter, .initialized RX0, .code yX0_checkRouter cX0_checkRouter 1 none, .classLink RX0 87 "java/lang/IllegalArgumentException", .initialized "java/lang/IllegalArgumentException", .methodLink RX0 70 yX0_placeOf, .static yX0_placeOf, .code yX0_placeOf cX0_placeOf 2 (some .int)] ++ wsX00 ++ (vx_atS RX0 98 "java/lang/IllegalStateException" ["java/lang/RuntimeException", "java/lang/Exception"]).filter goodWord ++ (vx_atS RX0 91 "java/lang/IllegalArgumentException" ["java/lang/RuntimeException", "java/lang/Exception"]).filter goodWord)
def wsX0_live_r1 : List Cond := [Cond.classLink RX0 94 "java/lang/IllegalStateException", Cond.initialized "java/lang/IllegalStateException", Cond.fieldLink RX0 9 "StandbyPair" "alive" "[Z", Cond.fieldLink RX0 38 "StandbyPair" "basePriorities" "[I", Cond.methodLink RX0 59 yX0_checkRouter, Cond.static yX0_checkRouter, Cond.initialized RX0, Cond.code yX0_checkRouter cX0_checkRouter 1 none, Cond.classLink RX0 87 "java/lang/IllegalArgumentException", Cond.initialized "java/lang/IllegalArgumentException", Cond.methodLink RX0 70 yX0_placeOf, Cond.static yX0_placeOf, Cond.code yX0_placeOf cX0_placeOf 2 (some .int), Cond.methodLink RX0 77 yX0_beginPart, Cond.instanceMethod yX0_beginPart, Cond.selects RX0 yX0_beginPart yX0_beginPart, Cond.code yX0_beginPart cX0_beginPart 3 none, Cond.fieldLink RX0 56 "StandbyPair" "repairAsked" "[Z", Cond.methodLink RX0 103 yX0_becomeBackup, Cond.instanceMethod yX0_becomeBackup, Cond.selects RX0 yX0_becomeBackup yX0_becomeBackup, Cond.code yX0_becomeBackup cX0_becomeBackup 4 none, Cond.fieldLink RX0 41 "StandbyPair" "roles" "[I", Cond.fieldLink RX0 47 "StandbyPair" "heard" "[I"]
def wsX0_live_r2 : List Cond := [Cond.fieldLink RX0 44 "StandbyPair" "timers" "[I", Cond.methodLink RX0 119 yX0_loweredPriority, Cond.instanceMethod yX0_loweredPriority, Cond.selects RX0 yX0_loweredPriority yX0_loweredPriority, Cond.code yX0_loweredPriority cX0_loweredPriority 6 (some .int), Cond.fieldLink RX0 16 "StandbyPair" "linkUp" "[Z", Cond.fieldLink RX0 19 "StandbyPair" "decrements" "[I", Cond.methodLink RX0 150 Lib.Math.max.name, Cond.static Lib.Math.max.name, Cond.initialized "java/lang/Math", Cond.code Lib.Math.max.name Lib.Math.max.code 2 (some .int), Cond.methodLink RX0 84 yX0_linkOf, Cond.static yX0_linkOf, Cond.code yX0_linkOf cX0_linkOf 2 (some .int), Cond.methodLink RX0 147 yX0_waitOf, Cond.instanceMethod yX0_waitOf, Cond.selects RX0 yX0_waitOf yX0_waitOf, Cond.code yX0_waitOf cX0_waitOf 3 (some .int), Cond.fieldLink RX0 23 "StandbyPair" "periods" "[I", Cond.methodLink RX0 144 yX0_skewOf, Cond.instanceMethod yX0_skewOf, Cond.selects RX0 yX0_skewOf yX0_skewOf, Cond.code yX0_skewOf cX0_skewOf 3 (some .int)]
def wsX0_live : List Cond := .code yX0_live cX0_live 4 (some .int) :: ((wsX0_live_r1 ++ wsX0_live_r2) ++ wsX00 ++ (vx_atS RX0 98 "java/lang/IllegalStateException" ["java/lang/RuntimeException", "java/lang/Exception"]).filter goodWord ++ (vx_atS RX0 91 "java/lang/IllegalArgumentException" ["java/lang/RuntimeException", "java/lang/Exception"]).filter goodWord)
def wsX0_handOver_r1 : List Cond := [Cond.classLink RX0 94 "java/lang/IllegalStateException", Cond.initialized "java/lang/IllegalStateException", Cond.fieldLink RX0 41 "StandbyPair" "roles" "[I", Cond.methodLink RX0 59 yX0_checkRouter, Cond.static yX0_checkRouter, Cond.initialized RX0, Cond.code yX0_checkRouter cX0_checkRouter 1 none, Cond.classLink RX0 87 "java/lang/IllegalArgumentException", Cond.initialized "java/lang/IllegalArgumentException", Cond.methodLink RX0 63 yX0_checkGroup, Cond.static yX0_checkGroup, Cond.code yX0_checkGroup cX0_checkGroup 1 none, Cond.methodLink RX0 70 yX0_placeOf, Cond.static yX0_placeOf, Cond.code yX0_placeOf cX0_placeOf 2 (some .int), Cond.methodLink RX0 103 yX0_becomeBackup, Cond.instanceMethod yX0_becomeBackup, Cond.selects RX0 yX0_becomeBackup yX0_becomeBackup, Cond.code yX0_becomeBackup cX0_becomeBackup 4 none, Cond.fieldLink RX0 47 "StandbyPair" "heard" "[I", Cond.fieldLink RX0 44 "StandbyPair" "timers" "[I", Cond.methodLink RX0 119 yX0_loweredPriority, Cond.instanceMethod yX0_loweredPriority, Cond.selects RX0 yX0_loweredPriority yX0_loweredPriority]
def wsX0_handOver_r2 : List Cond := [Cond.code yX0_loweredPriority cX0_loweredPriority 6 (some .int), Cond.fieldLink RX0 38 "StandbyPair" "basePriorities" "[I", Cond.fieldLink RX0 16 "StandbyPair" "linkUp" "[Z", Cond.fieldLink RX0 19 "StandbyPair" "decrements" "[I", Cond.methodLink RX0 150 Lib.Math.max.name, Cond.static Lib.Math.max.name, Cond.initialized "java/lang/Math", Cond.code Lib.Math.max.name Lib.Math.max.code 2 (some .int), Cond.methodLink RX0 84 yX0_linkOf, Cond.static yX0_linkOf, Cond.code yX0_linkOf cX0_linkOf 2 (some .int), Cond.methodLink RX0 147 yX0_waitOf, Cond.instanceMethod yX0_waitOf, Cond.selects RX0 yX0_waitOf yX0_waitOf, Cond.code yX0_waitOf cX0_waitOf 3 (some .int), Cond.fieldLink RX0 23 "StandbyPair" "periods" "[I", Cond.methodLink RX0 144 yX0_skewOf, Cond.instanceMethod yX0_skewOf, Cond.selects RX0 yX0_skewOf yX0_skewOf, Cond.code yX0_skewOf cX0_skewOf 3 (some .int), Cond.methodLink RX0 74 yX0_advertise, Cond.instanceMethod yX0_advertise, Cond.selects RX0 yX0_advertise yX0_advertise, Cond.code yX0_advertise cX0_advertise 6 none]
def wsX0_handOver_r3 : List Cond := [Cond.fieldLink RX0 35 "StandbyPair" "advertisements" "[I", Cond.fieldLink RX0 13 "StandbyPair" "joinedPairs" "[Z", Cond.methodLink RX0 134 yX0_receiveAsMaster, Cond.instanceMethod yX0_receiveAsMaster, Cond.selects RX0 yX0_receiveAsMaster yX0_receiveAsMaster, Cond.code yX0_receiveAsMaster cX0_receiveAsMaster 6 none, Cond.methodLink RX0 141 yX0_copyServed, Cond.instanceMethod yX0_copyServed, Cond.selects RX0 yX0_copyServed yX0_copyServed, Cond.code yX0_copyServed cX0_copyServed 6 none, Cond.fieldLink RX0 50 "StandbyPair" "served" "[I", Cond.fieldLink RX0 56 "StandbyPair" "repairAsked" "[Z", Cond.fieldLink RX0 127 "StandbyPair" "bulkRepairs" "I", Cond.methodLink RX0 138 yX0_receiveAsBackup, Cond.instanceMethod yX0_receiveAsBackup, Cond.selects RX0 yX0_receiveAsBackup yX0_receiveAsBackup, Cond.code yX0_receiveAsBackup cX0_receiveAsBackup 7 none, Cond.fieldLink RX0 26 "StandbyPair" "preempting" "[Z", Cond.fieldLink RX0 29 "StandbyPair" "delays" "[I"]
def wsX0_handOver : List Cond := .code yX0_handOver cX0_handOver 3 none :: ((wsX0_handOver_r1 ++ (wsX0_handOver_r2 ++ wsX0_handOver_r3)) ++ wsX00 ++ (vx_atS RX0 98 "java/lang/IllegalStateException" ["java/lang/RuntimeException", "java/lang/Exception"]).filter goodWord ++ (vx_atS RX0 91 "java/lang/IllegalArgumentException" ["java/lang/RuntimeException", "java/lang/Exception"]).filter goodWord)
def wsX0_serve : List Cond := .code yX0_serve cX0_serve 6 (some .int) :: ([.fieldLink RX0 41 "StandbyPair" "roles" "[I", .fieldLink RX0 50 "StandbyPair" "served" "[I", .methodLink RX0 63 yX0_checkGroup, .static yX0_checkGroup, .initialized RX0, .code yX0_checkGroup cX0_checkGroup 1 none, .classLink RX0 87 "java/lang/IllegalArgumentException", .initialized "java/lang/IllegalArgumentException", .methodLink RX0 66 yX0_checkRange, .static yX0_checkRange, .code yX0_checkRange cX0_checkRange 3 none, .methodLink RX0 70 yX0_placeOf, .static yX0_placeOf, .code yX0_placeOf cX0_placeOf 2 (some .int)] ++ wsX00 ++ (vx_atS RX0 91 "java/lang/IllegalArgumentException" ["java/lang/RuntimeException", "java/lang/Exception"]).filter goodWord)
def wsX0_runMasters_r1 : List Cond := [Cond.fieldLink RX0 41 "StandbyPair" "roles" "[I", Cond.fieldLink RX0 44 "StandbyPair" "timers" "[I", Cond.fieldLink RX0 23 "StandbyPair" "periods" "[I", Cond.methodLink RX0 70 yX0_placeOf, Cond.static yX0_placeOf, Cond.initialized RX0, Cond.code yX0_placeOf cX0_placeOf 2 (some .int), Cond.methodLink RX0 119 yX0_loweredPriority, Cond.instanceMethod yX0_loweredPriority, Cond.selects RX0 yX0_loweredPriority yX0_loweredPriority, Cond.code yX0_loweredPriority cX0_loweredPriority 6 (some .int), Cond.fieldLink RX0 38 "StandbyPair" "basePriorities" "[I", Cond.fieldLink RX0 16 "StandbyPair" "linkUp" "[Z", Cond.fieldLink RX0 19 "StandbyPair" "decrements" "[I", Cond.methodLink RX0 150 Lib.Math.max.name, Cond.static Lib.Math.max.name, Cond.initialized "java/lang/Math", Cond.code Lib.Math.max.name Lib.Math.max.code 2 (some .int), Cond.methodLink RX0 84 yX0_linkOf, Cond.static yX0_linkOf, Cond.code yX0_linkOf cX0_linkOf 2 (some .int), Cond.methodLink RX0 74 yX0_advertise, Cond.instanceMethod yX0_advertise, Cond.selects RX0 yX0_advertise yX0_advertise]
def wsX0_runMasters_r2 : List Cond := [Cond.code yX0_advertise cX0_advertise 6 none, Cond.fieldLink RX0 35 "StandbyPair" "advertisements" "[I", Cond.fieldLink RX0 13 "StandbyPair" "joinedPairs" "[Z", Cond.methodLink RX0 134 yX0_receiveAsMaster, Cond.instanceMethod yX0_receiveAsMaster, Cond.selects RX0 yX0_receiveAsMaster yX0_receiveAsMaster, Cond.code yX0_receiveAsMaster cX0_receiveAsMaster 6 none, Cond.methodLink RX0 103 yX0_becomeBackup, Cond.instanceMethod yX0_becomeBackup, Cond.selects RX0 yX0_becomeBackup yX0_becomeBackup, Cond.code yX0_becomeBackup cX0_becomeBackup 4 none, Cond.fieldLink RX0 47 "StandbyPair" "heard" "[I", Cond.methodLink RX0 147 yX0_waitOf, Cond.instanceMethod yX0_waitOf, Cond.selects RX0 yX0_waitOf yX0_waitOf, Cond.code yX0_waitOf cX0_waitOf 3 (some .int), Cond.methodLink RX0 144 yX0_skewOf, Cond.instanceMethod yX0_skewOf, Cond.selects RX0 yX0_skewOf yX0_skewOf, Cond.code yX0_skewOf cX0_skewOf 3 (some .int), Cond.methodLink RX0 141 yX0_copyServed, Cond.instanceMethod yX0_copyServed, Cond.selects RX0 yX0_copyServed yX0_copyServed, Cond.code yX0_copyServed cX0_copyServed 6 none]
def wsX0_runMasters_r3 : List Cond := [Cond.fieldLink RX0 50 "StandbyPair" "served" "[I", Cond.fieldLink RX0 56 "StandbyPair" "repairAsked" "[Z", Cond.fieldLink RX0 127 "StandbyPair" "bulkRepairs" "I", Cond.methodLink RX0 138 yX0_receiveAsBackup, Cond.instanceMethod yX0_receiveAsBackup, Cond.selects RX0 yX0_receiveAsBackup yX0_receiveAsBackup, Cond.code yX0_receiveAsBackup cX0_receiveAsBackup 7 none, Cond.fieldLink RX0 26 "StandbyPair" "preempting" "[Z", Cond.fieldLink RX0 29 "StandbyPair" "delays" "[I"]
def wsX0_runMasters : List Cond := .code yX0_runMasters cX0_runMasters 4 none :: ((wsX0_runMasters_r1 ++ (wsX0_runMasters_r2 ++ wsX0_runMasters_r3)) ++ wsX00)
def wsX0_runBackups_r1 : List Cond := [Cond.fieldLink RX0 41 "StandbyPair" "roles" "[I", Cond.fieldLink RX0 44 "StandbyPair" "timers" "[I", Cond.fieldLink RX0 53 "StandbyPair" "promotions" "[I", Cond.fieldLink RX0 23 "StandbyPair" "periods" "[I", Cond.methodLink RX0 70 yX0_placeOf, Cond.static yX0_placeOf, Cond.initialized RX0, Cond.code yX0_placeOf cX0_placeOf 2 (some .int), Cond.methodLink RX0 119 yX0_loweredPriority, Cond.instanceMethod yX0_loweredPriority, Cond.selects RX0 yX0_loweredPriority yX0_loweredPriority, Cond.code yX0_loweredPriority cX0_loweredPriority 6 (some .int), Cond.fieldLink RX0 38 "StandbyPair" "basePriorities" "[I", Cond.fieldLink RX0 16 "StandbyPair" "linkUp" "[Z", Cond.fieldLink RX0 19 "StandbyPair" "decrements" "[I", Cond.methodLink RX0 150 Lib.Math.max.name, Cond.static Lib.Math.max.name, Cond.initialized "java/lang/Math", Cond.code Lib.Math.max.name Lib.Math.max.code 2 (some .int), Cond.methodLink RX0 84 yX0_linkOf, Cond.static yX0_linkOf, Cond.code yX0_linkOf cX0_linkOf 2 (some .int), Cond.methodLink RX0 74 yX0_advertise, Cond.instanceMethod yX0_advertise]
def wsX0_runBackups_r2 : List Cond := [Cond.selects RX0 yX0_advertise yX0_advertise, Cond.code yX0_advertise cX0_advertise 6 none, Cond.fieldLink RX0 35 "StandbyPair" "advertisements" "[I", Cond.fieldLink RX0 13 "StandbyPair" "joinedPairs" "[Z", Cond.methodLink RX0 134 yX0_receiveAsMaster, Cond.instanceMethod yX0_receiveAsMaster, Cond.selects RX0 yX0_receiveAsMaster yX0_receiveAsMaster, Cond.code yX0_receiveAsMaster cX0_receiveAsMaster 6 none, Cond.methodLink RX0 103 yX0_becomeBackup, Cond.instanceMethod yX0_becomeBackup, Cond.selects RX0 yX0_becomeBackup yX0_becomeBackup, Cond.code yX0_becomeBackup cX0_becomeBackup 4 none, Cond.fieldLink RX0 47 "StandbyPair" "heard" "[I", Cond.methodLink RX0 147 yX0_waitOf, Cond.instanceMethod yX0_waitOf, Cond.selects RX0 yX0_waitOf yX0_waitOf, Cond.code yX0_waitOf cX0_waitOf 3 (some .int), Cond.methodLink RX0 144 yX0_skewOf, Cond.instanceMethod yX0_skewOf, Cond.selects RX0 yX0_skewOf yX0_skewOf, Cond.code yX0_skewOf cX0_skewOf 3 (some .int), Cond.methodLink RX0 141 yX0_copyServed, Cond.instanceMethod yX0_copyServed, Cond.selects RX0 yX0_copyServed yX0_copyServed]
def wsX0_runBackups_r3 : List Cond := [Cond.code yX0_copyServed cX0_copyServed 6 none, Cond.fieldLink RX0 50 "StandbyPair" "served" "[I", Cond.fieldLink RX0 56 "StandbyPair" "repairAsked" "[Z", Cond.fieldLink RX0 127 "StandbyPair" "bulkRepairs" "I", Cond.methodLink RX0 138 yX0_receiveAsBackup, Cond.instanceMethod yX0_receiveAsBackup, Cond.selects RX0 yX0_receiveAsBackup yX0_receiveAsBackup, Cond.code yX0_receiveAsBackup cX0_receiveAsBackup 7 none, Cond.fieldLink RX0 26 "StandbyPair" "preempting" "[Z", Cond.fieldLink RX0 29 "StandbyPair" "delays" "[I"]
def wsX0_runBackups : List Cond := .code yX0_runBackups cX0_runBackups 4 none :: ((wsX0_runBackups_r1 ++ (wsX0_runBackups_r2 ++ wsX0_runBackups_r3)) ++ wsX00)
def wsX0_membersWith : List Cond := .code yX0_membersWith cX0_membersWith 5 (some .int) :: ([.fieldLink RX0 41 "StandbyPair" "roles" "[I", .methodLink RX0 70 yX0_placeOf, .static yX0_placeOf, .initialized RX0, .code yX0_placeOf cX0_placeOf 2 (some .int)] ++ wsX00)
def wsX0_noteGap : List Cond := .code yX0_noteGap cX0_noteGap 2 none :: ([.fieldLink RX0 32 "StandbyPair" "gapTicks" "[I", .methodLink RX0 124 yX0_membersWith, .instanceMethod yX0_membersWith, .selects RX0 yX0_membersWith yX0_membersWith, .initialized RX0, .code yX0_membersWith cX0_membersWith 5 (some .int), .fieldLink RX0 41 "StandbyPair" "roles" "[I", .methodLink RX0 70 yX0_placeOf, .static yX0_placeOf, .code yX0_placeOf cX0_placeOf 2 (some .int)] ++ wsX00)
def wsX0_tick_r1 : List Cond := [Cond.fieldLink RX0 115 "StandbyPair" "time" "I", Cond.methodLink RX0 66 yX0_checkRange, Cond.static yX0_checkRange, Cond.initialized RX0, Cond.code yX0_checkRange cX0_checkRange 3 none, Cond.classLink RX0 87 "java/lang/IllegalArgumentException", Cond.initialized "java/lang/IllegalArgumentException", Cond.methodLink RX0 106 yX0_runMasters, Cond.instanceMethod yX0_runMasters, Cond.selects RX0 yX0_runMasters yX0_runMasters, Cond.code yX0_runMasters cX0_runMasters 4 none, Cond.fieldLink RX0 41 "StandbyPair" "roles" "[I", Cond.fieldLink RX0 44 "StandbyPair" "timers" "[I", Cond.fieldLink RX0 23 "StandbyPair" "periods" "[I", Cond.methodLink RX0 70 yX0_placeOf, Cond.static yX0_placeOf, Cond.code yX0_placeOf cX0_placeOf 2 (some .int), Cond.methodLink RX0 119 yX0_loweredPriority, Cond.instanceMethod yX0_loweredPriority, Cond.selects RX0 yX0_loweredPriority yX0_loweredPriority, Cond.code yX0_loweredPriority cX0_loweredPriority 6 (some .int), Cond.fieldLink RX0 38 "StandbyPair" "basePriorities" "[I", Cond.fieldLink RX0 16 "StandbyPair" "linkUp" "[Z", Cond.fieldLink RX0 19 "StandbyPair" "decrements" "[I"]
def wsX0_tick_r2 : List Cond := [Cond.methodLink RX0 150 Lib.Math.max.name, Cond.static Lib.Math.max.name, Cond.initialized "java/lang/Math", Cond.code Lib.Math.max.name Lib.Math.max.code 2 (some .int), Cond.methodLink RX0 84 yX0_linkOf, Cond.static yX0_linkOf, Cond.code yX0_linkOf cX0_linkOf 2 (some .int), Cond.methodLink RX0 74 yX0_advertise, Cond.instanceMethod yX0_advertise, Cond.selects RX0 yX0_advertise yX0_advertise, Cond.code yX0_advertise cX0_advertise 6 none, Cond.fieldLink RX0 35 "StandbyPair" "advertisements" "[I", Cond.fieldLink RX0 13 "StandbyPair" "joinedPairs" "[Z", Cond.methodLink RX0 134 yX0_receiveAsMaster, Cond.instanceMethod yX0_receiveAsMaster, Cond.selects RX0 yX0_receiveAsMaster yX0_receiveAsMaster, Cond.code yX0_receiveAsMaster cX0_receiveAsMaster 6 none, Cond.methodLink RX0 103 yX0_becomeBackup, Cond.instanceMethod yX0_becomeBackup, Cond.selects RX0 yX0_becomeBackup yX0_becomeBackup, Cond.code yX0_becomeBackup cX0_becomeBackup 4 none, Cond.fieldLink RX0 47 "StandbyPair" "heard" "[I", Cond.methodLink RX0 147 yX0_waitOf, Cond.instanceMethod yX0_waitOf]
def wsX0_tick_r3 : List Cond := [Cond.selects RX0 yX0_waitOf yX0_waitOf, Cond.code yX0_waitOf cX0_waitOf 3 (some .int), Cond.methodLink RX0 144 yX0_skewOf, Cond.instanceMethod yX0_skewOf, Cond.selects RX0 yX0_skewOf yX0_skewOf, Cond.code yX0_skewOf cX0_skewOf 3 (some .int), Cond.methodLink RX0 141 yX0_copyServed, Cond.instanceMethod yX0_copyServed, Cond.selects RX0 yX0_copyServed yX0_copyServed, Cond.code yX0_copyServed cX0_copyServed 6 none, Cond.fieldLink RX0 50 "StandbyPair" "served" "[I", Cond.fieldLink RX0 56 "StandbyPair" "repairAsked" "[Z", Cond.fieldLink RX0 127 "StandbyPair" "bulkRepairs" "I", Cond.methodLink RX0 138 yX0_receiveAsBackup, Cond.instanceMethod yX0_receiveAsBackup, Cond.selects RX0 yX0_receiveAsBackup yX0_receiveAsBackup, Cond.code yX0_receiveAsBackup cX0_receiveAsBackup 7 none, Cond.fieldLink RX0 26 "StandbyPair" "preempting" "[Z", Cond.fieldLink RX0 29 "StandbyPair" "delays" "[I", Cond.methodLink RX0 109 yX0_runBackups, Cond.instanceMethod yX0_runBackups, Cond.selects RX0 yX0_runBackups yX0_runBackups, Cond.code yX0_runBackups cX0_runBackups 4 none, Cond.fieldLink RX0 53 "StandbyPair" "promotions" "[I"]
def wsX0_tick_r4 : List Cond := [Cond.methodLink RX0 112 yX0_noteGap, Cond.instanceMethod yX0_noteGap, Cond.selects RX0 yX0_noteGap yX0_noteGap, Cond.code yX0_noteGap cX0_noteGap 2 none, Cond.fieldLink RX0 32 "StandbyPair" "gapTicks" "[I", Cond.methodLink RX0 124 yX0_membersWith, Cond.instanceMethod yX0_membersWith, Cond.selects RX0 yX0_membersWith yX0_membersWith, Cond.code yX0_membersWith cX0_membersWith 5 (some .int)]
def wsX0_tick : List Cond := .code yX0_tick cX0_tick 4 (some .int) :: ((wsX0_tick_r1 ++ (wsX0_tick_r2 ++ (wsX0_tick_r3 ++ wsX0_tick_r4))) ++ wsX00 ++ (vx_atS RX0 91 "java/lang/IllegalArgumentException" ["java/lang/RuntimeException", "java/lang/Exception"]).filter goodWord)
def wsX0_state : List Cond := .code yX0_state cX0_state 3 (some .int) :: ([.fieldLink RX0 41 "StandbyPair" "roles" "[I", .methodLink RX0 59 yX0_checkRouter, .static yX0_checkRouter, .initialized RX0, .code yX0_checkRouter cX0_checkRouter 1 none, .classLink RX0 87 "java/lang/IllegalArgumentException", .initialized "java/lang/IllegalArgumentException", .methodLink RX0 63 yX0_checkGroup, .static yX0_checkGroup, .code yX0_checkGroup cX0_checkGroup 1 none, .methodLink RX0 70 yX0_placeOf, .static yX0_placeOf, .code yX0_placeOf cX0_placeOf 2 (some .int)] ++ wsX00 ++ (vx_atS RX0 91 "java/lang/IllegalArgumentException" ["java/lang/RuntimeException", "java/lang/Exception"]).filter goodWord)
def wsX0_priority_r1 : List Cond := [Cond.fieldLink RX0 41 "StandbyPair" "roles" "[I", Cond.methodLink RX0 59 yX0_checkRouter, Cond.static yX0_checkRouter, Cond.initialized RX0, Cond.code yX0_checkRouter cX0_checkRouter 1 none, Cond.classLink RX0 87 "java/lang/IllegalArgumentException", Cond.initialized "java/lang/IllegalArgumentException", Cond.methodLink RX0 63 yX0_checkGroup, Cond.static yX0_checkGroup, Cond.code yX0_checkGroup cX0_checkGroup 1 none, Cond.methodLink RX0 70 yX0_placeOf, Cond.static yX0_placeOf, Cond.code yX0_placeOf cX0_placeOf 2 (some .int), Cond.methodLink RX0 119 yX0_loweredPriority, Cond.instanceMethod yX0_loweredPriority, Cond.selects RX0 yX0_loweredPriority yX0_loweredPriority, Cond.code yX0_loweredPriority cX0_loweredPriority 6 (some .int), Cond.fieldLink RX0 38 "StandbyPair" "basePriorities" "[I", Cond.fieldLink RX0 16 "StandbyPair" "linkUp" "[Z", Cond.fieldLink RX0 19 "StandbyPair" "decrements" "[I", Cond.methodLink RX0 150 Lib.Math.max.name, Cond.static Lib.Math.max.name, Cond.initialized "java/lang/Math", Cond.code Lib.Math.max.name Lib.Math.max.code 2 (some .int)]
def wsX0_priority_r2 : List Cond := [Cond.methodLink RX0 84 yX0_linkOf, Cond.static yX0_linkOf, Cond.code yX0_linkOf cX0_linkOf 2 (some .int)]
def wsX0_priority : List Cond := .code yX0_priority cX0_priority 3 (some .int) :: ((wsX0_priority_r1 ++ wsX0_priority_r2) ++ wsX00 ++ (vx_atS RX0 91 "java/lang/IllegalArgumentException" ["java/lang/RuntimeException", "java/lang/Exception"]).filter goodWord)
def wsX0_timer : List Cond := .code yX0_timer cX0_timer 3 (some .int) :: ([.classLink RX0 94 "java/lang/IllegalStateException", .initialized "java/lang/IllegalStateException", .fieldLink RX0 41 "StandbyPair" "roles" "[I", .fieldLink RX0 44 "StandbyPair" "timers" "[I", .methodLink RX0 59 yX0_checkRouter, .static yX0_checkRouter, .initialized RX0, .code yX0_checkRouter cX0_checkRouter 1 none, .classLink RX0 87 "java/lang/IllegalArgumentException", .initialized "java/lang/IllegalArgumentException", .methodLink RX0 63 yX0_checkGroup, .static yX0_checkGroup, .code yX0_checkGroup cX0_checkGroup 1 none, .methodLink RX0 70 yX0_placeOf, .static yX0_placeOf, .code yX0_placeOf cX0_placeOf 2 (some .int)] ++ wsX00 ++ (vx_atS RX0 98 "java/lang/IllegalStateException" ["java/lang/RuntimeException", "java/lang/Exception"]).filter goodWord ++ (vx_atS RX0 91 "java/lang/IllegalArgumentException" ["java/lang/RuntimeException", "java/lang/Exception"]).filter goodWord)
def wsX0_masters : List Cond := .code yX0_masters cX0_masters 2 (some .int) :: ([.methodLink RX0 63 yX0_checkGroup, .static yX0_checkGroup, .initialized RX0, .code yX0_checkGroup cX0_checkGroup 1 none, .classLink RX0 87 "java/lang/IllegalArgumentException", .initialized "java/lang/IllegalArgumentException", .methodLink RX0 124 yX0_membersWith, .instanceMethod yX0_membersWith, .selects RX0 yX0_membersWith yX0_membersWith, .code yX0_membersWith cX0_membersWith 5 (some .int), .fieldLink RX0 41 "StandbyPair" "roles" "[I", .methodLink RX0 70 yX0_placeOf, .static yX0_placeOf, .code yX0_placeOf cX0_placeOf 2 (some .int)] ++ wsX00 ++ (vx_atS RX0 91 "java/lang/IllegalArgumentException" ["java/lang/RuntimeException", "java/lang/Exception"]).filter goodWord)
def wsX0_changes : List Cond := .code yX0_changes cX0_changes 3 (some .int) :: ([.fieldLink RX0 53 "StandbyPair" "promotions" "[I", .methodLink RX0 59 yX0_checkRouter, .static yX0_checkRouter, .initialized RX0, .code yX0_checkRouter cX0_checkRouter 1 none, .classLink RX0 87 "java/lang/IllegalArgumentException", .initialized "java/lang/IllegalArgumentException", .methodLink RX0 63 yX0_checkGroup, .static yX0_checkGroup, .code yX0_checkGroup cX0_checkGroup 1 none, .methodLink RX0 70 yX0_placeOf, .static yX0_placeOf, .code yX0_placeOf cX0_placeOf 2 (some .int)] ++ wsX00 ++ (vx_atS RX0 91 "java/lang/IllegalArgumentException" ["java/lang/RuntimeException", "java/lang/Exception"]).filter goodWord)
def wsX0_gaps : List Cond := .code yX0_gaps cX0_gaps 2 (some .int) :: ([.fieldLink RX0 32 "StandbyPair" "gapTicks" "[I", .methodLink RX0 63 yX0_checkGroup, .static yX0_checkGroup, .initialized RX0, .code yX0_checkGroup cX0_checkGroup 1 none, .classLink RX0 87 "java/lang/IllegalArgumentException", .initialized "java/lang/IllegalArgumentException"] ++ wsX00 ++ (vx_atS RX0 91 "java/lang/IllegalArgumentException" ["java/lang/RuntimeException", "java/lang/Exception"]).filter goodWord)
def wsX0_sent : List Cond := .code yX0_sent cX0_sent 2 (some .int) :: ([.fieldLink RX0 35 "StandbyPair" "advertisements" "[I", .methodLink RX0 63 yX0_checkGroup, .static yX0_checkGroup, .initialized RX0, .code yX0_checkGroup cX0_checkGroup 1 none, .classLink RX0 87 "java/lang/IllegalArgumentException", .initialized "java/lang/IllegalArgumentException"] ++ wsX00 ++ (vx_atS RX0 91 "java/lang/IllegalArgumentException" ["java/lang/RuntimeException", "java/lang/Exception"]).filter goodWord)
def wsX0_known : List Cond := .code yX0_known cX0_known 3 (some .int) :: ([.fieldLink RX0 50 "StandbyPair" "served" "[I", .methodLink RX0 59 yX0_checkRouter, .static yX0_checkRouter, .initialized RX0, .code yX0_checkRouter cX0_checkRouter 1 none, .classLink RX0 87 "java/lang/IllegalArgumentException", .initialized "java/lang/IllegalArgumentException", .methodLink RX0 63 yX0_checkGroup, .static yX0_checkGroup, .code yX0_checkGroup cX0_checkGroup 1 none, .methodLink RX0 70 yX0_placeOf, .static yX0_placeOf, .code yX0_placeOf cX0_placeOf 2 (some .int)] ++ wsX00 ++ (vx_atS RX0 91 "java/lang/IllegalArgumentException" ["java/lang/RuntimeException", "java/lang/Exception"]).filter goodWord)
def wsX0_repairs : List Cond := .code yX0_repairs cX0_repairs 1 (some .int) :: ([.fieldLink RX0 127 "StandbyPair" "bulkRepairs" "I"] ++ wsX00)
def wsX0_hasJoinedMasters : List Cond := .code yX0_hasJoinedMasters cX0_hasJoinedMasters 4 (some .boolean) :: ([.fieldLink RX0 41 "StandbyPair" "roles" "[I", .fieldLink RX0 13 "StandbyPair" "joinedPairs" "[Z", .methodLink RX0 70 yX0_placeOf, .static yX0_placeOf, .initialized RX0, .code yX0_placeOf cX0_placeOf 2 (some .int)] ++ wsX00)
def wsX0_isSettled : List Cond := .code yX0_isSettled cX0_isSettled 2 (some .boolean) :: ([.methodLink RX0 63 yX0_checkGroup, .static yX0_checkGroup, .initialized RX0, .code yX0_checkGroup cX0_checkGroup 1 none, .classLink RX0 87 "java/lang/IllegalArgumentException", .initialized "java/lang/IllegalArgumentException", .methodLink RX0 124 yX0_membersWith, .instanceMethod yX0_membersWith, .selects RX0 yX0_membersWith yX0_membersWith, .code yX0_membersWith cX0_membersWith 5 (some .int), .fieldLink RX0 41 "StandbyPair" "roles" "[I", .methodLink RX0 70 yX0_placeOf, .static yX0_placeOf, .code yX0_placeOf cX0_placeOf 2 (some .int), .methodLink RX0 130 yX0_hasJoinedMasters, .instanceMethod yX0_hasJoinedMasters, .selects RX0 yX0_hasJoinedMasters yX0_hasJoinedMasters, .code yX0_hasJoinedMasters cX0_hasJoinedMasters 4 (some .boolean), .fieldLink RX0 13 "StandbyPair" "joinedPairs" "[Z"] ++ wsX00 ++ (vx_atS RX0 91 "java/lang/IllegalArgumentException" ["java/lang/RuntimeException", "java/lang/Exception"]).filter goodWord)
def wsX1_init : List Cond := .code yX1_init cX1_init 1 none :: ([.methodLink RX1 1 objectInit, .instanceMethod objectInit, .code objectInit ⟨#[0xb1]⟩ 1 none, .arrayClass .boolean, .fieldLink RX1 7 "StandbyPairModel" "isDead" "[Z", .arrayClass .int, .fieldLink RX1 13 "StandbyPairModel" "bases" "[I", .fieldLink RX1 17 "StandbyPairModel" "decrements" "[I", .fieldLink RX1 20 "StandbyPairModel" "isDown" "[Z", .fieldLink RX1 23 "StandbyPairModel" "isCut" "[Z", .fieldLink RX1 26 "StandbyPairModel" "periods" "[I", .fieldLink RX1 29 "StandbyPairModel" "isOff" "[Z", .fieldLink RX1 32 "StandbyPairModel" "delays" "[I", .fieldLink RX1 35 "StandbyPairModel" "states" "[I", .fieldLink RX1 38 "StandbyPairModel" "timers" "[I", .fieldLink RX1 41 "StandbyPairModel" "heard" "[I", .fieldLink RX1 44 "StandbyPairModel" "served" "[I", .fieldLink RX1 47 "StandbyPairModel" "isAsked" "[Z", .fieldLink RX1 50 "StandbyPairModel" "changes" "[I", .fieldLink RX1 53 "StandbyPairModel" "gaps" "[I", .fieldLink RX1 56 "StandbyPairModel" "sent" "[I"] ++ wsX10)
def wsX1_thrown : List Cond := .code yX1_thrown cX1_thrown 1 (some .int) :: ([.fieldLink RX1 59 "StandbyPairModel" "thrown" "I"] ++ wsX10)
def wsX1_goesWell : List Cond := .code yX1_goesWell cX1_goesWell 2 (some .boolean) :: ([.fieldLink RX1 59 "StandbyPairModel" "thrown" "I"] ++ wsX10)
def wsX1_in : List Cond := .code yX1_in cX1_in 3 (some .boolean) :: ([])
def wsX1_isRouter : List Cond := .code yX1_isRouter cX1_isRouter 1 (some .boolean) :: ([.methodLink RX1 63 yX1_in, .static yX1_in, .initialized RX1, .code yX1_in cX1_in 3 (some .boolean)])
def wsX1_isGroup : List Cond := .code yX1_isGroup cX1_isGroup 1 (some .boolean) :: ([.methodLink RX1 63 yX1_in, .static yX1_in, .initialized RX1, .code yX1_in cX1_in 3 (some .boolean)])
def wsX1_are : List Cond := .code yX1_are cX1_are 2 (some .boolean) :: ([.methodLink RX1 67 yX1_isRouter, .static yX1_isRouter, .initialized RX1, .code yX1_isRouter cX1_isRouter 1 (some .boolean), .methodLink RX1 63 yX1_in, .static yX1_in, .code yX1_in cX1_in 3 (some .boolean), .methodLink RX1 71 yX1_isGroup, .static yX1_isGroup, .code yX1_isGroup cX1_isGroup 1 (some .boolean)])
def wsX1_priorityAt : List Cond := .code yX1_priorityAt cX1_priorityAt 5 (some .int) :: ([.fieldLink RX1 13 "StandbyPairModel" "bases" "[I", .fieldLink RX1 20 "StandbyPairModel" "isDown" "[Z", .fieldLink RX1 17 "StandbyPairModel" "decrements" "[I"] ++ wsX10)
def wsX1_skew : List Cond := .code yX1_skew cX1_skew 2 (some .int) :: ([.fieldLink RX1 26 "StandbyPairModel" "periods" "[I", .methodLink RX1 74 yX1_priorityAt, .instanceMethod yX1_priorityAt, .selects RX1 yX1_priorityAt yX1_priorityAt, .initialized RX1, .code yX1_priorityAt cX1_priorityAt 5 (some .int), .fieldLink RX1 13 "StandbyPairModel" "bases" "[I", .fieldLink RX1 20 "StandbyPairModel" "isDown" "[Z", .fieldLink RX1 17 "StandbyPairModel" "decrements" "[I"] ++ wsX10)
def wsX1_waitAt : List Cond := .code yX1_waitAt cX1_waitAt 2 (some .int) :: ([.fieldLink RX1 26 "StandbyPairModel" "periods" "[I", .methodLink RX1 78 yX1_skew, .instanceMethod yX1_skew, .selects RX1 yX1_skew yX1_skew, .initialized RX1, .code yX1_skew cX1_skew 2 (some .int), .methodLink RX1 74 yX1_priorityAt, .instanceMethod yX1_priorityAt, .selects RX1 yX1_priorityAt yX1_priorityAt, .code yX1_priorityAt cX1_priorityAt 5 (some .int), .fieldLink RX1 13 "StandbyPairModel" "bases" "[I", .fieldLink RX1 20 "StandbyPairModel" "isDown" "[Z", .fieldLink RX1 17 "StandbyPairModel" "decrements" "[I"] ++ wsX10)
def wsX1_copy : List Cond := .code yX1_copy cX1_copy 4 none :: ([.fieldLink RX1 44 "StandbyPairModel" "served" "[I", .fieldLink RX1 47 "StandbyPairModel" "isAsked" "[Z", .fieldLink RX1 81 "StandbyPairModel" "repairs" "I"] ++ wsX10)
def wsX1_rest : List Cond := .code yX1_rest cX1_rest 3 none :: ([.fieldLink RX1 35 "StandbyPairModel" "states" "[I", .fieldLink RX1 41 "StandbyPairModel" "heard" "[I", .fieldLink RX1 38 "StandbyPairModel" "timers" "[I", .methodLink RX1 84 yX1_waitAt, .instanceMethod yX1_waitAt, .selects RX1 yX1_waitAt yX1_waitAt, .initialized RX1, .code yX1_waitAt cX1_waitAt 2 (some .int), .fieldLink RX1 26 "StandbyPairModel" "periods" "[I", .methodLink RX1 78 yX1_skew, .instanceMethod yX1_skew, .selects RX1 yX1_skew yX1_skew, .code yX1_skew cX1_skew 2 (some .int), .methodLink RX1 74 yX1_priorityAt, .instanceMethod yX1_priorityAt, .selects RX1 yX1_priorityAt yX1_priorityAt, .code yX1_priorityAt cX1_priorityAt 5 (some .int), .fieldLink RX1 13 "StandbyPairModel" "bases" "[I", .fieldLink RX1 20 "StandbyPairModel" "isDown" "[Z", .fieldLink RX1 17 "StandbyPairModel" "decrements" "[I"] ++ wsX10)
def wsX1_receive_r1 : List Cond := [Cond.fieldLink RX1 35 "StandbyPairModel" "states" "[I", Cond.fieldLink RX1 38 "StandbyPairModel" "timers" "[I", Cond.fieldLink RX1 29 "StandbyPairModel" "isOff" "[Z", Cond.fieldLink RX1 41 "StandbyPairModel" "heard" "[I", Cond.fieldLink RX1 32 "StandbyPairModel" "delays" "[I", Cond.methodLink RX1 74 yX1_priorityAt, Cond.instanceMethod yX1_priorityAt, Cond.selects RX1 yX1_priorityAt yX1_priorityAt, Cond.initialized RX1, Cond.code yX1_priorityAt cX1_priorityAt 5 (some .int), Cond.fieldLink RX1 13 "StandbyPairModel" "bases" "[I", Cond.fieldLink RX1 20 "StandbyPairModel" "isDown" "[Z", Cond.fieldLink RX1 17 "StandbyPairModel" "decrements" "[I", Cond.methodLink RX1 87 yX1_rest, Cond.instanceMethod yX1_rest, Cond.selects RX1 yX1_rest yX1_rest, Cond.code yX1_rest cX1_rest 3 none, Cond.methodLink RX1 84 yX1_waitAt, Cond.instanceMethod yX1_waitAt, Cond.selects RX1 yX1_waitAt yX1_waitAt, Cond.code yX1_waitAt cX1_waitAt 2 (some .int), Cond.fieldLink RX1 26 "StandbyPairModel" "periods" "[I", Cond.methodLink RX1 78 yX1_skew, Cond.instanceMethod yX1_skew]
def wsX1_receive_r2 : List Cond := [Cond.selects RX1 yX1_skew yX1_skew, Cond.code yX1_skew cX1_skew 2 (some .int), Cond.methodLink RX1 91 yX1_copy, Cond.instanceMethod yX1_copy, Cond.selects RX1 yX1_copy yX1_copy, Cond.code yX1_copy cX1_copy 4 none, Cond.fieldLink RX1 44 "StandbyPairModel" "served" "[I", Cond.fieldLink RX1 47 "StandbyPairModel" "isAsked" "[Z", Cond.fieldLink RX1 81 "StandbyPairModel" "repairs" "I"]
def wsX1_receive : List Cond := .code yX1_receive cX1_receive 5 none :: ((wsX1_receive_r1 ++ wsX1_receive_r2) ++ wsX10)
def wsX1_advertise_r1 : List Cond := [Cond.fieldLink RX1 56 "StandbyPairModel" "sent" "[I", Cond.fieldLink RX1 35 "StandbyPairModel" "states" "[I", Cond.fieldLink RX1 23 "StandbyPairModel" "isCut" "[Z", Cond.methodLink RX1 94 yX1_receive, Cond.instanceMethod yX1_receive, Cond.selects RX1 yX1_receive yX1_receive, Cond.initialized RX1, Cond.code yX1_receive cX1_receive 5 none, Cond.fieldLink RX1 38 "StandbyPairModel" "timers" "[I", Cond.fieldLink RX1 29 "StandbyPairModel" "isOff" "[Z", Cond.fieldLink RX1 41 "StandbyPairModel" "heard" "[I", Cond.fieldLink RX1 32 "StandbyPairModel" "delays" "[I", Cond.methodLink RX1 74 yX1_priorityAt, Cond.instanceMethod yX1_priorityAt, Cond.selects RX1 yX1_priorityAt yX1_priorityAt, Cond.code yX1_priorityAt cX1_priorityAt 5 (some .int), Cond.fieldLink RX1 13 "StandbyPairModel" "bases" "[I", Cond.fieldLink RX1 20 "StandbyPairModel" "isDown" "[Z", Cond.fieldLink RX1 17 "StandbyPairModel" "decrements" "[I", Cond.methodLink RX1 87 yX1_rest, Cond.instanceMethod yX1_rest, Cond.selects RX1 yX1_rest yX1_rest, Cond.code yX1_rest cX1_rest 3 none, Cond.methodLink RX1 84 yX1_waitAt]
def wsX1_advertise_r2 : List Cond := [Cond.instanceMethod yX1_waitAt, Cond.selects RX1 yX1_waitAt yX1_waitAt, Cond.code yX1_waitAt cX1_waitAt 2 (some .int), Cond.fieldLink RX1 26 "StandbyPairModel" "periods" "[I", Cond.methodLink RX1 78 yX1_skew, Cond.instanceMethod yX1_skew, Cond.selects RX1 yX1_skew yX1_skew, Cond.code yX1_skew cX1_skew 2 (some .int), Cond.methodLink RX1 91 yX1_copy, Cond.instanceMethod yX1_copy, Cond.selects RX1 yX1_copy yX1_copy, Cond.code yX1_copy cX1_copy 4 none, Cond.fieldLink RX1 44 "StandbyPairModel" "served" "[I", Cond.fieldLink RX1 47 "StandbyPairModel" "isAsked" "[Z", Cond.fieldLink RX1 81 "StandbyPairModel" "repairs" "I"]
def wsX1_advertise : List Cond := .code yX1_advertise cX1_advertise 4 none :: ((wsX1_advertise_r1 ++ wsX1_advertise_r2) ++ wsX10)
def wsX1_settle_r1 : List Cond := [Cond.fieldLink RX1 7 "StandbyPairModel" "isDead" "[Z", Cond.fieldLink RX1 13 "StandbyPairModel" "bases" "[I", Cond.fieldLink RX1 35 "StandbyPairModel" "states" "[I", Cond.fieldLink RX1 47 "StandbyPairModel" "isAsked" "[Z", Cond.methodLink RX1 87 yX1_rest, Cond.instanceMethod yX1_rest, Cond.selects RX1 yX1_rest yX1_rest, Cond.initialized RX1, Cond.code yX1_rest cX1_rest 3 none, Cond.fieldLink RX1 41 "StandbyPairModel" "heard" "[I", Cond.fieldLink RX1 38 "StandbyPairModel" "timers" "[I", Cond.methodLink RX1 84 yX1_waitAt, Cond.instanceMethod yX1_waitAt, Cond.selects RX1 yX1_waitAt yX1_waitAt, Cond.code yX1_waitAt cX1_waitAt 2 (some .int), Cond.fieldLink RX1 26 "StandbyPairModel" "periods" "[I", Cond.methodLink RX1 78 yX1_skew, Cond.instanceMethod yX1_skew, Cond.selects RX1 yX1_skew yX1_skew, Cond.code yX1_skew cX1_skew 2 (some .int), Cond.methodLink RX1 74 yX1_priorityAt, Cond.instanceMethod yX1_priorityAt, Cond.selects RX1 yX1_priorityAt yX1_priorityAt, Cond.code yX1_priorityAt cX1_priorityAt 5 (some .int)]
def wsX1_settle_r2 : List Cond := [Cond.fieldLink RX1 20 "StandbyPairModel" "isDown" "[Z", Cond.fieldLink RX1 17 "StandbyPairModel" "decrements" "[I"]
def wsX1_settle : List Cond := .code yX1_settle cX1_settle 3 none :: ((wsX1_settle_r1 ++ wsX1_settle_r2) ++ wsX10)
def wsX1_setPriority_r1 : List Cond := [Cond.fieldLink RX1 13 "StandbyPairModel" "bases" "[I", Cond.fieldLink RX1 35 "StandbyPairModel" "states" "[I", Cond.methodLink RX1 98 yX1_are, Cond.static yX1_are, Cond.initialized RX1, Cond.code yX1_are cX1_are 2 (some .boolean), Cond.methodLink RX1 67 yX1_isRouter, Cond.static yX1_isRouter, Cond.code yX1_isRouter cX1_isRouter 1 (some .boolean), Cond.methodLink RX1 63 yX1_in, Cond.static yX1_in, Cond.code yX1_in cX1_in 3 (some .boolean), Cond.methodLink RX1 71 yX1_isGroup, Cond.static yX1_isGroup, Cond.code yX1_isGroup cX1_isGroup 1 (some .boolean), Cond.methodLink RX1 102 yX1_goesWell, Cond.instanceMethod yX1_goesWell, Cond.selects RX1 yX1_goesWell yX1_goesWell, Cond.code yX1_goesWell cX1_goesWell 2 (some .boolean), Cond.fieldLink RX1 59 "StandbyPairModel" "thrown" "I", Cond.methodLink RX1 105 yX1_advertise, Cond.instanceMethod yX1_advertise, Cond.selects RX1 yX1_advertise yX1_advertise, Cond.code yX1_advertise cX1_advertise 4 none]
def wsX1_setPriority_r2 : List Cond := [Cond.fieldLink RX1 56 "StandbyPairModel" "sent" "[I", Cond.fieldLink RX1 23 "StandbyPairModel" "isCut" "[Z", Cond.methodLink RX1 94 yX1_receive, Cond.instanceMethod yX1_receive, Cond.selects RX1 yX1_receive yX1_receive, Cond.code yX1_receive cX1_receive 5 none, Cond.fieldLink RX1 38 "StandbyPairModel" "timers" "[I", Cond.fieldLink RX1 29 "StandbyPairModel" "isOff" "[Z", Cond.fieldLink RX1 41 "StandbyPairModel" "heard" "[I", Cond.fieldLink RX1 32 "StandbyPairModel" "delays" "[I", Cond.methodLink RX1 74 yX1_priorityAt, Cond.instanceMethod yX1_priorityAt, Cond.selects RX1 yX1_priorityAt yX1_priorityAt, Cond.code yX1_priorityAt cX1_priorityAt 5 (some .int), Cond.fieldLink RX1 20 "StandbyPairModel" "isDown" "[Z", Cond.fieldLink RX1 17 "StandbyPairModel" "decrements" "[I", Cond.methodLink RX1 87 yX1_rest, Cond.instanceMethod yX1_rest, Cond.selects RX1 yX1_rest yX1_rest, Cond.code yX1_rest cX1_rest 3 none, Cond.methodLink RX1 84 yX1_waitAt, Cond.instanceMethod yX1_waitAt, Cond.selects RX1 yX1_waitAt yX1_waitAt, Cond.code yX1_waitAt cX1_waitAt 2 (some .int)]
def wsX1_setPriority_r3 : List Cond := [Cond.fieldLink RX1 26 "StandbyPairModel" "periods" "[I", Cond.methodLink RX1 78 yX1_skew, Cond.instanceMethod yX1_skew, Cond.selects RX1 yX1_skew yX1_skew, Cond.code yX1_skew cX1_skew 2 (some .int), Cond.methodLink RX1 91 yX1_copy, Cond.instanceMethod yX1_copy, Cond.selects RX1 yX1_copy yX1_copy, Cond.code yX1_copy cX1_copy 4 none, Cond.fieldLink RX1 44 "StandbyPairModel" "served" "[I", Cond.fieldLink RX1 47 "StandbyPairModel" "isAsked" "[Z", Cond.fieldLink RX1 81 "StandbyPairModel" "repairs" "I", Cond.methodLink RX1 108 yX1_settle, Cond.instanceMethod yX1_settle, Cond.selects RX1 yX1_settle yX1_settle, Cond.code yX1_settle cX1_settle 3 none, Cond.fieldLink RX1 7 "StandbyPairModel" "isDead" "[Z"]
def wsX1_setPriority : List Cond := .code yX1_setPriority cX1_setPriority 6 (some .int) :: ((wsX1_setPriority_r1 ++ (wsX1_setPriority_r2 ++ wsX1_setPriority_r3)) ++ wsX10)
def wsX1_isLink : List Cond := .code yX1_isLink cX1_isLink 2 (some .boolean) :: ([.methodLink RX1 67 yX1_isRouter, .static yX1_isRouter, .initialized RX1, .code yX1_isRouter cX1_isRouter 1 (some .boolean), .methodLink RX1 63 yX1_in, .static yX1_in, .code yX1_in cX1_in 3 (some .boolean)])
def wsX1_track : List Cond := .code yX1_track cX1_track 5 (some .int) :: ([.fieldLink RX1 17 "StandbyPairModel" "decrements" "[I", .methodLink RX1 112 yX1_isLink, .static yX1_isLink, .initialized RX1, .code yX1_isLink cX1_isLink 2 (some .boolean), .methodLink RX1 67 yX1_isRouter, .static yX1_isRouter, .code yX1_isRouter cX1_isRouter 1 (some .boolean), .methodLink RX1 63 yX1_in, .static yX1_in, .code yX1_in cX1_in 3 (some .boolean), .methodLink RX1 102 yX1_goesWell, .instanceMethod yX1_goesWell, .selects RX1 yX1_goesWell yX1_goesWell, .code yX1_goesWell cX1_goesWell 2 (some .boolean), .fieldLink RX1 59 "StandbyPairModel" "thrown" "I"] ++ wsX10)
def wsX1_setLink : List Cond := .code yX1_setLink cX1_setLink 5 (some .boolean) :: ([.fieldLink RX1 20 "StandbyPairModel" "isDown" "[Z", .methodLink RX1 112 yX1_isLink, .static yX1_isLink, .initialized RX1, .code yX1_isLink cX1_isLink 2 (some .boolean), .methodLink RX1 67 yX1_isRouter, .static yX1_isRouter, .code yX1_isRouter cX1_isRouter 1 (some .boolean), .methodLink RX1 63 yX1_in, .static yX1_in, .code yX1_in cX1_in 3 (some .boolean), .methodLink RX1 102 yX1_goesWell, .instanceMethod yX1_goesWell, .selects RX1 yX1_goesWell yX1_goesWell, .code yX1_goesWell cX1_goesWell 2 (some .boolean), .fieldLink RX1 59 "StandbyPairModel" "thrown" "I"] ++ wsX10)
def wsX1_setPeriod : List Cond := .code yX1_setPeriod cX1_setPeriod 4 (some .int) :: ([.fieldLink RX1 26 "StandbyPairModel" "periods" "[I", .methodLink RX1 71 yX1_isGroup, .static yX1_isGroup, .initialized RX1, .code yX1_isGroup cX1_isGroup 1 (some .boolean), .methodLink RX1 63 yX1_in, .static yX1_in, .code yX1_in cX1_in 3 (some .boolean), .methodLink RX1 102 yX1_goesWell, .instanceMethod yX1_goesWell, .selects RX1 yX1_goesWell yX1_goesWell, .code yX1_goesWell cX1_goesWell 2 (some .boolean), .fieldLink RX1 59 "StandbyPairModel" "thrown" "I"] ++ wsX10)
def wsX1_setPreemption : List Cond := .code yX1_setPreemption cX1_setPreemption 4 none :: ([.fieldLink RX1 29 "StandbyPairModel" "isOff" "[Z", .fieldLink RX1 32 "StandbyPairModel" "delays" "[I", .methodLink RX1 71 yX1_isGroup, .static yX1_isGroup, .initialized RX1, .code yX1_isGroup cX1_isGroup 1 (some .boolean), .methodLink RX1 63 yX1_in, .static yX1_in, .code yX1_in cX1_in 3 (some .boolean), .methodLink RX1 102 yX1_goesWell, .instanceMethod yX1_goesWell, .selects RX1 yX1_goesWell yX1_goesWell, .code yX1_goesWell cX1_goesWell 2 (some .boolean), .fieldLink RX1 59 "StandbyPairModel" "thrown" "I"] ++ wsX10)
def wsX1_join : List Cond := .code yX1_join cX1_join 5 (some .boolean) :: ([.fieldLink RX1 23 "StandbyPairModel" "isCut" "[Z", .methodLink RX1 67 yX1_isRouter, .static yX1_isRouter, .initialized RX1, .code yX1_isRouter cX1_isRouter 1 (some .boolean), .methodLink RX1 63 yX1_in, .static yX1_in, .code yX1_in cX1_in 3 (some .boolean), .methodLink RX1 102 yX1_goesWell, .instanceMethod yX1_goesWell, .selects RX1 yX1_goesWell yX1_goesWell, .code yX1_goesWell cX1_goesWell 2 (some .boolean), .fieldLink RX1 59 "StandbyPairModel" "thrown" "I"] ++ wsX10)
def wsX1_die_r1 : List Cond := [Cond.fieldLink RX1 7 "StandbyPairModel" "isDead" "[Z", Cond.fieldLink RX1 35 "StandbyPairModel" "states" "[I", Cond.methodLink RX1 67 yX1_isRouter, Cond.static yX1_isRouter, Cond.initialized RX1, Cond.code yX1_isRouter cX1_isRouter 1 (some .boolean), Cond.methodLink RX1 63 yX1_in, Cond.static yX1_in, Cond.code yX1_in cX1_in 3 (some .boolean), Cond.methodLink RX1 102 yX1_goesWell, Cond.instanceMethod yX1_goesWell, Cond.selects RX1 yX1_goesWell yX1_goesWell, Cond.code yX1_goesWell cX1_goesWell 2 (some .boolean), Cond.fieldLink RX1 59 "StandbyPairModel" "thrown" "I", Cond.methodLink RX1 108 yX1_settle, Cond.instanceMethod yX1_settle, Cond.selects RX1 yX1_settle yX1_settle, Cond.code yX1_settle cX1_settle 3 none, Cond.fieldLink RX1 13 "StandbyPairModel" "bases" "[I", Cond.fieldLink RX1 47 "StandbyPairModel" "isAsked" "[Z", Cond.methodLink RX1 87 yX1_rest, Cond.instanceMethod yX1_rest, Cond.selects RX1 yX1_rest yX1_rest, Cond.code yX1_rest cX1_rest 3 none]
def wsX1_die_r2 : List Cond := [Cond.fieldLink RX1 41 "StandbyPairModel" "heard" "[I", Cond.fieldLink RX1 38 "StandbyPairModel" "timers" "[I", Cond.methodLink RX1 84 yX1_waitAt, Cond.instanceMethod yX1_waitAt, Cond.selects RX1 yX1_waitAt yX1_waitAt, Cond.code yX1_waitAt cX1_waitAt 2 (some .int), Cond.fieldLink RX1 26 "StandbyPairModel" "periods" "[I", Cond.methodLink RX1 78 yX1_skew, Cond.instanceMethod yX1_skew, Cond.selects RX1 yX1_skew yX1_skew, Cond.code yX1_skew cX1_skew 2 (some .int), Cond.methodLink RX1 74 yX1_priorityAt, Cond.instanceMethod yX1_priorityAt, Cond.selects RX1 yX1_priorityAt yX1_priorityAt, Cond.code yX1_priorityAt cX1_priorityAt 5 (some .int), Cond.fieldLink RX1 20 "StandbyPairModel" "isDown" "[Z", Cond.fieldLink RX1 17 "StandbyPairModel" "decrements" "[I"]
def wsX1_die : List Cond := .code yX1_die cX1_die 4 (some .int) :: ((wsX1_die_r1 ++ wsX1_die_r2) ++ wsX10)
def wsX1_live_r1 : List Cond := [Cond.fieldLink RX1 7 "StandbyPairModel" "isDead" "[Z", Cond.fieldLink RX1 35 "StandbyPairModel" "states" "[I", Cond.methodLink RX1 67 yX1_isRouter, Cond.static yX1_isRouter, Cond.initialized RX1, Cond.code yX1_isRouter cX1_isRouter 1 (some .boolean), Cond.methodLink RX1 63 yX1_in, Cond.static yX1_in, Cond.code yX1_in cX1_in 3 (some .boolean), Cond.methodLink RX1 102 yX1_goesWell, Cond.instanceMethod yX1_goesWell, Cond.selects RX1 yX1_goesWell yX1_goesWell, Cond.code yX1_goesWell cX1_goesWell 2 (some .boolean), Cond.fieldLink RX1 59 "StandbyPairModel" "thrown" "I", Cond.methodLink RX1 108 yX1_settle, Cond.instanceMethod yX1_settle, Cond.selects RX1 yX1_settle yX1_settle, Cond.code yX1_settle cX1_settle 3 none, Cond.fieldLink RX1 13 "StandbyPairModel" "bases" "[I", Cond.fieldLink RX1 47 "StandbyPairModel" "isAsked" "[Z", Cond.methodLink RX1 87 yX1_rest, Cond.instanceMethod yX1_rest, Cond.selects RX1 yX1_rest yX1_rest, Cond.code yX1_rest cX1_rest 3 none]
def wsX1_live_r2 : List Cond := [Cond.fieldLink RX1 41 "StandbyPairModel" "heard" "[I", Cond.fieldLink RX1 38 "StandbyPairModel" "timers" "[I", Cond.methodLink RX1 84 yX1_waitAt, Cond.instanceMethod yX1_waitAt, Cond.selects RX1 yX1_waitAt yX1_waitAt, Cond.code yX1_waitAt cX1_waitAt 2 (some .int), Cond.fieldLink RX1 26 "StandbyPairModel" "periods" "[I", Cond.methodLink RX1 78 yX1_skew, Cond.instanceMethod yX1_skew, Cond.selects RX1 yX1_skew yX1_skew, Cond.code yX1_skew cX1_skew 2 (some .int), Cond.methodLink RX1 74 yX1_priorityAt, Cond.instanceMethod yX1_priorityAt, Cond.selects RX1 yX1_priorityAt yX1_priorityAt, Cond.code yX1_priorityAt cX1_priorityAt 5 (some .int), Cond.fieldLink RX1 20 "StandbyPairModel" "isDown" "[Z", Cond.fieldLink RX1 17 "StandbyPairModel" "decrements" "[I"]
def wsX1_live : List Cond := .code yX1_live cX1_live 4 (some .int) :: ((wsX1_live_r1 ++ wsX1_live_r2) ++ wsX10)
def wsX1_handOver_r1 : List Cond := [Cond.fieldLink RX1 35 "StandbyPairModel" "states" "[I", Cond.methodLink RX1 98 yX1_are, Cond.static yX1_are, Cond.initialized RX1, Cond.code yX1_are cX1_are 2 (some .boolean), Cond.methodLink RX1 67 yX1_isRouter, Cond.static yX1_isRouter, Cond.code yX1_isRouter cX1_isRouter 1 (some .boolean), Cond.methodLink RX1 63 yX1_in, Cond.static yX1_in, Cond.code yX1_in cX1_in 3 (some .boolean), Cond.methodLink RX1 71 yX1_isGroup, Cond.static yX1_isGroup, Cond.code yX1_isGroup cX1_isGroup 1 (some .boolean), Cond.methodLink RX1 102 yX1_goesWell, Cond.instanceMethod yX1_goesWell, Cond.selects RX1 yX1_goesWell yX1_goesWell, Cond.code yX1_goesWell cX1_goesWell 2 (some .boolean), Cond.fieldLink RX1 59 "StandbyPairModel" "thrown" "I", Cond.methodLink RX1 87 yX1_rest, Cond.instanceMethod yX1_rest, Cond.selects RX1 yX1_rest yX1_rest, Cond.code yX1_rest cX1_rest 3 none, Cond.fieldLink RX1 41 "StandbyPairModel" "heard" "[I"]
def wsX1_handOver_r2 : List Cond := [Cond.fieldLink RX1 38 "StandbyPairModel" "timers" "[I", Cond.methodLink RX1 84 yX1_waitAt, Cond.instanceMethod yX1_waitAt, Cond.selects RX1 yX1_waitAt yX1_waitAt, Cond.code yX1_waitAt cX1_waitAt 2 (some .int), Cond.fieldLink RX1 26 "StandbyPairModel" "periods" "[I", Cond.methodLink RX1 78 yX1_skew, Cond.instanceMethod yX1_skew, Cond.selects RX1 yX1_skew yX1_skew, Cond.code yX1_skew cX1_skew 2 (some .int), Cond.methodLink RX1 74 yX1_priorityAt, Cond.instanceMethod yX1_priorityAt, Cond.selects RX1 yX1_priorityAt yX1_priorityAt, Cond.code yX1_priorityAt cX1_priorityAt 5 (some .int), Cond.fieldLink RX1 13 "StandbyPairModel" "bases" "[I", Cond.fieldLink RX1 20 "StandbyPairModel" "isDown" "[Z", Cond.fieldLink RX1 17 "StandbyPairModel" "decrements" "[I", Cond.methodLink RX1 105 yX1_advertise, Cond.instanceMethod yX1_advertise, Cond.selects RX1 yX1_advertise yX1_advertise, Cond.code yX1_advertise cX1_advertise 4 none, Cond.fieldLink RX1 56 "StandbyPairModel" "sent" "[I", Cond.fieldLink RX1 23 "StandbyPairModel" "isCut" "[Z", Cond.methodLink RX1 94 yX1_receive]
def wsX1_handOver_r3 : List Cond := [Cond.instanceMethod yX1_receive, Cond.selects RX1 yX1_receive yX1_receive, Cond.code yX1_receive cX1_receive 5 none, Cond.fieldLink RX1 29 "StandbyPairModel" "isOff" "[Z", Cond.fieldLink RX1 32 "StandbyPairModel" "delays" "[I", Cond.methodLink RX1 91 yX1_copy, Cond.instanceMethod yX1_copy, Cond.selects RX1 yX1_copy yX1_copy, Cond.code yX1_copy cX1_copy 4 none, Cond.fieldLink RX1 44 "StandbyPairModel" "served" "[I", Cond.fieldLink RX1 47 "StandbyPairModel" "isAsked" "[Z", Cond.fieldLink RX1 81 "StandbyPairModel" "repairs" "I"]
def wsX1_handOver : List Cond := .code yX1_handOver cX1_handOver 5 none :: ((wsX1_handOver_r1 ++ (wsX1_handOver_r2 ++ wsX1_handOver_r3)) ++ wsX10)
def wsX1_serve : List Cond := .code yX1_serve cX1_serve 5 (some .int) :: ([.fieldLink RX1 35 "StandbyPairModel" "states" "[I", .fieldLink RX1 44 "StandbyPairModel" "served" "[I", .methodLink RX1 71 yX1_isGroup, .static yX1_isGroup, .initialized RX1, .code yX1_isGroup cX1_isGroup 1 (some .boolean), .methodLink RX1 63 yX1_in, .static yX1_in, .code yX1_in cX1_in 3 (some .boolean), .methodLink RX1 102 yX1_goesWell, .instanceMethod yX1_goesWell, .selects RX1 yX1_goesWell yX1_goesWell, .code yX1_goesWell cX1_goesWell 2 (some .boolean), .fieldLink RX1 59 "StandbyPairModel" "thrown" "I"] ++ wsX10)
def wsX1_turn_r1 : List Cond := [Cond.fieldLink RX1 35 "StandbyPairModel" "states" "[I", Cond.fieldLink RX1 38 "StandbyPairModel" "timers" "[I", Cond.fieldLink RX1 50 "StandbyPairModel" "changes" "[I", Cond.fieldLink RX1 26 "StandbyPairModel" "periods" "[I", Cond.methodLink RX1 74 yX1_priorityAt, Cond.instanceMethod yX1_priorityAt, Cond.selects RX1 yX1_priorityAt yX1_priorityAt, Cond.initialized RX1, Cond.code yX1_priorityAt cX1_priorityAt 5 (some .int), Cond.fieldLink RX1 13 "StandbyPairModel" "bases" "[I", Cond.fieldLink RX1 20 "StandbyPairModel" "isDown" "[Z", Cond.fieldLink RX1 17 "StandbyPairModel" "decrements" "[I", Cond.methodLink RX1 105 yX1_advertise, Cond.instanceMethod yX1_advertise, Cond.selects RX1 yX1_advertise yX1_advertise, Cond.code yX1_advertise cX1_advertise 4 none, Cond.fieldLink RX1 56 "StandbyPairModel" "sent" "[I", Cond.fieldLink RX1 23 "StandbyPairModel" "isCut" "[Z", Cond.methodLink RX1 94 yX1_receive, Cond.instanceMethod yX1_receive, Cond.selects RX1 yX1_receive yX1_receive, Cond.code yX1_receive cX1_receive 5 none, Cond.fieldLink RX1 29 "StandbyPairModel" "isOff" "[Z", Cond.fieldLink RX1 41 "StandbyPairModel" "heard" "[I"]
def wsX1_turn_r2 : List Cond := [Cond.fieldLink RX1 32 "StandbyPairModel" "delays" "[I", Cond.methodLink RX1 87 yX1_rest, Cond.instanceMethod yX1_rest, Cond.selects RX1 yX1_rest yX1_rest, Cond.code yX1_rest cX1_rest 3 none, Cond.methodLink RX1 84 yX1_waitAt, Cond.instanceMethod yX1_waitAt, Cond.selects RX1 yX1_waitAt yX1_waitAt, Cond.code yX1_waitAt cX1_waitAt 2 (some .int), Cond.methodLink RX1 78 yX1_skew, Cond.instanceMethod yX1_skew, Cond.selects RX1 yX1_skew yX1_skew, Cond.code yX1_skew cX1_skew 2 (some .int), Cond.methodLink RX1 91 yX1_copy, Cond.instanceMethod yX1_copy, Cond.selects RX1 yX1_copy yX1_copy, Cond.code yX1_copy cX1_copy 4 none, Cond.fieldLink RX1 44 "StandbyPairModel" "served" "[I", Cond.fieldLink RX1 47 "StandbyPairModel" "isAsked" "[Z", Cond.fieldLink RX1 81 "StandbyPairModel" "repairs" "I"]
def wsX1_turn : List Cond := .code yX1_turn cX1_turn 3 none :: ((wsX1_turn_r1 ++ wsX1_turn_r2) ++ wsX10)
def wsX1_hasMaster : List Cond := .code yX1_hasMaster cX1_hasMaster 4 (some .boolean) :: ([.fieldLink RX1 35 "StandbyPairModel" "states" "[I"] ++ wsX10)
def wsX1_tick_r1 : List Cond := [Cond.fieldLink RX1 53 "StandbyPairModel" "gaps" "[I", Cond.fieldLink RX1 121 "StandbyPairModel" "time" "I", Cond.methodLink RX1 63 yX1_in, Cond.static yX1_in, Cond.initialized RX1, Cond.code yX1_in cX1_in 3 (some .boolean), Cond.methodLink RX1 102 yX1_goesWell, Cond.instanceMethod yX1_goesWell, Cond.selects RX1 yX1_goesWell yX1_goesWell, Cond.code yX1_goesWell cX1_goesWell 2 (some .boolean), Cond.fieldLink RX1 59 "StandbyPairModel" "thrown" "I", Cond.methodLink RX1 115 yX1_turn, Cond.instanceMethod yX1_turn, Cond.selects RX1 yX1_turn yX1_turn, Cond.code yX1_turn cX1_turn 3 none, Cond.fieldLink RX1 35 "StandbyPairModel" "states" "[I", Cond.fieldLink RX1 38 "StandbyPairModel" "timers" "[I", Cond.fieldLink RX1 50 "StandbyPairModel" "changes" "[I", Cond.fieldLink RX1 26 "StandbyPairModel" "periods" "[I", Cond.methodLink RX1 74 yX1_priorityAt, Cond.instanceMethod yX1_priorityAt, Cond.selects RX1 yX1_priorityAt yX1_priorityAt, Cond.code yX1_priorityAt cX1_priorityAt 5 (some .int), Cond.fieldLink RX1 13 "StandbyPairModel" "bases" "[I"]
def wsX1_tick_r2 : List Cond := [Cond.fieldLink RX1 20 "StandbyPairModel" "isDown" "[Z", Cond.fieldLink RX1 17 "StandbyPairModel" "decrements" "[I", Cond.methodLink RX1 105 yX1_advertise, Cond.instanceMethod yX1_advertise, Cond.selects RX1 yX1_advertise yX1_advertise, Cond.code yX1_advertise cX1_advertise 4 none, Cond.fieldLink RX1 56 "StandbyPairModel" "sent" "[I", Cond.fieldLink RX1 23 "StandbyPairModel" "isCut" "[Z", Cond.methodLink RX1 94 yX1_receive, Cond.instanceMethod yX1_receive, Cond.selects RX1 yX1_receive yX1_receive, Cond.code yX1_receive cX1_receive 5 none, Cond.fieldLink RX1 29 "StandbyPairModel" "isOff" "[Z", Cond.fieldLink RX1 41 "StandbyPairModel" "heard" "[I", Cond.fieldLink RX1 32 "StandbyPairModel" "delays" "[I", Cond.methodLink RX1 87 yX1_rest, Cond.instanceMethod yX1_rest, Cond.selects RX1 yX1_rest yX1_rest, Cond.code yX1_rest cX1_rest 3 none, Cond.methodLink RX1 84 yX1_waitAt, Cond.instanceMethod yX1_waitAt, Cond.selects RX1 yX1_waitAt yX1_waitAt, Cond.code yX1_waitAt cX1_waitAt 2 (some .int), Cond.methodLink RX1 78 yX1_skew]
def wsX1_tick_r3 : List Cond := [Cond.instanceMethod yX1_skew, Cond.selects RX1 yX1_skew yX1_skew, Cond.code yX1_skew cX1_skew 2 (some .int), Cond.methodLink RX1 91 yX1_copy, Cond.instanceMethod yX1_copy, Cond.selects RX1 yX1_copy yX1_copy, Cond.code yX1_copy cX1_copy 4 none, Cond.fieldLink RX1 44 "StandbyPairModel" "served" "[I", Cond.fieldLink RX1 47 "StandbyPairModel" "isAsked" "[Z", Cond.fieldLink RX1 81 "StandbyPairModel" "repairs" "I", Cond.methodLink RX1 118 yX1_hasMaster, Cond.instanceMethod yX1_hasMaster, Cond.selects RX1 yX1_hasMaster yX1_hasMaster, Cond.code yX1_hasMaster cX1_hasMaster 4 (some .boolean)]
def wsX1_tick : List Cond := .code yX1_tick cX1_tick 5 (some .int) :: ((wsX1_tick_r1 ++ (wsX1_tick_r2 ++ wsX1_tick_r3)) ++ wsX10)
def wsX1_state : List Cond := .code yX1_state cX1_state 3 (some .int) :: ([.fieldLink RX1 35 "StandbyPairModel" "states" "[I", .methodLink RX1 98 yX1_are, .static yX1_are, .initialized RX1, .code yX1_are cX1_are 2 (some .boolean), .methodLink RX1 67 yX1_isRouter, .static yX1_isRouter, .code yX1_isRouter cX1_isRouter 1 (some .boolean), .methodLink RX1 63 yX1_in, .static yX1_in, .code yX1_in cX1_in 3 (some .boolean), .methodLink RX1 71 yX1_isGroup, .static yX1_isGroup, .code yX1_isGroup cX1_isGroup 1 (some .boolean), .methodLink RX1 102 yX1_goesWell, .instanceMethod yX1_goesWell, .selects RX1 yX1_goesWell yX1_goesWell, .code yX1_goesWell cX1_goesWell 2 (some .boolean), .fieldLink RX1 59 "StandbyPairModel" "thrown" "I"] ++ wsX10)
def wsX1_priority_r1 : List Cond := [Cond.fieldLink RX1 35 "StandbyPairModel" "states" "[I", Cond.methodLink RX1 98 yX1_are, Cond.static yX1_are, Cond.initialized RX1, Cond.code yX1_are cX1_are 2 (some .boolean), Cond.methodLink RX1 67 yX1_isRouter, Cond.static yX1_isRouter, Cond.code yX1_isRouter cX1_isRouter 1 (some .boolean), Cond.methodLink RX1 63 yX1_in, Cond.static yX1_in, Cond.code yX1_in cX1_in 3 (some .boolean), Cond.methodLink RX1 71 yX1_isGroup, Cond.static yX1_isGroup, Cond.code yX1_isGroup cX1_isGroup 1 (some .boolean), Cond.methodLink RX1 102 yX1_goesWell, Cond.instanceMethod yX1_goesWell, Cond.selects RX1 yX1_goesWell yX1_goesWell, Cond.code yX1_goesWell cX1_goesWell 2 (some .boolean), Cond.fieldLink RX1 59 "StandbyPairModel" "thrown" "I", Cond.methodLink RX1 74 yX1_priorityAt, Cond.instanceMethod yX1_priorityAt, Cond.selects RX1 yX1_priorityAt yX1_priorityAt, Cond.code yX1_priorityAt cX1_priorityAt 5 (some .int), Cond.fieldLink RX1 13 "StandbyPairModel" "bases" "[I"]
def wsX1_priority_r2 : List Cond := [Cond.fieldLink RX1 20 "StandbyPairModel" "isDown" "[Z", Cond.fieldLink RX1 17 "StandbyPairModel" "decrements" "[I"]
def wsX1_priority : List Cond := .code yX1_priority cX1_priority 4 (some .int) :: ((wsX1_priority_r1 ++ wsX1_priority_r2) ++ wsX10)
def wsX1_timer : List Cond := .code yX1_timer cX1_timer 5 (some .int) :: ([.fieldLink RX1 35 "StandbyPairModel" "states" "[I", .fieldLink RX1 38 "StandbyPairModel" "timers" "[I", .methodLink RX1 98 yX1_are, .static yX1_are, .initialized RX1, .code yX1_are cX1_are 2 (some .boolean), .methodLink RX1 67 yX1_isRouter, .static yX1_isRouter, .code yX1_isRouter cX1_isRouter 1 (some .boolean), .methodLink RX1 63 yX1_in, .static yX1_in, .code yX1_in cX1_in 3 (some .boolean), .methodLink RX1 71 yX1_isGroup, .static yX1_isGroup, .code yX1_isGroup cX1_isGroup 1 (some .boolean), .methodLink RX1 102 yX1_goesWell, .instanceMethod yX1_goesWell, .selects RX1 yX1_goesWell yX1_goesWell, .code yX1_goesWell cX1_goesWell 2 (some .boolean), .fieldLink RX1 59 "StandbyPairModel" "thrown" "I"] ++ wsX10)
def wsX1_masters : List Cond := .code yX1_masters cX1_masters 4 (some .int) :: ([.fieldLink RX1 35 "StandbyPairModel" "states" "[I", .methodLink RX1 71 yX1_isGroup, .static yX1_isGroup, .initialized RX1, .code yX1_isGroup cX1_isGroup 1 (some .boolean), .methodLink RX1 63 yX1_in, .static yX1_in, .code yX1_in cX1_in 3 (some .boolean), .methodLink RX1 102 yX1_goesWell, .instanceMethod yX1_goesWell, .selects RX1 yX1_goesWell yX1_goesWell, .code yX1_goesWell cX1_goesWell 2 (some .boolean), .fieldLink RX1 59 "StandbyPairModel" "thrown" "I"] ++ wsX10)
def wsX1_changes : List Cond := .code yX1_changes cX1_changes 3 (some .int) :: ([.fieldLink RX1 50 "StandbyPairModel" "changes" "[I", .methodLink RX1 98 yX1_are, .static yX1_are, .initialized RX1, .code yX1_are cX1_are 2 (some .boolean), .methodLink RX1 67 yX1_isRouter, .static yX1_isRouter, .code yX1_isRouter cX1_isRouter 1 (some .boolean), .methodLink RX1 63 yX1_in, .static yX1_in, .code yX1_in cX1_in 3 (some .boolean), .methodLink RX1 71 yX1_isGroup, .static yX1_isGroup, .code yX1_isGroup cX1_isGroup 1 (some .boolean), .methodLink RX1 102 yX1_goesWell, .instanceMethod yX1_goesWell, .selects RX1 yX1_goesWell yX1_goesWell, .code yX1_goesWell cX1_goesWell 2 (some .boolean), .fieldLink RX1 59 "StandbyPairModel" "thrown" "I"] ++ wsX10)
def wsX1_gaps : List Cond := .code yX1_gaps cX1_gaps 2 (some .int) :: ([.fieldLink RX1 53 "StandbyPairModel" "gaps" "[I", .methodLink RX1 71 yX1_isGroup, .static yX1_isGroup, .initialized RX1, .code yX1_isGroup cX1_isGroup 1 (some .boolean), .methodLink RX1 63 yX1_in, .static yX1_in, .code yX1_in cX1_in 3 (some .boolean), .methodLink RX1 102 yX1_goesWell, .instanceMethod yX1_goesWell, .selects RX1 yX1_goesWell yX1_goesWell, .code yX1_goesWell cX1_goesWell 2 (some .boolean), .fieldLink RX1 59 "StandbyPairModel" "thrown" "I"] ++ wsX10)
def wsX1_sent : List Cond := .code yX1_sent cX1_sent 2 (some .int) :: ([.fieldLink RX1 56 "StandbyPairModel" "sent" "[I", .methodLink RX1 71 yX1_isGroup, .static yX1_isGroup, .initialized RX1, .code yX1_isGroup cX1_isGroup 1 (some .boolean), .methodLink RX1 63 yX1_in, .static yX1_in, .code yX1_in cX1_in 3 (some .boolean), .methodLink RX1 102 yX1_goesWell, .instanceMethod yX1_goesWell, .selects RX1 yX1_goesWell yX1_goesWell, .code yX1_goesWell cX1_goesWell 2 (some .boolean), .fieldLink RX1 59 "StandbyPairModel" "thrown" "I"] ++ wsX10)
def wsX1_known : List Cond := .code yX1_known cX1_known 3 (some .int) :: ([.fieldLink RX1 44 "StandbyPairModel" "served" "[I", .methodLink RX1 98 yX1_are, .static yX1_are, .initialized RX1, .code yX1_are cX1_are 2 (some .boolean), .methodLink RX1 67 yX1_isRouter, .static yX1_isRouter, .code yX1_isRouter cX1_isRouter 1 (some .boolean), .methodLink RX1 63 yX1_in, .static yX1_in, .code yX1_in cX1_in 3 (some .boolean), .methodLink RX1 71 yX1_isGroup, .static yX1_isGroup, .code yX1_isGroup cX1_isGroup 1 (some .boolean), .methodLink RX1 102 yX1_goesWell, .instanceMethod yX1_goesWell, .selects RX1 yX1_goesWell yX1_goesWell, .code yX1_goesWell cX1_goesWell 2 (some .boolean), .fieldLink RX1 59 "StandbyPairModel" "thrown" "I"] ++ wsX10)
def wsX1_repairs : List Cond := .code yX1_repairs cX1_repairs 1 (some .int) :: ([.fieldLink RX1 59 "StandbyPairModel" "thrown" "I", .fieldLink RX1 81 "StandbyPairModel" "repairs" "I"] ++ wsX10)
def wsX1_isSettled : List Cond := .code yX1_isSettled cX1_isSettled 7 (some .boolean) :: ([.fieldLink RX1 35 "StandbyPairModel" "states" "[I", .fieldLink RX1 23 "StandbyPairModel" "isCut" "[Z", .methodLink RX1 71 yX1_isGroup, .static yX1_isGroup, .initialized RX1, .code yX1_isGroup cX1_isGroup 1 (some .boolean), .methodLink RX1 63 yX1_in, .static yX1_in, .code yX1_in cX1_in 3 (some .boolean), .methodLink RX1 102 yX1_goesWell, .instanceMethod yX1_goesWell, .selects RX1 yX1_goesWell yX1_goesWell, .code yX1_goesWell cX1_goesWell 2 (some .boolean), .fieldLink RX1 59 "StandbyPairModel" "thrown" "I", .methodLink RX1 118 yX1_hasMaster, .instanceMethod yX1_hasMaster, .selects RX1 yX1_hasMaster yX1_hasMaster, .code yX1_hasMaster cX1_hasMaster 4 (some .boolean)] ++ wsX10)
def wsJ9_max_7cf53 : List Cond := .code yJ9_max_7cf53 cJ9_max_7cf53 2 (some .int) :: ([])
def wsL_setPriority_r1 : List Cond := [Cond.classLink RL 13 "java/lang/IllegalArgumentException", Cond.methodLink RL 7 yX0_setPriority, Cond.instanceMethod yX0_setPriority, Cond.selects RX0 yX0_setPriority yX0_setPriority, Cond.initialized RX0, Cond.code yX0_setPriority cX0_setPriority 6 (some .int), Cond.fieldLink RX0 38 "StandbyPair" "basePriorities" "[I", Cond.fieldLink RX0 41 "StandbyPair" "roles" "[I", Cond.fieldLink RX0 9 "StandbyPair" "alive" "[Z", Cond.methodLink RX0 59 yX0_checkRouter, Cond.static yX0_checkRouter, Cond.code yX0_checkRouter cX0_checkRouter 1 none, Cond.classLink RX0 87 "java/lang/IllegalArgumentException", Cond.initialized "java/lang/IllegalArgumentException", Cond.methodLink RX0 63 yX0_checkGroup, Cond.static yX0_checkGroup, Cond.code yX0_checkGroup cX0_checkGroup 1 none, Cond.methodLink RX0 66 yX0_checkRange, Cond.static yX0_checkRange, Cond.code yX0_checkRange cX0_checkRange 3 none, Cond.methodLink RX0 70 yX0_placeOf, Cond.static yX0_placeOf, Cond.code yX0_placeOf cX0_placeOf 2 (some .int), Cond.methodLink RX0 74 yX0_advertise]
def wsL_setPriority_r2 : List Cond := [Cond.instanceMethod yX0_advertise, Cond.selects RX0 yX0_advertise yX0_advertise, Cond.code yX0_advertise cX0_advertise 6 none, Cond.fieldLink RX0 35 "StandbyPair" "advertisements" "[I", Cond.fieldLink RX0 13 "StandbyPair" "joinedPairs" "[Z", Cond.methodLink RX0 134 yX0_receiveAsMaster, Cond.instanceMethod yX0_receiveAsMaster, Cond.selects RX0 yX0_receiveAsMaster yX0_receiveAsMaster, Cond.code yX0_receiveAsMaster cX0_receiveAsMaster 6 none, Cond.methodLink RX0 119 yX0_loweredPriority, Cond.instanceMethod yX0_loweredPriority, Cond.selects RX0 yX0_loweredPriority yX0_loweredPriority, Cond.code yX0_loweredPriority cX0_loweredPriority 6 (some .int), Cond.fieldLink RX0 16 "StandbyPair" "linkUp" "[Z", Cond.fieldLink RX0 19 "StandbyPair" "decrements" "[I", Cond.methodLink RX0 150 Lib.Math.max.name, Cond.static Lib.Math.max.name, Cond.initialized "java/lang/Math", Cond.code Lib.Math.max.name Lib.Math.max.code 2 (some .int), Cond.methodLink RX0 84 yX0_linkOf, Cond.static yX0_linkOf, Cond.code yX0_linkOf cX0_linkOf 2 (some .int), Cond.methodLink RX0 103 yX0_becomeBackup, Cond.instanceMethod yX0_becomeBackup]
def wsL_setPriority_r3 : List Cond := [Cond.selects RX0 yX0_becomeBackup yX0_becomeBackup, Cond.code yX0_becomeBackup cX0_becomeBackup 4 none, Cond.fieldLink RX0 47 "StandbyPair" "heard" "[I", Cond.fieldLink RX0 44 "StandbyPair" "timers" "[I", Cond.methodLink RX0 147 yX0_waitOf, Cond.instanceMethod yX0_waitOf, Cond.selects RX0 yX0_waitOf yX0_waitOf, Cond.code yX0_waitOf cX0_waitOf 3 (some .int), Cond.fieldLink RX0 23 "StandbyPair" "periods" "[I", Cond.methodLink RX0 144 yX0_skewOf, Cond.instanceMethod yX0_skewOf, Cond.selects RX0 yX0_skewOf yX0_skewOf, Cond.code yX0_skewOf cX0_skewOf 3 (some .int), Cond.methodLink RX0 141 yX0_copyServed, Cond.instanceMethod yX0_copyServed, Cond.selects RX0 yX0_copyServed yX0_copyServed, Cond.code yX0_copyServed cX0_copyServed 6 none, Cond.fieldLink RX0 50 "StandbyPair" "served" "[I", Cond.fieldLink RX0 56 "StandbyPair" "repairAsked" "[Z", Cond.fieldLink RX0 127 "StandbyPair" "bulkRepairs" "I", Cond.methodLink RX0 138 yX0_receiveAsBackup, Cond.instanceMethod yX0_receiveAsBackup, Cond.selects RX0 yX0_receiveAsBackup yX0_receiveAsBackup, Cond.code yX0_receiveAsBackup cX0_receiveAsBackup 7 none]
def wsL_setPriority_r4 : List Cond := [Cond.fieldLink RX0 26 "StandbyPair" "preempting" "[Z", Cond.fieldLink RX0 29 "StandbyPair" "delays" "[I", Cond.methodLink RX0 77 yX0_beginPart, Cond.instanceMethod yX0_beginPart, Cond.selects RX0 yX0_beginPart yX0_beginPart, Cond.code yX0_beginPart cX0_beginPart 3 none]
def wsL_setPriority : List Cond := .codeWith yL_setPriority cL_setPriority 6 (some .int) [(0, 12, 15, 13)] :: ((wsL_setPriority_r1 ++ (wsL_setPriority_r2 ++ (wsL_setPriority_r3 ++ wsL_setPriority_r4))) ++ wsX00 ++ (vx_atS RX0 91 "java/lang/IllegalArgumentException" ["java/lang/RuntimeException", "java/lang/Exception"]).filter goodWord)
def wsL_track : List Cond := .codeWith yL_track cL_track 6 (some .int) [(0, 12, 15, 13)] :: ([.classLink RL 13 "java/lang/IllegalArgumentException", .methodLink RL 15 yX0_track, .instanceMethod yX0_track, .selects RX0 yX0_track yX0_track, .initialized RX0, .code yX0_track cX0_track 6 (some .int), .fieldLink RX0 19 "StandbyPair" "decrements" "[I", .methodLink RX0 59 yX0_checkRouter, .static yX0_checkRouter, .code yX0_checkRouter cX0_checkRouter 1 none, .classLink RX0 87 "java/lang/IllegalArgumentException", .initialized "java/lang/IllegalArgumentException", .methodLink RX0 81 yX0_checkLink, .static yX0_checkLink, .code yX0_checkLink cX0_checkLink 1 none, .methodLink RX0 66 yX0_checkRange, .static yX0_checkRange, .code yX0_checkRange cX0_checkRange 3 none, .methodLink RX0 84 yX0_linkOf, .static yX0_linkOf, .code yX0_linkOf cX0_linkOf 2 (some .int)] ++ wsX00 ++ (vx_atS RX0 91 "java/lang/IllegalArgumentException" ["java/lang/RuntimeException", "java/lang/Exception"]).filter goodWord)
def wsL_setLink : List Cond := .codeWith yL_setLink cL_setLink 6 (some .int) [(0, 19, 22, 13)] :: ([.classLink RL 13 "java/lang/IllegalArgumentException", .methodLink RL 18 yX0_setLink, .instanceMethod yX0_setLink, .selects RX0 yX0_setLink yX0_setLink, .initialized RX0, .code yX0_setLink cX0_setLink 6 (some .boolean), .fieldLink RX0 16 "StandbyPair" "linkUp" "[Z", .methodLink RX0 59 yX0_checkRouter, .static yX0_checkRouter, .code yX0_checkRouter cX0_checkRouter 1 none, .classLink RX0 87 "java/lang/IllegalArgumentException", .initialized "java/lang/IllegalArgumentException", .methodLink RX0 81 yX0_checkLink, .static yX0_checkLink, .code yX0_checkLink cX0_checkLink 1 none, .methodLink RX0 84 yX0_linkOf, .static yX0_linkOf, .code yX0_linkOf cX0_linkOf 2 (some .int)] ++ wsX00 ++ (vx_atS RX0 91 "java/lang/IllegalArgumentException" ["java/lang/RuntimeException", "java/lang/Exception"]).filter goodWord)
def wsL_setPeriod : List Cond := .codeWith yL_setPeriod cL_setPeriod 5 (some .int) [(0, 10, 13, 13)] :: ([.classLink RL 13 "java/lang/IllegalArgumentException", .methodLink RL 22 yX0_setPeriod, .instanceMethod yX0_setPeriod, .selects RX0 yX0_setPeriod yX0_setPeriod, .initialized RX0, .code yX0_setPeriod cX0_setPeriod 4 (some .int), .fieldLink RX0 23 "StandbyPair" "periods" "[I", .methodLink RX0 63 yX0_checkGroup, .static yX0_checkGroup, .code yX0_checkGroup cX0_checkGroup 1 none, .classLink RX0 87 "java/lang/IllegalArgumentException", .initialized "java/lang/IllegalArgumentException", .methodLink RX0 66 yX0_checkRange, .static yX0_checkRange, .code yX0_checkRange cX0_checkRange 3 none] ++ wsX00 ++ (vx_atS RX0 91 "java/lang/IllegalArgumentException" ["java/lang/RuntimeException", "java/lang/Exception"]).filter goodWord)
def wsL_setPreemption : List Cond := .codeWith yL_setPreemption cL_setPreemption 5 (some .int) [(0, 7, 10, 13)] :: ([.classLink RL 13 "java/lang/IllegalArgumentException", .methodLink RL 26 yX0_setPreemption, .instanceMethod yX0_setPreemption, .selects RX0 yX0_setPreemption yX0_setPreemption, .initialized RX0, .code yX0_setPreemption cX0_setPreemption 4 none, .fieldLink RX0 26 "StandbyPair" "preempting" "[Z", .fieldLink RX0 29 "StandbyPair" "delays" "[I", .methodLink RX0 63 yX0_checkGroup, .static yX0_checkGroup, .code yX0_checkGroup cX0_checkGroup 1 none, .classLink RX0 87 "java/lang/IllegalArgumentException", .initialized "java/lang/IllegalArgumentException", .methodLink RX0 66 yX0_checkRange, .static yX0_checkRange, .code yX0_checkRange cX0_checkRange 3 none] ++ wsX00 ++ (vx_atS RX0 91 "java/lang/IllegalArgumentException" ["java/lang/RuntimeException", "java/lang/Exception"]).filter goodWord)
def wsL_join : List Cond := .codeWith yL_join cL_join 6 (some .int) [(0, 19, 22, 13)] :: ([.classLink RL 13 "java/lang/IllegalArgumentException", .methodLink RL 30 yX0_join, .instanceMethod yX0_join, .selects RX0 yX0_join yX0_join, .initialized RX0, .code yX0_join cX0_join 5 (some .boolean), .classLink RX0 87 "java/lang/IllegalArgumentException", .initialized "java/lang/IllegalArgumentException", .fieldLink RX0 13 "StandbyPair" "joinedPairs" "[Z", .methodLink RX0 59 yX0_checkRouter, .static yX0_checkRouter, .code yX0_checkRouter cX0_checkRouter 1 none] ++ wsX00 ++ (vx_atS RX0 91 "java/lang/IllegalArgumentException" ["java/lang/RuntimeException", "java/lang/Exception"]).filter goodWord)
def wsL_die : List Cond := .codeWith yL_die cL_die 4 (some .int) [(0, 9, 12, 13), (0, 9, 15, 37)] :: ([.classLink RL 13 "java/lang/IllegalArgumentException", .classLink RL 37 "java/lang/IllegalStateException", .methodLink RL 33 yX0_die, .instanceMethod yX0_die, .selects RX0 yX0_die yX0_die, .initialized RX0, .code yX0_die cX0_die 5 (some .int), .classLink RX0 94 "java/lang/IllegalStateException", .initialized "java/lang/IllegalStateException", .fieldLink RX0 9 "StandbyPair" "alive" "[Z", .fieldLink RX0 41 "StandbyPair" "roles" "[I", .methodLink RX0 59 yX0_checkRouter, .static yX0_checkRouter, .code yX0_checkRouter cX0_checkRouter 1 none, .classLink RX0 87 "java/lang/IllegalArgumentException", .initialized "java/lang/IllegalArgumentException", .methodLink RX0 70 yX0_placeOf, .static yX0_placeOf, .code yX0_placeOf cX0_placeOf 2 (some .int)] ++ wsX00 ++ (vx_atS RX0 98 "java/lang/IllegalStateException" ["java/lang/RuntimeException", "java/lang/Exception"]).filter goodWord ++ (vx_atS RX0 91 "java/lang/IllegalArgumentException" ["java/lang/RuntimeException", "java/lang/Exception"]).filter goodWord)
def wsL_live_r1 : List Cond := [Cond.classLink RL 13 "java/lang/IllegalArgumentException", Cond.classLink RL 37 "java/lang/IllegalStateException", Cond.methodLink RL 39 yX0_live, Cond.instanceMethod yX0_live, Cond.selects RX0 yX0_live yX0_live, Cond.initialized RX0, Cond.code yX0_live cX0_live 4 (some .int), Cond.classLink RX0 94 "java/lang/IllegalStateException", Cond.initialized "java/lang/IllegalStateException", Cond.fieldLink RX0 9 "StandbyPair" "alive" "[Z", Cond.fieldLink RX0 38 "StandbyPair" "basePriorities" "[I", Cond.methodLink RX0 59 yX0_checkRouter, Cond.static yX0_checkRouter, Cond.code yX0_checkRouter cX0_checkRouter 1 none, Cond.classLink RX0 87 "java/lang/IllegalArgumentException", Cond.initialized "java/lang/IllegalArgumentException", Cond.methodLink RX0 70 yX0_placeOf, Cond.static yX0_placeOf, Cond.code yX0_placeOf cX0_placeOf 2 (some .int), Cond.methodLink RX0 77 yX0_beginPart, Cond.instanceMethod yX0_beginPart, Cond.selects RX0 yX0_beginPart yX0_beginPart, Cond.code yX0_beginPart cX0_beginPart 3 none, Cond.fieldLink RX0 56 "StandbyPair" "repairAsked" "[Z"]
def wsL_live_r2 : List Cond := [Cond.methodLink RX0 103 yX0_becomeBackup, Cond.instanceMethod yX0_becomeBackup, Cond.selects RX0 yX0_becomeBackup yX0_becomeBackup, Cond.code yX0_becomeBackup cX0_becomeBackup 4 none, Cond.fieldLink RX0 41 "StandbyPair" "roles" "[I", Cond.fieldLink RX0 47 "StandbyPair" "heard" "[I", Cond.fieldLink RX0 44 "StandbyPair" "timers" "[I", Cond.methodLink RX0 119 yX0_loweredPriority, Cond.instanceMethod yX0_loweredPriority, Cond.selects RX0 yX0_loweredPriority yX0_loweredPriority, Cond.code yX0_loweredPriority cX0_loweredPriority 6 (some .int), Cond.fieldLink RX0 16 "StandbyPair" "linkUp" "[Z", Cond.fieldLink RX0 19 "StandbyPair" "decrements" "[I", Cond.methodLink RX0 150 Lib.Math.max.name, Cond.static Lib.Math.max.name, Cond.initialized "java/lang/Math", Cond.code Lib.Math.max.name Lib.Math.max.code 2 (some .int), Cond.methodLink RX0 84 yX0_linkOf, Cond.static yX0_linkOf, Cond.code yX0_linkOf cX0_linkOf 2 (some .int), Cond.methodLink RX0 147 yX0_waitOf, Cond.instanceMethod yX0_waitOf, Cond.selects RX0 yX0_waitOf yX0_waitOf, Cond.code yX0_waitOf cX0_waitOf 3 (some .int)]
def wsL_live_r3 : List Cond := [Cond.fieldLink RX0 23 "StandbyPair" "periods" "[I", Cond.methodLink RX0 144 yX0_skewOf, Cond.instanceMethod yX0_skewOf, Cond.selects RX0 yX0_skewOf yX0_skewOf, Cond.code yX0_skewOf cX0_skewOf 3 (some .int)]
def wsL_live : List Cond := .codeWith yL_live cL_live 4 (some .int) [(0, 9, 12, 13), (0, 9, 15, 37)] :: ((wsL_live_r1 ++ (wsL_live_r2 ++ wsL_live_r3)) ++ wsX00 ++ (vx_atS RX0 98 "java/lang/IllegalStateException" ["java/lang/RuntimeException", "java/lang/Exception"]).filter goodWord ++ (vx_atS RX0 91 "java/lang/IllegalArgumentException" ["java/lang/RuntimeException", "java/lang/Exception"]).filter goodWord)
def wsL_handOver_r1 : List Cond := [Cond.classLink RL 13 "java/lang/IllegalArgumentException", Cond.classLink RL 37 "java/lang/IllegalStateException", Cond.methodLink RL 42 yX0_handOver, Cond.instanceMethod yX0_handOver, Cond.selects RX0 yX0_handOver yX0_handOver, Cond.initialized RX0, Cond.code yX0_handOver cX0_handOver 3 none, Cond.classLink RX0 94 "java/lang/IllegalStateException", Cond.initialized "java/lang/IllegalStateException", Cond.fieldLink RX0 41 "StandbyPair" "roles" "[I", Cond.methodLink RX0 59 yX0_checkRouter, Cond.static yX0_checkRouter, Cond.code yX0_checkRouter cX0_checkRouter 1 none, Cond.classLink RX0 87 "java/lang/IllegalArgumentException", Cond.initialized "java/lang/IllegalArgumentException", Cond.methodLink RX0 63 yX0_checkGroup, Cond.static yX0_checkGroup, Cond.code yX0_checkGroup cX0_checkGroup 1 none, Cond.methodLink RX0 70 yX0_placeOf, Cond.static yX0_placeOf, Cond.code yX0_placeOf cX0_placeOf 2 (some .int), Cond.methodLink RX0 103 yX0_becomeBackup, Cond.instanceMethod yX0_becomeBackup, Cond.selects RX0 yX0_becomeBackup yX0_becomeBackup]
def wsL_handOver_r2 : List Cond := [Cond.code yX0_becomeBackup cX0_becomeBackup 4 none, Cond.fieldLink RX0 47 "StandbyPair" "heard" "[I", Cond.fieldLink RX0 44 "StandbyPair" "timers" "[I", Cond.methodLink RX0 119 yX0_loweredPriority, Cond.instanceMethod yX0_loweredPriority, Cond.selects RX0 yX0_loweredPriority yX0_loweredPriority, Cond.code yX0_loweredPriority cX0_loweredPriority 6 (some .int), Cond.fieldLink RX0 38 "StandbyPair" "basePriorities" "[I", Cond.fieldLink RX0 16 "StandbyPair" "linkUp" "[Z", Cond.fieldLink RX0 19 "StandbyPair" "decrements" "[I", Cond.methodLink RX0 150 Lib.Math.max.name, Cond.static Lib.Math.max.name, Cond.initialized "java/lang/Math", Cond.code Lib.Math.max.name Lib.Math.max.code 2 (some .int), Cond.methodLink RX0 84 yX0_linkOf, Cond.static yX0_linkOf, Cond.code yX0_linkOf cX0_linkOf 2 (some .int), Cond.methodLink RX0 147 yX0_waitOf, Cond.instanceMethod yX0_waitOf, Cond.selects RX0 yX0_waitOf yX0_waitOf, Cond.code yX0_waitOf cX0_waitOf 3 (some .int), Cond.fieldLink RX0 23 "StandbyPair" "periods" "[I", Cond.methodLink RX0 144 yX0_skewOf, Cond.instanceMethod yX0_skewOf]
def wsL_handOver_r3 : List Cond := [Cond.selects RX0 yX0_skewOf yX0_skewOf, Cond.code yX0_skewOf cX0_skewOf 3 (some .int), Cond.methodLink RX0 74 yX0_advertise, Cond.instanceMethod yX0_advertise, Cond.selects RX0 yX0_advertise yX0_advertise, Cond.code yX0_advertise cX0_advertise 6 none, Cond.fieldLink RX0 35 "StandbyPair" "advertisements" "[I", Cond.fieldLink RX0 13 "StandbyPair" "joinedPairs" "[Z", Cond.methodLink RX0 134 yX0_receiveAsMaster, Cond.instanceMethod yX0_receiveAsMaster, Cond.selects RX0 yX0_receiveAsMaster yX0_receiveAsMaster, Cond.code yX0_receiveAsMaster cX0_receiveAsMaster 6 none, Cond.methodLink RX0 141 yX0_copyServed, Cond.instanceMethod yX0_copyServed, Cond.selects RX0 yX0_copyServed yX0_copyServed, Cond.code yX0_copyServed cX0_copyServed 6 none, Cond.fieldLink RX0 50 "StandbyPair" "served" "[I", Cond.fieldLink RX0 56 "StandbyPair" "repairAsked" "[Z", Cond.fieldLink RX0 127 "StandbyPair" "bulkRepairs" "I", Cond.methodLink RX0 138 yX0_receiveAsBackup, Cond.instanceMethod yX0_receiveAsBackup, Cond.selects RX0 yX0_receiveAsBackup yX0_receiveAsBackup, Cond.code yX0_receiveAsBackup cX0_receiveAsBackup 7 none, Cond.fieldLink RX0 26 "StandbyPair" "preempting" "[Z"]
def wsL_handOver_r4 : List Cond := [Cond.fieldLink RX0 29 "StandbyPair" "delays" "[I"]
def wsL_handOver : List Cond := .codeWith yL_handOver cL_handOver 4 (some .int) [(0, 6, 9, 13), (0, 6, 12, 37)] :: ((wsL_handOver_r1 ++ (wsL_handOver_r2 ++ (wsL_handOver_r3 ++ wsL_handOver_r4))) ++ wsX00 ++ (vx_atS RX0 98 "java/lang/IllegalStateException" ["java/lang/RuntimeException", "java/lang/Exception"]).filter goodWord ++ (vx_atS RX0 91 "java/lang/IllegalArgumentException" ["java/lang/RuntimeException", "java/lang/Exception"]).filter goodWord)
def wsL_serve : List Cond := .codeWith yL_serve cL_serve 5 (some .int) [(0, 10, 13, 13)] :: ([.classLink RL 13 "java/lang/IllegalArgumentException", .methodLink RL 46 yX0_serve, .instanceMethod yX0_serve, .selects RX0 yX0_serve yX0_serve, .initialized RX0, .code yX0_serve cX0_serve 6 (some .int), .fieldLink RX0 41 "StandbyPair" "roles" "[I", .fieldLink RX0 50 "StandbyPair" "served" "[I", .methodLink RX0 63 yX0_checkGroup, .static yX0_checkGroup, .code yX0_checkGroup cX0_checkGroup 1 none, .classLink RX0 87 "java/lang/IllegalArgumentException", .initialized "java/lang/IllegalArgumentException", .methodLink RX0 66 yX0_checkRange, .static yX0_checkRange, .code yX0_checkRange cX0_checkRange 3 none, .methodLink RX0 70 yX0_placeOf, .static yX0_placeOf, .code yX0_placeOf cX0_placeOf 2 (some .int)] ++ wsX00 ++ (vx_atS RX0 91 "java/lang/IllegalArgumentException" ["java/lang/RuntimeException", "java/lang/Exception"]).filter goodWord)
def wsL_tick_r1 : List Cond := [Cond.classLink RL 13 "java/lang/IllegalArgumentException", Cond.methodLink RL 49 yX0_tick, Cond.instanceMethod yX0_tick, Cond.selects RX0 yX0_tick yX0_tick, Cond.initialized RX0, Cond.code yX0_tick cX0_tick 4 (some .int), Cond.fieldLink RX0 115 "StandbyPair" "time" "I", Cond.methodLink RX0 66 yX0_checkRange, Cond.static yX0_checkRange, Cond.code yX0_checkRange cX0_checkRange 3 none, Cond.classLink RX0 87 "java/lang/IllegalArgumentException", Cond.initialized "java/lang/IllegalArgumentException", Cond.methodLink RX0 106 yX0_runMasters, Cond.instanceMethod yX0_runMasters, Cond.selects RX0 yX0_runMasters yX0_runMasters, Cond.code yX0_runMasters cX0_runMasters 4 none, Cond.fieldLink RX0 41 "StandbyPair" "roles" "[I", Cond.fieldLink RX0 44 "StandbyPair" "timers" "[I", Cond.fieldLink RX0 23 "StandbyPair" "periods" "[I", Cond.methodLink RX0 70 yX0_placeOf, Cond.static yX0_placeOf, Cond.code yX0_placeOf cX0_placeOf 2 (some .int), Cond.methodLink RX0 119 yX0_loweredPriority, Cond.instanceMethod yX0_loweredPriority]
def wsL_tick_r2 : List Cond := [Cond.selects RX0 yX0_loweredPriority yX0_loweredPriority, Cond.code yX0_loweredPriority cX0_loweredPriority 6 (some .int), Cond.fieldLink RX0 38 "StandbyPair" "basePriorities" "[I", Cond.fieldLink RX0 16 "StandbyPair" "linkUp" "[Z", Cond.fieldLink RX0 19 "StandbyPair" "decrements" "[I", Cond.methodLink RX0 150 Lib.Math.max.name, Cond.static Lib.Math.max.name, Cond.initialized "java/lang/Math", Cond.code Lib.Math.max.name Lib.Math.max.code 2 (some .int), Cond.methodLink RX0 84 yX0_linkOf, Cond.static yX0_linkOf, Cond.code yX0_linkOf cX0_linkOf 2 (some .int), Cond.methodLink RX0 74 yX0_advertise, Cond.instanceMethod yX0_advertise, Cond.selects RX0 yX0_advertise yX0_advertise, Cond.code yX0_advertise cX0_advertise 6 none, Cond.fieldLink RX0 35 "StandbyPair" "advertisements" "[I", Cond.fieldLink RX0 13 "StandbyPair" "joinedPairs" "[Z", Cond.methodLink RX0 134 yX0_receiveAsMaster, Cond.instanceMethod yX0_receiveAsMaster, Cond.selects RX0 yX0_receiveAsMaster yX0_receiveAsMaster, Cond.code yX0_receiveAsMaster cX0_receiveAsMaster 6 none, Cond.methodLink RX0 103 yX0_becomeBackup, Cond.instanceMethod yX0_becomeBackup]
def wsL_tick_r3 : List Cond := [Cond.selects RX0 yX0_becomeBackup yX0_becomeBackup, Cond.code yX0_becomeBackup cX0_becomeBackup 4 none, Cond.fieldLink RX0 47 "StandbyPair" "heard" "[I", Cond.methodLink RX0 147 yX0_waitOf, Cond.instanceMethod yX0_waitOf, Cond.selects RX0 yX0_waitOf yX0_waitOf, Cond.code yX0_waitOf cX0_waitOf 3 (some .int), Cond.methodLink RX0 144 yX0_skewOf, Cond.instanceMethod yX0_skewOf, Cond.selects RX0 yX0_skewOf yX0_skewOf, Cond.code yX0_skewOf cX0_skewOf 3 (some .int), Cond.methodLink RX0 141 yX0_copyServed, Cond.instanceMethod yX0_copyServed, Cond.selects RX0 yX0_copyServed yX0_copyServed, Cond.code yX0_copyServed cX0_copyServed 6 none, Cond.fieldLink RX0 50 "StandbyPair" "served" "[I", Cond.fieldLink RX0 56 "StandbyPair" "repairAsked" "[Z", Cond.fieldLink RX0 127 "StandbyPair" "bulkRepairs" "I", Cond.methodLink RX0 138 yX0_receiveAsBackup, Cond.instanceMethod yX0_receiveAsBackup, Cond.selects RX0 yX0_receiveAsBackup yX0_receiveAsBackup, Cond.code yX0_receiveAsBackup cX0_receiveAsBackup 7 none, Cond.fieldLink RX0 26 "StandbyPair" "preempting" "[Z", Cond.fieldLink RX0 29 "StandbyPair" "delays" "[I"]
def wsL_tick_r4 : List Cond := [Cond.methodLink RX0 109 yX0_runBackups, Cond.instanceMethod yX0_runBackups, Cond.selects RX0 yX0_runBackups yX0_runBackups, Cond.code yX0_runBackups cX0_runBackups 4 none, Cond.fieldLink RX0 53 "StandbyPair" "promotions" "[I", Cond.methodLink RX0 112 yX0_noteGap, Cond.instanceMethod yX0_noteGap, Cond.selects RX0 yX0_noteGap yX0_noteGap, Cond.code yX0_noteGap cX0_noteGap 2 none, Cond.fieldLink RX0 32 "StandbyPair" "gapTicks" "[I", Cond.methodLink RX0 124 yX0_membersWith, Cond.instanceMethod yX0_membersWith, Cond.selects RX0 yX0_membersWith yX0_membersWith, Cond.code yX0_membersWith cX0_membersWith 5 (some .int)]
def wsL_tick : List Cond := .codeWith yL_tick cL_tick 4 (some .int) [(0, 9, 12, 13)] :: ((wsL_tick_r1 ++ (wsL_tick_r2 ++ (wsL_tick_r3 ++ wsL_tick_r4))) ++ wsX00 ++ (vx_atS RX0 91 "java/lang/IllegalArgumentException" ["java/lang/RuntimeException", "java/lang/Exception"]).filter goodWord)
def wsL_state : List Cond := .codeWith yL_state cL_state 5 (some .int) [(0, 10, 13, 13)] :: ([.classLink RL 13 "java/lang/IllegalArgumentException", .methodLink RL 52 yX0_state, .instanceMethod yX0_state, .selects RX0 yX0_state yX0_state, .initialized RX0, .code yX0_state cX0_state 3 (some .int), .fieldLink RX0 41 "StandbyPair" "roles" "[I", .methodLink RX0 59 yX0_checkRouter, .static yX0_checkRouter, .code yX0_checkRouter cX0_checkRouter 1 none, .classLink RX0 87 "java/lang/IllegalArgumentException", .initialized "java/lang/IllegalArgumentException", .methodLink RX0 63 yX0_checkGroup, .static yX0_checkGroup, .code yX0_checkGroup cX0_checkGroup 1 none, .methodLink RX0 70 yX0_placeOf, .static yX0_placeOf, .code yX0_placeOf cX0_placeOf 2 (some .int)] ++ wsX00 ++ (vx_atS RX0 91 "java/lang/IllegalArgumentException" ["java/lang/RuntimeException", "java/lang/Exception"]).filter goodWord)
def wsL_priority_r1 : List Cond := [Cond.classLink RL 13 "java/lang/IllegalArgumentException", Cond.methodLink RL 55 yX0_priority, Cond.instanceMethod yX0_priority, Cond.selects RX0 yX0_priority yX0_priority, Cond.initialized RX0, Cond.code yX0_priority cX0_priority 3 (some .int), Cond.fieldLink RX0 41 "StandbyPair" "roles" "[I", Cond.methodLink RX0 59 yX0_checkRouter, Cond.static yX0_checkRouter, Cond.code yX0_checkRouter cX0_checkRouter 1 none, Cond.classLink RX0 87 "java/lang/IllegalArgumentException", Cond.initialized "java/lang/IllegalArgumentException", Cond.methodLink RX0 63 yX0_checkGroup, Cond.static yX0_checkGroup, Cond.code yX0_checkGroup cX0_checkGroup 1 none, Cond.methodLink RX0 70 yX0_placeOf, Cond.static yX0_placeOf, Cond.code yX0_placeOf cX0_placeOf 2 (some .int), Cond.methodLink RX0 119 yX0_loweredPriority, Cond.instanceMethod yX0_loweredPriority, Cond.selects RX0 yX0_loweredPriority yX0_loweredPriority, Cond.code yX0_loweredPriority cX0_loweredPriority 6 (some .int), Cond.fieldLink RX0 38 "StandbyPair" "basePriorities" "[I", Cond.fieldLink RX0 16 "StandbyPair" "linkUp" "[Z"]
def wsL_priority_r2 : List Cond := [Cond.fieldLink RX0 19 "StandbyPair" "decrements" "[I", Cond.methodLink RX0 150 Lib.Math.max.name, Cond.static Lib.Math.max.name, Cond.initialized "java/lang/Math", Cond.code Lib.Math.max.name Lib.Math.max.code 2 (some .int), Cond.methodLink RX0 84 yX0_linkOf, Cond.static yX0_linkOf, Cond.code yX0_linkOf cX0_linkOf 2 (some .int)]
def wsL_priority : List Cond := .codeWith yL_priority cL_priority 5 (some .int) [(0, 10, 13, 13)] :: ((wsL_priority_r1 ++ wsL_priority_r2) ++ wsX00 ++ (vx_atS RX0 91 "java/lang/IllegalArgumentException" ["java/lang/RuntimeException", "java/lang/Exception"]).filter goodWord)
def wsL_timer : List Cond := .codeWith yL_timer cL_timer 5 (some .int) [(0, 10, 13, 13), (0, 10, 17, 37)] :: ([.classLink RL 13 "java/lang/IllegalArgumentException", .classLink RL 37 "java/lang/IllegalStateException", .methodLink RL 58 yX0_timer, .instanceMethod yX0_timer, .selects RX0 yX0_timer yX0_timer, .initialized RX0, .code yX0_timer cX0_timer 3 (some .int), .classLink RX0 94 "java/lang/IllegalStateException", .initialized "java/lang/IllegalStateException", .fieldLink RX0 41 "StandbyPair" "roles" "[I", .fieldLink RX0 44 "StandbyPair" "timers" "[I", .methodLink RX0 59 yX0_checkRouter, .static yX0_checkRouter, .code yX0_checkRouter cX0_checkRouter 1 none, .classLink RX0 87 "java/lang/IllegalArgumentException", .initialized "java/lang/IllegalArgumentException", .methodLink RX0 63 yX0_checkGroup, .static yX0_checkGroup, .code yX0_checkGroup cX0_checkGroup 1 none, .methodLink RX0 70 yX0_placeOf, .static yX0_placeOf, .code yX0_placeOf cX0_placeOf 2 (some .int)] ++ wsX00 ++ (vx_atS RX0 98 "java/lang/IllegalStateException" ["java/lang/RuntimeException", "java/lang/Exception"]).filter goodWord ++ (vx_atS RX0 91 "java/lang/IllegalArgumentException" ["java/lang/RuntimeException", "java/lang/Exception"]).filter goodWord)
def wsL_masters : List Cond := .codeWith yL_masters cL_masters 4 (some .int) [(0, 9, 12, 13)] :: ([.classLink RL 13 "java/lang/IllegalArgumentException", .methodLink RL 61 yX0_masters, .instanceMethod yX0_masters, .selects RX0 yX0_masters yX0_masters, .initialized RX0, .code yX0_masters cX0_masters 2 (some .int), .methodLink RX0 63 yX0_checkGroup, .static yX0_checkGroup, .code yX0_checkGroup cX0_checkGroup 1 none, .classLink RX0 87 "java/lang/IllegalArgumentException", .initialized "java/lang/IllegalArgumentException", .methodLink RX0 124 yX0_membersWith, .instanceMethod yX0_membersWith, .selects RX0 yX0_membersWith yX0_membersWith, .code yX0_membersWith cX0_membersWith 5 (some .int), .fieldLink RX0 41 "StandbyPair" "roles" "[I", .methodLink RX0 70 yX0_placeOf, .static yX0_placeOf, .code yX0_placeOf cX0_placeOf 2 (some .int)] ++ wsX00 ++ (vx_atS RX0 91 "java/lang/IllegalArgumentException" ["java/lang/RuntimeException", "java/lang/Exception"]).filter goodWord)
def wsL_changes : List Cond := .codeWith yL_changes cL_changes 5 (some .int) [(0, 10, 13, 13)] :: ([.classLink RL 13 "java/lang/IllegalArgumentException", .methodLink RL 64 yX0_changes, .instanceMethod yX0_changes, .selects RX0 yX0_changes yX0_changes, .initialized RX0, .code yX0_changes cX0_changes 3 (some .int), .fieldLink RX0 53 "StandbyPair" "promotions" "[I", .methodLink RX0 59 yX0_checkRouter, .static yX0_checkRouter, .code yX0_checkRouter cX0_checkRouter 1 none, .classLink RX0 87 "java/lang/IllegalArgumentException", .initialized "java/lang/IllegalArgumentException", .methodLink RX0 63 yX0_checkGroup, .static yX0_checkGroup, .code yX0_checkGroup cX0_checkGroup 1 none, .methodLink RX0 70 yX0_placeOf, .static yX0_placeOf, .code yX0_placeOf cX0_placeOf 2 (some .int)] ++ wsX00 ++ (vx_atS RX0 91 "java/lang/IllegalArgumentException" ["java/lang/RuntimeException", "java/lang/Exception"]).filter goodWord)
def wsL_gaps : List Cond := .codeWith yL_gaps cL_gaps 4 (some .int) [(0, 9, 12, 13)] :: ([.classLink RL 13 "java/lang/IllegalArgumentException", .methodLink RL 67 yX0_gaps, .instanceMethod yX0_gaps, .selects RX0 yX0_gaps yX0_gaps, .initialized RX0, .code yX0_gaps cX0_gaps 2 (some .int), .fieldLink RX0 32 "StandbyPair" "gapTicks" "[I", .methodLink RX0 63 yX0_checkGroup, .static yX0_checkGroup, .code yX0_checkGroup cX0_checkGroup 1 none, .classLink RX0 87 "java/lang/IllegalArgumentException", .initialized "java/lang/IllegalArgumentException"] ++ wsX00 ++ (vx_atS RX0 91 "java/lang/IllegalArgumentException" ["java/lang/RuntimeException", "java/lang/Exception"]).filter goodWord)
def wsL_sent : List Cond := .codeWith yL_sent cL_sent 4 (some .int) [(0, 9, 12, 13)] :: ([.classLink RL 13 "java/lang/IllegalArgumentException", .methodLink RL 70 yX0_sent, .instanceMethod yX0_sent, .selects RX0 yX0_sent yX0_sent, .initialized RX0, .code yX0_sent cX0_sent 2 (some .int), .fieldLink RX0 35 "StandbyPair" "advertisements" "[I", .methodLink RX0 63 yX0_checkGroup, .static yX0_checkGroup, .code yX0_checkGroup cX0_checkGroup 1 none, .classLink RX0 87 "java/lang/IllegalArgumentException", .initialized "java/lang/IllegalArgumentException"] ++ wsX00 ++ (vx_atS RX0 91 "java/lang/IllegalArgumentException" ["java/lang/RuntimeException", "java/lang/Exception"]).filter goodWord)
def wsL_known : List Cond := .codeWith yL_known cL_known 5 (some .int) [(0, 10, 13, 13)] :: ([.classLink RL 13 "java/lang/IllegalArgumentException", .methodLink RL 73 yX0_known, .instanceMethod yX0_known, .selects RX0 yX0_known yX0_known, .initialized RX0, .code yX0_known cX0_known 3 (some .int), .fieldLink RX0 50 "StandbyPair" "served" "[I", .methodLink RX0 59 yX0_checkRouter, .static yX0_checkRouter, .code yX0_checkRouter cX0_checkRouter 1 none, .classLink RX0 87 "java/lang/IllegalArgumentException", .initialized "java/lang/IllegalArgumentException", .methodLink RX0 63 yX0_checkGroup, .static yX0_checkGroup, .code yX0_checkGroup cX0_checkGroup 1 none, .methodLink RX0 70 yX0_placeOf, .static yX0_placeOf, .code yX0_placeOf cX0_placeOf 2 (some .int)] ++ wsX00 ++ (vx_atS RX0 91 "java/lang/IllegalArgumentException" ["java/lang/RuntimeException", "java/lang/Exception"]).filter goodWord)
def wsL_isSettled : List Cond := .codeWith yL_isSettled cL_isSettled 4 (some .int) [(0, 16, 19, 13)] :: ([.classLink RL 13 "java/lang/IllegalArgumentException", .methodLink RL 76 yX0_isSettled, .instanceMethod yX0_isSettled, .selects RX0 yX0_isSettled yX0_isSettled, .initialized RX0, .code yX0_isSettled cX0_isSettled 2 (some .boolean), .methodLink RX0 63 yX0_checkGroup, .static yX0_checkGroup, .code yX0_checkGroup cX0_checkGroup 1 none, .classLink RX0 87 "java/lang/IllegalArgumentException", .initialized "java/lang/IllegalArgumentException", .methodLink RX0 124 yX0_membersWith, .instanceMethod yX0_membersWith, .selects RX0 yX0_membersWith yX0_membersWith, .code yX0_membersWith cX0_membersWith 5 (some .int), .fieldLink RX0 41 "StandbyPair" "roles" "[I", .methodLink RX0 70 yX0_placeOf, .static yX0_placeOf, .code yX0_placeOf cX0_placeOf 2 (some .int), .methodLink RX0 130 yX0_hasJoinedMasters, .instanceMethod yX0_hasJoinedMasters, .selects RX0 yX0_hasJoinedMasters yX0_hasJoinedMasters, .code yX0_hasJoinedMasters cX0_hasJoinedMasters 4 (some .boolean), .fieldLink RX0 13 "StandbyPair" "joinedPairs" "[Z"] ++ wsX00 ++ (vx_atS RX0 91 "java/lang/IllegalArgumentException" ["java/lang/RuntimeException", "java/lang/Exception"]).filter goodWord)
def wsL_law0_r1 : List Cond := [Cond.classLink RL 8 RX0, Cond.instantiable RX0 18, Cond.initialized RX0, Cond.classLink RL 81 RX1, Cond.instantiable RX1 19, Cond.initialized RX1, Cond.arrayClass .long, Cond.methodLink RL 80 yX0_init, Cond.instanceMethod yX0_init, Cond.code yX0_init cX0_init 2 none, Cond.methodLink RX0 1 objectInit, Cond.instanceMethod objectInit, Cond.code objectInit ⟨#[0xb1]⟩ 1 none, Cond.arrayClass .boolean, Cond.fieldLink RX0 9 "StandbyPair" "alive" "[Z", Cond.fieldLink RX0 13 "StandbyPair" "joinedPairs" "[Z", Cond.fieldLink RX0 16 "StandbyPair" "linkUp" "[Z", Cond.arrayClass .int, Cond.fieldLink RX0 19 "StandbyPair" "decrements" "[I", Cond.fieldLink RX0 23 "StandbyPair" "periods" "[I", Cond.fieldLink RX0 26 "StandbyPair" "preempting" "[Z", Cond.fieldLink RX0 29 "StandbyPair" "delays" "[I", Cond.fieldLink RX0 32 "StandbyPair" "gapTicks" "[I", Cond.fieldLink RX0 35 "StandbyPair" "advertisements" "[I"]
def wsL_law0_r2 : List Cond := [Cond.fieldLink RX0 38 "StandbyPair" "basePriorities" "[I", Cond.fieldLink RX0 41 "StandbyPair" "roles" "[I", Cond.fieldLink RX0 44 "StandbyPair" "timers" "[I", Cond.fieldLink RX0 47 "StandbyPair" "heard" "[I", Cond.fieldLink RX0 50 "StandbyPair" "served" "[I", Cond.fieldLink RX0 53 "StandbyPair" "promotions" "[I", Cond.fieldLink RX0 56 "StandbyPair" "repairAsked" "[Z", Cond.methodLink RL 83 yX1_init, Cond.instanceMethod yX1_init, Cond.code yX1_init cX1_init 1 none, Cond.methodLink RX1 1 objectInit, Cond.fieldLink RX1 7 "StandbyPairModel" "isDead" "[Z", Cond.fieldLink RX1 13 "StandbyPairModel" "bases" "[I", Cond.fieldLink RX1 17 "StandbyPairModel" "decrements" "[I", Cond.fieldLink RX1 20 "StandbyPairModel" "isDown" "[Z", Cond.fieldLink RX1 23 "StandbyPairModel" "isCut" "[Z", Cond.fieldLink RX1 26 "StandbyPairModel" "periods" "[I", Cond.fieldLink RX1 29 "StandbyPairModel" "isOff" "[Z", Cond.fieldLink RX1 32 "StandbyPairModel" "delays" "[I", Cond.fieldLink RX1 35 "StandbyPairModel" "states" "[I", Cond.fieldLink RX1 38 "StandbyPairModel" "timers" "[I", Cond.fieldLink RX1 41 "StandbyPairModel" "heard" "[I", Cond.fieldLink RX1 44 "StandbyPairModel" "served" "[I", Cond.fieldLink RX1 47 "StandbyPairModel" "isAsked" "[Z"]
def wsL_law0_r3 : List Cond := [Cond.fieldLink RX1 50 "StandbyPairModel" "changes" "[I", Cond.fieldLink RX1 53 "StandbyPairModel" "gaps" "[I", Cond.fieldLink RX1 56 "StandbyPairModel" "sent" "[I", Cond.methodLink RL 84 yL_setPriority, Cond.static yL_setPriority, Cond.initialized RL, Cond.codeWith yL_setPriority cL_setPriority 6 (some .int) [(0, 12, 15, 13)], Cond.classLink RL 13 "java/lang/IllegalArgumentException", Cond.methodLink RL 7 yX0_setPriority, Cond.instanceMethod yX0_setPriority, Cond.selects RX0 yX0_setPriority yX0_setPriority, Cond.code yX0_setPriority cX0_setPriority 6 (some .int), Cond.methodLink RX0 59 yX0_checkRouter, Cond.static yX0_checkRouter, Cond.code yX0_checkRouter cX0_checkRouter 1 none, Cond.classLink RX0 87 "java/lang/IllegalArgumentException", Cond.initialized "java/lang/IllegalArgumentException", Cond.methodLink RX0 63 yX0_checkGroup, Cond.static yX0_checkGroup, Cond.code yX0_checkGroup cX0_checkGroup 1 none, Cond.methodLink RX0 66 yX0_checkRange, Cond.static yX0_checkRange, Cond.code yX0_checkRange cX0_checkRange 3 none, Cond.methodLink RX0 70 yX0_placeOf]
def wsL_law0_r4 : List Cond := [Cond.static yX0_placeOf, Cond.code yX0_placeOf cX0_placeOf 2 (some .int), Cond.methodLink RX0 74 yX0_advertise, Cond.instanceMethod yX0_advertise, Cond.selects RX0 yX0_advertise yX0_advertise, Cond.code yX0_advertise cX0_advertise 6 none, Cond.methodLink RX0 134 yX0_receiveAsMaster, Cond.instanceMethod yX0_receiveAsMaster, Cond.selects RX0 yX0_receiveAsMaster yX0_receiveAsMaster, Cond.code yX0_receiveAsMaster cX0_receiveAsMaster 6 none, Cond.methodLink RX0 119 yX0_loweredPriority, Cond.instanceMethod yX0_loweredPriority, Cond.selects RX0 yX0_loweredPriority yX0_loweredPriority, Cond.code yX0_loweredPriority cX0_loweredPriority 6 (some .int), Cond.methodLink RX0 150 Lib.Math.max.name, Cond.static Lib.Math.max.name, Cond.initialized "java/lang/Math", Cond.code Lib.Math.max.name Lib.Math.max.code 2 (some .int), Cond.methodLink RX0 84 yX0_linkOf, Cond.static yX0_linkOf, Cond.code yX0_linkOf cX0_linkOf 2 (some .int), Cond.methodLink RX0 103 yX0_becomeBackup, Cond.instanceMethod yX0_becomeBackup, Cond.selects RX0 yX0_becomeBackup yX0_becomeBackup]
def wsL_law0_r5 : List Cond := [Cond.code yX0_becomeBackup cX0_becomeBackup 4 none, Cond.methodLink RX0 147 yX0_waitOf, Cond.instanceMethod yX0_waitOf, Cond.selects RX0 yX0_waitOf yX0_waitOf, Cond.code yX0_waitOf cX0_waitOf 3 (some .int), Cond.methodLink RX0 144 yX0_skewOf, Cond.instanceMethod yX0_skewOf, Cond.selects RX0 yX0_skewOf yX0_skewOf, Cond.code yX0_skewOf cX0_skewOf 3 (some .int), Cond.methodLink RX0 141 yX0_copyServed, Cond.instanceMethod yX0_copyServed, Cond.selects RX0 yX0_copyServed yX0_copyServed, Cond.code yX0_copyServed cX0_copyServed 6 none, Cond.fieldLink RX0 127 "StandbyPair" "bulkRepairs" "I", Cond.methodLink RX0 138 yX0_receiveAsBackup, Cond.instanceMethod yX0_receiveAsBackup, Cond.selects RX0 yX0_receiveAsBackup yX0_receiveAsBackup, Cond.code yX0_receiveAsBackup cX0_receiveAsBackup 7 none, Cond.methodLink RX0 77 yX0_beginPart, Cond.instanceMethod yX0_beginPart, Cond.selects RX0 yX0_beginPart yX0_beginPart, Cond.code yX0_beginPart cX0_beginPart 3 none, Cond.methodLink RL 89 yX1_setPriority, Cond.instanceMethod yX1_setPriority]
def wsL_law0_r6 : List Cond := [Cond.selects RX1 yX1_setPriority yX1_setPriority, Cond.code yX1_setPriority cX1_setPriority 6 (some .int), Cond.methodLink RX1 98 yX1_are, Cond.static yX1_are, Cond.code yX1_are cX1_are 2 (some .boolean), Cond.methodLink RX1 67 yX1_isRouter, Cond.static yX1_isRouter, Cond.code yX1_isRouter cX1_isRouter 1 (some .boolean), Cond.methodLink RX1 63 yX1_in, Cond.static yX1_in, Cond.code yX1_in cX1_in 3 (some .boolean), Cond.methodLink RX1 71 yX1_isGroup, Cond.static yX1_isGroup, Cond.code yX1_isGroup cX1_isGroup 1 (some .boolean), Cond.methodLink RX1 102 yX1_goesWell, Cond.instanceMethod yX1_goesWell, Cond.selects RX1 yX1_goesWell yX1_goesWell, Cond.code yX1_goesWell cX1_goesWell 2 (some .boolean), Cond.fieldLink RX1 59 "StandbyPairModel" "thrown" "I", Cond.methodLink RX1 105 yX1_advertise, Cond.instanceMethod yX1_advertise, Cond.selects RX1 yX1_advertise yX1_advertise, Cond.code yX1_advertise cX1_advertise 4 none, Cond.methodLink RX1 94 yX1_receive]
def wsL_law0_r7 : List Cond := [Cond.instanceMethod yX1_receive, Cond.selects RX1 yX1_receive yX1_receive, Cond.code yX1_receive cX1_receive 5 none, Cond.methodLink RX1 74 yX1_priorityAt, Cond.instanceMethod yX1_priorityAt, Cond.selects RX1 yX1_priorityAt yX1_priorityAt, Cond.code yX1_priorityAt cX1_priorityAt 5 (some .int), Cond.methodLink RX1 87 yX1_rest, Cond.instanceMethod yX1_rest, Cond.selects RX1 yX1_rest yX1_rest, Cond.code yX1_rest cX1_rest 3 none, Cond.methodLink RX1 84 yX1_waitAt, Cond.instanceMethod yX1_waitAt, Cond.selects RX1 yX1_waitAt yX1_waitAt, Cond.code yX1_waitAt cX1_waitAt 2 (some .int), Cond.methodLink RX1 78 yX1_skew, Cond.instanceMethod yX1_skew, Cond.selects RX1 yX1_skew yX1_skew, Cond.code yX1_skew cX1_skew 2 (some .int), Cond.methodLink RX1 91 yX1_copy, Cond.instanceMethod yX1_copy, Cond.selects RX1 yX1_copy yX1_copy, Cond.code yX1_copy cX1_copy 4 none, Cond.fieldLink RX1 81 "StandbyPairModel" "repairs" "I"]
def wsL_law0_r8 : List Cond := [Cond.methodLink RX1 108 yX1_settle, Cond.instanceMethod yX1_settle, Cond.selects RX1 yX1_settle yX1_settle, Cond.code yX1_settle cX1_settle 3 none, Cond.methodLink RL 90 yX1_thrown, Cond.instanceMethod yX1_thrown, Cond.selects RX1 yX1_thrown yX1_thrown, Cond.code yX1_thrown cX1_thrown 1 (some .int), Cond.methodLink RL 94 yL_track, Cond.static yL_track, Cond.codeWith yL_track cL_track 6 (some .int) [(0, 12, 15, 13)], Cond.methodLink RL 15 yX0_track, Cond.instanceMethod yX0_track, Cond.selects RX0 yX0_track yX0_track, Cond.code yX0_track cX0_track 6 (some .int), Cond.methodLink RX0 81 yX0_checkLink, Cond.static yX0_checkLink, Cond.code yX0_checkLink cX0_checkLink 1 none, Cond.methodLink RL 96 yX1_track, Cond.instanceMethod yX1_track, Cond.selects RX1 yX1_track yX1_track, Cond.code yX1_track cX1_track 5 (some .int), Cond.methodLink RX1 112 yX1_isLink, Cond.static yX1_isLink]
def wsL_law0_r9 : List Cond := [Cond.code yX1_isLink cX1_isLink 2 (some .boolean), Cond.methodLink RL 97 yL_setLink, Cond.static yL_setLink, Cond.codeWith yL_setLink cL_setLink 6 (some .int) [(0, 19, 22, 13)], Cond.methodLink RL 18 yX0_setLink, Cond.instanceMethod yX0_setLink, Cond.selects RX0 yX0_setLink yX0_setLink, Cond.code yX0_setLink cX0_setLink 6 (some .boolean), Cond.methodLink RL 100 yX1_setLink, Cond.instanceMethod yX1_setLink, Cond.selects RX1 yX1_setLink yX1_setLink, Cond.code yX1_setLink cX1_setLink 5 (some .boolean), Cond.methodLink RL 101 yL_setPeriod, Cond.static yL_setPeriod, Cond.codeWith yL_setPeriod cL_setPeriod 5 (some .int) [(0, 10, 13, 13)], Cond.methodLink RL 22 yX0_setPeriod, Cond.instanceMethod yX0_setPeriod, Cond.selects RX0 yX0_setPeriod yX0_setPeriod, Cond.code yX0_setPeriod cX0_setPeriod 4 (some .int), Cond.methodLink RL 104 yX1_setPeriod, Cond.instanceMethod yX1_setPeriod, Cond.selects RX1 yX1_setPeriod yX1_setPeriod, Cond.code yX1_setPeriod cX1_setPeriod 4 (some .int), Cond.methodLink RL 105 yL_setPreemption]
def wsL_law0_r10 : List Cond := [Cond.static yL_setPreemption, Cond.codeWith yL_setPreemption cL_setPreemption 5 (some .int) [(0, 7, 10, 13)], Cond.methodLink RL 26 yX0_setPreemption, Cond.instanceMethod yX0_setPreemption, Cond.selects RX0 yX0_setPreemption yX0_setPreemption, Cond.code yX0_setPreemption cX0_setPreemption 4 none, Cond.methodLink RL 108 yX1_setPreemption, Cond.instanceMethod yX1_setPreemption, Cond.selects RX1 yX1_setPreemption yX1_setPreemption, Cond.code yX1_setPreemption cX1_setPreemption 4 none, Cond.methodLink RL 109 yL_join, Cond.static yL_join, Cond.codeWith yL_join cL_join 6 (some .int) [(0, 19, 22, 13)], Cond.methodLink RL 30 yX0_join, Cond.instanceMethod yX0_join, Cond.selects RX0 yX0_join yX0_join, Cond.code yX0_join cX0_join 5 (some .boolean), Cond.methodLink RL 111 yX1_join, Cond.instanceMethod yX1_join, Cond.selects RX1 yX1_join yX1_join, Cond.code yX1_join cX1_join 5 (some .boolean), Cond.methodLink RL 112 yL_die, Cond.static yL_die, Cond.codeWith yL_die cL_die 4 (some .int) [(0, 9, 12, 13), (0, 9, 15, 37)]]
def wsL_law0_r11 : List Cond := [Cond.classLink RL 37 "java/lang/IllegalStateException", Cond.methodLink RL 33 yX0_die, Cond.instanceMethod yX0_die, Cond.selects RX0 yX0_die yX0_die, Cond.code yX0_die cX0_die 5 (some .int), Cond.classLink RX0 94 "java/lang/IllegalStateException", Cond.initialized "java/lang/IllegalStateException", Cond.methodLink RL 115 yX1_die, Cond.instanceMethod yX1_die, Cond.selects RX1 yX1_die yX1_die, Cond.code yX1_die cX1_die 4 (some .int), Cond.methodLink RL 116 yL_live, Cond.static yL_live, Cond.codeWith yL_live cL_live 4 (some .int) [(0, 9, 12, 13), (0, 9, 15, 37)], Cond.methodLink RL 39 yX0_live, Cond.instanceMethod yX0_live, Cond.selects RX0 yX0_live yX0_live, Cond.code yX0_live cX0_live 4 (some .int), Cond.methodLink RL 118 yX1_live, Cond.instanceMethod yX1_live, Cond.selects RX1 yX1_live yX1_live, Cond.code yX1_live cX1_live 4 (some .int), Cond.methodLink RL 119 yL_handOver, Cond.static yL_handOver]
def wsL_law0_r12 : List Cond := [Cond.codeWith yL_handOver cL_handOver 4 (some .int) [(0, 6, 9, 13), (0, 6, 12, 37)], Cond.methodLink RL 42 yX0_handOver, Cond.instanceMethod yX0_handOver, Cond.selects RX0 yX0_handOver yX0_handOver, Cond.code yX0_handOver cX0_handOver 3 none, Cond.methodLink RL 122 yX1_handOver, Cond.instanceMethod yX1_handOver, Cond.selects RX1 yX1_handOver yX1_handOver, Cond.code yX1_handOver cX1_handOver 5 none, Cond.methodLink RL 123 yL_serve, Cond.static yL_serve, Cond.codeWith yL_serve cL_serve 5 (some .int) [(0, 10, 13, 13)], Cond.methodLink RL 46 yX0_serve, Cond.instanceMethod yX0_serve, Cond.selects RX0 yX0_serve yX0_serve, Cond.code yX0_serve cX0_serve 6 (some .int), Cond.methodLink RL 125 yX1_serve, Cond.instanceMethod yX1_serve, Cond.selects RX1 yX1_serve yX1_serve, Cond.code yX1_serve cX1_serve 5 (some .int), Cond.methodLink RL 126 yL_tick, Cond.static yL_tick, Cond.codeWith yL_tick cL_tick 4 (some .int) [(0, 9, 12, 13)], Cond.methodLink RL 49 yX0_tick]
def wsL_law0_r13 : List Cond := [Cond.instanceMethod yX0_tick, Cond.selects RX0 yX0_tick yX0_tick, Cond.code yX0_tick cX0_tick 4 (some .int), Cond.fieldLink RX0 115 "StandbyPair" "time" "I", Cond.methodLink RX0 106 yX0_runMasters, Cond.instanceMethod yX0_runMasters, Cond.selects RX0 yX0_runMasters yX0_runMasters, Cond.code yX0_runMasters cX0_runMasters 4 none, Cond.methodLink RX0 109 yX0_runBackups, Cond.instanceMethod yX0_runBackups, Cond.selects RX0 yX0_runBackups yX0_runBackups, Cond.code yX0_runBackups cX0_runBackups 4 none, Cond.methodLink RX0 112 yX0_noteGap, Cond.instanceMethod yX0_noteGap, Cond.selects RX0 yX0_noteGap yX0_noteGap, Cond.code yX0_noteGap cX0_noteGap 2 none, Cond.methodLink RX0 124 yX0_membersWith, Cond.instanceMethod yX0_membersWith, Cond.selects RX0 yX0_membersWith yX0_membersWith, Cond.code yX0_membersWith cX0_membersWith 5 (some .int), Cond.methodLink RL 128 yX1_tick, Cond.instanceMethod yX1_tick, Cond.selects RX1 yX1_tick yX1_tick, Cond.code yX1_tick cX1_tick 5 (some .int)]
def wsL_law0_r14 : List Cond := [Cond.fieldLink RX1 121 "StandbyPairModel" "time" "I", Cond.methodLink RX1 115 yX1_turn, Cond.instanceMethod yX1_turn, Cond.selects RX1 yX1_turn yX1_turn, Cond.code yX1_turn cX1_turn 3 none, Cond.methodLink RX1 118 yX1_hasMaster, Cond.instanceMethod yX1_hasMaster, Cond.selects RX1 yX1_hasMaster yX1_hasMaster, Cond.code yX1_hasMaster cX1_hasMaster 4 (some .boolean), Cond.methodLink RL 129 yL_state, Cond.static yL_state, Cond.codeWith yL_state cL_state 5 (some .int) [(0, 10, 13, 13)], Cond.methodLink RL 52 yX0_state, Cond.instanceMethod yX0_state, Cond.selects RX0 yX0_state yX0_state, Cond.code yX0_state cX0_state 3 (some .int), Cond.methodLink RL 131 yX1_state, Cond.instanceMethod yX1_state, Cond.selects RX1 yX1_state yX1_state, Cond.code yX1_state cX1_state 3 (some .int), Cond.methodLink RL 132 yL_priority, Cond.static yL_priority, Cond.codeWith yL_priority cL_priority 5 (some .int) [(0, 10, 13, 13)], Cond.methodLink RL 55 yX0_priority]
def wsL_law0_r15 : List Cond := [Cond.instanceMethod yX0_priority, Cond.selects RX0 yX0_priority yX0_priority, Cond.code yX0_priority cX0_priority 3 (some .int), Cond.methodLink RL 134 yX1_priority, Cond.instanceMethod yX1_priority, Cond.selects RX1 yX1_priority yX1_priority, Cond.code yX1_priority cX1_priority 4 (some .int), Cond.methodLink RL 135 yL_timer, Cond.static yL_timer, Cond.codeWith yL_timer cL_timer 5 (some .int) [(0, 10, 13, 13), (0, 10, 17, 37)], Cond.methodLink RL 58 yX0_timer, Cond.instanceMethod yX0_timer, Cond.selects RX0 yX0_timer yX0_timer, Cond.code yX0_timer cX0_timer 3 (some .int), Cond.methodLink RL 137 yX1_timer, Cond.instanceMethod yX1_timer, Cond.selects RX1 yX1_timer yX1_timer, Cond.code yX1_timer cX1_timer 5 (some .int), Cond.methodLink RL 138 yL_masters, Cond.static yL_masters, Cond.codeWith yL_masters cL_masters 4 (some .int) [(0, 9, 12, 13)], Cond.methodLink RL 61 yX0_masters, Cond.instanceMethod yX0_masters, Cond.selects RX0 yX0_masters yX0_masters]
def wsL_law0_r16 : List Cond := [Cond.code yX0_masters cX0_masters 2 (some .int), Cond.methodLink RL 140 yX1_masters, Cond.instanceMethod yX1_masters, Cond.selects RX1 yX1_masters yX1_masters, Cond.code yX1_masters cX1_masters 4 (some .int), Cond.methodLink RL 141 yL_changes, Cond.static yL_changes, Cond.codeWith yL_changes cL_changes 5 (some .int) [(0, 10, 13, 13)], Cond.methodLink RL 64 yX0_changes, Cond.instanceMethod yX0_changes, Cond.selects RX0 yX0_changes yX0_changes, Cond.code yX0_changes cX0_changes 3 (some .int), Cond.methodLink RL 143 yX1_changes, Cond.instanceMethod yX1_changes, Cond.selects RX1 yX1_changes yX1_changes, Cond.code yX1_changes cX1_changes 3 (some .int), Cond.methodLink RL 144 yL_gaps, Cond.static yL_gaps, Cond.codeWith yL_gaps cL_gaps 4 (some .int) [(0, 9, 12, 13)], Cond.methodLink RL 67 yX0_gaps, Cond.instanceMethod yX0_gaps, Cond.selects RX0 yX0_gaps yX0_gaps, Cond.code yX0_gaps cX0_gaps 2 (some .int), Cond.methodLink RL 146 yX1_gaps]
def wsL_law0_r17 : List Cond := [Cond.instanceMethod yX1_gaps, Cond.selects RX1 yX1_gaps yX1_gaps, Cond.code yX1_gaps cX1_gaps 2 (some .int), Cond.methodLink RL 147 yL_sent, Cond.static yL_sent, Cond.codeWith yL_sent cL_sent 4 (some .int) [(0, 9, 12, 13)], Cond.methodLink RL 70 yX0_sent, Cond.instanceMethod yX0_sent, Cond.selects RX0 yX0_sent yX0_sent, Cond.code yX0_sent cX0_sent 2 (some .int), Cond.methodLink RL 149 yX1_sent, Cond.instanceMethod yX1_sent, Cond.selects RX1 yX1_sent yX1_sent, Cond.code yX1_sent cX1_sent 2 (some .int), Cond.methodLink RL 150 yL_known, Cond.static yL_known, Cond.codeWith yL_known cL_known 5 (some .int) [(0, 10, 13, 13)], Cond.methodLink RL 73 yX0_known, Cond.instanceMethod yX0_known, Cond.selects RX0 yX0_known yX0_known, Cond.code yX0_known cX0_known 3 (some .int), Cond.methodLink RL 152 yX1_known, Cond.instanceMethod yX1_known, Cond.selects RX1 yX1_known yX1_known]
def wsL_law0_r18 : List Cond := [Cond.code yX1_known cX1_known 3 (some .int), Cond.methodLink RL 153 yX0_repairs, Cond.instanceMethod yX0_repairs, Cond.selects RX0 yX0_repairs yX0_repairs, Cond.code yX0_repairs cX0_repairs 1 (some .int), Cond.methodLink RL 156 yX1_repairs, Cond.instanceMethod yX1_repairs, Cond.selects RX1 yX1_repairs yX1_repairs, Cond.code yX1_repairs cX1_repairs 1 (some .int), Cond.methodLink RL 157 yL_isSettled, Cond.static yL_isSettled, Cond.codeWith yL_isSettled cL_isSettled 4 (some .int) [(0, 16, 19, 13)], Cond.methodLink RL 76 yX0_isSettled, Cond.instanceMethod yX0_isSettled, Cond.selects RX0 yX0_isSettled yX0_isSettled, Cond.code yX0_isSettled cX0_isSettled 2 (some .boolean), Cond.methodLink RX0 130 yX0_hasJoinedMasters, Cond.instanceMethod yX0_hasJoinedMasters, Cond.selects RX0 yX0_hasJoinedMasters yX0_hasJoinedMasters, Cond.code yX0_hasJoinedMasters cX0_hasJoinedMasters 4 (some .boolean), Cond.methodLink RL 159 yX1_isSettled, Cond.instanceMethod yX1_isSettled, Cond.selects RX1 yX1_isSettled yX1_isSettled, Cond.code yX1_isSettled cX1_isSettled 7 (some .boolean)]
def wsL_law0 : List Cond := (wsL_law0_r1 ++ (wsL_law0_r2 ++ (wsL_law0_r3 ++ (wsL_law0_r4 ++ (wsL_law0_r5 ++ (wsL_law0_r6 ++ (wsL_law0_r7 ++ (wsL_law0_r8 ++ (wsL_law0_r9 ++ (wsL_law0_r10 ++ (wsL_law0_r11 ++ (wsL_law0_r12 ++ (wsL_law0_r13 ++ (wsL_law0_r14 ++ (wsL_law0_r15 ++ (wsL_law0_r16 ++ (wsL_law0_r17 ++ wsL_law0_r18))))))))))))))))) ++ wsX00 ++ wsX10 ++ ([] : List Cond)
def wsL_law : List Cond := wsL_law0 ++ (vx_atS RX0 91 "java/lang/IllegalArgumentException" ["java/lang/RuntimeException", "java/lang/Exception"]).filter goodWord ++ (vx_atS RX0 98 "java/lang/IllegalStateException" ["java/lang/RuntimeException", "java/lang/Exception"]).filter goodWord
end
section
set_option maxRecDepth 20000 in
theorem wsLin_wsL_law0_r1 : ∀ w ∈ wsL_law0_r1, w ∈ lw_tbl := fun w h => (goodIn_p wsL_law0_r1 [39, 42] (by decide +kernel) (by decide +kernel) w h).1
set_option maxRecDepth 20000 in
theorem wsLin_wsL_law0_r2 : ∀ w ∈ wsL_law0_r2, w ∈ lw_tbl := fun w h => (goodIn_p wsL_law0_r2 [417] (by decide +kernel) (by decide +kernel) w h).1
set_option maxRecDepth 20000 in
theorem wsLin_wsL_law0_r3 : ∀ w ∈ wsL_law0_r3, w ∈ lw_tbl := fun w h => (goodIn_p wsL_law0_r3 [111, 114, 184, 188] (by decide +kernel) (by decide +kernel) w h).1
set_option maxRecDepth 20000 in
theorem wsLin_wsL_law0_r4 : ∀ w ∈ wsL_law0_r4, w ∈ lw_tbl := fun w h => (goodIn_p wsL_law0_r4 [192, 196, 200, 204, 210, 207] (by decide +kernel) (by decide +kernel) w h).1
set_option maxRecDepth 20000 in
theorem wsLin_wsL_law0_r5 : ∀ w ∈ wsL_law0_r5, w ∈ lw_tbl := fun w h => (goodIn_p wsL_law0_r5 [214, 218, 222, 226, 230, 234] (by decide +kernel) (by decide +kernel) w h).1
end
section
set_option maxRecDepth 20000 in
theorem wsLin_wsL_law0_r6 : ∀ w ∈ wsL_law0_r6, w ∈ lw_tbl := fun w h => (goodIn_p wsL_law0_r6 [484, 487, 490, 493, 496, 500, 504] (by decide +kernel) (by decide +kernel) w h).1
set_option maxRecDepth 20000 in
theorem wsLin_wsL_law0_r7 : ∀ w ∈ wsL_law0_r7, w ∈ lw_tbl := fun w h => (goodIn_p wsL_law0_r7 [508, 512, 516, 520, 524, 528] (by decide +kernel) (by decide +kernel) w h).1
set_option maxRecDepth 20000 in
theorem wsLin_wsL_law0_r8 : ∀ w ∈ wsL_law0_r8, w ∈ lw_tbl := fun w h => (goodIn_p wsL_law0_r8 [532, 480, 241, 244, 536] (by decide +kernel) (by decide +kernel) w h).1
set_option maxRecDepth 20000 in
theorem wsLin_wsL_law0_r9 : ∀ w ∈ wsL_law0_r9, w ∈ lw_tbl := fun w h => (goodIn_p wsL_law0_r9 [539, 252, 543, 259, 547] (by decide +kernel) (by decide +kernel) w h).1
set_option maxRecDepth 20000 in
theorem wsLin_wsL_law0_r10 : ∀ w ∈ wsL_law0_r10, w ∈ lw_tbl := fun w h => (goodIn_p wsL_law0_r10 [266, 551, 273, 555] (by decide +kernel) (by decide +kernel) w h).1
end
section
set_option maxRecDepth 20000 in
theorem wsLin_wsL_law0_r11 : ∀ w ∈ wsL_law0_r11, w ∈ lw_tbl := fun w h => (goodIn_p wsL_law0_r11 [282, 559, 305, 563] (by decide +kernel) (by decide +kernel) w h).1
set_option maxRecDepth 20000 in
theorem wsLin_wsL_law0_r12 : ∀ w ∈ wsL_law0_r12, w ∈ lw_tbl := fun w h => (goodIn_p wsL_law0_r12 [313, 567, 321, 571] (by decide +kernel) (by decide +kernel) w h).1
set_option maxRecDepth 20000 in
theorem wsLin_wsL_law0_r13 : ∀ w ∈ wsL_law0_r13, w ∈ lw_tbl := fun w h => (goodIn_p wsL_law0_r13 [328, 332, 336, 340, 344, 575] (by decide +kernel) (by decide +kernel) w h).1
set_option maxRecDepth 20000 in
theorem wsLin_wsL_law0_r14 : ∀ w ∈ wsL_law0_r14, w ∈ lw_tbl := fun w h => (goodIn_p wsL_law0_r14 [579, 583, 351, 587] (by decide +kernel) (by decide +kernel) w h).1
set_option maxRecDepth 20000 in
theorem wsLin_wsL_law0_r15 : ∀ w ∈ wsL_law0_r15, w ∈ lw_tbl := fun w h => (goodIn_p wsL_law0_r15 [358, 591, 365, 595] (by decide +kernel) (by decide +kernel) w h).1
end
section
set_option maxRecDepth 20000 in
theorem wsLin_wsL_law0_r16 : ∀ w ∈ wsL_law0_r16, w ∈ lw_tbl := fun w h => (goodIn_p wsL_law0_r16 [373, 599, 380, 603, 387] (by decide +kernel) (by decide +kernel) w h).1
set_option maxRecDepth 20000 in
theorem wsLin_wsL_law0_r17 : ∀ w ∈ wsL_law0_r17, w ∈ lw_tbl := fun w h => (goodIn_p wsL_law0_r17 [607, 394, 611, 401] (by decide +kernel) (by decide +kernel) w h).1
set_option maxRecDepth 20000 in
theorem wsLin_wsL_law0_r18 : ∀ w ∈ wsL_law0_r18, w ∈ lw_tbl := fun w h => (goodIn_p wsL_law0_r18 [615, 103, 619, 408, 412, 623] (by decide +kernel) (by decide +kernel) w h).1
set_option maxRecDepth 20000 in
theorem wsLin_wsX00 : ∀ w ∈ wsX00, w ∈ lw_tbl := fun w h => (goodIn_p wsX00 [] (by decide +kernel) (by decide +kernel) w h).1
set_option maxRecDepth 20000 in
theorem wsLin_wsX10 : ∀ w ∈ wsX10, w ∈ lw_tbl := fun w h => (goodIn_p wsX10 [] (by decide +kernel) (by decide +kernel) w h).1
end
section
theorem wsL_law_in0 : ∀ w ∈ wsL_law0, w ∈ lw_tbl := by
  intro w h
  rcases List.mem_append.mp h with h | h
  · rcases List.mem_append.mp h with h | h
    · rcases List.mem_append.mp h with h | h
      · rcases List.mem_append.mp h with h | h
        · exact wsLin_wsL_law0_r1 w h
        rcases List.mem_append.mp h with h | h
        · exact wsLin_wsL_law0_r2 w h
        rcases List.mem_append.mp h with h | h
        · exact wsLin_wsL_law0_r3 w h
        rcases List.mem_append.mp h with h | h
        · exact wsLin_wsL_law0_r4 w h
        rcases List.mem_append.mp h with h | h
        · exact wsLin_wsL_law0_r5 w h
        rcases List.mem_append.mp h with h | h
        · exact wsLin_wsL_law0_r6 w h
        rcases List.mem_append.mp h with h | h
        · exact wsLin_wsL_law0_r7 w h
        rcases List.mem_append.mp h with h | h
        · exact wsLin_wsL_law0_r8 w h
        rcases List.mem_append.mp h with h | h
        · exact wsLin_wsL_law0_r9 w h
        rcases List.mem_append.mp h with h | h
        · exact wsLin_wsL_law0_r10 w h
        rcases List.mem_append.mp h with h | h
        · exact wsLin_wsL_law0_r11 w h
        rcases List.mem_append.mp h with h | h
        · exact wsLin_wsL_law0_r12 w h
        rcases List.mem_append.mp h with h | h
        · exact wsLin_wsL_law0_r13 w h
        rcases List.mem_append.mp h with h | h
        · exact wsLin_wsL_law0_r14 w h
        rcases List.mem_append.mp h with h | h
        · exact wsLin_wsL_law0_r15 w h
        rcases List.mem_append.mp h with h | h
        · exact wsLin_wsL_law0_r16 w h
        rcases List.mem_append.mp h with h | h
        · exact wsLin_wsL_law0_r17 w h
        exact wsLin_wsL_law0_r18 w h
      · exact wsLin_wsX00 w h
    · exact wsLin_wsX10 w h
  · exact absurd h List.not_mem_nil
theorem wsL_law_x0 : ∀ w ∈ (vx_atS RX0 91 "java/lang/IllegalArgumentException" ["java/lang/RuntimeException", "java/lang/Exception"]).filter goodWord, w ∈ lw_tbl := by decide +kernel
theorem wsL_law_x1 : ∀ w ∈ (vx_atS RX0 98 "java/lang/IllegalStateException" ["java/lang/RuntimeException", "java/lang/Exception"]).filter goodWord, w ∈ lw_tbl := by decide +kernel
theorem wsL_law_in : ∀ w ∈ wsL_law, w ∈ lw_tbl := fun w h => (List.mem_append.mp h).elim (fun h => (List.mem_append.mp h).elim (fun h => wsL_law_in0 w h) (fun h => wsL_law_x0 w h)) (fun h => wsL_law_x1 w h)
theorem inlX0 : ∀ w ∈ wsX00, w ∈ wsL_law := fun _ h => List.mem_append_left _ (List.mem_append_left _ (List.mem_append_left _ (List.mem_append_left _ (List.mem_append_right _ h))))
theorem inX0 : ∀ w ∈ wsX00, w ∈ lw_tbl := fun w h => wsL_law_in w (inlX0 w h)
theorem inlX1 : ∀ w ∈ wsX10, w ∈ wsL_law := fun _ h => List.mem_append_left _ (List.mem_append_left _ (List.mem_append_left _ (List.mem_append_right _ h)))
theorem inX1 : ∀ w ∈ wsX10, w ∈ lw_tbl := fun w h => wsL_law_in w (inlX1 w h)
theorem inJ9 : ∀ w ∈ wsJ90, w ∈ lw_tbl := by decide +kernel
theorem inJ0 : ∀ w ∈ wsJ00, w ∈ lw_tbl := by decide +kernel
abbrev vwCl : List vw_C := [(RX0, TX0, 18), (RX1, TX1, 19)]
end
section
theorem dX0_init_0 : decode cX0_init 0 = .ok (.aload_n 0, 1) := by decide +kernel
theorem dX0_init_1 : decode cX0_init 1 = .ok (.invokespecial 1, 3) := by decide +kernel
theorem dX0_init_4 : decode cX0_init 4 = .ok (.aload_n 0, 1) := by decide +kernel
theorem dX0_init_5 : decode cX0_init 5 = .ok (.iconst 4, 1) := by decide +kernel
theorem dX0_init_6 : decode cX0_init 6 = .ok (.newarray .boolean, 2) := by decide +kernel
theorem dX0_init_8 : decode cX0_init 8 = .ok (.putfield 9, 3) := by decide +kernel
theorem dX0_init_11 : decode cX0_init 11 = .ok (.aload_n 0, 1) := by decide +kernel
theorem dX0_init_12 : decode cX0_init 12 = .ok (.bipush 16, 2) := by decide +kernel
theorem dX0_init_14 : decode cX0_init 14 = .ok (.newarray .boolean, 2) := by decide +kernel
theorem dX0_init_16 : decode cX0_init 16 = .ok (.putfield 13, 3) := by decide +kernel
theorem dX0_init_19 : decode cX0_init 19 = .ok (.aload_n 0, 1) := by decide +kernel
theorem dX0_init_20 : decode cX0_init 20 = .ok (.bipush 8, 2) := by decide +kernel
theorem dX0_init_22 : decode cX0_init 22 = .ok (.newarray .boolean, 2) := by decide +kernel
theorem dX0_init_24 : decode cX0_init 24 = .ok (.putfield 16, 3) := by decide +kernel
theorem dX0_init_27 : decode cX0_init 27 = .ok (.aload_n 0, 1) := by decide +kernel
theorem dX0_init_28 : decode cX0_init 28 = .ok (.bipush 8, 2) := by decide +kernel
theorem dX0_init_30 : decode cX0_init 30 = .ok (.newarray .int, 2) := by decide +kernel
theorem dX0_init_32 : decode cX0_init 32 = .ok (.putfield 19, 3) := by decide +kernel
theorem dX0_init_35 : decode cX0_init 35 = .ok (.aload_n 0, 1) := by decide +kernel
theorem dX0_init_36 : decode cX0_init 36 = .ok (.iconst 3, 1) := by decide +kernel
theorem dX0_init_37 : decode cX0_init 37 = .ok (.newarray .int, 2) := by decide +kernel
theorem dX0_init_39 : decode cX0_init 39 = .ok (.putfield 23, 3) := by decide +kernel
theorem dX0_init_42 : decode cX0_init 42 = .ok (.aload_n 0, 1) := by decide +kernel
theorem dX0_init_43 : decode cX0_init 43 = .ok (.iconst 3, 1) := by decide +kernel
theorem dX0_init_44 : decode cX0_init 44 = .ok (.newarray .boolean, 2) := by decide +kernel
theorem dX0_init_46 : decode cX0_init 46 = .ok (.putfield 26, 3) := by decide +kernel
theorem dX0_init_49 : decode cX0_init 49 = .ok (.aload_n 0, 1) := by decide +kernel
theorem dX0_init_50 : decode cX0_init 50 = .ok (.iconst 3, 1) := by decide +kernel
theorem dX0_init_51 : decode cX0_init 51 = .ok (.newarray .int, 2) := by decide +kernel
theorem dX0_init_53 : decode cX0_init 53 = .ok (.putfield 29, 3) := by decide +kernel
theorem dX0_init_56 : decode cX0_init 56 = .ok (.aload_n 0, 1) := by decide +kernel
theorem dX0_init_57 : decode cX0_init 57 = .ok (.iconst 3, 1) := by decide +kernel
theorem dX0_init_58 : decode cX0_init 58 = .ok (.newarray .int, 2) := by decide +kernel
theorem dX0_init_60 : decode cX0_init 60 = .ok (.putfield 32, 3) := by decide +kernel
theorem dX0_init_63 : decode cX0_init 63 = .ok (.aload_n 0, 1) := by decide +kernel
theorem dX0_init_64 : decode cX0_init 64 = .ok (.iconst 3, 1) := by decide +kernel
theorem dX0_init_65 : decode cX0_init 65 = .ok (.newarray .int, 2) := by decide +kernel
theorem dX0_init_67 : decode cX0_init 67 = .ok (.putfield 35, 3) := by decide +kernel
theorem dX0_init_70 : decode cX0_init 70 = .ok (.aload_n 0, 1) := by decide +kernel
theorem dX0_init_71 : decode cX0_init 71 = .ok (.bipush 12, 2) := by decide +kernel
theorem dX0_init_73 : decode cX0_init 73 = .ok (.newarray .int, 2) := by decide +kernel
theorem dX0_init_75 : decode cX0_init 75 = .ok (.putfield 38, 3) := by decide +kernel
theorem dX0_init_78 : decode cX0_init 78 = .ok (.aload_n 0, 1) := by decide +kernel
theorem dX0_init_79 : decode cX0_init 79 = .ok (.bipush 12, 2) := by decide +kernel
theorem dX0_init_81 : decode cX0_init 81 = .ok (.newarray .int, 2) := by decide +kernel
theorem dX0_init_83 : decode cX0_init 83 = .ok (.putfield 41, 3) := by decide +kernel
theorem dX0_init_86 : decode cX0_init 86 = .ok (.aload_n 0, 1) := by decide +kernel
theorem dX0_init_87 : decode cX0_init 87 = .ok (.bipush 12, 2) := by decide +kernel
theorem dX0_init_89 : decode cX0_init 89 = .ok (.newarray .int, 2) := by decide +kernel
theorem dX0_init_91 : decode cX0_init 91 = .ok (.putfield 44, 3) := by decide +kernel
theorem dX0_init_94 : decode cX0_init 94 = .ok (.aload_n 0, 1) := by decide +kernel
theorem dX0_init_95 : decode cX0_init 95 = .ok (.bipush 12, 2) := by decide +kernel
theorem dX0_init_97 : decode cX0_init 97 = .ok (.newarray .int, 2) := by decide +kernel
theorem dX0_init_99 : decode cX0_init 99 = .ok (.putfield 47, 3) := by decide +kernel
theorem dX0_init_102 : decode cX0_init 102 = .ok (.aload_n 0, 1) := by decide +kernel
theorem dX0_init_103 : decode cX0_init 103 = .ok (.bipush 12, 2) := by decide +kernel
theorem dX0_init_105 : decode cX0_init 105 = .ok (.newarray .int, 2) := by decide +kernel
theorem dX0_init_107 : decode cX0_init 107 = .ok (.putfield 50, 3) := by decide +kernel
theorem dX0_init_110 : decode cX0_init 110 = .ok (.aload_n 0, 1) := by decide +kernel
theorem dX0_init_111 : decode cX0_init 111 = .ok (.bipush 12, 2) := by decide +kernel
theorem dX0_init_113 : decode cX0_init 113 = .ok (.newarray .int, 2) := by decide +kernel
theorem dX0_init_115 : decode cX0_init 115 = .ok (.putfield 53, 3) := by decide +kernel
theorem dX0_init_118 : decode cX0_init 118 = .ok (.aload_n 0, 1) := by decide +kernel
theorem dX0_init_119 : decode cX0_init 119 = .ok (.bipush 12, 2) := by decide +kernel
theorem dX0_init_121 : decode cX0_init 121 = .ok (.newarray .boolean, 2) := by decide +kernel
theorem dX0_init_123 : decode cX0_init 123 = .ok (.putfield 56, 3) := by decide +kernel
theorem dX0_init_126 : decode cX0_init 126 = .ok (.iconst 0, 1) := by decide +kernel
theorem dX0_init_127 : decode cX0_init 127 = .ok (.istore_n 1, 1) := by decide +kernel
theorem dX0_init_128 : decode cX0_init 128 = .ok (.iload_n 1, 1) := by decide +kernel
theorem dX0_init_129 : decode cX0_init 129 = .ok (.iconst 4, 1) := by decide +kernel
theorem dX0_init_130 : decode cX0_init 130 = .ok (.if_icmp .ge 16, 3) := by decide +kernel
theorem dX0_init_133 : decode cX0_init 133 = .ok (.aload_n 0, 1) := by decide +kernel
theorem dX0_init_134 : decode cX0_init 134 = .ok (.getfield 9, 3) := by decide +kernel
theorem dX0_init_137 : decode cX0_init 137 = .ok (.iload_n 1, 1) := by decide +kernel
theorem dX0_init_138 : decode cX0_init 138 = .ok (.iconst 1, 1) := by decide +kernel
theorem dX0_init_139 : decode cX0_init 139 = .ok (.bastore, 1) := by decide +kernel
theorem dX0_init_140 : decode cX0_init 140 = .ok (.iinc 1 1, 3) := by decide +kernel
theorem dX0_init_143 : decode cX0_init 143 = .ok (.goto (-15), 3) := by decide +kernel
theorem dX0_init_146 : decode cX0_init 146 = .ok (.iconst 0, 1) := by decide +kernel
theorem dX0_init_147 : decode cX0_init 147 = .ok (.istore_n 1, 1) := by decide +kernel
theorem dX0_init_148 : decode cX0_init 148 = .ok (.iload_n 1, 1) := by decide +kernel
theorem dX0_init_149 : decode cX0_init 149 = .ok (.bipush 16, 2) := by decide +kernel
theorem dX0_init_151 : decode cX0_init 151 = .ok (.if_icmp .ge 16, 3) := by decide +kernel
theorem dX0_init_154 : decode cX0_init 154 = .ok (.aload_n 0, 1) := by decide +kernel
theorem dX0_init_155 : decode cX0_init 155 = .ok (.getfield 13, 3) := by decide +kernel
theorem dX0_init_158 : decode cX0_init 158 = .ok (.iload_n 1, 1) := by decide +kernel
theorem dX0_init_159 : decode cX0_init 159 = .ok (.iconst 1, 1) := by decide +kernel
theorem dX0_init_160 : decode cX0_init 160 = .ok (.bastore, 1) := by decide +kernel
theorem dX0_init_161 : decode cX0_init 161 = .ok (.iinc 1 1, 3) := by decide +kernel
theorem dX0_init_164 : decode cX0_init 164 = .ok (.goto (-16), 3) := by decide +kernel
theorem dX0_init_167 : decode cX0_init 167 = .ok (.iconst 0, 1) := by decide +kernel
theorem dX0_init_168 : decode cX0_init 168 = .ok (.istore_n 1, 1) := by decide +kernel
theorem dX0_init_169 : decode cX0_init 169 = .ok (.iload_n 1, 1) := by decide +kernel
theorem dX0_init_170 : decode cX0_init 170 = .ok (.bipush 8, 2) := by decide +kernel
theorem dX0_init_172 : decode cX0_init 172 = .ok (.if_icmp .ge 16, 3) := by decide +kernel
theorem dX0_init_175 : decode cX0_init 175 = .ok (.aload_n 0, 1) := by decide +kernel
theorem dX0_init_176 : decode cX0_init 176 = .ok (.getfield 16, 3) := by decide +kernel
theorem dX0_init_179 : decode cX0_init 179 = .ok (.iload_n 1, 1) := by decide +kernel
theorem dX0_init_180 : decode cX0_init 180 = .ok (.iconst 1, 1) := by decide +kernel
theorem dX0_init_181 : decode cX0_init 181 = .ok (.bastore, 1) := by decide +kernel
theorem dX0_init_182 : decode cX0_init 182 = .ok (.iinc 1 1, 3) := by decide +kernel
theorem dX0_init_185 : decode cX0_init 185 = .ok (.goto (-16), 3) := by decide +kernel
theorem dX0_init_188 : decode cX0_init 188 = .ok (.iconst 0, 1) := by decide +kernel
theorem dX0_init_189 : decode cX0_init 189 = .ok (.istore_n 1, 1) := by decide +kernel
theorem dX0_init_190 : decode cX0_init 190 = .ok (.iload_n 1, 1) := by decide +kernel
theorem dX0_init_191 : decode cX0_init 191 = .ok (.iconst 3, 1) := by decide +kernel
theorem dX0_init_192 : decode cX0_init 192 = .ok (.if_icmp .ge 23, 3) := by decide +kernel
theorem dX0_init_195 : decode cX0_init 195 = .ok (.aload_n 0, 1) := by decide +kernel
theorem dX0_init_196 : decode cX0_init 196 = .ok (.getfield 23, 3) := by decide +kernel
theorem dX0_init_199 : decode cX0_init 199 = .ok (.iload_n 1, 1) := by decide +kernel
theorem dX0_init_200 : decode cX0_init 200 = .ok (.iconst 4, 1) := by decide +kernel
theorem dX0_init_201 : decode cX0_init 201 = .ok (.iastore, 1) := by decide +kernel
theorem dX0_init_202 : decode cX0_init 202 = .ok (.aload_n 0, 1) := by decide +kernel
theorem dX0_init_203 : decode cX0_init 203 = .ok (.getfield 26, 3) := by decide +kernel
theorem dX0_init_206 : decode cX0_init 206 = .ok (.iload_n 1, 1) := by decide +kernel
theorem dX0_init_207 : decode cX0_init 207 = .ok (.iconst 1, 1) := by decide +kernel
theorem dX0_init_208 : decode cX0_init 208 = .ok (.bastore, 1) := by decide +kernel
theorem dX0_init_209 : decode cX0_init 209 = .ok (.iinc 1 1, 3) := by decide +kernel
theorem dX0_init_212 : decode cX0_init 212 = .ok (.goto (-22), 3) := by decide +kernel
theorem dX0_init_215 : decode cX0_init 215 = .ok (.return_, 1) := by decide +kernel
set_option maxRecDepth 20000 in
theorem ggX0_setPriority_X0_checkRouter : GoodIn wsX0_setPriority wsX0_checkRouter := goodIn_ca (goodIn_r _ [7, 8, 9] (by decide +kernel) (by decide +kernel)) (goodIn_sub (fun _ h => List.mem_cons_of_mem _ (List.mem_append_right _ h)) (by decide +kernel))
set_option maxRecDepth 20000 in
theorem gX0_setPriority_X0_checkRouter : GoodIn wsX0_setPriority (va_wsS RX0 59 yX0_checkRouter wsX0_checkRouter) := goodIn_app (goodIn_of _ (by decide +kernel)) ggX0_setPriority_X0_checkRouter
set_option maxRecDepth 20000 in
theorem ggX0_setPriority_X0_checkGroup : GoodIn wsX0_setPriority wsX0_checkGroup := goodIn_ca (goodIn_r _ [12, 8, 9] (by decide +kernel) (by decide +kernel)) (goodIn_sub (fun _ h => List.mem_cons_of_mem _ (List.mem_append_right _ h)) (by decide +kernel))
set_option maxRecDepth 20000 in
theorem gX0_setPriority_X0_checkGroup : GoodIn wsX0_setPriority (va_wsS RX0 63 yX0_checkGroup wsX0_checkGroup) := goodIn_app (goodIn_of _ (by decide +kernel)) ggX0_setPriority_X0_checkGroup
set_option maxRecDepth 20000 in
theorem ggX0_setPriority_X0_checkRange : GoodIn wsX0_setPriority wsX0_checkRange := goodIn_ca (goodIn_r _ [15, 8, 9] (by decide +kernel) (by decide +kernel)) (goodIn_sub (fun _ h => List.mem_cons_of_mem _ (List.mem_append_right _ h)) (by decide +kernel))
set_option maxRecDepth 20000 in
theorem gX0_setPriority_X0_checkRange : GoodIn wsX0_setPriority (va_wsS RX0 66 yX0_checkRange wsX0_checkRange) := goodIn_app (goodIn_of _ (by decide +kernel)) ggX0_setPriority_X0_checkRange
set_option maxRecDepth 20000 in
theorem ggX0_setPriority_X0_placeOf : GoodIn wsX0_setPriority wsX0_placeOf := goodIn_r _ [18] (by decide +kernel) (by decide +kernel)
set_option maxRecDepth 20000 in
theorem gX0_setPriority_X0_placeOf : GoodIn wsX0_setPriority (va_wsS RX0 70 yX0_placeOf wsX0_placeOf) := goodIn_app (goodIn_of _ (by decide +kernel)) ggX0_setPriority_X0_placeOf
set_option maxRecDepth 20000 in
theorem ggX0_setPriority_X0_advertise : GoodIn wsX0_setPriority wsX0_advertise := goodIn_r _ [22, 23, 24, 2, 16, 17, 6, 18, 25, 26, 27, 28, 29, 30, 31, 32, 1, 33, 34, 35, 36, 37, 38, 39, 40, 41, 42, 43, 44, 45, 46, 47, 48, 49, 50, 51, 52, 53, 54, 55, 56, 57, 58, 59, 60, 61, 62, 63, 64, 65, 66, 67, 68, 69, 74, 75, 76, 77, 78, 79, 80, 81, 82, 83, 84, 85, 86, 87, 88, 89, 90, 91] (by decide +kernel) (by decide +kernel)
set_option maxRecDepth 20000 in
theorem gX0_setPriority_X0_advertise : GoodIn wsX0_setPriority (wsV RX0 74 RX0 yX0_advertise wsX0_advertise) := goodIn_app (goodIn_of _ (by decide +kernel)) ggX0_setPriority_X0_advertise
set_option maxRecDepth 20000 in
theorem ggX0_setPriority_X0_beginPart : GoodIn wsX0_setPriority wsX0_beginPart := goodIn_r _ [73, 62, 42, 43, 44, 6, 45, 2, 46, 47, 16, 17, 18, 29, 30, 31, 32, 1, 33, 34, 35, 36, 37, 38, 39, 40, 41, 48, 49, 50, 51, 52, 53, 54, 55, 56, 74, 75, 76, 77, 78, 79, 80, 81, 82, 83, 84, 85, 86, 87, 88, 89, 90, 91] (by decide +kernel) (by decide +kernel)
set_option maxRecDepth 20000 in
theorem gX0_setPriority_X0_beginPart : GoodIn wsX0_setPriority (wsV RX0 77 RX0 yX0_beginPart wsX0_beginPart) := goodIn_app (goodIn_of _ (by decide +kernel)) ggX0_setPriority_X0_beginPart
theorem dX0_setPriority_0 : decode cX0_setPriority 0 = .ok (.iload_n 1, 1) := by decide +kernel
theorem dX0_setPriority_1 : decode cX0_setPriority 1 = .ok (.invokestatic 59, 3) := by decide +kernel
theorem dX0_setPriority_4 : decode cX0_setPriority 4 = .ok (.iload_n 2, 1) := by decide +kernel
theorem dX0_setPriority_5 : decode cX0_setPriority 5 = .ok (.invokestatic 63, 3) := by decide +kernel
theorem dX0_setPriority_8 : decode cX0_setPriority 8 = .ok (.iload_n 3, 1) := by decide +kernel
theorem dX0_setPriority_9 : decode cX0_setPriority 9 = .ok (.iconst 0, 1) := by decide +kernel
theorem dX0_setPriority_10 : decode cX0_setPriority 10 = .ok (.sipush 254, 3) := by decide +kernel
theorem dX0_setPriority_13 : decode cX0_setPriority 13 = .ok (.invokestatic 66, 3) := by decide +kernel
theorem dX0_setPriority_16 : decode cX0_setPriority 16 = .ok (.iload_n 1, 1) := by decide +kernel
theorem dX0_setPriority_17 : decode cX0_setPriority 17 = .ok (.iload_n 2, 1) := by decide +kernel
theorem dX0_setPriority_18 : decode cX0_setPriority 18 = .ok (.invokestatic 70, 3) := by decide +kernel
theorem dX0_setPriority_21 : decode cX0_setPriority 21 = .ok (.istore 4, 2) := by decide +kernel
theorem dX0_setPriority_23 : decode cX0_setPriority 23 = .ok (.aload_n 0, 1) := by decide +kernel
theorem dX0_setPriority_24 : decode cX0_setPriority 24 = .ok (.getfield 38, 3) := by decide +kernel
theorem dX0_setPriority_27 : decode cX0_setPriority 27 = .ok (.iload 4, 2) := by decide +kernel
theorem dX0_setPriority_29 : decode cX0_setPriority 29 = .ok (.iaload, 1) := by decide +kernel
theorem dX0_setPriority_30 : decode cX0_setPriority 30 = .ok (.istore 5, 2) := by decide +kernel
theorem dX0_setPriority_32 : decode cX0_setPriority 32 = .ok (.iload_n 3, 1) := by decide +kernel
theorem dX0_setPriority_33 : decode cX0_setPriority 33 = .ok (.ifCond .ne 21, 3) := by decide +kernel
theorem dX0_setPriority_36 : decode cX0_setPriority 36 = .ok (.aload_n 0, 1) := by decide +kernel
theorem dX0_setPriority_37 : decode cX0_setPriority 37 = .ok (.getfield 41, 3) := by decide +kernel
theorem dX0_setPriority_40 : decode cX0_setPriority 40 = .ok (.iload 4, 2) := by decide +kernel
theorem dX0_setPriority_42 : decode cX0_setPriority 42 = .ok (.iaload, 1) := by decide +kernel
theorem dX0_setPriority_43 : decode cX0_setPriority 43 = .ok (.iconst 2, 1) := by decide +kernel
theorem dX0_setPriority_44 : decode cX0_setPriority 44 = .ok (.if_icmp .ne 10, 3) := by decide +kernel
theorem dX0_setPriority_47 : decode cX0_setPriority 47 = .ok (.aload_n 0, 1) := by decide +kernel
theorem dX0_setPriority_48 : decode cX0_setPriority 48 = .ok (.iload_n 1, 1) := by decide +kernel
theorem dX0_setPriority_49 : decode cX0_setPriority 49 = .ok (.iload_n 2, 1) := by decide +kernel
theorem dX0_setPriority_50 : decode cX0_setPriority 50 = .ok (.iconst 0, 1) := by decide +kernel
theorem dX0_setPriority_51 : decode cX0_setPriority 51 = .ok (.invokevirtual 74, 3) := by decide +kernel
theorem dX0_setPriority_54 : decode cX0_setPriority 54 = .ok (.aload_n 0, 1) := by decide +kernel
theorem dX0_setPriority_55 : decode cX0_setPriority 55 = .ok (.getfield 38, 3) := by decide +kernel
theorem dX0_setPriority_58 : decode cX0_setPriority 58 = .ok (.iload 4, 2) := by decide +kernel
theorem dX0_setPriority_60 : decode cX0_setPriority 60 = .ok (.iload_n 3, 1) := by decide +kernel
theorem dX0_setPriority_61 : decode cX0_setPriority 61 = .ok (.iastore, 1) := by decide +kernel
theorem dX0_setPriority_62 : decode cX0_setPriority 62 = .ok (.iload_n 3, 1) := by decide +kernel
theorem dX0_setPriority_63 : decode cX0_setPriority 63 = .ok (.ifCond .ne 14, 3) := by decide +kernel
theorem dX0_setPriority_66 : decode cX0_setPriority 66 = .ok (.aload_n 0, 1) := by decide +kernel
theorem dX0_setPriority_67 : decode cX0_setPriority 67 = .ok (.getfield 41, 3) := by decide +kernel
theorem dX0_setPriority_70 : decode cX0_setPriority 70 = .ok (.iload 4, 2) := by decide +kernel
theorem dX0_setPriority_72 : decode cX0_setPriority 72 = .ok (.iconst 0, 1) := by decide +kernel
theorem dX0_setPriority_73 : decode cX0_setPriority 73 = .ok (.iastore, 1) := by decide +kernel
theorem dX0_setPriority_74 : decode cX0_setPriority 74 = .ok (.goto 28, 3) := by decide +kernel
theorem dX0_setPriority_77 : decode cX0_setPriority 77 = .ok (.aload_n 0, 1) := by decide +kernel
theorem dX0_setPriority_78 : decode cX0_setPriority 78 = .ok (.getfield 9, 3) := by decide +kernel
theorem dX0_setPriority_81 : decode cX0_setPriority 81 = .ok (.iload_n 1, 1) := by decide +kernel
theorem dX0_setPriority_82 : decode cX0_setPriority 82 = .ok (.baload, 1) := by decide +kernel
theorem dX0_setPriority_83 : decode cX0_setPriority 83 = .ok (.ifCond .eq 19, 3) := by decide +kernel
theorem dX0_setPriority_86 : decode cX0_setPriority 86 = .ok (.aload_n 0, 1) := by decide +kernel
theorem dX0_setPriority_87 : decode cX0_setPriority 87 = .ok (.getfield 41, 3) := by decide +kernel
theorem dX0_setPriority_90 : decode cX0_setPriority 90 = .ok (.iload 4, 2) := by decide +kernel
theorem dX0_setPriority_92 : decode cX0_setPriority 92 = .ok (.iaload, 1) := by decide +kernel
theorem dX0_setPriority_93 : decode cX0_setPriority 93 = .ok (.ifCond .ne 9, 3) := by decide +kernel
theorem dX0_setPriority_96 : decode cX0_setPriority 96 = .ok (.aload_n 0, 1) := by decide +kernel
theorem dX0_setPriority_97 : decode cX0_setPriority 97 = .ok (.iload_n 1, 1) := by decide +kernel
theorem dX0_setPriority_98 : decode cX0_setPriority 98 = .ok (.iload_n 2, 1) := by decide +kernel
theorem dX0_setPriority_99 : decode cX0_setPriority 99 = .ok (.invokevirtual 77, 3) := by decide +kernel
theorem dX0_setPriority_102 : decode cX0_setPriority 102 = .ok (.iload 5, 2) := by decide +kernel
theorem dX0_setPriority_104 : decode cX0_setPriority 104 = .ok (.ireturn, 1) := by decide +kernel
set_option maxRecDepth 20000 in
theorem ggX0_track_X0_checkRouter : GoodIn wsX0_track wsX0_checkRouter := goodIn_ca (goodIn_r _ [5, 6, 7] (by decide +kernel) (by decide +kernel)) (goodIn_sub (fun _ h => List.mem_cons_of_mem _ (List.mem_append_right _ h)) (by decide +kernel))
set_option maxRecDepth 20000 in
theorem gX0_track_X0_checkRouter : GoodIn wsX0_track (va_wsS RX0 59 yX0_checkRouter wsX0_checkRouter) := goodIn_app (goodIn_of _ (by decide +kernel)) ggX0_track_X0_checkRouter
set_option maxRecDepth 20000 in
theorem ggX0_track_X0_checkLink : GoodIn wsX0_track wsX0_checkLink := goodIn_ca (goodIn_r _ [10, 6, 7] (by decide +kernel) (by decide +kernel)) (goodIn_sub (fun _ h => List.mem_cons_of_mem _ (List.mem_append_right _ h)) (by decide +kernel))
set_option maxRecDepth 20000 in
theorem gX0_track_X0_checkLink : GoodIn wsX0_track (va_wsS RX0 81 yX0_checkLink wsX0_checkLink) := goodIn_app (goodIn_of _ (by decide +kernel)) ggX0_track_X0_checkLink
set_option maxRecDepth 20000 in
theorem ggX0_track_X0_checkRange : GoodIn wsX0_track wsX0_checkRange := goodIn_ca (goodIn_r _ [13, 6, 7] (by decide +kernel) (by decide +kernel)) (goodIn_sub (fun _ h => List.mem_cons_of_mem _ (List.mem_append_right _ h)) (by decide +kernel))
set_option maxRecDepth 20000 in
theorem gX0_track_X0_checkRange : GoodIn wsX0_track (va_wsS RX0 66 yX0_checkRange wsX0_checkRange) := goodIn_app (goodIn_of _ (by decide +kernel)) ggX0_track_X0_checkRange
set_option maxRecDepth 20000 in
theorem ggX0_track_X0_linkOf : GoodIn wsX0_track wsX0_linkOf := goodIn_r _ [16] (by decide +kernel) (by decide +kernel)
set_option maxRecDepth 20000 in
theorem gX0_track_X0_linkOf : GoodIn wsX0_track (va_wsS RX0 84 yX0_linkOf wsX0_linkOf) := goodIn_app (goodIn_of _ (by decide +kernel)) ggX0_track_X0_linkOf
theorem dX0_track_0 : decode cX0_track 0 = .ok (.iload_n 1, 1) := by decide +kernel
theorem dX0_track_1 : decode cX0_track 1 = .ok (.invokestatic 59, 3) := by decide +kernel
theorem dX0_track_4 : decode cX0_track 4 = .ok (.iload_n 2, 1) := by decide +kernel
theorem dX0_track_5 : decode cX0_track 5 = .ok (.invokestatic 81, 3) := by decide +kernel
theorem dX0_track_8 : decode cX0_track 8 = .ok (.iload_n 3, 1) := by decide +kernel
theorem dX0_track_9 : decode cX0_track 9 = .ok (.iconst 0, 1) := by decide +kernel
theorem dX0_track_10 : decode cX0_track 10 = .ok (.bipush 100, 2) := by decide +kernel
theorem dX0_track_12 : decode cX0_track 12 = .ok (.invokestatic 66, 3) := by decide +kernel
theorem dX0_track_15 : decode cX0_track 15 = .ok (.iload_n 1, 1) := by decide +kernel
theorem dX0_track_16 : decode cX0_track 16 = .ok (.iload_n 2, 1) := by decide +kernel
theorem dX0_track_17 : decode cX0_track 17 = .ok (.invokestatic 84, 3) := by decide +kernel
theorem dX0_track_20 : decode cX0_track 20 = .ok (.istore 4, 2) := by decide +kernel
theorem dX0_track_22 : decode cX0_track 22 = .ok (.aload_n 0, 1) := by decide +kernel
theorem dX0_track_23 : decode cX0_track 23 = .ok (.getfield 19, 3) := by decide +kernel
theorem dX0_track_26 : decode cX0_track 26 = .ok (.iload 4, 2) := by decide +kernel
theorem dX0_track_28 : decode cX0_track 28 = .ok (.iaload, 1) := by decide +kernel
theorem dX0_track_29 : decode cX0_track 29 = .ok (.istore 5, 2) := by decide +kernel
theorem dX0_track_31 : decode cX0_track 31 = .ok (.aload_n 0, 1) := by decide +kernel
theorem dX0_track_32 : decode cX0_track 32 = .ok (.getfield 19, 3) := by decide +kernel
theorem dX0_track_35 : decode cX0_track 35 = .ok (.iload 4, 2) := by decide +kernel
theorem dX0_track_37 : decode cX0_track 37 = .ok (.iload_n 3, 1) := by decide +kernel
theorem dX0_track_38 : decode cX0_track 38 = .ok (.iastore, 1) := by decide +kernel
theorem dX0_track_39 : decode cX0_track 39 = .ok (.iload 5, 2) := by decide +kernel
theorem dX0_track_41 : decode cX0_track 41 = .ok (.ireturn, 1) := by decide +kernel
set_option maxRecDepth 20000 in
theorem ggX0_setLink_X0_checkRouter : GoodIn wsX0_setLink wsX0_checkRouter := goodIn_ca (goodIn_r _ [5, 6, 7] (by decide +kernel) (by decide +kernel)) (goodIn_sub (fun _ h => List.mem_cons_of_mem _ (List.mem_append_right _ h)) (by decide +kernel))
set_option maxRecDepth 20000 in
theorem gX0_setLink_X0_checkRouter : GoodIn wsX0_setLink (va_wsS RX0 59 yX0_checkRouter wsX0_checkRouter) := goodIn_app (goodIn_of _ (by decide +kernel)) ggX0_setLink_X0_checkRouter
set_option maxRecDepth 20000 in
theorem ggX0_setLink_X0_checkLink : GoodIn wsX0_setLink wsX0_checkLink := goodIn_ca (goodIn_r _ [10, 6, 7] (by decide +kernel) (by decide +kernel)) (goodIn_sub (fun _ h => List.mem_cons_of_mem _ (List.mem_append_right _ h)) (by decide +kernel))
set_option maxRecDepth 20000 in
theorem gX0_setLink_X0_checkLink : GoodIn wsX0_setLink (va_wsS RX0 81 yX0_checkLink wsX0_checkLink) := goodIn_app (goodIn_of _ (by decide +kernel)) ggX0_setLink_X0_checkLink
set_option maxRecDepth 20000 in
theorem ggX0_setLink_X0_linkOf : GoodIn wsX0_setLink wsX0_linkOf := goodIn_r _ [13] (by decide +kernel) (by decide +kernel)
set_option maxRecDepth 20000 in
theorem gX0_setLink_X0_linkOf : GoodIn wsX0_setLink (va_wsS RX0 84 yX0_linkOf wsX0_linkOf) := goodIn_app (goodIn_of _ (by decide +kernel)) ggX0_setLink_X0_linkOf
theorem dX0_setLink_0 : decode cX0_setLink 0 = .ok (.iload_n 1, 1) := by decide +kernel
theorem dX0_setLink_1 : decode cX0_setLink 1 = .ok (.invokestatic 59, 3) := by decide +kernel
theorem dX0_setLink_4 : decode cX0_setLink 4 = .ok (.iload_n 2, 1) := by decide +kernel
theorem dX0_setLink_5 : decode cX0_setLink 5 = .ok (.invokestatic 81, 3) := by decide +kernel
theorem dX0_setLink_8 : decode cX0_setLink 8 = .ok (.iload_n 1, 1) := by decide +kernel
theorem dX0_setLink_9 : decode cX0_setLink 9 = .ok (.iload_n 2, 1) := by decide +kernel
theorem dX0_setLink_10 : decode cX0_setLink 10 = .ok (.invokestatic 84, 3) := by decide +kernel
theorem dX0_setLink_13 : decode cX0_setLink 13 = .ok (.istore 4, 2) := by decide +kernel
theorem dX0_setLink_15 : decode cX0_setLink 15 = .ok (.aload_n 0, 1) := by decide +kernel
theorem dX0_setLink_16 : decode cX0_setLink 16 = .ok (.getfield 16, 3) := by decide +kernel
theorem dX0_setLink_19 : decode cX0_setLink 19 = .ok (.iload 4, 2) := by decide +kernel
theorem dX0_setLink_21 : decode cX0_setLink 21 = .ok (.baload, 1) := by decide +kernel
theorem dX0_setLink_22 : decode cX0_setLink 22 = .ok (.istore 5, 2) := by decide +kernel
theorem dX0_setLink_24 : decode cX0_setLink 24 = .ok (.aload_n 0, 1) := by decide +kernel
theorem dX0_setLink_25 : decode cX0_setLink 25 = .ok (.getfield 16, 3) := by decide +kernel
theorem dX0_setLink_28 : decode cX0_setLink 28 = .ok (.iload 4, 2) := by decide +kernel
theorem dX0_setLink_30 : decode cX0_setLink 30 = .ok (.iload_n 3, 1) := by decide +kernel
theorem dX0_setLink_31 : decode cX0_setLink 31 = .ok (.bastore, 1) := by decide +kernel
theorem dX0_setLink_32 : decode cX0_setLink 32 = .ok (.iload 5, 2) := by decide +kernel
theorem dX0_setLink_34 : decode cX0_setLink 34 = .ok (.ireturn, 1) := by decide +kernel
set_option maxRecDepth 20000 in
theorem ggX0_setPeriod_X0_checkGroup : GoodIn wsX0_setPeriod wsX0_checkGroup := goodIn_ca (goodIn_r _ [5, 6, 7] (by decide +kernel) (by decide +kernel)) (goodIn_sub (fun _ h => List.mem_cons_of_mem _ (List.mem_append_right _ h)) (by decide +kernel))
set_option maxRecDepth 20000 in
theorem gX0_setPeriod_X0_checkGroup : GoodIn wsX0_setPeriod (va_wsS RX0 63 yX0_checkGroup wsX0_checkGroup) := goodIn_app (goodIn_of _ (by decide +kernel)) ggX0_setPeriod_X0_checkGroup
set_option maxRecDepth 20000 in
theorem ggX0_setPeriod_X0_checkRange : GoodIn wsX0_setPeriod wsX0_checkRange := goodIn_ca (goodIn_r _ [10, 6, 7] (by decide +kernel) (by decide +kernel)) (goodIn_sub (fun _ h => List.mem_cons_of_mem _ (List.mem_append_right _ h)) (by decide +kernel))
set_option maxRecDepth 20000 in
theorem gX0_setPeriod_X0_checkRange : GoodIn wsX0_setPeriod (va_wsS RX0 66 yX0_checkRange wsX0_checkRange) := goodIn_app (goodIn_of _ (by decide +kernel)) ggX0_setPeriod_X0_checkRange
theorem dX0_setPeriod_0 : decode cX0_setPeriod 0 = .ok (.iload_n 1, 1) := by decide +kernel
theorem dX0_setPeriod_1 : decode cX0_setPeriod 1 = .ok (.invokestatic 63, 3) := by decide +kernel
theorem dX0_setPeriod_4 : decode cX0_setPeriod 4 = .ok (.iload_n 2, 1) := by decide +kernel
theorem dX0_setPeriod_5 : decode cX0_setPeriod 5 = .ok (.iconst 1, 1) := by decide +kernel
theorem dX0_setPeriod_6 : decode cX0_setPeriod 6 = .ok (.bipush 10, 2) := by decide +kernel
theorem dX0_setPeriod_8 : decode cX0_setPeriod 8 = .ok (.invokestatic 66, 3) := by decide +kernel
theorem dX0_setPeriod_11 : decode cX0_setPeriod 11 = .ok (.aload_n 0, 1) := by decide +kernel
theorem dX0_setPeriod_12 : decode cX0_setPeriod 12 = .ok (.getfield 23, 3) := by decide +kernel
theorem dX0_setPeriod_15 : decode cX0_setPeriod 15 = .ok (.iload_n 1, 1) := by decide +kernel
theorem dX0_setPeriod_16 : decode cX0_setPeriod 16 = .ok (.iaload, 1) := by decide +kernel
theorem dX0_setPeriod_17 : decode cX0_setPeriod 17 = .ok (.istore_n 3, 1) := by decide +kernel
theorem dX0_setPeriod_18 : decode cX0_setPeriod 18 = .ok (.aload_n 0, 1) := by decide +kernel
theorem dX0_setPeriod_19 : decode cX0_setPeriod 19 = .ok (.getfield 23, 3) := by decide +kernel
theorem dX0_setPeriod_22 : decode cX0_setPeriod 22 = .ok (.iload_n 1, 1) := by decide +kernel
theorem dX0_setPeriod_23 : decode cX0_setPeriod 23 = .ok (.iload_n 2, 1) := by decide +kernel
theorem dX0_setPeriod_24 : decode cX0_setPeriod 24 = .ok (.iastore, 1) := by decide +kernel
theorem dX0_setPeriod_25 : decode cX0_setPeriod 25 = .ok (.iload_n 3, 1) := by decide +kernel
theorem dX0_setPeriod_26 : decode cX0_setPeriod 26 = .ok (.ireturn, 1) := by decide +kernel
set_option maxRecDepth 20000 in
theorem ggX0_setPreemption_X0_checkGroup : GoodIn wsX0_setPreemption wsX0_checkGroup := goodIn_ca (goodIn_r _ [6, 7, 8] (by decide +kernel) (by decide +kernel)) (goodIn_sub (fun _ h => List.mem_cons_of_mem _ (List.mem_append_right _ h)) (by decide +kernel))
set_option maxRecDepth 20000 in
theorem gX0_setPreemption_X0_checkGroup : GoodIn wsX0_setPreemption (va_wsS RX0 63 yX0_checkGroup wsX0_checkGroup) := goodIn_app (goodIn_of _ (by decide +kernel)) ggX0_setPreemption_X0_checkGroup
set_option maxRecDepth 20000 in
theorem ggX0_setPreemption_X0_checkRange : GoodIn wsX0_setPreemption wsX0_checkRange := goodIn_ca (goodIn_r _ [11, 7, 8] (by decide +kernel) (by decide +kernel)) (goodIn_sub (fun _ h => List.mem_cons_of_mem _ (List.mem_append_right _ h)) (by decide +kernel))
set_option maxRecDepth 20000 in
theorem gX0_setPreemption_X0_checkRange : GoodIn wsX0_setPreemption (va_wsS RX0 66 yX0_checkRange wsX0_checkRange) := goodIn_app (goodIn_of _ (by decide +kernel)) ggX0_setPreemption_X0_checkRange
theorem dX0_setPreemption_0 : decode cX0_setPreemption 0 = .ok (.iload_n 1, 1) := by decide +kernel
theorem dX0_setPreemption_1 : decode cX0_setPreemption 1 = .ok (.invokestatic 63, 3) := by decide +kernel
theorem dX0_setPreemption_4 : decode cX0_setPreemption 4 = .ok (.iload_n 3, 1) := by decide +kernel
theorem dX0_setPreemption_5 : decode cX0_setPreemption 5 = .ok (.iconst 0, 1) := by decide +kernel
theorem dX0_setPreemption_6 : decode cX0_setPreemption 6 = .ok (.bipush 10, 2) := by decide +kernel
theorem dX0_setPreemption_8 : decode cX0_setPreemption 8 = .ok (.invokestatic 66, 3) := by decide +kernel
theorem dX0_setPreemption_11 : decode cX0_setPreemption 11 = .ok (.aload_n 0, 1) := by decide +kernel
theorem dX0_setPreemption_12 : decode cX0_setPreemption 12 = .ok (.getfield 26, 3) := by decide +kernel
theorem dX0_setPreemption_15 : decode cX0_setPreemption 15 = .ok (.iload_n 1, 1) := by decide +kernel
theorem dX0_setPreemption_16 : decode cX0_setPreemption 16 = .ok (.iload_n 2, 1) := by decide +kernel
theorem dX0_setPreemption_17 : decode cX0_setPreemption 17 = .ok (.bastore, 1) := by decide +kernel
theorem dX0_setPreemption_18 : decode cX0_setPreemption 18 = .ok (.aload_n 0, 1) := by decide +kernel
theorem dX0_setPreemption_19 : decode cX0_setPreemption 19 = .ok (.getfield 29, 3) := by decide +kernel
theorem dX0_setPreemption_22 : decode cX0_setPreemption 22 = .ok (.iload_n 1, 1) := by decide +kernel
theorem dX0_setPreemption_23 : decode cX0_setPreemption 23 = .ok (.iload_n 3, 1) := by decide +kernel
theorem dX0_setPreemption_24 : decode cX0_setPreemption 24 = .ok (.iastore, 1) := by decide +kernel
theorem dX0_setPreemption_25 : decode cX0_setPreemption 25 = .ok (.return_, 1) := by decide +kernel
set_option maxRecDepth 20000 in
theorem ggX0_join_X0_checkRouter : GoodIn wsX0_join wsX0_checkRouter := goodIn_ca (goodIn_r _ [7, 1, 2] (by decide +kernel) (by decide +kernel)) (goodIn_sub (fun _ h => List.mem_cons_of_mem _ (List.mem_append_right _ h)) (by decide +kernel))
set_option maxRecDepth 20000 in
theorem gX0_join_X0_checkRouter : GoodIn wsX0_join (va_wsS RX0 59 yX0_checkRouter wsX0_checkRouter) := goodIn_app (goodIn_of _ (by decide +kernel)) ggX0_join_X0_checkRouter
theorem dX0_join_0 : decode cX0_join 0 = .ok (.iload_n 1, 1) := by decide +kernel
theorem dX0_join_1 : decode cX0_join 1 = .ok (.invokestatic 59, 3) := by decide +kernel
theorem dX0_join_4 : decode cX0_join 4 = .ok (.iload_n 2, 1) := by decide +kernel
theorem dX0_join_5 : decode cX0_join 5 = .ok (.invokestatic 59, 3) := by decide +kernel
theorem dX0_join_8 : decode cX0_join 8 = .ok (.iload_n 1, 1) := by decide +kernel
theorem dX0_join_9 : decode cX0_join 9 = .ok (.iload_n 2, 1) := by decide +kernel
theorem dX0_join_10 : decode cX0_join 10 = .ok (.if_icmp .ne 13, 3) := by decide +kernel
theorem dX0_join_13 : decode cX0_join 13 = .ok (.new 87, 3) := by decide +kernel
theorem dX0_join_16 : decode cX0_join 16 = .ok (.dup, 1) := by decide +kernel
theorem dX0_join_17 : decode cX0_join 17 = .ok (.ldc 89, 2) := by decide +kernel
theorem dX0_join_19 : decode cX0_join 19 = .ok (.invokespecial 91, 3) := by decide +kernel
theorem dX0_join_22 : decode cX0_join 22 = .ok (.athrow, 1) := by decide +kernel
theorem dX0_join_23 : decode cX0_join 23 = .ok (.aload_n 0, 1) := by decide +kernel
theorem dX0_join_24 : decode cX0_join 24 = .ok (.getfield 13, 3) := by decide +kernel
theorem dX0_join_27 : decode cX0_join 27 = .ok (.iload_n 1, 1) := by decide +kernel
theorem dX0_join_28 : decode cX0_join 28 = .ok (.iconst 4, 1) := by decide +kernel
theorem dX0_join_29 : decode cX0_join 29 = .ok (.imul, 1) := by decide +kernel
theorem dX0_join_30 : decode cX0_join 30 = .ok (.iload_n 2, 1) := by decide +kernel
theorem dX0_join_31 : decode cX0_join 31 = .ok (.iadd, 1) := by decide +kernel
theorem dX0_join_32 : decode cX0_join 32 = .ok (.baload, 1) := by decide +kernel
theorem dX0_join_33 : decode cX0_join 33 = .ok (.istore 4, 2) := by decide +kernel
theorem dX0_join_35 : decode cX0_join 35 = .ok (.aload_n 0, 1) := by decide +kernel
theorem dX0_join_36 : decode cX0_join 36 = .ok (.getfield 13, 3) := by decide +kernel
theorem dX0_join_39 : decode cX0_join 39 = .ok (.iload_n 1, 1) := by decide +kernel
theorem dX0_join_40 : decode cX0_join 40 = .ok (.iconst 4, 1) := by decide +kernel
theorem dX0_join_41 : decode cX0_join 41 = .ok (.imul, 1) := by decide +kernel
theorem dX0_join_42 : decode cX0_join 42 = .ok (.iload_n 2, 1) := by decide +kernel
theorem dX0_join_43 : decode cX0_join 43 = .ok (.iadd, 1) := by decide +kernel
theorem dX0_join_44 : decode cX0_join 44 = .ok (.iload_n 3, 1) := by decide +kernel
theorem dX0_join_45 : decode cX0_join 45 = .ok (.bastore, 1) := by decide +kernel
theorem dX0_join_46 : decode cX0_join 46 = .ok (.aload_n 0, 1) := by decide +kernel
theorem dX0_join_47 : decode cX0_join 47 = .ok (.getfield 13, 3) := by decide +kernel
theorem dX0_join_50 : decode cX0_join 50 = .ok (.iload_n 2, 1) := by decide +kernel
theorem dX0_join_51 : decode cX0_join 51 = .ok (.iconst 4, 1) := by decide +kernel
theorem dX0_join_52 : decode cX0_join 52 = .ok (.imul, 1) := by decide +kernel
theorem dX0_join_53 : decode cX0_join 53 = .ok (.iload_n 1, 1) := by decide +kernel
theorem dX0_join_54 : decode cX0_join 54 = .ok (.iadd, 1) := by decide +kernel
theorem dX0_join_55 : decode cX0_join 55 = .ok (.iload_n 3, 1) := by decide +kernel
theorem dX0_join_56 : decode cX0_join 56 = .ok (.bastore, 1) := by decide +kernel
theorem dX0_join_57 : decode cX0_join 57 = .ok (.iload 4, 2) := by decide +kernel
theorem dX0_join_59 : decode cX0_join 59 = .ok (.ireturn, 1) := by decide +kernel
set_option maxRecDepth 20000 in
theorem ggX0_die_X0_checkRouter : GoodIn wsX0_die wsX0_checkRouter := goodIn_ca (goodIn_r _ [8, 9, 10] (by decide +kernel) (by decide +kernel)) (goodIn_sub (fun _ h => List.mem_cons_of_mem _ (List.mem_append_right _ h)) (by decide +kernel))
set_option maxRecDepth 20000 in
theorem gX0_die_X0_checkRouter : GoodIn wsX0_die (va_wsS RX0 59 yX0_checkRouter wsX0_checkRouter) := goodIn_app (goodIn_of _ (by decide +kernel)) ggX0_die_X0_checkRouter
set_option maxRecDepth 20000 in
theorem ggX0_die_X0_placeOf : GoodIn wsX0_die wsX0_placeOf := goodIn_r _ [13] (by decide +kernel) (by decide +kernel)
set_option maxRecDepth 20000 in
theorem gX0_die_X0_placeOf : GoodIn wsX0_die (va_wsS RX0 70 yX0_placeOf wsX0_placeOf) := goodIn_app (goodIn_of _ (by decide +kernel)) ggX0_die_X0_placeOf
theorem dX0_die_0 : decode cX0_die 0 = .ok (.iload_n 1, 1) := by decide +kernel
theorem dX0_die_1 : decode cX0_die 1 = .ok (.invokestatic 59, 3) := by decide +kernel
theorem dX0_die_4 : decode cX0_die 4 = .ok (.aload_n 0, 1) := by decide +kernel
theorem dX0_die_5 : decode cX0_die 5 = .ok (.getfield 9, 3) := by decide +kernel
theorem dX0_die_8 : decode cX0_die 8 = .ok (.iload_n 1, 1) := by decide +kernel
theorem dX0_die_9 : decode cX0_die 9 = .ok (.baload, 1) := by decide +kernel
theorem dX0_die_10 : decode cX0_die 10 = .ok (.ifCond .ne 13, 3) := by decide +kernel
theorem dX0_die_13 : decode cX0_die 13 = .ok (.new 94, 3) := by decide +kernel
theorem dX0_die_16 : decode cX0_die 16 = .ok (.dup, 1) := by decide +kernel
theorem dX0_die_17 : decode cX0_die 17 = .ok (.ldc 96, 2) := by decide +kernel
theorem dX0_die_19 : decode cX0_die 19 = .ok (.invokespecial 98, 3) := by decide +kernel
theorem dX0_die_22 : decode cX0_die 22 = .ok (.athrow, 1) := by decide +kernel
theorem dX0_die_23 : decode cX0_die 23 = .ok (.aload_n 0, 1) := by decide +kernel
theorem dX0_die_24 : decode cX0_die 24 = .ok (.getfield 9, 3) := by decide +kernel
theorem dX0_die_27 : decode cX0_die 27 = .ok (.iload_n 1, 1) := by decide +kernel
theorem dX0_die_28 : decode cX0_die 28 = .ok (.iconst 0, 1) := by decide +kernel
theorem dX0_die_29 : decode cX0_die 29 = .ok (.bastore, 1) := by decide +kernel
theorem dX0_die_30 : decode cX0_die 30 = .ok (.iconst 0, 1) := by decide +kernel
theorem dX0_die_31 : decode cX0_die 31 = .ok (.istore_n 2, 1) := by decide +kernel
theorem dX0_die_32 : decode cX0_die 32 = .ok (.iconst 0, 1) := by decide +kernel
theorem dX0_die_33 : decode cX0_die 33 = .ok (.istore_n 3, 1) := by decide +kernel
theorem dX0_die_34 : decode cX0_die 34 = .ok (.iload_n 3, 1) := by decide +kernel
theorem dX0_die_35 : decode cX0_die 35 = .ok (.iconst 3, 1) := by decide +kernel
theorem dX0_die_36 : decode cX0_die 36 = .ok (.if_icmp .ge 38, 3) := by decide +kernel
theorem dX0_die_39 : decode cX0_die 39 = .ok (.iload_n 1, 1) := by decide +kernel
theorem dX0_die_40 : decode cX0_die 40 = .ok (.iload_n 3, 1) := by decide +kernel
theorem dX0_die_41 : decode cX0_die 41 = .ok (.invokestatic 70, 3) := by decide +kernel
theorem dX0_die_44 : decode cX0_die 44 = .ok (.istore 4, 2) := by decide +kernel
theorem dX0_die_46 : decode cX0_die 46 = .ok (.aload_n 0, 1) := by decide +kernel
theorem dX0_die_47 : decode cX0_die 47 = .ok (.getfield 41, 3) := by decide +kernel
theorem dX0_die_50 : decode cX0_die 50 = .ok (.iload 4, 2) := by decide +kernel
theorem dX0_die_52 : decode cX0_die 52 = .ok (.iaload, 1) := by decide +kernel
theorem dX0_die_53 : decode cX0_die 53 = .ok (.iconst 2, 1) := by decide +kernel
theorem dX0_die_54 : decode cX0_die 54 = .ok (.if_icmp .ne 6, 3) := by decide +kernel
theorem dX0_die_57 : decode cX0_die 57 = .ok (.iinc 2 1, 3) := by decide +kernel
theorem dX0_die_60 : decode cX0_die 60 = .ok (.aload_n 0, 1) := by decide +kernel
theorem dX0_die_61 : decode cX0_die 61 = .ok (.getfield 41, 3) := by decide +kernel
theorem dX0_die_64 : decode cX0_die 64 = .ok (.iload 4, 2) := by decide +kernel
theorem dX0_die_66 : decode cX0_die 66 = .ok (.iconst 0, 1) := by decide +kernel
theorem dX0_die_67 : decode cX0_die 67 = .ok (.iastore, 1) := by decide +kernel
theorem dX0_die_68 : decode cX0_die 68 = .ok (.iinc 3 1, 3) := by decide +kernel
theorem dX0_die_71 : decode cX0_die 71 = .ok (.goto (-37), 3) := by decide +kernel
theorem dX0_die_74 : decode cX0_die 74 = .ok (.iload_n 2, 1) := by decide +kernel
theorem dX0_die_75 : decode cX0_die 75 = .ok (.ireturn, 1) := by decide +kernel
set_option maxRecDepth 20000 in
theorem ggX0_live_X0_checkRouter : GoodIn wsX0_live wsX0_checkRouter := goodIn_ca (goodIn_r _ [8, 9, 10] (by decide +kernel) (by decide +kernel)) (goodIn_sub (fun _ h => List.mem_cons_of_mem _ (List.mem_append_right _ h)) (by decide +kernel))
set_option maxRecDepth 20000 in
theorem gX0_live_X0_checkRouter : GoodIn wsX0_live (va_wsS RX0 59 yX0_checkRouter wsX0_checkRouter) := goodIn_app (goodIn_of _ (by decide +kernel)) ggX0_live_X0_checkRouter
set_option maxRecDepth 20000 in
theorem ggX0_live_X0_placeOf : GoodIn wsX0_live wsX0_placeOf := goodIn_r _ [13] (by decide +kernel) (by decide +kernel)
set_option maxRecDepth 20000 in
theorem gX0_live_X0_placeOf : GoodIn wsX0_live (va_wsS RX0 70 yX0_placeOf wsX0_placeOf) := goodIn_app (goodIn_of _ (by decide +kernel)) ggX0_live_X0_placeOf
set_option maxRecDepth 20000 in
theorem ggX0_live_X0_beginPart : GoodIn wsX0_live wsX0_beginPart := goodIn_r _ [17, 18, 19, 20, 21, 7, 22, 23, 24, 25, 11, 12, 13, 26, 27, 28, 29, 4, 30, 31, 32, 33, 34, 35, 36, 37, 38, 39, 40, 41, 42, 43, 44, 45, 46, 47, 48, 49, 50, 51, 52, 53, 54, 55, 56, 57, 58, 59, 60, 61, 62, 63, 64, 65] (by decide +kernel) (by decide +kernel)
set_option maxRecDepth 20000 in
theorem gX0_live_X0_beginPart : GoodIn wsX0_live (wsV RX0 77 RX0 yX0_beginPart wsX0_beginPart) := goodIn_app (goodIn_of _ (by decide +kernel)) ggX0_live_X0_beginPart
theorem dX0_live_0 : decode cX0_live 0 = .ok (.iload_n 1, 1) := by decide +kernel
theorem dX0_live_1 : decode cX0_live 1 = .ok (.invokestatic 59, 3) := by decide +kernel
theorem dX0_live_4 : decode cX0_live 4 = .ok (.aload_n 0, 1) := by decide +kernel
theorem dX0_live_5 : decode cX0_live 5 = .ok (.getfield 9, 3) := by decide +kernel
theorem dX0_live_8 : decode cX0_live 8 = .ok (.iload_n 1, 1) := by decide +kernel
theorem dX0_live_9 : decode cX0_live 9 = .ok (.baload, 1) := by decide +kernel
theorem dX0_live_10 : decode cX0_live 10 = .ok (.ifCond .eq 13, 3) := by decide +kernel
theorem dX0_live_13 : decode cX0_live 13 = .ok (.new 94, 3) := by decide +kernel
theorem dX0_live_16 : decode cX0_live 16 = .ok (.dup, 1) := by decide +kernel
theorem dX0_live_17 : decode cX0_live 17 = .ok (.ldc 99, 2) := by decide +kernel
theorem dX0_live_19 : decode cX0_live 19 = .ok (.invokespecial 98, 3) := by decide +kernel
theorem dX0_live_22 : decode cX0_live 22 = .ok (.athrow, 1) := by decide +kernel
theorem dX0_live_23 : decode cX0_live 23 = .ok (.aload_n 0, 1) := by decide +kernel
theorem dX0_live_24 : decode cX0_live 24 = .ok (.getfield 9, 3) := by decide +kernel
theorem dX0_live_27 : decode cX0_live 27 = .ok (.iload_n 1, 1) := by decide +kernel
theorem dX0_live_28 : decode cX0_live 28 = .ok (.iconst 1, 1) := by decide +kernel
theorem dX0_live_29 : decode cX0_live 29 = .ok (.bastore, 1) := by decide +kernel
theorem dX0_live_30 : decode cX0_live 30 = .ok (.iconst 0, 1) := by decide +kernel
theorem dX0_live_31 : decode cX0_live 31 = .ok (.istore_n 2, 1) := by decide +kernel
theorem dX0_live_32 : decode cX0_live 32 = .ok (.iconst 0, 1) := by decide +kernel
theorem dX0_live_33 : decode cX0_live 33 = .ok (.istore_n 3, 1) := by decide +kernel
theorem dX0_live_34 : decode cX0_live 34 = .ok (.iload_n 3, 1) := by decide +kernel
theorem dX0_live_35 : decode cX0_live 35 = .ok (.iconst 3, 1) := by decide +kernel
theorem dX0_live_36 : decode cX0_live 36 = .ok (.if_icmp .ge 31, 3) := by decide +kernel
theorem dX0_live_39 : decode cX0_live 39 = .ok (.aload_n 0, 1) := by decide +kernel
theorem dX0_live_40 : decode cX0_live 40 = .ok (.getfield 38, 3) := by decide +kernel
theorem dX0_live_43 : decode cX0_live 43 = .ok (.iload_n 1, 1) := by decide +kernel
theorem dX0_live_44 : decode cX0_live 44 = .ok (.iload_n 3, 1) := by decide +kernel
theorem dX0_live_45 : decode cX0_live 45 = .ok (.invokestatic 70, 3) := by decide +kernel
theorem dX0_live_48 : decode cX0_live 48 = .ok (.iaload, 1) := by decide +kernel
theorem dX0_live_49 : decode cX0_live 49 = .ok (.ifCond .le 12, 3) := by decide +kernel
theorem dX0_live_52 : decode cX0_live 52 = .ok (.aload_n 0, 1) := by decide +kernel
theorem dX0_live_53 : decode cX0_live 53 = .ok (.iload_n 1, 1) := by decide +kernel
theorem dX0_live_54 : decode cX0_live 54 = .ok (.iload_n 3, 1) := by decide +kernel
theorem dX0_live_55 : decode cX0_live 55 = .ok (.invokevirtual 77, 3) := by decide +kernel
theorem dX0_live_58 : decode cX0_live 58 = .ok (.iinc 2 1, 3) := by decide +kernel
theorem dX0_live_61 : decode cX0_live 61 = .ok (.iinc 3 1, 3) := by decide +kernel
theorem dX0_live_64 : decode cX0_live 64 = .ok (.goto (-30), 3) := by decide +kernel
theorem dX0_live_67 : decode cX0_live 67 = .ok (.iload_n 2, 1) := by decide +kernel
theorem dX0_live_68 : decode cX0_live 68 = .ok (.ireturn, 1) := by decide +kernel
set_option maxRecDepth 20000 in
theorem ggX0_handOver_X0_checkRouter : GoodIn wsX0_handOver wsX0_checkRouter := goodIn_ca (goodIn_r _ [7, 8, 9] (by decide +kernel) (by decide +kernel)) (goodIn_sub (fun _ h => List.mem_cons_of_mem _ (List.mem_append_right _ h)) (by decide +kernel))
set_option maxRecDepth 20000 in
theorem gX0_handOver_X0_checkRouter : GoodIn wsX0_handOver (va_wsS RX0 59 yX0_checkRouter wsX0_checkRouter) := goodIn_app (goodIn_of _ (by decide +kernel)) ggX0_handOver_X0_checkRouter
set_option maxRecDepth 20000 in
theorem ggX0_handOver_X0_checkGroup : GoodIn wsX0_handOver wsX0_checkGroup := goodIn_ca (goodIn_r _ [12, 8, 9] (by decide +kernel) (by decide +kernel)) (goodIn_sub (fun _ h => List.mem_cons_of_mem _ (List.mem_append_right _ h)) (by decide +kernel))
set_option maxRecDepth 20000 in
theorem gX0_handOver_X0_checkGroup : GoodIn wsX0_handOver (va_wsS RX0 63 yX0_checkGroup wsX0_checkGroup) := goodIn_app (goodIn_of _ (by decide +kernel)) ggX0_handOver_X0_checkGroup
set_option maxRecDepth 20000 in
theorem ggX0_handOver_X0_placeOf : GoodIn wsX0_handOver wsX0_placeOf := goodIn_r _ [15] (by decide +kernel) (by decide +kernel)
set_option maxRecDepth 20000 in
theorem gX0_handOver_X0_placeOf : GoodIn wsX0_handOver (va_wsS RX0 70 yX0_placeOf wsX0_placeOf) := goodIn_app (goodIn_of _ (by decide +kernel)) ggX0_handOver_X0_placeOf
set_option maxRecDepth 20000 in
theorem ggX0_handOver_X0_becomeBackup : GoodIn wsX0_handOver wsX0_becomeBackup := goodIn_r _ [19, 3, 20, 21, 13, 14, 6, 15, 22, 23, 24, 25, 26, 27, 28, 29, 30, 31, 32, 33, 34, 35, 36, 37, 38, 39, 40, 41, 42, 43, 44, 68, 69, 70, 71, 72, 73, 74, 75, 76, 77, 78, 79, 80, 81, 82, 83, 84, 85] (by decide +kernel) (by decide +kernel)
set_option maxRecDepth 20000 in
theorem gX0_handOver_X0_becomeBackup : GoodIn wsX0_handOver (wsV RX0 103 RX0 yX0_becomeBackup wsX0_becomeBackup) := goodIn_app (goodIn_of _ (by decide +kernel)) ggX0_handOver_X0_becomeBackup
set_option maxRecDepth 20000 in
theorem ggX0_handOver_X0_advertise : GoodIn wsX0_handOver wsX0_advertise := goodIn_r _ [48, 49, 50, 3, 13, 14, 6, 15, 51, 52, 53, 54, 22, 23, 24, 25, 26, 27, 28, 29, 30, 31, 32, 33, 34, 35, 16, 17, 18, 19, 20, 21, 36, 37, 38, 39, 40, 41, 42, 43, 44, 55, 56, 57, 58, 59, 60, 61, 62, 63, 64, 65, 66, 67, 68, 69, 70, 71, 72, 73, 74, 75, 76, 77, 78, 79, 80, 81, 82, 83, 84, 85] (by decide +kernel) (by decide +kernel)
set_option maxRecDepth 20000 in
theorem gX0_handOver_X0_advertise : GoodIn wsX0_handOver (wsV RX0 74 RX0 yX0_advertise wsX0_advertise) := goodIn_app (goodIn_of _ (by decide +kernel)) ggX0_handOver_X0_advertise
theorem dX0_handOver_0 : decode cX0_handOver 0 = .ok (.iload_n 1, 1) := by decide +kernel
theorem dX0_handOver_1 : decode cX0_handOver 1 = .ok (.invokestatic 59, 3) := by decide +kernel
theorem dX0_handOver_4 : decode cX0_handOver 4 = .ok (.iload_n 2, 1) := by decide +kernel
theorem dX0_handOver_5 : decode cX0_handOver 5 = .ok (.invokestatic 63, 3) := by decide +kernel
theorem dX0_handOver_8 : decode cX0_handOver 8 = .ok (.aload_n 0, 1) := by decide +kernel
theorem dX0_handOver_9 : decode cX0_handOver 9 = .ok (.getfield 41, 3) := by decide +kernel
theorem dX0_handOver_12 : decode cX0_handOver 12 = .ok (.iload_n 1, 1) := by decide +kernel
theorem dX0_handOver_13 : decode cX0_handOver 13 = .ok (.iload_n 2, 1) := by decide +kernel
theorem dX0_handOver_14 : decode cX0_handOver 14 = .ok (.invokestatic 70, 3) := by decide +kernel
theorem dX0_handOver_17 : decode cX0_handOver 17 = .ok (.iaload, 1) := by decide +kernel
theorem dX0_handOver_18 : decode cX0_handOver 18 = .ok (.iconst 2, 1) := by decide +kernel
theorem dX0_handOver_19 : decode cX0_handOver 19 = .ok (.if_icmp .eq 13, 3) := by decide +kernel
theorem dX0_handOver_22 : decode cX0_handOver 22 = .ok (.new 94, 3) := by decide +kernel
theorem dX0_handOver_25 : decode cX0_handOver 25 = .ok (.dup, 1) := by decide +kernel
theorem dX0_handOver_26 : decode cX0_handOver 26 = .ok (.ldc 101, 2) := by decide +kernel
theorem dX0_handOver_28 : decode cX0_handOver 28 = .ok (.invokespecial 98, 3) := by decide +kernel
theorem dX0_handOver_31 : decode cX0_handOver 31 = .ok (.athrow, 1) := by decide +kernel
theorem dX0_handOver_32 : decode cX0_handOver 32 = .ok (.aload_n 0, 1) := by decide +kernel
theorem dX0_handOver_33 : decode cX0_handOver 33 = .ok (.iload_n 1, 1) := by decide +kernel
theorem dX0_handOver_34 : decode cX0_handOver 34 = .ok (.iload_n 2, 1) := by decide +kernel
theorem dX0_handOver_35 : decode cX0_handOver 35 = .ok (.invokevirtual 103, 3) := by decide +kernel
theorem dX0_handOver_38 : decode cX0_handOver 38 = .ok (.aload_n 0, 1) := by decide +kernel
theorem dX0_handOver_39 : decode cX0_handOver 39 = .ok (.iload_n 1, 1) := by decide +kernel
theorem dX0_handOver_40 : decode cX0_handOver 40 = .ok (.iload_n 2, 1) := by decide +kernel
theorem dX0_handOver_41 : decode cX0_handOver 41 = .ok (.iconst 0, 1) := by decide +kernel
theorem dX0_handOver_42 : decode cX0_handOver 42 = .ok (.invokevirtual 74, 3) := by decide +kernel
theorem dX0_handOver_45 : decode cX0_handOver 45 = .ok (.return_, 1) := by decide +kernel
set_option maxRecDepth 20000 in
theorem ggX0_serve_X0_checkGroup : GoodIn wsX0_serve wsX0_checkGroup := goodIn_ca (goodIn_r _ [6, 7, 8] (by decide +kernel) (by decide +kernel)) (goodIn_sub (fun _ h => List.mem_cons_of_mem _ (List.mem_append_right _ h)) (by decide +kernel))
set_option maxRecDepth 20000 in
theorem gX0_serve_X0_checkGroup : GoodIn wsX0_serve (va_wsS RX0 63 yX0_checkGroup wsX0_checkGroup) := goodIn_app (goodIn_of _ (by decide +kernel)) ggX0_serve_X0_checkGroup
set_option maxRecDepth 20000 in
theorem ggX0_serve_X0_checkRange : GoodIn wsX0_serve wsX0_checkRange := goodIn_ca (goodIn_r _ [11, 7, 8] (by decide +kernel) (by decide +kernel)) (goodIn_sub (fun _ h => List.mem_cons_of_mem _ (List.mem_append_right _ h)) (by decide +kernel))
set_option maxRecDepth 20000 in
theorem gX0_serve_X0_checkRange : GoodIn wsX0_serve (va_wsS RX0 66 yX0_checkRange wsX0_checkRange) := goodIn_app (goodIn_of _ (by decide +kernel)) ggX0_serve_X0_checkRange
set_option maxRecDepth 20000 in
theorem ggX0_serve_X0_placeOf : GoodIn wsX0_serve wsX0_placeOf := goodIn_r _ [14] (by decide +kernel) (by decide +kernel)
set_option maxRecDepth 20000 in
theorem gX0_serve_X0_placeOf : GoodIn wsX0_serve (va_wsS RX0 70 yX0_placeOf wsX0_placeOf) := goodIn_app (goodIn_of _ (by decide +kernel)) ggX0_serve_X0_placeOf
theorem dX0_serve_0 : decode cX0_serve 0 = .ok (.iload_n 1, 1) := by decide +kernel
theorem dX0_serve_1 : decode cX0_serve 1 = .ok (.invokestatic 63, 3) := by decide +kernel
theorem dX0_serve_4 : decode cX0_serve 4 = .ok (.iload_n 2, 1) := by decide +kernel
theorem dX0_serve_5 : decode cX0_serve 5 = .ok (.iconst 1, 1) := by decide +kernel
theorem dX0_serve_6 : decode cX0_serve 6 = .ok (.bipush 100, 2) := by decide +kernel
theorem dX0_serve_8 : decode cX0_serve 8 = .ok (.invokestatic 66, 3) := by decide +kernel
theorem dX0_serve_11 : decode cX0_serve 11 = .ok (.iconst 0, 1) := by decide +kernel
theorem dX0_serve_12 : decode cX0_serve 12 = .ok (.istore_n 3, 1) := by decide +kernel
theorem dX0_serve_13 : decode cX0_serve 13 = .ok (.iconst 0, 1) := by decide +kernel
theorem dX0_serve_14 : decode cX0_serve 14 = .ok (.istore 4, 2) := by decide +kernel
theorem dX0_serve_16 : decode cX0_serve 16 = .ok (.iload 4, 2) := by decide +kernel
theorem dX0_serve_18 : decode cX0_serve 18 = .ok (.iconst 4, 1) := by decide +kernel
theorem dX0_serve_19 : decode cX0_serve 19 = .ok (.if_icmp .ge 42, 3) := by decide +kernel
theorem dX0_serve_22 : decode cX0_serve 22 = .ok (.iload 4, 2) := by decide +kernel
theorem dX0_serve_24 : decode cX0_serve 24 = .ok (.iload_n 1, 1) := by decide +kernel
theorem dX0_serve_25 : decode cX0_serve 25 = .ok (.invokestatic 70, 3) := by decide +kernel
theorem dX0_serve_28 : decode cX0_serve 28 = .ok (.istore 5, 2) := by decide +kernel
theorem dX0_serve_30 : decode cX0_serve 30 = .ok (.aload_n 0, 1) := by decide +kernel
theorem dX0_serve_31 : decode cX0_serve 31 = .ok (.getfield 41, 3) := by decide +kernel
theorem dX0_serve_34 : decode cX0_serve 34 = .ok (.iload 5, 2) := by decide +kernel
theorem dX0_serve_36 : decode cX0_serve 36 = .ok (.iaload, 1) := by decide +kernel
theorem dX0_serve_37 : decode cX0_serve 37 = .ok (.iconst 2, 1) := by decide +kernel
theorem dX0_serve_38 : decode cX0_serve 38 = .ok (.if_icmp .ne 17, 3) := by decide +kernel
theorem dX0_serve_41 : decode cX0_serve 41 = .ok (.aload_n 0, 1) := by decide +kernel
theorem dX0_serve_42 : decode cX0_serve 42 = .ok (.getfield 50, 3) := by decide +kernel
theorem dX0_serve_45 : decode cX0_serve 45 = .ok (.iload 5, 2) := by decide +kernel
theorem dX0_serve_47 : decode cX0_serve 47 = .ok (.dup2, 1) := by decide +kernel
theorem dX0_serve_48 : decode cX0_serve 48 = .ok (.iaload, 1) := by decide +kernel
theorem dX0_serve_49 : decode cX0_serve 49 = .ok (.iload_n 2, 1) := by decide +kernel
theorem dX0_serve_50 : decode cX0_serve 50 = .ok (.iadd, 1) := by decide +kernel
theorem dX0_serve_51 : decode cX0_serve 51 = .ok (.iastore, 1) := by decide +kernel
theorem dX0_serve_52 : decode cX0_serve 52 = .ok (.iinc 3 1, 3) := by decide +kernel
theorem dX0_serve_55 : decode cX0_serve 55 = .ok (.iinc 4 1, 3) := by decide +kernel
theorem dX0_serve_58 : decode cX0_serve 58 = .ok (.goto (-42), 3) := by decide +kernel
theorem dX0_serve_61 : decode cX0_serve 61 = .ok (.iload_n 3, 1) := by decide +kernel
theorem dX0_serve_62 : decode cX0_serve 62 = .ok (.ireturn, 1) := by decide +kernel
set_option maxRecDepth 20000 in
theorem ggX0_tick_X0_checkRange : GoodIn wsX0_tick wsX0_checkRange := goodIn_ca (goodIn_r _ [5, 6, 7] (by decide +kernel) (by decide +kernel)) (goodIn_sub (fun _ h => List.mem_cons_of_mem _ (List.mem_append_right _ h)) (by decide +kernel))
set_option maxRecDepth 20000 in
theorem gX0_tick_X0_checkRange : GoodIn wsX0_tick (va_wsS RX0 66 yX0_checkRange wsX0_checkRange) := goodIn_app (goodIn_of _ (by decide +kernel)) ggX0_tick_X0_checkRange
set_option maxRecDepth 20000 in
theorem ggX0_tick_X0_runMasters : GoodIn wsX0_tick wsX0_runMasters := goodIn_r _ [11, 12, 13, 14, 15, 16, 4, 17, 18, 19, 20, 21, 22, 23, 24, 25, 26, 27, 28, 29, 30, 31, 32, 33, 34, 35, 36, 37, 38, 39, 40, 41, 42, 43, 44, 45, 46, 47, 48, 49, 50, 51, 52, 53, 54, 55, 56, 57, 58, 59, 60, 61, 62, 63, 64, 65, 66, 67, 82, 83, 84, 85, 86, 87, 88, 89, 90, 91, 92, 93, 94, 95, 96, 97, 98, 99] (by decide +kernel) (by decide +kernel)
set_option maxRecDepth 20000 in
theorem gX0_tick_X0_runMasters : GoodIn wsX0_tick (wsV RX0 106 RX0 yX0_runMasters wsX0_runMasters) := goodIn_app (goodIn_of _ (by decide +kernel)) ggX0_tick_X0_runMasters
set_option maxRecDepth 20000 in
theorem ggX0_tick_X0_runBackups : GoodIn wsX0_tick wsX0_runBackups := goodIn_r _ [71, 12, 13, 72, 14, 15, 16, 4, 17, 18, 19, 20, 21, 22, 23, 24, 25, 26, 27, 28, 29, 30, 31, 32, 33, 34, 35, 36, 37, 38, 39, 40, 41, 42, 43, 44, 45, 46, 47, 48, 49, 50, 51, 52, 53, 54, 55, 56, 57, 58, 59, 60, 61, 62, 63, 64, 65, 66, 67, 82, 83, 84, 85, 86, 87, 88, 89, 90, 91, 92, 93, 94, 95, 96, 97, 98, 99] (by decide +kernel) (by decide +kernel)
set_option maxRecDepth 20000 in
theorem gX0_tick_X0_runBackups : GoodIn wsX0_tick (wsV RX0 109 RX0 yX0_runBackups wsX0_runBackups) := goodIn_app (goodIn_of _ (by decide +kernel)) ggX0_tick_X0_runBackups
set_option maxRecDepth 20000 in
theorem ggX0_tick_X0_noteGap : GoodIn wsX0_tick wsX0_noteGap := goodIn_r _ [76, 77, 78, 79, 80, 4, 81, 12, 15, 16, 17, 82, 83, 84, 85, 86, 87, 88, 89, 90, 91, 92, 93, 94, 95, 96, 97, 98, 99] (by decide +kernel) (by decide +kernel)
set_option maxRecDepth 20000 in
theorem gX0_tick_X0_noteGap : GoodIn wsX0_tick (wsV RX0 112 RX0 yX0_noteGap wsX0_noteGap) := goodIn_app (goodIn_of _ (by decide +kernel)) ggX0_tick_X0_noteGap
theorem dX0_tick_0 : decode cX0_tick 0 = .ok (.iload_n 1, 1) := by decide +kernel
theorem dX0_tick_1 : decode cX0_tick 1 = .ok (.iconst 1, 1) := by decide +kernel
theorem dX0_tick_2 : decode cX0_tick 2 = .ok (.bipush 50, 2) := by decide +kernel
theorem dX0_tick_4 : decode cX0_tick 4 = .ok (.invokestatic 66, 3) := by decide +kernel
theorem dX0_tick_7 : decode cX0_tick 7 = .ok (.iconst 0, 1) := by decide +kernel
theorem dX0_tick_8 : decode cX0_tick 8 = .ok (.istore_n 2, 1) := by decide +kernel
theorem dX0_tick_9 : decode cX0_tick 9 = .ok (.iload_n 2, 1) := by decide +kernel
theorem dX0_tick_10 : decode cX0_tick 10 = .ok (.iload_n 1, 1) := by decide +kernel
theorem dX0_tick_11 : decode cX0_tick 11 = .ok (.if_icmp .ge 37, 3) := by decide +kernel
theorem dX0_tick_14 : decode cX0_tick 14 = .ok (.iconst 0, 1) := by decide +kernel
theorem dX0_tick_15 : decode cX0_tick 15 = .ok (.istore_n 3, 1) := by decide +kernel
theorem dX0_tick_16 : decode cX0_tick 16 = .ok (.iload_n 3, 1) := by decide +kernel
theorem dX0_tick_17 : decode cX0_tick 17 = .ok (.iconst 3, 1) := by decide +kernel
theorem dX0_tick_18 : decode cX0_tick 18 = .ok (.if_icmp .ge 24, 3) := by decide +kernel
theorem dX0_tick_21 : decode cX0_tick 21 = .ok (.aload_n 0, 1) := by decide +kernel
theorem dX0_tick_22 : decode cX0_tick 22 = .ok (.iload_n 3, 1) := by decide +kernel
theorem dX0_tick_23 : decode cX0_tick 23 = .ok (.invokevirtual 106, 3) := by decide +kernel
theorem dX0_tick_26 : decode cX0_tick 26 = .ok (.aload_n 0, 1) := by decide +kernel
theorem dX0_tick_27 : decode cX0_tick 27 = .ok (.iload_n 3, 1) := by decide +kernel
theorem dX0_tick_28 : decode cX0_tick 28 = .ok (.invokevirtual 109, 3) := by decide +kernel
theorem dX0_tick_31 : decode cX0_tick 31 = .ok (.aload_n 0, 1) := by decide +kernel
theorem dX0_tick_32 : decode cX0_tick 32 = .ok (.iload_n 3, 1) := by decide +kernel
theorem dX0_tick_33 : decode cX0_tick 33 = .ok (.invokevirtual 112, 3) := by decide +kernel
theorem dX0_tick_36 : decode cX0_tick 36 = .ok (.iinc 3 1, 3) := by decide +kernel
theorem dX0_tick_39 : decode cX0_tick 39 = .ok (.goto (-23), 3) := by decide +kernel
theorem dX0_tick_42 : decode cX0_tick 42 = .ok (.iinc 2 1, 3) := by decide +kernel
theorem dX0_tick_45 : decode cX0_tick 45 = .ok (.goto (-36), 3) := by decide +kernel
theorem dX0_tick_48 : decode cX0_tick 48 = .ok (.aload_n 0, 1) := by decide +kernel
theorem dX0_tick_49 : decode cX0_tick 49 = .ok (.dup, 1) := by decide +kernel
theorem dX0_tick_50 : decode cX0_tick 50 = .ok (.getfield 115, 3) := by decide +kernel
theorem dX0_tick_53 : decode cX0_tick 53 = .ok (.iload_n 1, 1) := by decide +kernel
theorem dX0_tick_54 : decode cX0_tick 54 = .ok (.iadd, 1) := by decide +kernel
theorem dX0_tick_55 : decode cX0_tick 55 = .ok (.putfield 115, 3) := by decide +kernel
theorem dX0_tick_58 : decode cX0_tick 58 = .ok (.aload_n 0, 1) := by decide +kernel
theorem dX0_tick_59 : decode cX0_tick 59 = .ok (.getfield 115, 3) := by decide +kernel
theorem dX0_tick_62 : decode cX0_tick 62 = .ok (.ireturn, 1) := by decide +kernel
set_option maxRecDepth 20000 in
theorem ggX0_state_X0_checkRouter : GoodIn wsX0_state wsX0_checkRouter := goodIn_ca (goodIn_r _ [5, 6, 7] (by decide +kernel) (by decide +kernel)) (goodIn_sub (fun _ h => List.mem_cons_of_mem _ (List.mem_append_right _ h)) (by decide +kernel))
set_option maxRecDepth 20000 in
theorem gX0_state_X0_checkRouter : GoodIn wsX0_state (va_wsS RX0 59 yX0_checkRouter wsX0_checkRouter) := goodIn_app (goodIn_of _ (by decide +kernel)) ggX0_state_X0_checkRouter
set_option maxRecDepth 20000 in
theorem ggX0_state_X0_checkGroup : GoodIn wsX0_state wsX0_checkGroup := goodIn_ca (goodIn_r _ [10, 6, 7] (by decide +kernel) (by decide +kernel)) (goodIn_sub (fun _ h => List.mem_cons_of_mem _ (List.mem_append_right _ h)) (by decide +kernel))
set_option maxRecDepth 20000 in
theorem gX0_state_X0_checkGroup : GoodIn wsX0_state (va_wsS RX0 63 yX0_checkGroup wsX0_checkGroup) := goodIn_app (goodIn_of _ (by decide +kernel)) ggX0_state_X0_checkGroup
set_option maxRecDepth 20000 in
theorem ggX0_state_X0_placeOf : GoodIn wsX0_state wsX0_placeOf := goodIn_r _ [13] (by decide +kernel) (by decide +kernel)
set_option maxRecDepth 20000 in
theorem gX0_state_X0_placeOf : GoodIn wsX0_state (va_wsS RX0 70 yX0_placeOf wsX0_placeOf) := goodIn_app (goodIn_of _ (by decide +kernel)) ggX0_state_X0_placeOf
theorem dX0_state_0 : decode cX0_state 0 = .ok (.iload_n 1, 1) := by decide +kernel
theorem dX0_state_1 : decode cX0_state 1 = .ok (.invokestatic 59, 3) := by decide +kernel
theorem dX0_state_4 : decode cX0_state 4 = .ok (.iload_n 2, 1) := by decide +kernel
theorem dX0_state_5 : decode cX0_state 5 = .ok (.invokestatic 63, 3) := by decide +kernel
theorem dX0_state_8 : decode cX0_state 8 = .ok (.aload_n 0, 1) := by decide +kernel
theorem dX0_state_9 : decode cX0_state 9 = .ok (.getfield 41, 3) := by decide +kernel
theorem dX0_state_12 : decode cX0_state 12 = .ok (.iload_n 1, 1) := by decide +kernel
theorem dX0_state_13 : decode cX0_state 13 = .ok (.iload_n 2, 1) := by decide +kernel
theorem dX0_state_14 : decode cX0_state 14 = .ok (.invokestatic 70, 3) := by decide +kernel
theorem dX0_state_17 : decode cX0_state 17 = .ok (.iaload, 1) := by decide +kernel
theorem dX0_state_18 : decode cX0_state 18 = .ok (.ireturn, 1) := by decide +kernel
set_option maxRecDepth 20000 in
theorem ggX0_priority_X0_checkRouter : GoodIn wsX0_priority wsX0_checkRouter := goodIn_ca (goodIn_r _ [5, 6, 7] (by decide +kernel) (by decide +kernel)) (goodIn_sub (fun _ h => List.mem_cons_of_mem _ (List.mem_append_right _ h)) (by decide +kernel))
set_option maxRecDepth 20000 in
theorem gX0_priority_X0_checkRouter : GoodIn wsX0_priority (va_wsS RX0 59 yX0_checkRouter wsX0_checkRouter) := goodIn_app (goodIn_of _ (by decide +kernel)) ggX0_priority_X0_checkRouter
set_option maxRecDepth 20000 in
theorem ggX0_priority_X0_checkGroup : GoodIn wsX0_priority wsX0_checkGroup := goodIn_ca (goodIn_r _ [10, 6, 7] (by decide +kernel) (by decide +kernel)) (goodIn_sub (fun _ h => List.mem_cons_of_mem _ (List.mem_append_right _ h)) (by decide +kernel))
set_option maxRecDepth 20000 in
theorem gX0_priority_X0_checkGroup : GoodIn wsX0_priority (va_wsS RX0 63 yX0_checkGroup wsX0_checkGroup) := goodIn_app (goodIn_of _ (by decide +kernel)) ggX0_priority_X0_checkGroup
set_option maxRecDepth 20000 in
theorem ggX0_priority_X0_placeOf : GoodIn wsX0_priority wsX0_placeOf := goodIn_r _ [13] (by decide +kernel) (by decide +kernel)
set_option maxRecDepth 20000 in
theorem gX0_priority_X0_placeOf : GoodIn wsX0_priority (va_wsS RX0 70 yX0_placeOf wsX0_placeOf) := goodIn_app (goodIn_of _ (by decide +kernel)) ggX0_priority_X0_placeOf
set_option maxRecDepth 20000 in
theorem ggX0_priority_X0_loweredPriority : GoodIn wsX0_priority wsX0_loweredPriority := goodIn_r _ [17, 18, 19, 20, 21, 22, 23, 24, 11, 12, 4, 13, 25, 26, 27, 28, 29, 30, 31, 32, 33, 34, 35, 36, 37, 38, 39, 40, 41, 42, 43, 44, 45] (by decide +kernel) (by decide +kernel)
set_option maxRecDepth 20000 in
theorem gX0_priority_X0_loweredPriority : GoodIn wsX0_priority (wsV RX0 119 RX0 yX0_loweredPriority wsX0_loweredPriority) := goodIn_app (goodIn_of _ (by decide +kernel)) ggX0_priority_X0_loweredPriority
theorem dX0_priority_0 : decode cX0_priority 0 = .ok (.iload_n 1, 1) := by decide +kernel
theorem dX0_priority_1 : decode cX0_priority 1 = .ok (.invokestatic 59, 3) := by decide +kernel
theorem dX0_priority_4 : decode cX0_priority 4 = .ok (.iload_n 2, 1) := by decide +kernel
theorem dX0_priority_5 : decode cX0_priority 5 = .ok (.invokestatic 63, 3) := by decide +kernel
theorem dX0_priority_8 : decode cX0_priority 8 = .ok (.aload_n 0, 1) := by decide +kernel
theorem dX0_priority_9 : decode cX0_priority 9 = .ok (.getfield 41, 3) := by decide +kernel
theorem dX0_priority_12 : decode cX0_priority 12 = .ok (.iload_n 1, 1) := by decide +kernel
theorem dX0_priority_13 : decode cX0_priority 13 = .ok (.iload_n 2, 1) := by decide +kernel
theorem dX0_priority_14 : decode cX0_priority 14 = .ok (.invokestatic 70, 3) := by decide +kernel
theorem dX0_priority_17 : decode cX0_priority 17 = .ok (.iaload, 1) := by decide +kernel
theorem dX0_priority_18 : decode cX0_priority 18 = .ok (.ifCond .ne 7, 3) := by decide +kernel
theorem dX0_priority_21 : decode cX0_priority 21 = .ok (.iconst 0, 1) := by decide +kernel
theorem dX0_priority_22 : decode cX0_priority 22 = .ok (.goto 9, 3) := by decide +kernel
theorem dX0_priority_25 : decode cX0_priority 25 = .ok (.aload_n 0, 1) := by decide +kernel
theorem dX0_priority_26 : decode cX0_priority 26 = .ok (.iload_n 1, 1) := by decide +kernel
theorem dX0_priority_27 : decode cX0_priority 27 = .ok (.iload_n 2, 1) := by decide +kernel
theorem dX0_priority_28 : decode cX0_priority 28 = .ok (.invokevirtual 119, 3) := by decide +kernel
theorem dX0_priority_31 : decode cX0_priority 31 = .ok (.ireturn, 1) := by decide +kernel
set_option maxRecDepth 20000 in
theorem ggX0_timer_X0_checkRouter : GoodIn wsX0_timer wsX0_checkRouter := goodIn_ca (goodIn_r _ [8, 9, 10] (by decide +kernel) (by decide +kernel)) (goodIn_sub (fun _ h => List.mem_cons_of_mem _ (List.mem_append_right _ h)) (by decide +kernel))
set_option maxRecDepth 20000 in
theorem gX0_timer_X0_checkRouter : GoodIn wsX0_timer (va_wsS RX0 59 yX0_checkRouter wsX0_checkRouter) := goodIn_app (goodIn_of _ (by decide +kernel)) ggX0_timer_X0_checkRouter
set_option maxRecDepth 20000 in
theorem ggX0_timer_X0_checkGroup : GoodIn wsX0_timer wsX0_checkGroup := goodIn_ca (goodIn_r _ [13, 9, 10] (by decide +kernel) (by decide +kernel)) (goodIn_sub (fun _ h => List.mem_cons_of_mem _ (List.mem_append_right _ h)) (by decide +kernel))
set_option maxRecDepth 20000 in
theorem gX0_timer_X0_checkGroup : GoodIn wsX0_timer (va_wsS RX0 63 yX0_checkGroup wsX0_checkGroup) := goodIn_app (goodIn_of _ (by decide +kernel)) ggX0_timer_X0_checkGroup
set_option maxRecDepth 20000 in
theorem ggX0_timer_X0_placeOf : GoodIn wsX0_timer wsX0_placeOf := goodIn_r _ [16] (by decide +kernel) (by decide +kernel)
set_option maxRecDepth 20000 in
theorem gX0_timer_X0_placeOf : GoodIn wsX0_timer (va_wsS RX0 70 yX0_placeOf wsX0_placeOf) := goodIn_app (goodIn_of _ (by decide +kernel)) ggX0_timer_X0_placeOf
theorem dX0_timer_0 : decode cX0_timer 0 = .ok (.iload_n 1, 1) := by decide +kernel
theorem dX0_timer_1 : decode cX0_timer 1 = .ok (.invokestatic 59, 3) := by decide +kernel
theorem dX0_timer_4 : decode cX0_timer 4 = .ok (.iload_n 2, 1) := by decide +kernel
theorem dX0_timer_5 : decode cX0_timer 5 = .ok (.invokestatic 63, 3) := by decide +kernel
theorem dX0_timer_8 : decode cX0_timer 8 = .ok (.aload_n 0, 1) := by decide +kernel
theorem dX0_timer_9 : decode cX0_timer 9 = .ok (.getfield 41, 3) := by decide +kernel
theorem dX0_timer_12 : decode cX0_timer 12 = .ok (.iload_n 1, 1) := by decide +kernel
theorem dX0_timer_13 : decode cX0_timer 13 = .ok (.iload_n 2, 1) := by decide +kernel
theorem dX0_timer_14 : decode cX0_timer 14 = .ok (.invokestatic 70, 3) := by decide +kernel
theorem dX0_timer_17 : decode cX0_timer 17 = .ok (.iaload, 1) := by decide +kernel
theorem dX0_timer_18 : decode cX0_timer 18 = .ok (.ifCond .ne 13, 3) := by decide +kernel
theorem dX0_timer_21 : decode cX0_timer 21 = .ok (.new 94, 3) := by decide +kernel
theorem dX0_timer_24 : decode cX0_timer 24 = .ok (.dup, 1) := by decide +kernel
theorem dX0_timer_25 : decode cX0_timer 25 = .ok (.ldc 122, 2) := by decide +kernel
theorem dX0_timer_27 : decode cX0_timer 27 = .ok (.invokespecial 98, 3) := by decide +kernel
theorem dX0_timer_30 : decode cX0_timer 30 = .ok (.athrow, 1) := by decide +kernel
theorem dX0_timer_31 : decode cX0_timer 31 = .ok (.aload_n 0, 1) := by decide +kernel
theorem dX0_timer_32 : decode cX0_timer 32 = .ok (.getfield 44, 3) := by decide +kernel
theorem dX0_timer_35 : decode cX0_timer 35 = .ok (.iload_n 1, 1) := by decide +kernel
theorem dX0_timer_36 : decode cX0_timer 36 = .ok (.iload_n 2, 1) := by decide +kernel
theorem dX0_timer_37 : decode cX0_timer 37 = .ok (.invokestatic 70, 3) := by decide +kernel
theorem dX0_timer_40 : decode cX0_timer 40 = .ok (.iaload, 1) := by decide +kernel
theorem dX0_timer_41 : decode cX0_timer 41 = .ok (.ireturn, 1) := by decide +kernel
set_option maxRecDepth 20000 in
theorem ggX0_masters_X0_checkGroup : GoodIn wsX0_masters wsX0_checkGroup := goodIn_ca (goodIn_r _ [4, 5, 6] (by decide +kernel) (by decide +kernel)) (goodIn_sub (fun _ h => List.mem_cons_of_mem _ (List.mem_append_right _ h)) (by decide +kernel))
set_option maxRecDepth 20000 in
theorem gX0_masters_X0_checkGroup : GoodIn wsX0_masters (va_wsS RX0 63 yX0_checkGroup wsX0_checkGroup) := goodIn_app (goodIn_of _ (by decide +kernel)) ggX0_masters_X0_checkGroup
set_option maxRecDepth 20000 in
theorem ggX0_masters_X0_membersWith : GoodIn wsX0_masters wsX0_membersWith := goodIn_r _ [10, 11, 12, 13, 3, 14, 15, 16, 17, 18, 19, 20, 21, 22, 23, 24, 25, 26, 27, 28, 29, 30, 31, 32] (by decide +kernel) (by decide +kernel)
set_option maxRecDepth 20000 in
theorem gX0_masters_X0_membersWith : GoodIn wsX0_masters (wsV RX0 124 RX0 yX0_membersWith wsX0_membersWith) := goodIn_app (goodIn_of _ (by decide +kernel)) ggX0_masters_X0_membersWith
theorem dX0_masters_0 : decode cX0_masters 0 = .ok (.iload_n 1, 1) := by decide +kernel
theorem dX0_masters_1 : decode cX0_masters 1 = .ok (.invokestatic 63, 3) := by decide +kernel
theorem dX0_masters_4 : decode cX0_masters 4 = .ok (.aload_n 0, 1) := by decide +kernel
theorem dX0_masters_5 : decode cX0_masters 5 = .ok (.iconst 2, 1) := by decide +kernel
theorem dX0_masters_6 : decode cX0_masters 6 = .ok (.iload_n 1, 1) := by decide +kernel
theorem dX0_masters_7 : decode cX0_masters 7 = .ok (.invokevirtual 124, 3) := by decide +kernel
theorem dX0_masters_10 : decode cX0_masters 10 = .ok (.ireturn, 1) := by decide +kernel
set_option maxRecDepth 20000 in
theorem ggX0_changes_X0_checkRouter : GoodIn wsX0_changes wsX0_checkRouter := goodIn_ca (goodIn_r _ [5, 6, 7] (by decide +kernel) (by decide +kernel)) (goodIn_sub (fun _ h => List.mem_cons_of_mem _ (List.mem_append_right _ h)) (by decide +kernel))
set_option maxRecDepth 20000 in
theorem gX0_changes_X0_checkRouter : GoodIn wsX0_changes (va_wsS RX0 59 yX0_checkRouter wsX0_checkRouter) := goodIn_app (goodIn_of _ (by decide +kernel)) ggX0_changes_X0_checkRouter
set_option maxRecDepth 20000 in
theorem ggX0_changes_X0_checkGroup : GoodIn wsX0_changes wsX0_checkGroup := goodIn_ca (goodIn_r _ [10, 6, 7] (by decide +kernel) (by decide +kernel)) (goodIn_sub (fun _ h => List.mem_cons_of_mem _ (List.mem_append_right _ h)) (by decide +kernel))
set_option maxRecDepth 20000 in
theorem gX0_changes_X0_checkGroup : GoodIn wsX0_changes (va_wsS RX0 63 yX0_checkGroup wsX0_checkGroup) := goodIn_app (goodIn_of _ (by decide +kernel)) ggX0_changes_X0_checkGroup
set_option maxRecDepth 20000 in
theorem ggX0_changes_X0_placeOf : GoodIn wsX0_changes wsX0_placeOf := goodIn_r _ [13] (by decide +kernel) (by decide +kernel)
set_option maxRecDepth 20000 in
theorem gX0_changes_X0_placeOf : GoodIn wsX0_changes (va_wsS RX0 70 yX0_placeOf wsX0_placeOf) := goodIn_app (goodIn_of _ (by decide +kernel)) ggX0_changes_X0_placeOf
theorem dX0_changes_0 : decode cX0_changes 0 = .ok (.iload_n 1, 1) := by decide +kernel
theorem dX0_changes_1 : decode cX0_changes 1 = .ok (.invokestatic 59, 3) := by decide +kernel
theorem dX0_changes_4 : decode cX0_changes 4 = .ok (.iload_n 2, 1) := by decide +kernel
theorem dX0_changes_5 : decode cX0_changes 5 = .ok (.invokestatic 63, 3) := by decide +kernel
theorem dX0_changes_8 : decode cX0_changes 8 = .ok (.aload_n 0, 1) := by decide +kernel
theorem dX0_changes_9 : decode cX0_changes 9 = .ok (.getfield 53, 3) := by decide +kernel
theorem dX0_changes_12 : decode cX0_changes 12 = .ok (.iload_n 1, 1) := by decide +kernel
theorem dX0_changes_13 : decode cX0_changes 13 = .ok (.iload_n 2, 1) := by decide +kernel
theorem dX0_changes_14 : decode cX0_changes 14 = .ok (.invokestatic 70, 3) := by decide +kernel
theorem dX0_changes_17 : decode cX0_changes 17 = .ok (.iaload, 1) := by decide +kernel
theorem dX0_changes_18 : decode cX0_changes 18 = .ok (.ireturn, 1) := by decide +kernel
set_option maxRecDepth 20000 in
theorem ggX0_gaps_X0_checkGroup : GoodIn wsX0_gaps wsX0_checkGroup := goodIn_ca (goodIn_r _ [5, 6, 7] (by decide +kernel) (by decide +kernel)) (goodIn_sub (fun _ h => List.mem_cons_of_mem _ (List.mem_append_right _ h)) (by decide +kernel))
set_option maxRecDepth 20000 in
theorem gX0_gaps_X0_checkGroup : GoodIn wsX0_gaps (va_wsS RX0 63 yX0_checkGroup wsX0_checkGroup) := goodIn_app (goodIn_of _ (by decide +kernel)) ggX0_gaps_X0_checkGroup
theorem dX0_gaps_0 : decode cX0_gaps 0 = .ok (.iload_n 1, 1) := by decide +kernel
theorem dX0_gaps_1 : decode cX0_gaps 1 = .ok (.invokestatic 63, 3) := by decide +kernel
theorem dX0_gaps_4 : decode cX0_gaps 4 = .ok (.aload_n 0, 1) := by decide +kernel
theorem dX0_gaps_5 : decode cX0_gaps 5 = .ok (.getfield 32, 3) := by decide +kernel
theorem dX0_gaps_8 : decode cX0_gaps 8 = .ok (.iload_n 1, 1) := by decide +kernel
theorem dX0_gaps_9 : decode cX0_gaps 9 = .ok (.iaload, 1) := by decide +kernel
theorem dX0_gaps_10 : decode cX0_gaps 10 = .ok (.ireturn, 1) := by decide +kernel
set_option maxRecDepth 20000 in
theorem ggX0_sent_X0_checkGroup : GoodIn wsX0_sent wsX0_checkGroup := goodIn_ca (goodIn_r _ [5, 6, 7] (by decide +kernel) (by decide +kernel)) (goodIn_sub (fun _ h => List.mem_cons_of_mem _ (List.mem_append_right _ h)) (by decide +kernel))
set_option maxRecDepth 20000 in
theorem gX0_sent_X0_checkGroup : GoodIn wsX0_sent (va_wsS RX0 63 yX0_checkGroup wsX0_checkGroup) := goodIn_app (goodIn_of _ (by decide +kernel)) ggX0_sent_X0_checkGroup
theorem dX0_sent_0 : decode cX0_sent 0 = .ok (.iload_n 1, 1) := by decide +kernel
theorem dX0_sent_1 : decode cX0_sent 1 = .ok (.invokestatic 63, 3) := by decide +kernel
theorem dX0_sent_4 : decode cX0_sent 4 = .ok (.aload_n 0, 1) := by decide +kernel
theorem dX0_sent_5 : decode cX0_sent 5 = .ok (.getfield 35, 3) := by decide +kernel
theorem dX0_sent_8 : decode cX0_sent 8 = .ok (.iload_n 1, 1) := by decide +kernel
theorem dX0_sent_9 : decode cX0_sent 9 = .ok (.iaload, 1) := by decide +kernel
theorem dX0_sent_10 : decode cX0_sent 10 = .ok (.ireturn, 1) := by decide +kernel
set_option maxRecDepth 20000 in
theorem ggX0_known_X0_checkRouter : GoodIn wsX0_known wsX0_checkRouter := goodIn_ca (goodIn_r _ [5, 6, 7] (by decide +kernel) (by decide +kernel)) (goodIn_sub (fun _ h => List.mem_cons_of_mem _ (List.mem_append_right _ h)) (by decide +kernel))
set_option maxRecDepth 20000 in
theorem gX0_known_X0_checkRouter : GoodIn wsX0_known (va_wsS RX0 59 yX0_checkRouter wsX0_checkRouter) := goodIn_app (goodIn_of _ (by decide +kernel)) ggX0_known_X0_checkRouter
set_option maxRecDepth 20000 in
theorem ggX0_known_X0_checkGroup : GoodIn wsX0_known wsX0_checkGroup := goodIn_ca (goodIn_r _ [10, 6, 7] (by decide +kernel) (by decide +kernel)) (goodIn_sub (fun _ h => List.mem_cons_of_mem _ (List.mem_append_right _ h)) (by decide +kernel))
set_option maxRecDepth 20000 in
theorem gX0_known_X0_checkGroup : GoodIn wsX0_known (va_wsS RX0 63 yX0_checkGroup wsX0_checkGroup) := goodIn_app (goodIn_of _ (by decide +kernel)) ggX0_known_X0_checkGroup
set_option maxRecDepth 20000 in
theorem ggX0_known_X0_placeOf : GoodIn wsX0_known wsX0_placeOf := goodIn_r _ [13] (by decide +kernel) (by decide +kernel)
set_option maxRecDepth 20000 in
theorem gX0_known_X0_placeOf : GoodIn wsX0_known (va_wsS RX0 70 yX0_placeOf wsX0_placeOf) := goodIn_app (goodIn_of _ (by decide +kernel)) ggX0_known_X0_placeOf
theorem dX0_known_0 : decode cX0_known 0 = .ok (.iload_n 1, 1) := by decide +kernel
theorem dX0_known_1 : decode cX0_known 1 = .ok (.invokestatic 59, 3) := by decide +kernel
theorem dX0_known_4 : decode cX0_known 4 = .ok (.iload_n 2, 1) := by decide +kernel
theorem dX0_known_5 : decode cX0_known 5 = .ok (.invokestatic 63, 3) := by decide +kernel
theorem dX0_known_8 : decode cX0_known 8 = .ok (.aload_n 0, 1) := by decide +kernel
theorem dX0_known_9 : decode cX0_known 9 = .ok (.getfield 50, 3) := by decide +kernel
theorem dX0_known_12 : decode cX0_known 12 = .ok (.iload_n 1, 1) := by decide +kernel
theorem dX0_known_13 : decode cX0_known 13 = .ok (.iload_n 2, 1) := by decide +kernel
theorem dX0_known_14 : decode cX0_known 14 = .ok (.invokestatic 70, 3) := by decide +kernel
theorem dX0_known_17 : decode cX0_known 17 = .ok (.iaload, 1) := by decide +kernel
theorem dX0_known_18 : decode cX0_known 18 = .ok (.ireturn, 1) := by decide +kernel
theorem dX0_repairs_0 : decode cX0_repairs 0 = .ok (.aload_n 0, 1) := by decide +kernel
theorem dX0_repairs_1 : decode cX0_repairs 1 = .ok (.getfield 127, 3) := by decide +kernel
theorem dX0_repairs_4 : decode cX0_repairs 4 = .ok (.ireturn, 1) := by decide +kernel
set_option maxRecDepth 20000 in
theorem ggX0_isSettled_X0_checkGroup : GoodIn wsX0_isSettled wsX0_checkGroup := goodIn_ca (goodIn_r _ [4, 5, 6] (by decide +kernel) (by decide +kernel)) (goodIn_sub (fun _ h => List.mem_cons_of_mem _ (List.mem_append_right _ h)) (by decide +kernel))
set_option maxRecDepth 20000 in
theorem gX0_isSettled_X0_checkGroup : GoodIn wsX0_isSettled (va_wsS RX0 63 yX0_checkGroup wsX0_checkGroup) := goodIn_app (goodIn_of _ (by decide +kernel)) ggX0_isSettled_X0_checkGroup
set_option maxRecDepth 20000 in
theorem ggX0_isSettled_X0_membersWith : GoodIn wsX0_isSettled wsX0_membersWith := goodIn_r _ [10, 11, 12, 13, 3, 14, 20, 21, 22, 23, 24, 25, 26, 27, 28, 29, 30, 31, 32, 33, 34, 35, 36, 37] (by decide +kernel) (by decide +kernel)
set_option maxRecDepth 20000 in
theorem gX0_isSettled_X0_membersWith : GoodIn wsX0_isSettled (wsV RX0 124 RX0 yX0_membersWith wsX0_membersWith) := goodIn_app (goodIn_of _ (by decide +kernel)) ggX0_isSettled_X0_membersWith
set_option maxRecDepth 20000 in
theorem ggX0_isSettled_X0_hasJoinedMasters : GoodIn wsX0_isSettled wsX0_hasJoinedMasters := goodIn_r _ [18, 11, 19, 12, 13, 3, 14, 20, 21, 22, 23, 24, 25, 26, 27, 28, 29, 30, 31, 32, 33, 34, 35, 36, 37] (by decide +kernel) (by decide +kernel)
set_option maxRecDepth 20000 in
theorem gX0_isSettled_X0_hasJoinedMasters : GoodIn wsX0_isSettled (wsV RX0 130 RX0 yX0_hasJoinedMasters wsX0_hasJoinedMasters) := goodIn_app (goodIn_of _ (by decide +kernel)) ggX0_isSettled_X0_hasJoinedMasters
theorem dX0_isSettled_0 : decode cX0_isSettled 0 = .ok (.iload_n 1, 1) := by decide +kernel
theorem dX0_isSettled_1 : decode cX0_isSettled 1 = .ok (.invokestatic 63, 3) := by decide +kernel
theorem dX0_isSettled_4 : decode cX0_isSettled 4 = .ok (.aload_n 0, 1) := by decide +kernel
theorem dX0_isSettled_5 : decode cX0_isSettled 5 = .ok (.iconst 2, 1) := by decide +kernel
theorem dX0_isSettled_6 : decode cX0_isSettled 6 = .ok (.iload_n 1, 1) := by decide +kernel
theorem dX0_isSettled_7 : decode cX0_isSettled 7 = .ok (.invokevirtual 124, 3) := by decide +kernel
theorem dX0_isSettled_10 : decode cX0_isSettled 10 = .ok (.ifCond .ne 18, 3) := by decide +kernel
theorem dX0_isSettled_13 : decode cX0_isSettled 13 = .ok (.aload_n 0, 1) := by decide +kernel
theorem dX0_isSettled_14 : decode cX0_isSettled 14 = .ok (.iconst 1, 1) := by decide +kernel
theorem dX0_isSettled_15 : decode cX0_isSettled 15 = .ok (.iload_n 1, 1) := by decide +kernel
theorem dX0_isSettled_16 : decode cX0_isSettled 16 = .ok (.invokevirtual 124, 3) := by decide +kernel
theorem dX0_isSettled_19 : decode cX0_isSettled 19 = .ok (.ifCond .ne 7, 3) := by decide +kernel
theorem dX0_isSettled_22 : decode cX0_isSettled 22 = .ok (.iconst 1, 1) := by decide +kernel
theorem dX0_isSettled_23 : decode cX0_isSettled 23 = .ok (.goto 4, 3) := by decide +kernel
theorem dX0_isSettled_26 : decode cX0_isSettled 26 = .ok (.iconst 0, 1) := by decide +kernel
theorem dX0_isSettled_27 : decode cX0_isSettled 27 = .ok (.ireturn, 1) := by decide +kernel
theorem dX0_isSettled_28 : decode cX0_isSettled 28 = .ok (.aload_n 0, 1) := by decide +kernel
theorem dX0_isSettled_29 : decode cX0_isSettled 29 = .ok (.iload_n 1, 1) := by decide +kernel
theorem dX0_isSettled_30 : decode cX0_isSettled 30 = .ok (.invokevirtual 130, 3) := by decide +kernel
theorem dX0_isSettled_33 : decode cX0_isSettled 33 = .ok (.ifCond .ne 7, 3) := by decide +kernel
theorem dX0_isSettled_36 : decode cX0_isSettled 36 = .ok (.iconst 1, 1) := by decide +kernel
theorem dX0_isSettled_37 : decode cX0_isSettled 37 = .ok (.goto 4, 3) := by decide +kernel
theorem dX0_isSettled_40 : decode cX0_isSettled 40 = .ok (.iconst 0, 1) := by decide +kernel
theorem dX0_isSettled_41 : decode cX0_isSettled 41 = .ok (.ireturn, 1) := by decide +kernel
set_option maxRecDepth 20000 in
theorem ggX0_runMasters_X0_placeOf : GoodIn wsX0_runMasters wsX0_placeOf := goodIn_r _ [7] (by decide +kernel) (by decide +kernel)
set_option maxRecDepth 20000 in
theorem gX0_runMasters_X0_placeOf : GoodIn wsX0_runMasters (va_wsS RX0 70 yX0_placeOf wsX0_placeOf) := goodIn_app (goodIn_of _ (by decide +kernel)) ggX0_runMasters_X0_placeOf
set_option maxRecDepth 20000 in
theorem ggX0_runMasters_X0_loweredPriority : GoodIn wsX0_runMasters wsX0_loweredPriority := goodIn_r _ [11, 12, 13, 14, 15, 16, 17, 18, 4, 5, 6, 7, 19, 20, 21, 58, 59, 60, 61, 62, 63, 64, 65, 66, 67, 68, 69, 70, 71, 72, 73, 74, 75] (by decide +kernel) (by decide +kernel)
set_option maxRecDepth 20000 in
theorem gX0_runMasters_X0_loweredPriority : GoodIn wsX0_runMasters (wsV RX0 119 RX0 yX0_loweredPriority wsX0_loweredPriority) := goodIn_app (goodIn_of _ (by decide +kernel)) ggX0_runMasters_X0_loweredPriority
set_option maxRecDepth 20000 in
theorem ggX0_runMasters_X0_advertise : GoodIn wsX0_runMasters wsX0_advertise := goodIn_r _ [25, 26, 27, 1, 4, 5, 6, 7, 28, 29, 30, 31, 8, 9, 10, 11, 12, 13, 14, 15, 16, 17, 18, 19, 20, 21, 32, 33, 34, 35, 36, 2, 37, 38, 39, 40, 3, 41, 42, 43, 44, 45, 46, 47, 48, 49, 50, 51, 52, 53, 54, 55, 56, 57, 58, 59, 60, 61, 62, 63, 64, 65, 66, 67, 68, 69, 70, 71, 72, 73, 74, 75] (by decide +kernel) (by decide +kernel)
set_option maxRecDepth 20000 in
theorem gX0_runMasters_X0_advertise : GoodIn wsX0_runMasters (wsV RX0 74 RX0 yX0_advertise wsX0_advertise) := goodIn_app (goodIn_of _ (by decide +kernel)) ggX0_runMasters_X0_advertise
theorem dX0_runMasters_0 : decode cX0_runMasters 0 = .ok (.iconst 0, 1) := by decide +kernel
theorem dX0_runMasters_1 : decode cX0_runMasters 1 = .ok (.istore_n 2, 1) := by decide +kernel
theorem dX0_runMasters_2 : decode cX0_runMasters 2 = .ok (.iload_n 2, 1) := by decide +kernel
theorem dX0_runMasters_3 : decode cX0_runMasters 3 = .ok (.iconst 4, 1) := by decide +kernel
theorem dX0_runMasters_4 : decode cX0_runMasters 4 = .ok (.if_icmp .ge 68, 3) := by decide +kernel
theorem dX0_runMasters_7 : decode cX0_runMasters 7 = .ok (.iload_n 2, 1) := by decide +kernel
theorem dX0_runMasters_8 : decode cX0_runMasters 8 = .ok (.iload_n 1, 1) := by decide +kernel
theorem dX0_runMasters_9 : decode cX0_runMasters 9 = .ok (.invokestatic 70, 3) := by decide +kernel
theorem dX0_runMasters_12 : decode cX0_runMasters 12 = .ok (.istore_n 3, 1) := by decide +kernel
theorem dX0_runMasters_13 : decode cX0_runMasters 13 = .ok (.aload_n 0, 1) := by decide +kernel
theorem dX0_runMasters_14 : decode cX0_runMasters 14 = .ok (.getfield 41, 3) := by decide +kernel
theorem dX0_runMasters_17 : decode cX0_runMasters 17 = .ok (.iload_n 3, 1) := by decide +kernel
theorem dX0_runMasters_18 : decode cX0_runMasters 18 = .ok (.iaload, 1) := by decide +kernel
theorem dX0_runMasters_19 : decode cX0_runMasters 19 = .ok (.iconst 2, 1) := by decide +kernel
theorem dX0_runMasters_20 : decode cX0_runMasters 20 = .ok (.if_icmp .ne 46, 3) := by decide +kernel
theorem dX0_runMasters_23 : decode cX0_runMasters 23 = .ok (.aload_n 0, 1) := by decide +kernel
theorem dX0_runMasters_24 : decode cX0_runMasters 24 = .ok (.getfield 44, 3) := by decide +kernel
theorem dX0_runMasters_27 : decode cX0_runMasters 27 = .ok (.iload_n 3, 1) := by decide +kernel
theorem dX0_runMasters_28 : decode cX0_runMasters 28 = .ok (.dup2, 1) := by decide +kernel
theorem dX0_runMasters_29 : decode cX0_runMasters 29 = .ok (.iaload, 1) := by decide +kernel
theorem dX0_runMasters_30 : decode cX0_runMasters 30 = .ok (.iconst 1, 1) := by decide +kernel
theorem dX0_runMasters_31 : decode cX0_runMasters 31 = .ok (.isub, 1) := by decide +kernel
theorem dX0_runMasters_32 : decode cX0_runMasters 32 = .ok (.iastore, 1) := by decide +kernel
theorem dX0_runMasters_33 : decode cX0_runMasters 33 = .ok (.aload_n 0, 1) := by decide +kernel
theorem dX0_runMasters_34 : decode cX0_runMasters 34 = .ok (.getfield 44, 3) := by decide +kernel
theorem dX0_runMasters_37 : decode cX0_runMasters 37 = .ok (.iload_n 3, 1) := by decide +kernel
theorem dX0_runMasters_38 : decode cX0_runMasters 38 = .ok (.iaload, 1) := by decide +kernel
theorem dX0_runMasters_39 : decode cX0_runMasters 39 = .ok (.ifCond .ne 27, 3) := by decide +kernel
theorem dX0_runMasters_42 : decode cX0_runMasters 42 = .ok (.aload_n 0, 1) := by decide +kernel
theorem dX0_runMasters_43 : decode cX0_runMasters 43 = .ok (.iload_n 2, 1) := by decide +kernel
theorem dX0_runMasters_44 : decode cX0_runMasters 44 = .ok (.iload_n 1, 1) := by decide +kernel
theorem dX0_runMasters_45 : decode cX0_runMasters 45 = .ok (.aload_n 0, 1) := by decide +kernel
theorem dX0_runMasters_46 : decode cX0_runMasters 46 = .ok (.iload_n 2, 1) := by decide +kernel
theorem dX0_runMasters_47 : decode cX0_runMasters 47 = .ok (.iload_n 1, 1) := by decide +kernel
theorem dX0_runMasters_48 : decode cX0_runMasters 48 = .ok (.invokevirtual 119, 3) := by decide +kernel
theorem dX0_runMasters_51 : decode cX0_runMasters 51 = .ok (.invokevirtual 74, 3) := by decide +kernel
theorem dX0_runMasters_54 : decode cX0_runMasters 54 = .ok (.aload_n 0, 1) := by decide +kernel
theorem dX0_runMasters_55 : decode cX0_runMasters 55 = .ok (.getfield 44, 3) := by decide +kernel
theorem dX0_runMasters_58 : decode cX0_runMasters 58 = .ok (.iload_n 3, 1) := by decide +kernel
theorem dX0_runMasters_59 : decode cX0_runMasters 59 = .ok (.aload_n 0, 1) := by decide +kernel
theorem dX0_runMasters_60 : decode cX0_runMasters 60 = .ok (.getfield 23, 3) := by decide +kernel
theorem dX0_runMasters_63 : decode cX0_runMasters 63 = .ok (.iload_n 1, 1) := by decide +kernel
theorem dX0_runMasters_64 : decode cX0_runMasters 64 = .ok (.iaload, 1) := by decide +kernel
theorem dX0_runMasters_65 : decode cX0_runMasters 65 = .ok (.iastore, 1) := by decide +kernel
theorem dX0_runMasters_66 : decode cX0_runMasters 66 = .ok (.iinc 2 1, 3) := by decide +kernel
theorem dX0_runMasters_69 : decode cX0_runMasters 69 = .ok (.goto (-67), 3) := by decide +kernel
theorem dX0_runMasters_72 : decode cX0_runMasters 72 = .ok (.return_, 1) := by decide +kernel
set_option maxRecDepth 20000 in
theorem ggX0_runBackups_X0_placeOf : GoodIn wsX0_runBackups wsX0_placeOf := goodIn_r _ [8] (by decide +kernel) (by decide +kernel)
set_option maxRecDepth 20000 in
theorem gX0_runBackups_X0_placeOf : GoodIn wsX0_runBackups (va_wsS RX0 70 yX0_placeOf wsX0_placeOf) := goodIn_app (goodIn_of _ (by decide +kernel)) ggX0_runBackups_X0_placeOf
set_option maxRecDepth 20000 in
theorem ggX0_runBackups_X0_loweredPriority : GoodIn wsX0_runBackups wsX0_loweredPriority := goodIn_r _ [12, 13, 14, 15, 16, 17, 18, 19, 5, 6, 7, 8, 20, 21, 22, 59, 60, 61, 62, 63, 64, 65, 66, 67, 68, 69, 70, 71, 72, 73, 74, 75, 76] (by decide +kernel) (by decide +kernel)
set_option maxRecDepth 20000 in
theorem gX0_runBackups_X0_loweredPriority : GoodIn wsX0_runBackups (wsV RX0 119 RX0 yX0_loweredPriority wsX0_loweredPriority) := goodIn_app (goodIn_of _ (by decide +kernel)) ggX0_runBackups_X0_loweredPriority
set_option maxRecDepth 20000 in
theorem ggX0_runBackups_X0_advertise : GoodIn wsX0_runBackups wsX0_advertise := goodIn_r _ [26, 27, 28, 1, 5, 6, 7, 8, 29, 30, 31, 32, 9, 10, 11, 12, 13, 14, 15, 16, 17, 18, 19, 20, 21, 22, 33, 34, 35, 36, 37, 2, 38, 39, 40, 41, 4, 42, 43, 44, 45, 46, 47, 48, 49, 50, 51, 52, 53, 54, 55, 56, 57, 58, 59, 60, 61, 62, 63, 64, 65, 66, 67, 68, 69, 70, 71, 72, 73, 74, 75, 76] (by decide +kernel) (by decide +kernel)
set_option maxRecDepth 20000 in
theorem gX0_runBackups_X0_advertise : GoodIn wsX0_runBackups (wsV RX0 74 RX0 yX0_advertise wsX0_advertise) := goodIn_app (goodIn_of _ (by decide +kernel)) ggX0_runBackups_X0_advertise
theorem dX0_runBackups_0 : decode cX0_runBackups 0 = .ok (.iconst 0, 1) := by decide +kernel
theorem dX0_runBackups_1 : decode cX0_runBackups 1 = .ok (.istore_n 2, 1) := by decide +kernel
theorem dX0_runBackups_2 : decode cX0_runBackups 2 = .ok (.iload_n 2, 1) := by decide +kernel
theorem dX0_runBackups_3 : decode cX0_runBackups 3 = .ok (.iconst 4, 1) := by decide +kernel
theorem dX0_runBackups_4 : decode cX0_runBackups 4 = .ok (.if_icmp .ge 85, 3) := by decide +kernel
theorem dX0_runBackups_7 : decode cX0_runBackups 7 = .ok (.iload_n 2, 1) := by decide +kernel
theorem dX0_runBackups_8 : decode cX0_runBackups 8 = .ok (.iload_n 1, 1) := by decide +kernel
theorem dX0_runBackups_9 : decode cX0_runBackups 9 = .ok (.invokestatic 70, 3) := by decide +kernel
theorem dX0_runBackups_12 : decode cX0_runBackups 12 = .ok (.istore_n 3, 1) := by decide +kernel
theorem dX0_runBackups_13 : decode cX0_runBackups 13 = .ok (.aload_n 0, 1) := by decide +kernel
theorem dX0_runBackups_14 : decode cX0_runBackups 14 = .ok (.getfield 41, 3) := by decide +kernel
theorem dX0_runBackups_17 : decode cX0_runBackups 17 = .ok (.iload_n 3, 1) := by decide +kernel
theorem dX0_runBackups_18 : decode cX0_runBackups 18 = .ok (.iaload, 1) := by decide +kernel
theorem dX0_runBackups_19 : decode cX0_runBackups 19 = .ok (.iconst 1, 1) := by decide +kernel
theorem dX0_runBackups_20 : decode cX0_runBackups 20 = .ok (.if_icmp .ne 63, 3) := by decide +kernel
theorem dX0_runBackups_23 : decode cX0_runBackups 23 = .ok (.aload_n 0, 1) := by decide +kernel
theorem dX0_runBackups_24 : decode cX0_runBackups 24 = .ok (.getfield 44, 3) := by decide +kernel
theorem dX0_runBackups_27 : decode cX0_runBackups 27 = .ok (.iload_n 3, 1) := by decide +kernel
theorem dX0_runBackups_28 : decode cX0_runBackups 28 = .ok (.dup2, 1) := by decide +kernel
theorem dX0_runBackups_29 : decode cX0_runBackups 29 = .ok (.iaload, 1) := by decide +kernel
theorem dX0_runBackups_30 : decode cX0_runBackups 30 = .ok (.iconst 1, 1) := by decide +kernel
theorem dX0_runBackups_31 : decode cX0_runBackups 31 = .ok (.isub, 1) := by decide +kernel
theorem dX0_runBackups_32 : decode cX0_runBackups 32 = .ok (.iastore, 1) := by decide +kernel
theorem dX0_runBackups_33 : decode cX0_runBackups 33 = .ok (.aload_n 0, 1) := by decide +kernel
theorem dX0_runBackups_34 : decode cX0_runBackups 34 = .ok (.getfield 44, 3) := by decide +kernel
theorem dX0_runBackups_37 : decode cX0_runBackups 37 = .ok (.iload_n 3, 1) := by decide +kernel
theorem dX0_runBackups_38 : decode cX0_runBackups 38 = .ok (.iaload, 1) := by decide +kernel
theorem dX0_runBackups_39 : decode cX0_runBackups 39 = .ok (.ifCond .ne 44, 3) := by decide +kernel
theorem dX0_runBackups_42 : decode cX0_runBackups 42 = .ok (.aload_n 0, 1) := by decide +kernel
theorem dX0_runBackups_43 : decode cX0_runBackups 43 = .ok (.getfield 41, 3) := by decide +kernel
theorem dX0_runBackups_46 : decode cX0_runBackups 46 = .ok (.iload_n 3, 1) := by decide +kernel
theorem dX0_runBackups_47 : decode cX0_runBackups 47 = .ok (.iconst 2, 1) := by decide +kernel
theorem dX0_runBackups_48 : decode cX0_runBackups 48 = .ok (.iastore, 1) := by decide +kernel
theorem dX0_runBackups_49 : decode cX0_runBackups 49 = .ok (.aload_n 0, 1) := by decide +kernel
theorem dX0_runBackups_50 : decode cX0_runBackups 50 = .ok (.getfield 53, 3) := by decide +kernel
theorem dX0_runBackups_53 : decode cX0_runBackups 53 = .ok (.iload_n 3, 1) := by decide +kernel
theorem dX0_runBackups_54 : decode cX0_runBackups 54 = .ok (.dup2, 1) := by decide +kernel
theorem dX0_runBackups_55 : decode cX0_runBackups 55 = .ok (.iaload, 1) := by decide +kernel
theorem dX0_runBackups_56 : decode cX0_runBackups 56 = .ok (.iconst 1, 1) := by decide +kernel
theorem dX0_runBackups_57 : decode cX0_runBackups 57 = .ok (.iadd, 1) := by decide +kernel
theorem dX0_runBackups_58 : decode cX0_runBackups 58 = .ok (.iastore, 1) := by decide +kernel
theorem dX0_runBackups_59 : decode cX0_runBackups 59 = .ok (.aload_n 0, 1) := by decide +kernel
theorem dX0_runBackups_60 : decode cX0_runBackups 60 = .ok (.iload_n 2, 1) := by decide +kernel
theorem dX0_runBackups_61 : decode cX0_runBackups 61 = .ok (.iload_n 1, 1) := by decide +kernel
theorem dX0_runBackups_62 : decode cX0_runBackups 62 = .ok (.aload_n 0, 1) := by decide +kernel
theorem dX0_runBackups_63 : decode cX0_runBackups 63 = .ok (.iload_n 2, 1) := by decide +kernel
theorem dX0_runBackups_64 : decode cX0_runBackups 64 = .ok (.iload_n 1, 1) := by decide +kernel
theorem dX0_runBackups_65 : decode cX0_runBackups 65 = .ok (.invokevirtual 119, 3) := by decide +kernel
theorem dX0_runBackups_68 : decode cX0_runBackups 68 = .ok (.invokevirtual 74, 3) := by decide +kernel
theorem dX0_runBackups_71 : decode cX0_runBackups 71 = .ok (.aload_n 0, 1) := by decide +kernel
theorem dX0_runBackups_72 : decode cX0_runBackups 72 = .ok (.getfield 44, 3) := by decide +kernel
theorem dX0_runBackups_75 : decode cX0_runBackups 75 = .ok (.iload_n 3, 1) := by decide +kernel
theorem dX0_runBackups_76 : decode cX0_runBackups 76 = .ok (.aload_n 0, 1) := by decide +kernel
theorem dX0_runBackups_77 : decode cX0_runBackups 77 = .ok (.getfield 23, 3) := by decide +kernel
theorem dX0_runBackups_80 : decode cX0_runBackups 80 = .ok (.iload_n 1, 1) := by decide +kernel
theorem dX0_runBackups_81 : decode cX0_runBackups 81 = .ok (.iaload, 1) := by decide +kernel
theorem dX0_runBackups_82 : decode cX0_runBackups 82 = .ok (.iastore, 1) := by decide +kernel
theorem dX0_runBackups_83 : decode cX0_runBackups 83 = .ok (.iinc 2 1, 3) := by decide +kernel
theorem dX0_runBackups_86 : decode cX0_runBackups 86 = .ok (.goto (-84), 3) := by decide +kernel
theorem dX0_runBackups_89 : decode cX0_runBackups 89 = .ok (.return_, 1) := by decide +kernel
set_option maxRecDepth 20000 in
theorem ggX0_noteGap_X0_membersWith : GoodIn wsX0_noteGap wsX0_membersWith := goodIn_r _ [6, 7, 8, 9, 5, 10, 11, 12, 13, 14, 15, 16, 17, 18, 19, 20, 21, 22, 23, 24, 25, 26, 27, 28] (by decide +kernel) (by decide +kernel)
set_option maxRecDepth 20000 in
theorem gX0_noteGap_X0_membersWith : GoodIn wsX0_noteGap (wsV RX0 124 RX0 yX0_membersWith wsX0_membersWith) := goodIn_app (goodIn_of _ (by decide +kernel)) ggX0_noteGap_X0_membersWith
theorem dX0_noteGap_0 : decode cX0_noteGap 0 = .ok (.aload_n 0, 1) := by decide +kernel
theorem dX0_noteGap_1 : decode cX0_noteGap 1 = .ok (.iconst 2, 1) := by decide +kernel
theorem dX0_noteGap_2 : decode cX0_noteGap 2 = .ok (.iload_n 1, 1) := by decide +kernel
theorem dX0_noteGap_3 : decode cX0_noteGap 3 = .ok (.invokevirtual 124, 3) := by decide +kernel
theorem dX0_noteGap_6 : decode cX0_noteGap 6 = .ok (.ifCond .ne 13, 3) := by decide +kernel
theorem dX0_noteGap_9 : decode cX0_noteGap 9 = .ok (.aload_n 0, 1) := by decide +kernel
theorem dX0_noteGap_10 : decode cX0_noteGap 10 = .ok (.getfield 32, 3) := by decide +kernel
theorem dX0_noteGap_13 : decode cX0_noteGap 13 = .ok (.iload_n 1, 1) := by decide +kernel
theorem dX0_noteGap_14 : decode cX0_noteGap 14 = .ok (.dup2, 1) := by decide +kernel
theorem dX0_noteGap_15 : decode cX0_noteGap 15 = .ok (.iaload, 1) := by decide +kernel
theorem dX0_noteGap_16 : decode cX0_noteGap 16 = .ok (.iconst 1, 1) := by decide +kernel
theorem dX0_noteGap_17 : decode cX0_noteGap 17 = .ok (.iadd, 1) := by decide +kernel
theorem dX0_noteGap_18 : decode cX0_noteGap 18 = .ok (.iastore, 1) := by decide +kernel
theorem dX0_noteGap_19 : decode cX0_noteGap 19 = .ok (.return_, 1) := by decide +kernel
set_option maxRecDepth 20000 in
theorem ggX0_advertise_X0_placeOf : GoodIn wsX0_advertise wsX0_placeOf := goodIn_r _ [7] (by decide +kernel) (by decide +kernel)
set_option maxRecDepth 20000 in
theorem gX0_advertise_X0_placeOf : GoodIn wsX0_advertise (va_wsS RX0 70 yX0_placeOf wsX0_placeOf) := goodIn_app (goodIn_of _ (by decide +kernel)) ggX0_advertise_X0_placeOf
set_option maxRecDepth 20000 in
theorem ggX0_advertise_X0_receiveAsMaster : GoodIn wsX0_advertise wsX0_receiveAsMaster := goodIn_r _ [11, 12, 13, 14, 6, 15, 16, 17, 18, 19, 20, 21, 22, 4, 5, 7, 23, 24, 25, 26, 27, 28, 29, 3, 30, 31, 32, 33, 34, 35, 36, 37, 38, 39, 40, 41, 42, 43, 44, 45, 46, 47, 54, 55, 56, 57, 58, 59, 60, 61, 62, 63, 64, 65, 66, 67, 68, 69, 70, 71] (by decide +kernel) (by decide +kernel)
set_option maxRecDepth 20000 in
theorem gX0_advertise_X0_receiveAsMaster : GoodIn wsX0_advertise (wsV RX0 134 RX0 yX0_receiveAsMaster wsX0_receiveAsMaster) := goodIn_app (goodIn_of _ (by decide +kernel)) ggX0_advertise_X0_receiveAsMaster
set_option maxRecDepth 20000 in
theorem ggX0_advertise_X0_receiveAsBackup : GoodIn wsX0_advertise wsX0_receiveAsBackup := goodIn_r _ [51, 31, 52, 30, 53, 4, 5, 6, 7, 12, 13, 14, 15, 16, 17, 18, 19, 20, 21, 22, 23, 24, 25, 37, 38, 39, 40, 36, 32, 33, 34, 35, 41, 42, 43, 44, 45, 46, 47, 54, 55, 56, 57, 58, 59, 60, 61, 62, 63, 64, 65, 66, 67, 68, 69, 70, 71] (by decide +kernel) (by decide +kernel)
set_option maxRecDepth 20000 in
theorem gX0_advertise_X0_receiveAsBackup : GoodIn wsX0_advertise (wsV RX0 138 RX0 yX0_receiveAsBackup wsX0_receiveAsBackup) := goodIn_app (goodIn_of _ (by decide +kernel)) ggX0_advertise_X0_receiveAsBackup
theorem dX0_advertise_0 : decode cX0_advertise 0 = .ok (.aload_n 0, 1) := by decide +kernel
theorem dX0_advertise_1 : decode cX0_advertise 1 = .ok (.getfield 35, 3) := by decide +kernel
theorem dX0_advertise_4 : decode cX0_advertise 4 = .ok (.iload_n 2, 1) := by decide +kernel
theorem dX0_advertise_5 : decode cX0_advertise 5 = .ok (.dup2, 1) := by decide +kernel
theorem dX0_advertise_6 : decode cX0_advertise 6 = .ok (.iaload, 1) := by decide +kernel
theorem dX0_advertise_7 : decode cX0_advertise 7 = .ok (.iconst 1, 1) := by decide +kernel
theorem dX0_advertise_8 : decode cX0_advertise 8 = .ok (.iadd, 1) := by decide +kernel
theorem dX0_advertise_9 : decode cX0_advertise 9 = .ok (.iastore, 1) := by decide +kernel
theorem dX0_advertise_10 : decode cX0_advertise 10 = .ok (.iconst 0, 1) := by decide +kernel
theorem dX0_advertise_11 : decode cX0_advertise 11 = .ok (.istore 4, 2) := by decide +kernel
theorem dX0_advertise_13 : decode cX0_advertise 13 = .ok (.iload 4, 2) := by decide +kernel
theorem dX0_advertise_15 : decode cX0_advertise 15 = .ok (.iconst 4, 1) := by decide +kernel
theorem dX0_advertise_16 : decode cX0_advertise 16 = .ok (.if_icmp .ge 75, 3) := by decide +kernel
theorem dX0_advertise_19 : decode cX0_advertise 19 = .ok (.iload 4, 2) := by decide +kernel
theorem dX0_advertise_21 : decode cX0_advertise 21 = .ok (.iload_n 1, 1) := by decide +kernel
theorem dX0_advertise_22 : decode cX0_advertise 22 = .ok (.if_icmp .eq 63, 3) := by decide +kernel
theorem dX0_advertise_25 : decode cX0_advertise 25 = .ok (.aload_n 0, 1) := by decide +kernel
theorem dX0_advertise_26 : decode cX0_advertise 26 = .ok (.getfield 13, 3) := by decide +kernel
theorem dX0_advertise_29 : decode cX0_advertise 29 = .ok (.iload_n 1, 1) := by decide +kernel
theorem dX0_advertise_30 : decode cX0_advertise 30 = .ok (.iconst 4, 1) := by decide +kernel
theorem dX0_advertise_31 : decode cX0_advertise 31 = .ok (.imul, 1) := by decide +kernel
theorem dX0_advertise_32 : decode cX0_advertise 32 = .ok (.iload 4, 2) := by decide +kernel
theorem dX0_advertise_34 : decode cX0_advertise 34 = .ok (.iadd, 1) := by decide +kernel
theorem dX0_advertise_35 : decode cX0_advertise 35 = .ok (.baload, 1) := by decide +kernel
theorem dX0_advertise_36 : decode cX0_advertise 36 = .ok (.ifCond .eq 49, 3) := by decide +kernel
theorem dX0_advertise_39 : decode cX0_advertise 39 = .ok (.aload_n 0, 1) := by decide +kernel
theorem dX0_advertise_40 : decode cX0_advertise 40 = .ok (.getfield 41, 3) := by decide +kernel
theorem dX0_advertise_43 : decode cX0_advertise 43 = .ok (.iload 4, 2) := by decide +kernel
theorem dX0_advertise_45 : decode cX0_advertise 45 = .ok (.iload_n 2, 1) := by decide +kernel
theorem dX0_advertise_46 : decode cX0_advertise 46 = .ok (.invokestatic 70, 3) := by decide +kernel
theorem dX0_advertise_49 : decode cX0_advertise 49 = .ok (.iaload, 1) := by decide +kernel
theorem dX0_advertise_50 : decode cX0_advertise 50 = .ok (.istore 5, 2) := by decide +kernel
theorem dX0_advertise_52 : decode cX0_advertise 52 = .ok (.iload 5, 2) := by decide +kernel
theorem dX0_advertise_54 : decode cX0_advertise 54 = .ok (.iconst 2, 1) := by decide +kernel
theorem dX0_advertise_55 : decode cX0_advertise 55 = .ok (.if_icmp .ne 15, 3) := by decide +kernel
theorem dX0_advertise_58 : decode cX0_advertise 58 = .ok (.aload_n 0, 1) := by decide +kernel
theorem dX0_advertise_59 : decode cX0_advertise 59 = .ok (.iload 4, 2) := by decide +kernel
theorem dX0_advertise_61 : decode cX0_advertise 61 = .ok (.iload_n 2, 1) := by decide +kernel
theorem dX0_advertise_62 : decode cX0_advertise 62 = .ok (.iload_n 1, 1) := by decide +kernel
theorem dX0_advertise_63 : decode cX0_advertise 63 = .ok (.iload_n 3, 1) := by decide +kernel
theorem dX0_advertise_64 : decode cX0_advertise 64 = .ok (.invokevirtual 134, 3) := by decide +kernel
theorem dX0_advertise_67 : decode cX0_advertise 67 = .ok (.goto 18, 3) := by decide +kernel
theorem dX0_advertise_70 : decode cX0_advertise 70 = .ok (.iload 5, 2) := by decide +kernel
theorem dX0_advertise_72 : decode cX0_advertise 72 = .ok (.iconst 1, 1) := by decide +kernel
theorem dX0_advertise_73 : decode cX0_advertise 73 = .ok (.if_icmp .ne 12, 3) := by decide +kernel
theorem dX0_advertise_76 : decode cX0_advertise 76 = .ok (.aload_n 0, 1) := by decide +kernel
theorem dX0_advertise_77 : decode cX0_advertise 77 = .ok (.iload 4, 2) := by decide +kernel
theorem dX0_advertise_79 : decode cX0_advertise 79 = .ok (.iload_n 2, 1) := by decide +kernel
theorem dX0_advertise_80 : decode cX0_advertise 80 = .ok (.iload_n 1, 1) := by decide +kernel
theorem dX0_advertise_81 : decode cX0_advertise 81 = .ok (.iload_n 3, 1) := by decide +kernel
theorem dX0_advertise_82 : decode cX0_advertise 82 = .ok (.invokevirtual 138, 3) := by decide +kernel
theorem dX0_advertise_85 : decode cX0_advertise 85 = .ok (.iinc 4 1, 3) := by decide +kernel
theorem dX0_advertise_88 : decode cX0_advertise 88 = .ok (.goto (-75), 3) := by decide +kernel
theorem dX0_advertise_91 : decode cX0_advertise 91 = .ok (.return_, 1) := by decide +kernel
set_option maxRecDepth 20000 in
theorem ggX0_receiveAsMaster_X0_loweredPriority : GoodIn wsX0_receiveAsMaster wsX0_loweredPriority := goodIn_r _ [5, 6, 7, 8, 9, 10, 11, 12, 13, 14, 4, 15, 16, 17, 18, 42, 43, 44, 45, 46, 47, 48, 49, 50, 51, 52, 53, 54, 55, 56, 57, 58, 59] (by decide +kernel) (by decide +kernel)
set_option maxRecDepth 20000 in
theorem gX0_receiveAsMaster_X0_loweredPriority : GoodIn wsX0_receiveAsMaster (wsV RX0 119 RX0 yX0_loweredPriority wsX0_loweredPriority) := goodIn_app (goodIn_of _ (by decide +kernel)) ggX0_receiveAsMaster_X0_loweredPriority
set_option maxRecDepth 20000 in
theorem ggX0_receiveAsMaster_X0_becomeBackup : GoodIn wsX0_receiveAsMaster wsX0_becomeBackup := goodIn_r _ [22, 23, 24, 25, 13, 14, 4, 15, 1, 2, 3, 5, 6, 7, 8, 9, 10, 11, 12, 16, 17, 18, 26, 27, 28, 29, 30, 31, 32, 33, 34, 42, 43, 44, 45, 46, 47, 48, 49, 50, 51, 52, 53, 54, 55, 56, 57, 58, 59] (by decide +kernel) (by decide +kernel)
set_option maxRecDepth 20000 in
theorem gX0_receiveAsMaster_X0_becomeBackup : GoodIn wsX0_receiveAsMaster (wsV RX0 103 RX0 yX0_becomeBackup wsX0_becomeBackup) := goodIn_app (goodIn_of _ (by decide +kernel)) ggX0_receiveAsMaster_X0_becomeBackup
set_option maxRecDepth 20000 in
theorem ggX0_receiveAsMaster_X0_copyServed : GoodIn wsX0_receiveAsMaster wsX0_copyServed := goodIn_r _ [38, 39, 40, 41, 13, 14, 4, 15, 42, 43, 44, 45, 46, 47, 48, 49, 50, 51, 52, 53, 54, 55, 56, 57, 58, 59] (by decide +kernel) (by decide +kernel)
set_option maxRecDepth 20000 in
theorem gX0_receiveAsMaster_X0_copyServed : GoodIn wsX0_receiveAsMaster (wsV RX0 141 RX0 yX0_copyServed wsX0_copyServed) := goodIn_app (goodIn_of _ (by decide +kernel)) ggX0_receiveAsMaster_X0_copyServed
theorem dX0_receiveAsMaster_0 : decode cX0_receiveAsMaster 0 = .ok (.aload_n 0, 1) := by decide +kernel
theorem dX0_receiveAsMaster_1 : decode cX0_receiveAsMaster 1 = .ok (.iload_n 1, 1) := by decide +kernel
theorem dX0_receiveAsMaster_2 : decode cX0_receiveAsMaster 2 = .ok (.iload_n 2, 1) := by decide +kernel
theorem dX0_receiveAsMaster_3 : decode cX0_receiveAsMaster 3 = .ok (.invokevirtual 119, 3) := by decide +kernel
theorem dX0_receiveAsMaster_6 : decode cX0_receiveAsMaster 6 = .ok (.istore 5, 2) := by decide +kernel
theorem dX0_receiveAsMaster_8 : decode cX0_receiveAsMaster 8 = .ok (.iload 4, 2) := by decide +kernel
theorem dX0_receiveAsMaster_10 : decode cX0_receiveAsMaster 10 = .ok (.iload 5, 2) := by decide +kernel
theorem dX0_receiveAsMaster_12 : decode cX0_receiveAsMaster 12 = .ok (.if_icmp .gt 15, 3) := by decide +kernel
theorem dX0_receiveAsMaster_15 : decode cX0_receiveAsMaster 15 = .ok (.iload 4, 2) := by decide +kernel
theorem dX0_receiveAsMaster_17 : decode cX0_receiveAsMaster 17 = .ok (.iload 5, 2) := by decide +kernel
theorem dX0_receiveAsMaster_19 : decode cX0_receiveAsMaster 19 = .ok (.if_icmp .ne 21, 3) := by decide +kernel
theorem dX0_receiveAsMaster_22 : decode cX0_receiveAsMaster 22 = .ok (.iload_n 3, 1) := by decide +kernel
theorem dX0_receiveAsMaster_23 : decode cX0_receiveAsMaster 23 = .ok (.iload_n 1, 1) := by decide +kernel
theorem dX0_receiveAsMaster_24 : decode cX0_receiveAsMaster 24 = .ok (.if_icmp .le 16, 3) := by decide +kernel
theorem dX0_receiveAsMaster_27 : decode cX0_receiveAsMaster 27 = .ok (.aload_n 0, 1) := by decide +kernel
theorem dX0_receiveAsMaster_28 : decode cX0_receiveAsMaster 28 = .ok (.iload_n 1, 1) := by decide +kernel
theorem dX0_receiveAsMaster_29 : decode cX0_receiveAsMaster 29 = .ok (.iload_n 2, 1) := by decide +kernel
theorem dX0_receiveAsMaster_30 : decode cX0_receiveAsMaster 30 = .ok (.invokevirtual 103, 3) := by decide +kernel
theorem dX0_receiveAsMaster_33 : decode cX0_receiveAsMaster 33 = .ok (.aload_n 0, 1) := by decide +kernel
theorem dX0_receiveAsMaster_34 : decode cX0_receiveAsMaster 34 = .ok (.iload_n 1, 1) := by decide +kernel
theorem dX0_receiveAsMaster_35 : decode cX0_receiveAsMaster 35 = .ok (.iload_n 2, 1) := by decide +kernel
theorem dX0_receiveAsMaster_36 : decode cX0_receiveAsMaster 36 = .ok (.iload_n 3, 1) := by decide +kernel
theorem dX0_receiveAsMaster_37 : decode cX0_receiveAsMaster 37 = .ok (.invokevirtual 141, 3) := by decide +kernel
theorem dX0_receiveAsMaster_40 : decode cX0_receiveAsMaster 40 = .ok (.return_, 1) := by decide +kernel
set_option maxRecDepth 20000 in
theorem ggX0_receiveAsBackup_X0_placeOf : GoodIn wsX0_receiveAsBackup wsX0_placeOf := goodIn_r _ [8] (by decide +kernel) (by decide +kernel)
set_option maxRecDepth 20000 in
theorem gX0_receiveAsBackup_X0_placeOf : GoodIn wsX0_receiveAsBackup (va_wsS RX0 70 yX0_placeOf wsX0_placeOf) := goodIn_app (goodIn_of _ (by decide +kernel)) ggX0_receiveAsBackup_X0_placeOf
set_option maxRecDepth 20000 in
theorem ggX0_receiveAsBackup_X0_loweredPriority : GoodIn wsX0_receiveAsBackup wsX0_loweredPriority := goodIn_r _ [12, 13, 14, 15, 16, 17, 18, 19, 5, 6, 7, 8, 20, 21, 22, 39, 40, 41, 42, 43, 44, 45, 46, 47, 48, 49, 50, 51, 52, 53, 54, 55, 56] (by decide +kernel) (by decide +kernel)
set_option maxRecDepth 20000 in
theorem gX0_receiveAsBackup_X0_loweredPriority : GoodIn wsX0_receiveAsBackup (wsV RX0 119 RX0 yX0_loweredPriority wsX0_loweredPriority) := goodIn_app (goodIn_of _ (by decide +kernel)) ggX0_receiveAsBackup_X0_loweredPriority
set_option maxRecDepth 20000 in
theorem ggX0_receiveAsBackup_X0_skewOf : GoodIn wsX0_receiveAsBackup wsX0_skewOf := goodIn_r _ [26, 27, 39, 40, 41, 42, 43, 44, 45, 46, 47, 48, 49, 50, 51, 52, 53, 54, 55, 56] (by decide +kernel) (by decide +kernel)
set_option maxRecDepth 20000 in
theorem gX0_receiveAsBackup_X0_skewOf : GoodIn wsX0_receiveAsBackup (wsV RX0 144 RX0 yX0_skewOf wsX0_skewOf) := goodIn_app (goodIn_of _ (by decide +kernel)) ggX0_receiveAsBackup_X0_skewOf
set_option maxRecDepth 20000 in
theorem ggX0_receiveAsBackup_X0_waitOf : GoodIn wsX0_receiveAsBackup wsX0_waitOf := goodIn_r _ [31, 27, 23, 24, 25, 7, 26, 39, 40, 41, 42, 43, 44, 45, 46, 47, 48, 49, 50, 51, 52, 53, 54, 55, 56] (by decide +kernel) (by decide +kernel)
set_option maxRecDepth 20000 in
theorem gX0_receiveAsBackup_X0_waitOf : GoodIn wsX0_receiveAsBackup (wsV RX0 147 RX0 yX0_waitOf wsX0_waitOf) := goodIn_app (goodIn_of _ (by decide +kernel)) ggX0_receiveAsBackup_X0_waitOf
set_option maxRecDepth 20000 in
theorem ggX0_receiveAsBackup_X0_copyServed : GoodIn wsX0_receiveAsBackup wsX0_copyServed := goodIn_r _ [35, 36, 37, 38, 5, 6, 7, 8, 39, 40, 41, 42, 43, 44, 45, 46, 47, 48, 49, 50, 51, 52, 53, 54, 55, 56] (by decide +kernel) (by decide +kernel)
set_option maxRecDepth 20000 in
theorem gX0_receiveAsBackup_X0_copyServed : GoodIn wsX0_receiveAsBackup (wsV RX0 141 RX0 yX0_copyServed wsX0_copyServed) := goodIn_app (goodIn_of _ (by decide +kernel)) ggX0_receiveAsBackup_X0_copyServed
theorem dX0_receiveAsBackup_0 : decode cX0_receiveAsBackup 0 = .ok (.iload_n 1, 1) := by decide +kernel
theorem dX0_receiveAsBackup_1 : decode cX0_receiveAsBackup 1 = .ok (.iload_n 2, 1) := by decide +kernel
theorem dX0_receiveAsBackup_2 : decode cX0_receiveAsBackup 2 = .ok (.invokestatic 70, 3) := by decide +kernel
theorem dX0_receiveAsBackup_5 : decode cX0_receiveAsBackup 5 = .ok (.istore 5, 2) := by decide +kernel
theorem dX0_receiveAsBackup_7 : decode cX0_receiveAsBackup 7 = .ok (.aload_n 0, 1) := by decide +kernel
theorem dX0_receiveAsBackup_8 : decode cX0_receiveAsBackup 8 = .ok (.iload_n 1, 1) := by decide +kernel
theorem dX0_receiveAsBackup_9 : decode cX0_receiveAsBackup 9 = .ok (.iload_n 2, 1) := by decide +kernel
theorem dX0_receiveAsBackup_10 : decode cX0_receiveAsBackup 10 = .ok (.invokevirtual 119, 3) := by decide +kernel
theorem dX0_receiveAsBackup_13 : decode cX0_receiveAsBackup 13 = .ok (.istore 6, 2) := by decide +kernel
theorem dX0_receiveAsBackup_15 : decode cX0_receiveAsBackup 15 = .ok (.iload 4, 2) := by decide +kernel
theorem dX0_receiveAsBackup_17 : decode cX0_receiveAsBackup 17 = .ok (.ifCond .ne 22, 3) := by decide +kernel
theorem dX0_receiveAsBackup_20 : decode cX0_receiveAsBackup 20 = .ok (.aload_n 0, 1) := by decide +kernel
theorem dX0_receiveAsBackup_21 : decode cX0_receiveAsBackup 21 = .ok (.getfield 44, 3) := by decide +kernel
theorem dX0_receiveAsBackup_24 : decode cX0_receiveAsBackup 24 = .ok (.iload 5, 2) := by decide +kernel
theorem dX0_receiveAsBackup_26 : decode cX0_receiveAsBackup 26 = .ok (.aload_n 0, 1) := by decide +kernel
theorem dX0_receiveAsBackup_27 : decode cX0_receiveAsBackup 27 = .ok (.iload 6, 2) := by decide +kernel
theorem dX0_receiveAsBackup_29 : decode cX0_receiveAsBackup 29 = .ok (.iload_n 2, 1) := by decide +kernel
theorem dX0_receiveAsBackup_30 : decode cX0_receiveAsBackup 30 = .ok (.invokevirtual 144, 3) := by decide +kernel
theorem dX0_receiveAsBackup_33 : decode cX0_receiveAsBackup 33 = .ok (.iconst 1, 1) := by decide +kernel
theorem dX0_receiveAsBackup_34 : decode cX0_receiveAsBackup 34 = .ok (.iadd, 1) := by decide +kernel
theorem dX0_receiveAsBackup_35 : decode cX0_receiveAsBackup 35 = .ok (.iastore, 1) := by decide +kernel
theorem dX0_receiveAsBackup_36 : decode cX0_receiveAsBackup 36 = .ok (.goto 86, 3) := by decide +kernel
theorem dX0_receiveAsBackup_39 : decode cX0_receiveAsBackup 39 = .ok (.aload_n 0, 1) := by decide +kernel
theorem dX0_receiveAsBackup_40 : decode cX0_receiveAsBackup 40 = .ok (.getfield 26, 3) := by decide +kernel
theorem dX0_receiveAsBackup_43 : decode cX0_receiveAsBackup 43 = .ok (.iload_n 2, 1) := by decide +kernel
theorem dX0_receiveAsBackup_44 : decode cX0_receiveAsBackup 44 = .ok (.baload, 1) := by decide +kernel
theorem dX0_receiveAsBackup_45 : decode cX0_receiveAsBackup 45 = .ok (.ifCond .eq 55, 3) := by decide +kernel
theorem dX0_receiveAsBackup_48 : decode cX0_receiveAsBackup 48 = .ok (.iload 6, 2) := by decide +kernel
theorem dX0_receiveAsBackup_50 : decode cX0_receiveAsBackup 50 = .ok (.iload 4, 2) := by decide +kernel
theorem dX0_receiveAsBackup_52 : decode cX0_receiveAsBackup 52 = .ok (.if_icmp .le 48, 3) := by decide +kernel
theorem dX0_receiveAsBackup_55 : decode cX0_receiveAsBackup 55 = .ok (.aload_n 0, 1) := by decide +kernel
theorem dX0_receiveAsBackup_56 : decode cX0_receiveAsBackup 56 = .ok (.getfield 47, 3) := by decide +kernel
theorem dX0_receiveAsBackup_59 : decode cX0_receiveAsBackup 59 = .ok (.iload 5, 2) := by decide +kernel
theorem dX0_receiveAsBackup_61 : decode cX0_receiveAsBackup 61 = .ok (.iaload, 1) := by decide +kernel
theorem dX0_receiveAsBackup_62 : decode cX0_receiveAsBackup 62 = .ok (.aload_n 0, 1) := by decide +kernel
theorem dX0_receiveAsBackup_63 : decode cX0_receiveAsBackup 63 = .ok (.getfield 29, 3) := by decide +kernel
theorem dX0_receiveAsBackup_66 : decode cX0_receiveAsBackup 66 = .ok (.iload_n 2, 1) := by decide +kernel
theorem dX0_receiveAsBackup_67 : decode cX0_receiveAsBackup 67 = .ok (.iaload, 1) := by decide +kernel
theorem dX0_receiveAsBackup_68 : decode cX0_receiveAsBackup 68 = .ok (.if_icmp .lt 4, 3) := by decide +kernel
theorem dX0_receiveAsBackup_71 : decode cX0_receiveAsBackup 71 = .ok (.return_, 1) := by decide +kernel
theorem dX0_receiveAsBackup_72 : decode cX0_receiveAsBackup 72 = .ok (.aload_n 0, 1) := by decide +kernel
theorem dX0_receiveAsBackup_73 : decode cX0_receiveAsBackup 73 = .ok (.getfield 47, 3) := by decide +kernel
theorem dX0_receiveAsBackup_76 : decode cX0_receiveAsBackup 76 = .ok (.iload 5, 2) := by decide +kernel
theorem dX0_receiveAsBackup_78 : decode cX0_receiveAsBackup 78 = .ok (.dup2, 1) := by decide +kernel
theorem dX0_receiveAsBackup_79 : decode cX0_receiveAsBackup 79 = .ok (.iaload, 1) := by decide +kernel
theorem dX0_receiveAsBackup_80 : decode cX0_receiveAsBackup 80 = .ok (.iconst 1, 1) := by decide +kernel
theorem dX0_receiveAsBackup_81 : decode cX0_receiveAsBackup 81 = .ok (.iadd, 1) := by decide +kernel
theorem dX0_receiveAsBackup_82 : decode cX0_receiveAsBackup 82 = .ok (.iastore, 1) := by decide +kernel
theorem dX0_receiveAsBackup_83 : decode cX0_receiveAsBackup 83 = .ok (.aload_n 0, 1) := by decide +kernel
theorem dX0_receiveAsBackup_84 : decode cX0_receiveAsBackup 84 = .ok (.getfield 44, 3) := by decide +kernel
theorem dX0_receiveAsBackup_87 : decode cX0_receiveAsBackup 87 = .ok (.iload 5, 2) := by decide +kernel
theorem dX0_receiveAsBackup_89 : decode cX0_receiveAsBackup 89 = .ok (.aload_n 0, 1) := by decide +kernel
theorem dX0_receiveAsBackup_90 : decode cX0_receiveAsBackup 90 = .ok (.iload 6, 2) := by decide +kernel
theorem dX0_receiveAsBackup_92 : decode cX0_receiveAsBackup 92 = .ok (.iload_n 2, 1) := by decide +kernel
theorem dX0_receiveAsBackup_93 : decode cX0_receiveAsBackup 93 = .ok (.invokevirtual 147, 3) := by decide +kernel
theorem dX0_receiveAsBackup_96 : decode cX0_receiveAsBackup 96 = .ok (.iastore, 1) := by decide +kernel
theorem dX0_receiveAsBackup_97 : decode cX0_receiveAsBackup 97 = .ok (.goto 25, 3) := by decide +kernel
theorem dX0_receiveAsBackup_100 : decode cX0_receiveAsBackup 100 = .ok (.aload_n 0, 1) := by decide +kernel
theorem dX0_receiveAsBackup_101 : decode cX0_receiveAsBackup 101 = .ok (.getfield 47, 3) := by decide +kernel
theorem dX0_receiveAsBackup_104 : decode cX0_receiveAsBackup 104 = .ok (.iload 5, 2) := by decide +kernel
theorem dX0_receiveAsBackup_106 : decode cX0_receiveAsBackup 106 = .ok (.iconst 0, 1) := by decide +kernel
theorem dX0_receiveAsBackup_107 : decode cX0_receiveAsBackup 107 = .ok (.iastore, 1) := by decide +kernel
theorem dX0_receiveAsBackup_108 : decode cX0_receiveAsBackup 108 = .ok (.aload_n 0, 1) := by decide +kernel
theorem dX0_receiveAsBackup_109 : decode cX0_receiveAsBackup 109 = .ok (.getfield 44, 3) := by decide +kernel
theorem dX0_receiveAsBackup_112 : decode cX0_receiveAsBackup 112 = .ok (.iload 5, 2) := by decide +kernel
theorem dX0_receiveAsBackup_114 : decode cX0_receiveAsBackup 114 = .ok (.aload_n 0, 1) := by decide +kernel
theorem dX0_receiveAsBackup_115 : decode cX0_receiveAsBackup 115 = .ok (.iload 6, 2) := by decide +kernel
theorem dX0_receiveAsBackup_117 : decode cX0_receiveAsBackup 117 = .ok (.iload_n 2, 1) := by decide +kernel
theorem dX0_receiveAsBackup_118 : decode cX0_receiveAsBackup 118 = .ok (.invokevirtual 147, 3) := by decide +kernel
theorem dX0_receiveAsBackup_121 : decode cX0_receiveAsBackup 121 = .ok (.iastore, 1) := by decide +kernel
theorem dX0_receiveAsBackup_122 : decode cX0_receiveAsBackup 122 = .ok (.aload_n 0, 1) := by decide +kernel
theorem dX0_receiveAsBackup_123 : decode cX0_receiveAsBackup 123 = .ok (.iload_n 1, 1) := by decide +kernel
theorem dX0_receiveAsBackup_124 : decode cX0_receiveAsBackup 124 = .ok (.iload_n 2, 1) := by decide +kernel
theorem dX0_receiveAsBackup_125 : decode cX0_receiveAsBackup 125 = .ok (.iload_n 3, 1) := by decide +kernel
theorem dX0_receiveAsBackup_126 : decode cX0_receiveAsBackup 126 = .ok (.invokevirtual 141, 3) := by decide +kernel
theorem dX0_receiveAsBackup_129 : decode cX0_receiveAsBackup 129 = .ok (.return_, 1) := by decide +kernel
set_option maxRecDepth 20000 in
theorem ggX0_copyServed_X0_placeOf : GoodIn wsX0_copyServed wsX0_placeOf := goodIn_r _ [7] (by decide +kernel) (by decide +kernel)
set_option maxRecDepth 20000 in
theorem gX0_copyServed_X0_placeOf : GoodIn wsX0_copyServed (va_wsS RX0 70 yX0_placeOf wsX0_placeOf) := goodIn_app (goodIn_of _ (by decide +kernel)) ggX0_copyServed_X0_placeOf
theorem dX0_copyServed_0 : decode cX0_copyServed 0 = .ok (.iload_n 1, 1) := by decide +kernel
theorem dX0_copyServed_1 : decode cX0_copyServed 1 = .ok (.iload_n 2, 1) := by decide +kernel
theorem dX0_copyServed_2 : decode cX0_copyServed 2 = .ok (.invokestatic 70, 3) := by decide +kernel
theorem dX0_copyServed_5 : decode cX0_copyServed 5 = .ok (.istore 4, 2) := by decide +kernel
theorem dX0_copyServed_7 : decode cX0_copyServed 7 = .ok (.aload_n 0, 1) := by decide +kernel
theorem dX0_copyServed_8 : decode cX0_copyServed 8 = .ok (.getfield 50, 3) := by decide +kernel
theorem dX0_copyServed_11 : decode cX0_copyServed 11 = .ok (.iload_n 3, 1) := by decide +kernel
theorem dX0_copyServed_12 : decode cX0_copyServed 12 = .ok (.iload_n 2, 1) := by decide +kernel
theorem dX0_copyServed_13 : decode cX0_copyServed 13 = .ok (.invokestatic 70, 3) := by decide +kernel
theorem dX0_copyServed_16 : decode cX0_copyServed 16 = .ok (.iaload, 1) := by decide +kernel
theorem dX0_copyServed_17 : decode cX0_copyServed 17 = .ok (.aload_n 0, 1) := by decide +kernel
theorem dX0_copyServed_18 : decode cX0_copyServed 18 = .ok (.getfield 50, 3) := by decide +kernel
theorem dX0_copyServed_21 : decode cX0_copyServed 21 = .ok (.iload 4, 2) := by decide +kernel
theorem dX0_copyServed_23 : decode cX0_copyServed 23 = .ok (.iaload, 1) := by decide +kernel
theorem dX0_copyServed_24 : decode cX0_copyServed 24 = .ok (.isub, 1) := by decide +kernel
theorem dX0_copyServed_25 : decode cX0_copyServed 25 = .ok (.istore 5, 2) := by decide +kernel
theorem dX0_copyServed_27 : decode cX0_copyServed 27 = .ok (.iload 5, 2) := by decide +kernel
theorem dX0_copyServed_29 : decode cX0_copyServed 29 = .ok (.ifCond .gt 4, 3) := by decide +kernel
theorem dX0_copyServed_32 : decode cX0_copyServed 32 = .ok (.return_, 1) := by decide +kernel
theorem dX0_copyServed_33 : decode cX0_copyServed 33 = .ok (.iload 5, 2) := by decide +kernel
theorem dX0_copyServed_35 : decode cX0_copyServed 35 = .ok (.bipush 10, 2) := by decide +kernel
theorem dX0_copyServed_37 : decode cX0_copyServed 37 = .ok (.if_icmp .le 22, 3) := by decide +kernel
theorem dX0_copyServed_40 : decode cX0_copyServed 40 = .ok (.aload_n 0, 1) := by decide +kernel
theorem dX0_copyServed_41 : decode cX0_copyServed 41 = .ok (.getfield 56, 3) := by decide +kernel
theorem dX0_copyServed_44 : decode cX0_copyServed 44 = .ok (.iload 4, 2) := by decide +kernel
theorem dX0_copyServed_46 : decode cX0_copyServed 46 = .ok (.baload, 1) := by decide +kernel
theorem dX0_copyServed_47 : decode cX0_copyServed 47 = .ok (.ifCond .ne 12, 3) := by decide +kernel
theorem dX0_copyServed_50 : decode cX0_copyServed 50 = .ok (.aload_n 0, 1) := by decide +kernel
theorem dX0_copyServed_51 : decode cX0_copyServed 51 = .ok (.getfield 56, 3) := by decide +kernel
theorem dX0_copyServed_54 : decode cX0_copyServed 54 = .ok (.iload 4, 2) := by decide +kernel
theorem dX0_copyServed_56 : decode cX0_copyServed 56 = .ok (.iconst 1, 1) := by decide +kernel
theorem dX0_copyServed_57 : decode cX0_copyServed 57 = .ok (.bastore, 1) := by decide +kernel
theorem dX0_copyServed_58 : decode cX0_copyServed 58 = .ok (.return_, 1) := by decide +kernel
theorem dX0_copyServed_59 : decode cX0_copyServed 59 = .ok (.aload_n 0, 1) := by decide +kernel
theorem dX0_copyServed_60 : decode cX0_copyServed 60 = .ok (.getfield 50, 3) := by decide +kernel
theorem dX0_copyServed_63 : decode cX0_copyServed 63 = .ok (.iload 4, 2) := by decide +kernel
theorem dX0_copyServed_65 : decode cX0_copyServed 65 = .ok (.dup2, 1) := by decide +kernel
theorem dX0_copyServed_66 : decode cX0_copyServed 66 = .ok (.iaload, 1) := by decide +kernel
theorem dX0_copyServed_67 : decode cX0_copyServed 67 = .ok (.iload 5, 2) := by decide +kernel
theorem dX0_copyServed_69 : decode cX0_copyServed 69 = .ok (.iadd, 1) := by decide +kernel
theorem dX0_copyServed_70 : decode cX0_copyServed 70 = .ok (.iastore, 1) := by decide +kernel
theorem dX0_copyServed_71 : decode cX0_copyServed 71 = .ok (.aload_n 0, 1) := by decide +kernel
theorem dX0_copyServed_72 : decode cX0_copyServed 72 = .ok (.getfield 56, 3) := by decide +kernel
theorem dX0_copyServed_75 : decode cX0_copyServed 75 = .ok (.iload 4, 2) := by decide +kernel
theorem dX0_copyServed_77 : decode cX0_copyServed 77 = .ok (.baload, 1) := by decide +kernel
theorem dX0_copyServed_78 : decode cX0_copyServed 78 = .ok (.ifCond .eq 21, 3) := by decide +kernel
theorem dX0_copyServed_81 : decode cX0_copyServed 81 = .ok (.aload_n 0, 1) := by decide +kernel
theorem dX0_copyServed_82 : decode cX0_copyServed 82 = .ok (.getfield 56, 3) := by decide +kernel
theorem dX0_copyServed_85 : decode cX0_copyServed 85 = .ok (.iload 4, 2) := by decide +kernel
theorem dX0_copyServed_87 : decode cX0_copyServed 87 = .ok (.iconst 0, 1) := by decide +kernel
theorem dX0_copyServed_88 : decode cX0_copyServed 88 = .ok (.bastore, 1) := by decide +kernel
theorem dX0_copyServed_89 : decode cX0_copyServed 89 = .ok (.aload_n 0, 1) := by decide +kernel
theorem dX0_copyServed_90 : decode cX0_copyServed 90 = .ok (.dup, 1) := by decide +kernel
theorem dX0_copyServed_91 : decode cX0_copyServed 91 = .ok (.getfield 127, 3) := by decide +kernel
theorem dX0_copyServed_94 : decode cX0_copyServed 94 = .ok (.iconst 1, 1) := by decide +kernel
theorem dX0_copyServed_95 : decode cX0_copyServed 95 = .ok (.iadd, 1) := by decide +kernel
theorem dX0_copyServed_96 : decode cX0_copyServed 96 = .ok (.putfield 127, 3) := by decide +kernel
theorem dX0_copyServed_99 : decode cX0_copyServed 99 = .ok (.return_, 1) := by decide +kernel
set_option maxRecDepth 20000 in
theorem ggX0_beginPart_X0_becomeBackup : GoodIn wsX0_beginPart wsX0_becomeBackup := goodIn_r _ [6, 7, 8, 9, 10, 11, 5, 12, 13, 14, 15, 16, 17, 18, 19, 20, 21, 22, 23, 24, 25, 26, 27, 28, 29, 30, 31, 32, 33, 34, 35, 36, 37, 38, 39, 40, 41, 42, 43, 44, 45, 46, 47, 48, 49, 50, 51, 52, 53] (by decide +kernel) (by decide +kernel)
set_option maxRecDepth 20000 in
theorem gX0_beginPart_X0_becomeBackup : GoodIn wsX0_beginPart (wsV RX0 103 RX0 yX0_becomeBackup wsX0_becomeBackup) := goodIn_app (goodIn_of _ (by decide +kernel)) ggX0_beginPart_X0_becomeBackup
set_option maxRecDepth 20000 in
theorem ggX0_beginPart_X0_placeOf : GoodIn wsX0_beginPart wsX0_placeOf := goodIn_r _ [12] (by decide +kernel) (by decide +kernel)
set_option maxRecDepth 20000 in
theorem gX0_beginPart_X0_placeOf : GoodIn wsX0_beginPart (va_wsS RX0 70 yX0_placeOf wsX0_placeOf) := goodIn_app (goodIn_of _ (by decide +kernel)) ggX0_beginPart_X0_placeOf
theorem dX0_beginPart_0 : decode cX0_beginPart 0 = .ok (.aload_n 0, 1) := by decide +kernel
theorem dX0_beginPart_1 : decode cX0_beginPart 1 = .ok (.iload_n 1, 1) := by decide +kernel
theorem dX0_beginPart_2 : decode cX0_beginPart 2 = .ok (.iload_n 2, 1) := by decide +kernel
theorem dX0_beginPart_3 : decode cX0_beginPart 3 = .ok (.invokevirtual 103, 3) := by decide +kernel
theorem dX0_beginPart_6 : decode cX0_beginPart 6 = .ok (.aload_n 0, 1) := by decide +kernel
theorem dX0_beginPart_7 : decode cX0_beginPart 7 = .ok (.getfield 56, 3) := by decide +kernel
theorem dX0_beginPart_10 : decode cX0_beginPart 10 = .ok (.iload_n 1, 1) := by decide +kernel
theorem dX0_beginPart_11 : decode cX0_beginPart 11 = .ok (.iload_n 2, 1) := by decide +kernel
theorem dX0_beginPart_12 : decode cX0_beginPart 12 = .ok (.invokestatic 70, 3) := by decide +kernel
theorem dX0_beginPart_15 : decode cX0_beginPart 15 = .ok (.iconst 0, 1) := by decide +kernel
theorem dX0_beginPart_16 : decode cX0_beginPart 16 = .ok (.bastore, 1) := by decide +kernel
theorem dX0_beginPart_17 : decode cX0_beginPart 17 = .ok (.return_, 1) := by decide +kernel
set_option maxRecDepth 20000 in
theorem ggX0_becomeBackup_X0_placeOf : GoodIn wsX0_becomeBackup wsX0_placeOf := goodIn_r _ [7] (by decide +kernel) (by decide +kernel)
set_option maxRecDepth 20000 in
theorem gX0_becomeBackup_X0_placeOf : GoodIn wsX0_becomeBackup (va_wsS RX0 70 yX0_placeOf wsX0_placeOf) := goodIn_app (goodIn_of _ (by decide +kernel)) ggX0_becomeBackup_X0_placeOf
set_option maxRecDepth 20000 in
theorem ggX0_becomeBackup_X0_loweredPriority : GoodIn wsX0_becomeBackup wsX0_loweredPriority := goodIn_r _ [11, 12, 13, 14, 15, 16, 17, 18, 4, 5, 6, 7, 19, 20, 21, 31, 32, 33, 34, 35, 36, 37, 38, 39, 40, 41, 42, 43, 44, 45, 46, 47, 48] (by decide +kernel) (by decide +kernel)
set_option maxRecDepth 20000 in
theorem gX0_becomeBackup_X0_loweredPriority : GoodIn wsX0_becomeBackup (wsV RX0 119 RX0 yX0_loweredPriority wsX0_loweredPriority) := goodIn_app (goodIn_of _ (by decide +kernel)) ggX0_becomeBackup_X0_loweredPriority
set_option maxRecDepth 20000 in
theorem ggX0_becomeBackup_X0_waitOf : GoodIn wsX0_becomeBackup wsX0_waitOf := goodIn_r _ [25, 26, 27, 28, 29, 6, 30, 31, 32, 33, 34, 35, 36, 37, 38, 39, 40, 41, 42, 43, 44, 45, 46, 47, 48] (by decide +kernel) (by decide +kernel)
set_option maxRecDepth 20000 in
theorem gX0_becomeBackup_X0_waitOf : GoodIn wsX0_becomeBackup (wsV RX0 147 RX0 yX0_waitOf wsX0_waitOf) := goodIn_app (goodIn_of _ (by decide +kernel)) ggX0_becomeBackup_X0_waitOf
theorem dX0_becomeBackup_0 : decode cX0_becomeBackup 0 = .ok (.iload_n 1, 1) := by decide +kernel
theorem dX0_becomeBackup_1 : decode cX0_becomeBackup 1 = .ok (.iload_n 2, 1) := by decide +kernel
theorem dX0_becomeBackup_2 : decode cX0_becomeBackup 2 = .ok (.invokestatic 70, 3) := by decide +kernel
theorem dX0_becomeBackup_5 : decode cX0_becomeBackup 5 = .ok (.istore_n 3, 1) := by decide +kernel
theorem dX0_becomeBackup_6 : decode cX0_becomeBackup 6 = .ok (.aload_n 0, 1) := by decide +kernel
theorem dX0_becomeBackup_7 : decode cX0_becomeBackup 7 = .ok (.getfield 41, 3) := by decide +kernel
theorem dX0_becomeBackup_10 : decode cX0_becomeBackup 10 = .ok (.iload_n 3, 1) := by decide +kernel
theorem dX0_becomeBackup_11 : decode cX0_becomeBackup 11 = .ok (.iconst 1, 1) := by decide +kernel
theorem dX0_becomeBackup_12 : decode cX0_becomeBackup 12 = .ok (.iastore, 1) := by decide +kernel
theorem dX0_becomeBackup_13 : decode cX0_becomeBackup 13 = .ok (.aload_n 0, 1) := by decide +kernel
theorem dX0_becomeBackup_14 : decode cX0_becomeBackup 14 = .ok (.getfield 47, 3) := by decide +kernel
theorem dX0_becomeBackup_17 : decode cX0_becomeBackup 17 = .ok (.iload_n 3, 1) := by decide +kernel
theorem dX0_becomeBackup_18 : decode cX0_becomeBackup 18 = .ok (.iconst 0, 1) := by decide +kernel
theorem dX0_becomeBackup_19 : decode cX0_becomeBackup 19 = .ok (.iastore, 1) := by decide +kernel
theorem dX0_becomeBackup_20 : decode cX0_becomeBackup 20 = .ok (.aload_n 0, 1) := by decide +kernel
theorem dX0_becomeBackup_21 : decode cX0_becomeBackup 21 = .ok (.getfield 44, 3) := by decide +kernel
theorem dX0_becomeBackup_24 : decode cX0_becomeBackup 24 = .ok (.iload_n 3, 1) := by decide +kernel
theorem dX0_becomeBackup_25 : decode cX0_becomeBackup 25 = .ok (.aload_n 0, 1) := by decide +kernel
theorem dX0_becomeBackup_26 : decode cX0_becomeBackup 26 = .ok (.aload_n 0, 1) := by decide +kernel
theorem dX0_becomeBackup_27 : decode cX0_becomeBackup 27 = .ok (.iload_n 1, 1) := by decide +kernel
theorem dX0_becomeBackup_28 : decode cX0_becomeBackup 28 = .ok (.iload_n 2, 1) := by decide +kernel
theorem dX0_becomeBackup_29 : decode cX0_becomeBackup 29 = .ok (.invokevirtual 119, 3) := by decide +kernel
theorem dX0_becomeBackup_32 : decode cX0_becomeBackup 32 = .ok (.iload_n 2, 1) := by decide +kernel
theorem dX0_becomeBackup_33 : decode cX0_becomeBackup 33 = .ok (.invokevirtual 147, 3) := by decide +kernel
theorem dX0_becomeBackup_36 : decode cX0_becomeBackup 36 = .ok (.iastore, 1) := by decide +kernel
theorem dX0_becomeBackup_37 : decode cX0_becomeBackup 37 = .ok (.return_, 1) := by decide +kernel
set_option maxRecDepth 20000 in
theorem ggX0_membersWith_X0_placeOf : GoodIn wsX0_membersWith wsX0_placeOf := goodIn_r _ [5] (by decide +kernel) (by decide +kernel)
set_option maxRecDepth 20000 in
theorem gX0_membersWith_X0_placeOf : GoodIn wsX0_membersWith (va_wsS RX0 70 yX0_placeOf wsX0_placeOf) := goodIn_app (goodIn_of _ (by decide +kernel)) ggX0_membersWith_X0_placeOf
theorem dX0_membersWith_0 : decode cX0_membersWith 0 = .ok (.iconst 0, 1) := by decide +kernel
theorem dX0_membersWith_1 : decode cX0_membersWith 1 = .ok (.istore_n 3, 1) := by decide +kernel
theorem dX0_membersWith_2 : decode cX0_membersWith 2 = .ok (.iconst 0, 1) := by decide +kernel
theorem dX0_membersWith_3 : decode cX0_membersWith 3 = .ok (.istore 4, 2) := by decide +kernel
theorem dX0_membersWith_5 : decode cX0_membersWith 5 = .ok (.iload 4, 2) := by decide +kernel
theorem dX0_membersWith_7 : decode cX0_membersWith 7 = .ok (.iconst 4, 1) := by decide +kernel
theorem dX0_membersWith_8 : decode cX0_membersWith 8 = .ok (.if_icmp .ge 31, 3) := by decide +kernel
theorem dX0_membersWith_11 : decode cX0_membersWith 11 = .ok (.aload_n 0, 1) := by decide +kernel
theorem dX0_membersWith_12 : decode cX0_membersWith 12 = .ok (.getfield 41, 3) := by decide +kernel
theorem dX0_membersWith_15 : decode cX0_membersWith 15 = .ok (.iload 4, 2) := by decide +kernel
theorem dX0_membersWith_17 : decode cX0_membersWith 17 = .ok (.iload_n 2, 1) := by decide +kernel
theorem dX0_membersWith_18 : decode cX0_membersWith 18 = .ok (.invokestatic 70, 3) := by decide +kernel
theorem dX0_membersWith_21 : decode cX0_membersWith 21 = .ok (.iaload, 1) := by decide +kernel
theorem dX0_membersWith_22 : decode cX0_membersWith 22 = .ok (.iload_n 1, 1) := by decide +kernel
theorem dX0_membersWith_23 : decode cX0_membersWith 23 = .ok (.if_icmp .ne 10, 3) := by decide +kernel
theorem dX0_membersWith_26 : decode cX0_membersWith 26 = .ok (.iload_n 3, 1) := by decide +kernel
theorem dX0_membersWith_27 : decode cX0_membersWith 27 = .ok (.iconst 1, 1) := by decide +kernel
theorem dX0_membersWith_28 : decode cX0_membersWith 28 = .ok (.iload 4, 2) := by decide +kernel
theorem dX0_membersWith_30 : decode cX0_membersWith 30 = .ok (.ishl, 1) := by decide +kernel
theorem dX0_membersWith_31 : decode cX0_membersWith 31 = .ok (.iadd, 1) := by decide +kernel
theorem dX0_membersWith_32 : decode cX0_membersWith 32 = .ok (.istore_n 3, 1) := by decide +kernel
theorem dX0_membersWith_33 : decode cX0_membersWith 33 = .ok (.iinc 4 1, 3) := by decide +kernel
theorem dX0_membersWith_36 : decode cX0_membersWith 36 = .ok (.goto (-31), 3) := by decide +kernel
theorem dX0_membersWith_39 : decode cX0_membersWith 39 = .ok (.iload_n 3, 1) := by decide +kernel
theorem dX0_membersWith_40 : decode cX0_membersWith 40 = .ok (.ireturn, 1) := by decide +kernel
set_option maxRecDepth 20000 in
theorem ggX0_hasJoinedMasters_X0_placeOf : GoodIn wsX0_hasJoinedMasters wsX0_placeOf := goodIn_r _ [6] (by decide +kernel) (by decide +kernel)
set_option maxRecDepth 20000 in
theorem gX0_hasJoinedMasters_X0_placeOf : GoodIn wsX0_hasJoinedMasters (va_wsS RX0 70 yX0_placeOf wsX0_placeOf) := goodIn_app (goodIn_of _ (by decide +kernel)) ggX0_hasJoinedMasters_X0_placeOf
theorem dX0_hasJoinedMasters_0 : decode cX0_hasJoinedMasters 0 = .ok (.iconst 0, 1) := by decide +kernel
theorem dX0_hasJoinedMasters_1 : decode cX0_hasJoinedMasters 1 = .ok (.istore_n 2, 1) := by decide +kernel
theorem dX0_hasJoinedMasters_2 : decode cX0_hasJoinedMasters 2 = .ok (.iload_n 2, 1) := by decide +kernel
theorem dX0_hasJoinedMasters_3 : decode cX0_hasJoinedMasters 3 = .ok (.iconst 4, 1) := by decide +kernel
theorem dX0_hasJoinedMasters_4 : decode cX0_hasJoinedMasters 4 = .ok (.if_icmp .ge 67, 3) := by decide +kernel
theorem dX0_hasJoinedMasters_7 : decode cX0_hasJoinedMasters 7 = .ok (.iload_n 2, 1) := by decide +kernel
theorem dX0_hasJoinedMasters_8 : decode cX0_hasJoinedMasters 8 = .ok (.iconst 1, 1) := by decide +kernel
theorem dX0_hasJoinedMasters_9 : decode cX0_hasJoinedMasters 9 = .ok (.iadd, 1) := by decide +kernel
theorem dX0_hasJoinedMasters_10 : decode cX0_hasJoinedMasters 10 = .ok (.istore_n 3, 1) := by decide +kernel
theorem dX0_hasJoinedMasters_11 : decode cX0_hasJoinedMasters 11 = .ok (.iload_n 3, 1) := by decide +kernel
theorem dX0_hasJoinedMasters_12 : decode cX0_hasJoinedMasters 12 = .ok (.iconst 4, 1) := by decide +kernel
theorem dX0_hasJoinedMasters_13 : decode cX0_hasJoinedMasters 13 = .ok (.if_icmp .ge 52, 3) := by decide +kernel
theorem dX0_hasJoinedMasters_16 : decode cX0_hasJoinedMasters 16 = .ok (.aload_n 0, 1) := by decide +kernel
theorem dX0_hasJoinedMasters_17 : decode cX0_hasJoinedMasters 17 = .ok (.getfield 41, 3) := by decide +kernel
theorem dX0_hasJoinedMasters_20 : decode cX0_hasJoinedMasters 20 = .ok (.iload_n 2, 1) := by decide +kernel
theorem dX0_hasJoinedMasters_21 : decode cX0_hasJoinedMasters 21 = .ok (.iload_n 1, 1) := by decide +kernel
theorem dX0_hasJoinedMasters_22 : decode cX0_hasJoinedMasters 22 = .ok (.invokestatic 70, 3) := by decide +kernel
theorem dX0_hasJoinedMasters_25 : decode cX0_hasJoinedMasters 25 = .ok (.iaload, 1) := by decide +kernel
theorem dX0_hasJoinedMasters_26 : decode cX0_hasJoinedMasters 26 = .ok (.iconst 2, 1) := by decide +kernel
theorem dX0_hasJoinedMasters_27 : decode cX0_hasJoinedMasters 27 = .ok (.if_icmp .ne 32, 3) := by decide +kernel
theorem dX0_hasJoinedMasters_30 : decode cX0_hasJoinedMasters 30 = .ok (.aload_n 0, 1) := by decide +kernel
theorem dX0_hasJoinedMasters_31 : decode cX0_hasJoinedMasters 31 = .ok (.getfield 41, 3) := by decide +kernel
theorem dX0_hasJoinedMasters_34 : decode cX0_hasJoinedMasters 34 = .ok (.iload_n 3, 1) := by decide +kernel
theorem dX0_hasJoinedMasters_35 : decode cX0_hasJoinedMasters 35 = .ok (.iload_n 1, 1) := by decide +kernel
theorem dX0_hasJoinedMasters_36 : decode cX0_hasJoinedMasters 36 = .ok (.invokestatic 70, 3) := by decide +kernel
theorem dX0_hasJoinedMasters_39 : decode cX0_hasJoinedMasters 39 = .ok (.iaload, 1) := by decide +kernel
theorem dX0_hasJoinedMasters_40 : decode cX0_hasJoinedMasters 40 = .ok (.iconst 2, 1) := by decide +kernel
theorem dX0_hasJoinedMasters_41 : decode cX0_hasJoinedMasters 41 = .ok (.if_icmp .ne 18, 3) := by decide +kernel
theorem dX0_hasJoinedMasters_44 : decode cX0_hasJoinedMasters 44 = .ok (.aload_n 0, 1) := by decide +kernel
theorem dX0_hasJoinedMasters_45 : decode cX0_hasJoinedMasters 45 = .ok (.getfield 13, 3) := by decide +kernel
theorem dX0_hasJoinedMasters_48 : decode cX0_hasJoinedMasters 48 = .ok (.iload_n 2, 1) := by decide +kernel
theorem dX0_hasJoinedMasters_49 : decode cX0_hasJoinedMasters 49 = .ok (.iconst 4, 1) := by decide +kernel
theorem dX0_hasJoinedMasters_50 : decode cX0_hasJoinedMasters 50 = .ok (.imul, 1) := by decide +kernel
theorem dX0_hasJoinedMasters_51 : decode cX0_hasJoinedMasters 51 = .ok (.iload_n 3, 1) := by decide +kernel
theorem dX0_hasJoinedMasters_52 : decode cX0_hasJoinedMasters 52 = .ok (.iadd, 1) := by decide +kernel
theorem dX0_hasJoinedMasters_53 : decode cX0_hasJoinedMasters 53 = .ok (.baload, 1) := by decide +kernel
theorem dX0_hasJoinedMasters_54 : decode cX0_hasJoinedMasters 54 = .ok (.ifCond .eq 5, 3) := by decide +kernel
theorem dX0_hasJoinedMasters_57 : decode cX0_hasJoinedMasters 57 = .ok (.iconst 1, 1) := by decide +kernel
theorem dX0_hasJoinedMasters_58 : decode cX0_hasJoinedMasters 58 = .ok (.ireturn, 1) := by decide +kernel
theorem dX0_hasJoinedMasters_59 : decode cX0_hasJoinedMasters 59 = .ok (.iinc 3 1, 3) := by decide +kernel
theorem dX0_hasJoinedMasters_62 : decode cX0_hasJoinedMasters 62 = .ok (.goto (-51), 3) := by decide +kernel
theorem dX0_hasJoinedMasters_65 : decode cX0_hasJoinedMasters 65 = .ok (.iinc 2 1, 3) := by decide +kernel
theorem dX0_hasJoinedMasters_68 : decode cX0_hasJoinedMasters 68 = .ok (.goto (-66), 3) := by decide +kernel
theorem dX0_hasJoinedMasters_71 : decode cX0_hasJoinedMasters 71 = .ok (.iconst 0, 1) := by decide +kernel
theorem dX0_hasJoinedMasters_72 : decode cX0_hasJoinedMasters 72 = .ok (.ireturn, 1) := by decide +kernel
set_option maxRecDepth 20000 in
theorem ggX0_loweredPriority_X0_placeOf : GoodIn wsX0_loweredPriority wsX0_placeOf := goodIn_r _ [11] (by decide +kernel) (by decide +kernel)
set_option maxRecDepth 20000 in
theorem gX0_loweredPriority_X0_placeOf : GoodIn wsX0_loweredPriority (va_wsS RX0 70 yX0_placeOf wsX0_placeOf) := goodIn_app (goodIn_of _ (by decide +kernel)) ggX0_loweredPriority_X0_placeOf
set_option maxRecDepth 20000 in
theorem ggX0_loweredPriority_X0_linkOf : GoodIn wsX0_loweredPriority wsX0_linkOf := goodIn_r _ [14] (by decide +kernel) (by decide +kernel)
set_option maxRecDepth 20000 in
theorem gX0_loweredPriority_X0_linkOf : GoodIn wsX0_loweredPriority (va_wsS RX0 84 yX0_linkOf wsX0_linkOf) := goodIn_app (goodIn_of _ (by decide +kernel)) ggX0_loweredPriority_X0_linkOf
theorem dX0_loweredPriority_0 : decode cX0_loweredPriority 0 = .ok (.aload_n 0, 1) := by decide +kernel
theorem dX0_loweredPriority_1 : decode cX0_loweredPriority 1 = .ok (.getfield 38, 3) := by decide +kernel
theorem dX0_loweredPriority_4 : decode cX0_loweredPriority 4 = .ok (.iload_n 1, 1) := by decide +kernel
theorem dX0_loweredPriority_5 : decode cX0_loweredPriority 5 = .ok (.iload_n 2, 1) := by decide +kernel
theorem dX0_loweredPriority_6 : decode cX0_loweredPriority 6 = .ok (.invokestatic 70, 3) := by decide +kernel
theorem dX0_loweredPriority_9 : decode cX0_loweredPriority 9 = .ok (.iaload, 1) := by decide +kernel
theorem dX0_loweredPriority_10 : decode cX0_loweredPriority 10 = .ok (.istore_n 3, 1) := by decide +kernel
theorem dX0_loweredPriority_11 : decode cX0_loweredPriority 11 = .ok (.iconst 0, 1) := by decide +kernel
theorem dX0_loweredPriority_12 : decode cX0_loweredPriority 12 = .ok (.istore 4, 2) := by decide +kernel
theorem dX0_loweredPriority_14 : decode cX0_loweredPriority 14 = .ok (.iload 4, 2) := by decide +kernel
theorem dX0_loweredPriority_16 : decode cX0_loweredPriority 16 = .ok (.iconst 2, 1) := by decide +kernel
theorem dX0_loweredPriority_17 : decode cX0_loweredPriority 17 = .ok (.if_icmp .ge 37, 3) := by decide +kernel
theorem dX0_loweredPriority_20 : decode cX0_loweredPriority 20 = .ok (.iload_n 1, 1) := by decide +kernel
theorem dX0_loweredPriority_21 : decode cX0_loweredPriority 21 = .ok (.iload 4, 2) := by decide +kernel
theorem dX0_loweredPriority_23 : decode cX0_loweredPriority 23 = .ok (.invokestatic 84, 3) := by decide +kernel
theorem dX0_loweredPriority_26 : decode cX0_loweredPriority 26 = .ok (.istore 5, 2) := by decide +kernel
theorem dX0_loweredPriority_28 : decode cX0_loweredPriority 28 = .ok (.aload_n 0, 1) := by decide +kernel
theorem dX0_loweredPriority_29 : decode cX0_loweredPriority 29 = .ok (.getfield 16, 3) := by decide +kernel
theorem dX0_loweredPriority_32 : decode cX0_loweredPriority 32 = .ok (.iload 5, 2) := by decide +kernel
theorem dX0_loweredPriority_34 : decode cX0_loweredPriority 34 = .ok (.baload, 1) := by decide +kernel
theorem dX0_loweredPriority_35 : decode cX0_loweredPriority 35 = .ok (.ifCond .ne 13, 3) := by decide +kernel
theorem dX0_loweredPriority_38 : decode cX0_loweredPriority 38 = .ok (.iload_n 3, 1) := by decide +kernel
theorem dX0_loweredPriority_39 : decode cX0_loweredPriority 39 = .ok (.aload_n 0, 1) := by decide +kernel
theorem dX0_loweredPriority_40 : decode cX0_loweredPriority 40 = .ok (.getfield 19, 3) := by decide +kernel
theorem dX0_loweredPriority_43 : decode cX0_loweredPriority 43 = .ok (.iload 5, 2) := by decide +kernel
theorem dX0_loweredPriority_45 : decode cX0_loweredPriority 45 = .ok (.iaload, 1) := by decide +kernel
theorem dX0_loweredPriority_46 : decode cX0_loweredPriority 46 = .ok (.isub, 1) := by decide +kernel
theorem dX0_loweredPriority_47 : decode cX0_loweredPriority 47 = .ok (.istore_n 3, 1) := by decide +kernel
theorem dX0_loweredPriority_48 : decode cX0_loweredPriority 48 = .ok (.iinc 4 1, 3) := by decide +kernel
theorem dX0_loweredPriority_51 : decode cX0_loweredPriority 51 = .ok (.goto (-37), 3) := by decide +kernel
theorem dX0_loweredPriority_54 : decode cX0_loweredPriority 54 = .ok (.iload_n 3, 1) := by decide +kernel
theorem dX0_loweredPriority_55 : decode cX0_loweredPriority 55 = .ok (.iconst 1, 1) := by decide +kernel
theorem dX0_loweredPriority_56 : decode cX0_loweredPriority 56 = .ok (.invokestatic 150, 3) := by decide +kernel
theorem dX0_loweredPriority_59 : decode cX0_loweredPriority 59 = .ok (.ireturn, 1) := by decide +kernel
set_option maxRecDepth 20000 in
theorem ggX0_waitOf_X0_skewOf : GoodIn wsX0_waitOf wsX0_skewOf := goodIn_r _ [6, 1, 7, 8, 9, 10, 11, 12, 13, 14, 15, 16, 17, 18, 19, 20, 21, 22, 23, 24] (by decide +kernel) (by decide +kernel)
set_option maxRecDepth 20000 in
theorem gX0_waitOf_X0_skewOf : GoodIn wsX0_waitOf (wsV RX0 144 RX0 yX0_skewOf wsX0_skewOf) := goodIn_app (goodIn_of _ (by decide +kernel)) ggX0_waitOf_X0_skewOf
theorem dX0_waitOf_0 : decode cX0_waitOf 0 = .ok (.iconst 3, 1) := by decide +kernel
theorem dX0_waitOf_1 : decode cX0_waitOf 1 = .ok (.aload_n 0, 1) := by decide +kernel
theorem dX0_waitOf_2 : decode cX0_waitOf 2 = .ok (.getfield 23, 3) := by decide +kernel
theorem dX0_waitOf_5 : decode cX0_waitOf 5 = .ok (.iload_n 2, 1) := by decide +kernel
theorem dX0_waitOf_6 : decode cX0_waitOf 6 = .ok (.iaload, 1) := by decide +kernel
theorem dX0_waitOf_7 : decode cX0_waitOf 7 = .ok (.imul, 1) := by decide +kernel
theorem dX0_waitOf_8 : decode cX0_waitOf 8 = .ok (.aload_n 0, 1) := by decide +kernel
theorem dX0_waitOf_9 : decode cX0_waitOf 9 = .ok (.iload_n 1, 1) := by decide +kernel
theorem dX0_waitOf_10 : decode cX0_waitOf 10 = .ok (.iload_n 2, 1) := by decide +kernel
theorem dX0_waitOf_11 : decode cX0_waitOf 11 = .ok (.invokevirtual 144, 3) := by decide +kernel
theorem dX0_waitOf_14 : decode cX0_waitOf 14 = .ok (.iadd, 1) := by decide +kernel
theorem dX0_waitOf_15 : decode cX0_waitOf 15 = .ok (.ireturn, 1) := by decide +kernel
theorem dX0_skewOf_0 : decode cX0_skewOf 0 = .ok (.aload_n 0, 1) := by decide +kernel
theorem dX0_skewOf_1 : decode cX0_skewOf 1 = .ok (.getfield 23, 3) := by decide +kernel
theorem dX0_skewOf_4 : decode cX0_skewOf 4 = .ok (.iload_n 2, 1) := by decide +kernel
theorem dX0_skewOf_5 : decode cX0_skewOf 5 = .ok (.iaload, 1) := by decide +kernel
theorem dX0_skewOf_6 : decode cX0_skewOf 6 = .ok (.sipush 256, 3) := by decide +kernel
theorem dX0_skewOf_9 : decode cX0_skewOf 9 = .ok (.iload_n 1, 1) := by decide +kernel
theorem dX0_skewOf_10 : decode cX0_skewOf 10 = .ok (.isub, 1) := by decide +kernel
theorem dX0_skewOf_11 : decode cX0_skewOf 11 = .ok (.imul, 1) := by decide +kernel
theorem dX0_skewOf_12 : decode cX0_skewOf 12 = .ok (.sipush 256, 3) := by decide +kernel
theorem dX0_skewOf_15 : decode cX0_skewOf 15 = .ok (.idiv, 1) := by decide +kernel
theorem dX0_skewOf_16 : decode cX0_skewOf 16 = .ok (.ireturn, 1) := by decide +kernel
theorem dX0_placeOf_0 : decode cX0_placeOf 0 = .ok (.iload_n 1, 1) := by decide +kernel
theorem dX0_placeOf_1 : decode cX0_placeOf 1 = .ok (.iconst 4, 1) := by decide +kernel
theorem dX0_placeOf_2 : decode cX0_placeOf 2 = .ok (.imul, 1) := by decide +kernel
theorem dX0_placeOf_3 : decode cX0_placeOf 3 = .ok (.iload_n 0, 1) := by decide +kernel
theorem dX0_placeOf_4 : decode cX0_placeOf 4 = .ok (.iadd, 1) := by decide +kernel
theorem dX0_placeOf_5 : decode cX0_placeOf 5 = .ok (.ireturn, 1) := by decide +kernel
theorem dX0_linkOf_0 : decode cX0_linkOf 0 = .ok (.iload_n 0, 1) := by decide +kernel
theorem dX0_linkOf_1 : decode cX0_linkOf 1 = .ok (.iconst 2, 1) := by decide +kernel
theorem dX0_linkOf_2 : decode cX0_linkOf 2 = .ok (.imul, 1) := by decide +kernel
theorem dX0_linkOf_3 : decode cX0_linkOf 3 = .ok (.iload_n 1, 1) := by decide +kernel
theorem dX0_linkOf_4 : decode cX0_linkOf 4 = .ok (.iadd, 1) := by decide +kernel
theorem dX0_linkOf_5 : decode cX0_linkOf 5 = .ok (.ireturn, 1) := by decide +kernel
theorem dX0_checkRouter_0 : decode cX0_checkRouter 0 = .ok (.iload_n 0, 1) := by decide +kernel
theorem dX0_checkRouter_1 : decode cX0_checkRouter 1 = .ok (.ifCond .lt 8, 3) := by decide +kernel
theorem dX0_checkRouter_4 : decode cX0_checkRouter 4 = .ok (.iload_n 0, 1) := by decide +kernel
theorem dX0_checkRouter_5 : decode cX0_checkRouter 5 = .ok (.iconst 4, 1) := by decide +kernel
theorem dX0_checkRouter_6 : decode cX0_checkRouter 6 = .ok (.if_icmp .lt 13, 3) := by decide +kernel
theorem dX0_checkRouter_9 : decode cX0_checkRouter 9 = .ok (.new 87, 3) := by decide +kernel
theorem dX0_checkRouter_12 : decode cX0_checkRouter 12 = .ok (.dup, 1) := by decide +kernel
theorem dX0_checkRouter_13 : decode cX0_checkRouter 13 = .ok (.ldc 155, 2) := by decide +kernel
theorem dX0_checkRouter_15 : decode cX0_checkRouter 15 = .ok (.invokespecial 91, 3) := by decide +kernel
theorem dX0_checkRouter_18 : decode cX0_checkRouter 18 = .ok (.athrow, 1) := by decide +kernel
theorem dX0_checkRouter_19 : decode cX0_checkRouter 19 = .ok (.return_, 1) := by decide +kernel
theorem dX0_checkGroup_0 : decode cX0_checkGroup 0 = .ok (.iload_n 0, 1) := by decide +kernel
theorem dX0_checkGroup_1 : decode cX0_checkGroup 1 = .ok (.ifCond .lt 8, 3) := by decide +kernel
theorem dX0_checkGroup_4 : decode cX0_checkGroup 4 = .ok (.iload_n 0, 1) := by decide +kernel
theorem dX0_checkGroup_5 : decode cX0_checkGroup 5 = .ok (.iconst 3, 1) := by decide +kernel
theorem dX0_checkGroup_6 : decode cX0_checkGroup 6 = .ok (.if_icmp .lt 13, 3) := by decide +kernel
theorem dX0_checkGroup_9 : decode cX0_checkGroup 9 = .ok (.new 87, 3) := by decide +kernel
theorem dX0_checkGroup_12 : decode cX0_checkGroup 12 = .ok (.dup, 1) := by decide +kernel
theorem dX0_checkGroup_13 : decode cX0_checkGroup 13 = .ok (.ldc 157, 2) := by decide +kernel
theorem dX0_checkGroup_15 : decode cX0_checkGroup 15 = .ok (.invokespecial 91, 3) := by decide +kernel
theorem dX0_checkGroup_18 : decode cX0_checkGroup 18 = .ok (.athrow, 1) := by decide +kernel
theorem dX0_checkGroup_19 : decode cX0_checkGroup 19 = .ok (.return_, 1) := by decide +kernel
theorem dX0_checkLink_0 : decode cX0_checkLink 0 = .ok (.iload_n 0, 1) := by decide +kernel
theorem dX0_checkLink_1 : decode cX0_checkLink 1 = .ok (.ifCond .lt 8, 3) := by decide +kernel
theorem dX0_checkLink_4 : decode cX0_checkLink 4 = .ok (.iload_n 0, 1) := by decide +kernel
theorem dX0_checkLink_5 : decode cX0_checkLink 5 = .ok (.iconst 2, 1) := by decide +kernel
theorem dX0_checkLink_6 : decode cX0_checkLink 6 = .ok (.if_icmp .lt 13, 3) := by decide +kernel
theorem dX0_checkLink_9 : decode cX0_checkLink 9 = .ok (.new 87, 3) := by decide +kernel
theorem dX0_checkLink_12 : decode cX0_checkLink 12 = .ok (.dup, 1) := by decide +kernel
theorem dX0_checkLink_13 : decode cX0_checkLink 13 = .ok (.ldc 159, 2) := by decide +kernel
theorem dX0_checkLink_15 : decode cX0_checkLink 15 = .ok (.invokespecial 91, 3) := by decide +kernel
theorem dX0_checkLink_18 : decode cX0_checkLink 18 = .ok (.athrow, 1) := by decide +kernel
theorem dX0_checkLink_19 : decode cX0_checkLink 19 = .ok (.return_, 1) := by decide +kernel
theorem dX0_checkRange_0 : decode cX0_checkRange 0 = .ok (.iload_n 0, 1) := by decide +kernel
theorem dX0_checkRange_1 : decode cX0_checkRange 1 = .ok (.iload_n 1, 1) := by decide +kernel
theorem dX0_checkRange_2 : decode cX0_checkRange 2 = .ok (.if_icmp .lt 8, 3) := by decide +kernel
theorem dX0_checkRange_5 : decode cX0_checkRange 5 = .ok (.iload_n 0, 1) := by decide +kernel
theorem dX0_checkRange_6 : decode cX0_checkRange 6 = .ok (.iload_n 2, 1) := by decide +kernel
theorem dX0_checkRange_7 : decode cX0_checkRange 7 = .ok (.if_icmp .le 13, 3) := by decide +kernel
theorem dX0_checkRange_10 : decode cX0_checkRange 10 = .ok (.new 87, 3) := by decide +kernel
theorem dX0_checkRange_13 : decode cX0_checkRange 13 = .ok (.dup, 1) := by decide +kernel
theorem dX0_checkRange_14 : decode cX0_checkRange 14 = .ok (.ldc 161, 2) := by decide +kernel
theorem dX0_checkRange_16 : decode cX0_checkRange 16 = .ok (.invokespecial 91, 3) := by decide +kernel
theorem dX0_checkRange_19 : decode cX0_checkRange 19 = .ok (.athrow, 1) := by decide +kernel
theorem dX0_checkRange_20 : decode cX0_checkRange 20 = .ok (.return_, 1) := by decide +kernel
end
section
theorem dX1_init_0 : decode cX1_init 0 = .ok (.aload_n 0, 1) := by decide +kernel
theorem dX1_init_1 : decode cX1_init 1 = .ok (.invokespecial 1, 3) := by decide +kernel
theorem dX1_init_4 : decode cX1_init 4 = .ok (.aload_n 0, 1) := by decide +kernel
theorem dX1_init_5 : decode cX1_init 5 = .ok (.iconst 4, 1) := by decide +kernel
theorem dX1_init_6 : decode cX1_init 6 = .ok (.newarray .boolean, 2) := by decide +kernel
theorem dX1_init_8 : decode cX1_init 8 = .ok (.putfield 7, 3) := by decide +kernel
theorem dX1_init_11 : decode cX1_init 11 = .ok (.aload_n 0, 1) := by decide +kernel
theorem dX1_init_12 : decode cX1_init 12 = .ok (.bipush 12, 2) := by decide +kernel
theorem dX1_init_14 : decode cX1_init 14 = .ok (.newarray .int, 2) := by decide +kernel
theorem dX1_init_16 : decode cX1_init 16 = .ok (.putfield 13, 3) := by decide +kernel
theorem dX1_init_19 : decode cX1_init 19 = .ok (.aload_n 0, 1) := by decide +kernel
theorem dX1_init_20 : decode cX1_init 20 = .ok (.bipush 8, 2) := by decide +kernel
theorem dX1_init_22 : decode cX1_init 22 = .ok (.newarray .int, 2) := by decide +kernel
theorem dX1_init_24 : decode cX1_init 24 = .ok (.putfield 17, 3) := by decide +kernel
theorem dX1_init_27 : decode cX1_init 27 = .ok (.aload_n 0, 1) := by decide +kernel
theorem dX1_init_28 : decode cX1_init 28 = .ok (.bipush 8, 2) := by decide +kernel
theorem dX1_init_30 : decode cX1_init 30 = .ok (.newarray .boolean, 2) := by decide +kernel
theorem dX1_init_32 : decode cX1_init 32 = .ok (.putfield 20, 3) := by decide +kernel
theorem dX1_init_35 : decode cX1_init 35 = .ok (.aload_n 0, 1) := by decide +kernel
theorem dX1_init_36 : decode cX1_init 36 = .ok (.bipush 16, 2) := by decide +kernel
theorem dX1_init_38 : decode cX1_init 38 = .ok (.newarray .boolean, 2) := by decide +kernel
theorem dX1_init_40 : decode cX1_init 40 = .ok (.putfield 23, 3) := by decide +kernel
theorem dX1_init_43 : decode cX1_init 43 = .ok (.aload_n 0, 1) := by decide +kernel
theorem dX1_init_44 : decode cX1_init 44 = .ok (.iconst 3, 1) := by decide +kernel
theorem dX1_init_45 : decode cX1_init 45 = .ok (.newarray .int, 2) := by decide +kernel
theorem dX1_init_47 : decode cX1_init 47 = .ok (.dup, 1) := by decide +kernel
theorem dX1_init_48 : decode cX1_init 48 = .ok (.iconst 0, 1) := by decide +kernel
theorem dX1_init_49 : decode cX1_init 49 = .ok (.iconst 4, 1) := by decide +kernel
theorem dX1_init_50 : decode cX1_init 50 = .ok (.iastore, 1) := by decide +kernel
theorem dX1_init_51 : decode cX1_init 51 = .ok (.dup, 1) := by decide +kernel
theorem dX1_init_52 : decode cX1_init 52 = .ok (.iconst 1, 1) := by decide +kernel
theorem dX1_init_53 : decode cX1_init 53 = .ok (.iconst 4, 1) := by decide +kernel
theorem dX1_init_54 : decode cX1_init 54 = .ok (.iastore, 1) := by decide +kernel
theorem dX1_init_55 : decode cX1_init 55 = .ok (.dup, 1) := by decide +kernel
theorem dX1_init_56 : decode cX1_init 56 = .ok (.iconst 2, 1) := by decide +kernel
theorem dX1_init_57 : decode cX1_init 57 = .ok (.iconst 4, 1) := by decide +kernel
theorem dX1_init_58 : decode cX1_init 58 = .ok (.iastore, 1) := by decide +kernel
theorem dX1_init_59 : decode cX1_init 59 = .ok (.putfield 26, 3) := by decide +kernel
theorem dX1_init_62 : decode cX1_init 62 = .ok (.aload_n 0, 1) := by decide +kernel
theorem dX1_init_63 : decode cX1_init 63 = .ok (.iconst 3, 1) := by decide +kernel
theorem dX1_init_64 : decode cX1_init 64 = .ok (.newarray .boolean, 2) := by decide +kernel
theorem dX1_init_66 : decode cX1_init 66 = .ok (.putfield 29, 3) := by decide +kernel
theorem dX1_init_69 : decode cX1_init 69 = .ok (.aload_n 0, 1) := by decide +kernel
theorem dX1_init_70 : decode cX1_init 70 = .ok (.iconst 3, 1) := by decide +kernel
theorem dX1_init_71 : decode cX1_init 71 = .ok (.newarray .int, 2) := by decide +kernel
theorem dX1_init_73 : decode cX1_init 73 = .ok (.putfield 32, 3) := by decide +kernel
theorem dX1_init_76 : decode cX1_init 76 = .ok (.aload_n 0, 1) := by decide +kernel
theorem dX1_init_77 : decode cX1_init 77 = .ok (.bipush 12, 2) := by decide +kernel
theorem dX1_init_79 : decode cX1_init 79 = .ok (.newarray .int, 2) := by decide +kernel
theorem dX1_init_81 : decode cX1_init 81 = .ok (.putfield 35, 3) := by decide +kernel
theorem dX1_init_84 : decode cX1_init 84 = .ok (.aload_n 0, 1) := by decide +kernel
theorem dX1_init_85 : decode cX1_init 85 = .ok (.bipush 12, 2) := by decide +kernel
theorem dX1_init_87 : decode cX1_init 87 = .ok (.newarray .int, 2) := by decide +kernel
theorem dX1_init_89 : decode cX1_init 89 = .ok (.putfield 38, 3) := by decide +kernel
theorem dX1_init_92 : decode cX1_init 92 = .ok (.aload_n 0, 1) := by decide +kernel
theorem dX1_init_93 : decode cX1_init 93 = .ok (.bipush 12, 2) := by decide +kernel
theorem dX1_init_95 : decode cX1_init 95 = .ok (.newarray .int, 2) := by decide +kernel
theorem dX1_init_97 : decode cX1_init 97 = .ok (.putfield 41, 3) := by decide +kernel
theorem dX1_init_100 : decode cX1_init 100 = .ok (.aload_n 0, 1) := by decide +kernel
theorem dX1_init_101 : decode cX1_init 101 = .ok (.bipush 12, 2) := by decide +kernel
theorem dX1_init_103 : decode cX1_init 103 = .ok (.newarray .int, 2) := by decide +kernel
theorem dX1_init_105 : decode cX1_init 105 = .ok (.putfield 44, 3) := by decide +kernel
theorem dX1_init_108 : decode cX1_init 108 = .ok (.aload_n 0, 1) := by decide +kernel
theorem dX1_init_109 : decode cX1_init 109 = .ok (.bipush 12, 2) := by decide +kernel
theorem dX1_init_111 : decode cX1_init 111 = .ok (.newarray .boolean, 2) := by decide +kernel
theorem dX1_init_113 : decode cX1_init 113 = .ok (.putfield 47, 3) := by decide +kernel
theorem dX1_init_116 : decode cX1_init 116 = .ok (.aload_n 0, 1) := by decide +kernel
theorem dX1_init_117 : decode cX1_init 117 = .ok (.bipush 12, 2) := by decide +kernel
theorem dX1_init_119 : decode cX1_init 119 = .ok (.newarray .int, 2) := by decide +kernel
theorem dX1_init_121 : decode cX1_init 121 = .ok (.putfield 50, 3) := by decide +kernel
theorem dX1_init_124 : decode cX1_init 124 = .ok (.aload_n 0, 1) := by decide +kernel
theorem dX1_init_125 : decode cX1_init 125 = .ok (.iconst 3, 1) := by decide +kernel
theorem dX1_init_126 : decode cX1_init 126 = .ok (.newarray .int, 2) := by decide +kernel
theorem dX1_init_128 : decode cX1_init 128 = .ok (.putfield 53, 3) := by decide +kernel
theorem dX1_init_131 : decode cX1_init 131 = .ok (.aload_n 0, 1) := by decide +kernel
theorem dX1_init_132 : decode cX1_init 132 = .ok (.iconst 3, 1) := by decide +kernel
theorem dX1_init_133 : decode cX1_init 133 = .ok (.newarray .int, 2) := by decide +kernel
theorem dX1_init_135 : decode cX1_init 135 = .ok (.putfield 56, 3) := by decide +kernel
theorem dX1_init_138 : decode cX1_init 138 = .ok (.return_, 1) := by decide +kernel
theorem dX1_thrown_0 : decode cX1_thrown 0 = .ok (.aload_n 0, 1) := by decide +kernel
theorem dX1_thrown_1 : decode cX1_thrown 1 = .ok (.getfield 59, 3) := by decide +kernel
theorem dX1_thrown_4 : decode cX1_thrown 4 = .ok (.ireturn, 1) := by decide +kernel
theorem dX1_goesWell_0 : decode cX1_goesWell 0 = .ok (.aload_n 0, 1) := by decide +kernel
theorem dX1_goesWell_1 : decode cX1_goesWell 1 = .ok (.iload_n 1, 1) := by decide +kernel
theorem dX1_goesWell_2 : decode cX1_goesWell 2 = .ok (.putfield 59, 3) := by decide +kernel
theorem dX1_goesWell_5 : decode cX1_goesWell 5 = .ok (.iload_n 1, 1) := by decide +kernel
theorem dX1_goesWell_6 : decode cX1_goesWell 6 = .ok (.ifCond .ne 7, 3) := by decide +kernel
theorem dX1_goesWell_9 : decode cX1_goesWell 9 = .ok (.iconst 1, 1) := by decide +kernel
theorem dX1_goesWell_10 : decode cX1_goesWell 10 = .ok (.goto 4, 3) := by decide +kernel
theorem dX1_goesWell_13 : decode cX1_goesWell 13 = .ok (.iconst 0, 1) := by decide +kernel
theorem dX1_goesWell_14 : decode cX1_goesWell 14 = .ok (.ireturn, 1) := by decide +kernel
theorem dX1_in_0 : decode cX1_in 0 = .ok (.iload_n 0, 1) := by decide +kernel
theorem dX1_in_1 : decode cX1_in 1 = .ok (.iload_n 1, 1) := by decide +kernel
theorem dX1_in_2 : decode cX1_in 2 = .ok (.if_icmp .lt 12, 3) := by decide +kernel
theorem dX1_in_5 : decode cX1_in 5 = .ok (.iload_n 0, 1) := by decide +kernel
theorem dX1_in_6 : decode cX1_in 6 = .ok (.iload_n 2, 1) := by decide +kernel
theorem dX1_in_7 : decode cX1_in 7 = .ok (.if_icmp .gt 7, 3) := by decide +kernel
theorem dX1_in_10 : decode cX1_in 10 = .ok (.iconst 1, 1) := by decide +kernel
theorem dX1_in_11 : decode cX1_in 11 = .ok (.goto 4, 3) := by decide +kernel
theorem dX1_in_14 : decode cX1_in 14 = .ok (.iconst 0, 1) := by decide +kernel
theorem dX1_in_15 : decode cX1_in 15 = .ok (.ireturn, 1) := by decide +kernel
set_option maxRecDepth 20000 in
theorem ggX1_isRouter_X1_in : GoodIn wsX1_isRouter wsX1_in := goodIn_r _ [4] (by decide +kernel) (by decide +kernel)
set_option maxRecDepth 20000 in
theorem gX1_isRouter_X1_in : GoodIn wsX1_isRouter (va_wsS RX1 63 yX1_in wsX1_in) := goodIn_app (goodIn_of _ (by decide +kernel)) ggX1_isRouter_X1_in
theorem dX1_isRouter_0 : decode cX1_isRouter 0 = .ok (.iload_n 0, 1) := by decide +kernel
theorem dX1_isRouter_1 : decode cX1_isRouter 1 = .ok (.iconst 0, 1) := by decide +kernel
theorem dX1_isRouter_2 : decode cX1_isRouter 2 = .ok (.iconst 3, 1) := by decide +kernel
theorem dX1_isRouter_3 : decode cX1_isRouter 3 = .ok (.invokestatic 63, 3) := by decide +kernel
theorem dX1_isRouter_6 : decode cX1_isRouter 6 = .ok (.ireturn, 1) := by decide +kernel
set_option maxRecDepth 20000 in
theorem ggX1_isGroup_X1_in : GoodIn wsX1_isGroup wsX1_in := goodIn_r _ [4] (by decide +kernel) (by decide +kernel)
set_option maxRecDepth 20000 in
theorem gX1_isGroup_X1_in : GoodIn wsX1_isGroup (va_wsS RX1 63 yX1_in wsX1_in) := goodIn_app (goodIn_of _ (by decide +kernel)) ggX1_isGroup_X1_in
theorem dX1_isGroup_0 : decode cX1_isGroup 0 = .ok (.iload_n 0, 1) := by decide +kernel
theorem dX1_isGroup_1 : decode cX1_isGroup 1 = .ok (.iconst 0, 1) := by decide +kernel
theorem dX1_isGroup_2 : decode cX1_isGroup 2 = .ok (.iconst 2, 1) := by decide +kernel
theorem dX1_isGroup_3 : decode cX1_isGroup 3 = .ok (.invokestatic 63, 3) := by decide +kernel
theorem dX1_isGroup_6 : decode cX1_isGroup 6 = .ok (.ireturn, 1) := by decide +kernel
set_option maxRecDepth 20000 in
theorem ggX1_are_X1_isRouter : GoodIn wsX1_are wsX1_isRouter := goodIn_r _ [4, 5, 6, 3, 7] (by decide +kernel) (by decide +kernel)
set_option maxRecDepth 20000 in
theorem gX1_are_X1_isRouter : GoodIn wsX1_are (va_wsS RX1 67 yX1_isRouter wsX1_isRouter) := goodIn_app (goodIn_of _ (by decide +kernel)) ggX1_are_X1_isRouter
set_option maxRecDepth 20000 in
theorem ggX1_are_X1_isGroup : GoodIn wsX1_are wsX1_isGroup := goodIn_r _ [10, 5, 6, 3, 7] (by decide +kernel) (by decide +kernel)
set_option maxRecDepth 20000 in
theorem gX1_are_X1_isGroup : GoodIn wsX1_are (va_wsS RX1 71 yX1_isGroup wsX1_isGroup) := goodIn_app (goodIn_of _ (by decide +kernel)) ggX1_are_X1_isGroup
theorem dX1_are_0 : decode cX1_are 0 = .ok (.iload_n 0, 1) := by decide +kernel
theorem dX1_are_1 : decode cX1_are 1 = .ok (.invokestatic 67, 3) := by decide +kernel
theorem dX1_are_4 : decode cX1_are 4 = .ok (.ifCond .eq 14, 3) := by decide +kernel
theorem dX1_are_7 : decode cX1_are 7 = .ok (.iload_n 1, 1) := by decide +kernel
theorem dX1_are_8 : decode cX1_are 8 = .ok (.invokestatic 71, 3) := by decide +kernel
theorem dX1_are_11 : decode cX1_are 11 = .ok (.ifCond .eq 7, 3) := by decide +kernel
theorem dX1_are_14 : decode cX1_are 14 = .ok (.iconst 1, 1) := by decide +kernel
theorem dX1_are_15 : decode cX1_are 15 = .ok (.goto 4, 3) := by decide +kernel
theorem dX1_are_18 : decode cX1_are 18 = .ok (.iconst 0, 1) := by decide +kernel
theorem dX1_are_19 : decode cX1_are 19 = .ok (.ireturn, 1) := by decide +kernel
theorem dX1_priorityAt_0 : decode cX1_priorityAt 0 = .ok (.aload_n 0, 1) := by decide +kernel
theorem dX1_priorityAt_1 : decode cX1_priorityAt 1 = .ok (.getfield 13, 3) := by decide +kernel
theorem dX1_priorityAt_4 : decode cX1_priorityAt 4 = .ok (.iload_n 1, 1) := by decide +kernel
theorem dX1_priorityAt_5 : decode cX1_priorityAt 5 = .ok (.iaload, 1) := by decide +kernel
theorem dX1_priorityAt_6 : decode cX1_priorityAt 6 = .ok (.istore_n 2, 1) := by decide +kernel
theorem dX1_priorityAt_7 : decode cX1_priorityAt 7 = .ok (.iconst 0, 1) := by decide +kernel
theorem dX1_priorityAt_8 : decode cX1_priorityAt 8 = .ok (.istore_n 3, 1) := by decide +kernel
theorem dX1_priorityAt_9 : decode cX1_priorityAt 9 = .ok (.iload_n 3, 1) := by decide +kernel
theorem dX1_priorityAt_10 : decode cX1_priorityAt 10 = .ok (.iconst 2, 1) := by decide +kernel
theorem dX1_priorityAt_11 : decode cX1_priorityAt 11 = .ok (.if_icmp .ge 42, 3) := by decide +kernel
theorem dX1_priorityAt_14 : decode cX1_priorityAt 14 = .ok (.iconst 2, 1) := by decide +kernel
theorem dX1_priorityAt_15 : decode cX1_priorityAt 15 = .ok (.iload_n 1, 1) := by decide +kernel
theorem dX1_priorityAt_16 : decode cX1_priorityAt 16 = .ok (.iconst 3, 1) := by decide +kernel
theorem dX1_priorityAt_17 : decode cX1_priorityAt 17 = .ok (.idiv, 1) := by decide +kernel
theorem dX1_priorityAt_18 : decode cX1_priorityAt 18 = .ok (.imul, 1) := by decide +kernel
theorem dX1_priorityAt_19 : decode cX1_priorityAt 19 = .ok (.iload_n 3, 1) := by decide +kernel
theorem dX1_priorityAt_20 : decode cX1_priorityAt 20 = .ok (.iadd, 1) := by decide +kernel
theorem dX1_priorityAt_21 : decode cX1_priorityAt 21 = .ok (.istore 4, 2) := by decide +kernel
theorem dX1_priorityAt_23 : decode cX1_priorityAt 23 = .ok (.iload_n 2, 1) := by decide +kernel
theorem dX1_priorityAt_24 : decode cX1_priorityAt 24 = .ok (.aload_n 0, 1) := by decide +kernel
theorem dX1_priorityAt_25 : decode cX1_priorityAt 25 = .ok (.getfield 20, 3) := by decide +kernel
theorem dX1_priorityAt_28 : decode cX1_priorityAt 28 = .ok (.iload 4, 2) := by decide +kernel
theorem dX1_priorityAt_30 : decode cX1_priorityAt 30 = .ok (.baload, 1) := by decide +kernel
theorem dX1_priorityAt_31 : decode cX1_priorityAt 31 = .ok (.ifCond .eq 13, 3) := by decide +kernel
theorem dX1_priorityAt_34 : decode cX1_priorityAt 34 = .ok (.aload_n 0, 1) := by decide +kernel
theorem dX1_priorityAt_35 : decode cX1_priorityAt 35 = .ok (.getfield 17, 3) := by decide +kernel
theorem dX1_priorityAt_38 : decode cX1_priorityAt 38 = .ok (.iload 4, 2) := by decide +kernel
theorem dX1_priorityAt_40 : decode cX1_priorityAt 40 = .ok (.iaload, 1) := by decide +kernel
theorem dX1_priorityAt_41 : decode cX1_priorityAt 41 = .ok (.goto 4, 3) := by decide +kernel
theorem dX1_priorityAt_44 : decode cX1_priorityAt 44 = .ok (.iconst 0, 1) := by decide +kernel
theorem dX1_priorityAt_45 : decode cX1_priorityAt 45 = .ok (.isub, 1) := by decide +kernel
theorem dX1_priorityAt_46 : decode cX1_priorityAt 46 = .ok (.istore_n 2, 1) := by decide +kernel
theorem dX1_priorityAt_47 : decode cX1_priorityAt 47 = .ok (.iinc 3 1, 3) := by decide +kernel
theorem dX1_priorityAt_50 : decode cX1_priorityAt 50 = .ok (.goto (-41), 3) := by decide +kernel
theorem dX1_priorityAt_53 : decode cX1_priorityAt 53 = .ok (.iload_n 2, 1) := by decide +kernel
theorem dX1_priorityAt_54 : decode cX1_priorityAt 54 = .ok (.iconst 1, 1) := by decide +kernel
theorem dX1_priorityAt_55 : decode cX1_priorityAt 55 = .ok (.if_icmp .ge 7, 3) := by decide +kernel
theorem dX1_priorityAt_58 : decode cX1_priorityAt 58 = .ok (.iconst 1, 1) := by decide +kernel
theorem dX1_priorityAt_59 : decode cX1_priorityAt 59 = .ok (.goto 4, 3) := by decide +kernel
theorem dX1_priorityAt_62 : decode cX1_priorityAt 62 = .ok (.iload_n 2, 1) := by decide +kernel
theorem dX1_priorityAt_63 : decode cX1_priorityAt 63 = .ok (.ireturn, 1) := by decide +kernel
set_option maxRecDepth 20000 in
theorem ggX1_skew_X1_priorityAt : GoodIn wsX1_skew wsX1_priorityAt := goodIn_r _ [6, 7, 8, 9, 10, 11, 12, 13, 14, 15, 16, 17, 18, 19, 20, 21, 22, 23, 24, 25, 26, 27, 28] (by decide +kernel) (by decide +kernel)
set_option maxRecDepth 20000 in
theorem gX1_skew_X1_priorityAt : GoodIn wsX1_skew (wsV RX1 74 RX1 yX1_priorityAt wsX1_priorityAt) := goodIn_app (goodIn_of _ (by decide +kernel)) ggX1_skew_X1_priorityAt
theorem dX1_skew_0 : decode cX1_skew 0 = .ok (.aload_n 0, 1) := by decide +kernel
theorem dX1_skew_1 : decode cX1_skew 1 = .ok (.getfield 26, 3) := by decide +kernel
theorem dX1_skew_4 : decode cX1_skew 4 = .ok (.iload_n 1, 1) := by decide +kernel
theorem dX1_skew_5 : decode cX1_skew 5 = .ok (.iconst 3, 1) := by decide +kernel
theorem dX1_skew_6 : decode cX1_skew 6 = .ok (.irem, 1) := by decide +kernel
theorem dX1_skew_7 : decode cX1_skew 7 = .ok (.iaload, 1) := by decide +kernel
theorem dX1_skew_8 : decode cX1_skew 8 = .ok (.sipush 256, 3) := by decide +kernel
theorem dX1_skew_11 : decode cX1_skew 11 = .ok (.aload_n 0, 1) := by decide +kernel
theorem dX1_skew_12 : decode cX1_skew 12 = .ok (.iload_n 1, 1) := by decide +kernel
theorem dX1_skew_13 : decode cX1_skew 13 = .ok (.invokevirtual 74, 3) := by decide +kernel
theorem dX1_skew_16 : decode cX1_skew 16 = .ok (.isub, 1) := by decide +kernel
theorem dX1_skew_17 : decode cX1_skew 17 = .ok (.imul, 1) := by decide +kernel
theorem dX1_skew_18 : decode cX1_skew 18 = .ok (.sipush 256, 3) := by decide +kernel
theorem dX1_skew_21 : decode cX1_skew 21 = .ok (.idiv, 1) := by decide +kernel
theorem dX1_skew_22 : decode cX1_skew 22 = .ok (.ireturn, 1) := by decide +kernel
set_option maxRecDepth 20000 in
theorem ggX1_waitAt_X1_skew : GoodIn wsX1_waitAt wsX1_skew := goodIn_r _ [6, 1, 7, 8, 9, 5, 10, 11, 12, 13, 14, 15, 16, 17, 18, 19, 20, 21, 22, 23, 24, 25, 26, 27, 28, 29, 30, 31, 32] (by decide +kernel) (by decide +kernel)
set_option maxRecDepth 20000 in
theorem gX1_waitAt_X1_skew : GoodIn wsX1_waitAt (wsV RX1 78 RX1 yX1_skew wsX1_skew) := goodIn_app (goodIn_of _ (by decide +kernel)) ggX1_waitAt_X1_skew
theorem dX1_waitAt_0 : decode cX1_waitAt 0 = .ok (.iconst 3, 1) := by decide +kernel
theorem dX1_waitAt_1 : decode cX1_waitAt 1 = .ok (.aload_n 0, 1) := by decide +kernel
theorem dX1_waitAt_2 : decode cX1_waitAt 2 = .ok (.getfield 26, 3) := by decide +kernel
theorem dX1_waitAt_5 : decode cX1_waitAt 5 = .ok (.iload_n 1, 1) := by decide +kernel
theorem dX1_waitAt_6 : decode cX1_waitAt 6 = .ok (.iconst 3, 1) := by decide +kernel
theorem dX1_waitAt_7 : decode cX1_waitAt 7 = .ok (.irem, 1) := by decide +kernel
theorem dX1_waitAt_8 : decode cX1_waitAt 8 = .ok (.iaload, 1) := by decide +kernel
theorem dX1_waitAt_9 : decode cX1_waitAt 9 = .ok (.imul, 1) := by decide +kernel
theorem dX1_waitAt_10 : decode cX1_waitAt 10 = .ok (.aload_n 0, 1) := by decide +kernel
theorem dX1_waitAt_11 : decode cX1_waitAt 11 = .ok (.iload_n 1, 1) := by decide +kernel
theorem dX1_waitAt_12 : decode cX1_waitAt 12 = .ok (.invokevirtual 78, 3) := by decide +kernel
theorem dX1_waitAt_15 : decode cX1_waitAt 15 = .ok (.iadd, 1) := by decide +kernel
theorem dX1_waitAt_16 : decode cX1_waitAt 16 = .ok (.ireturn, 1) := by decide +kernel
theorem dX1_copy_0 : decode cX1_copy 0 = .ok (.aload_n 0, 1) := by decide +kernel
theorem dX1_copy_1 : decode cX1_copy 1 = .ok (.getfield 44, 3) := by decide +kernel
theorem dX1_copy_4 : decode cX1_copy 4 = .ok (.iload_n 1, 1) := by decide +kernel
theorem dX1_copy_5 : decode cX1_copy 5 = .ok (.iaload, 1) := by decide +kernel
theorem dX1_copy_6 : decode cX1_copy 6 = .ok (.aload_n 0, 1) := by decide +kernel
theorem dX1_copy_7 : decode cX1_copy 7 = .ok (.getfield 44, 3) := by decide +kernel
theorem dX1_copy_10 : decode cX1_copy 10 = .ok (.iload_n 2, 1) := by decide +kernel
theorem dX1_copy_11 : decode cX1_copy 11 = .ok (.iaload, 1) := by decide +kernel
theorem dX1_copy_12 : decode cX1_copy 12 = .ok (.isub, 1) := by decide +kernel
theorem dX1_copy_13 : decode cX1_copy 13 = .ok (.istore_n 3, 1) := by decide +kernel
theorem dX1_copy_14 : decode cX1_copy 14 = .ok (.iload_n 3, 1) := by decide +kernel
theorem dX1_copy_15 : decode cX1_copy 15 = .ok (.ifCond .gt 4, 3) := by decide +kernel
theorem dX1_copy_18 : decode cX1_copy 18 = .ok (.return_, 1) := by decide +kernel
theorem dX1_copy_19 : decode cX1_copy 19 = .ok (.iload_n 3, 1) := by decide +kernel
theorem dX1_copy_20 : decode cX1_copy 20 = .ok (.bipush 10, 2) := by decide +kernel
theorem dX1_copy_22 : decode cX1_copy 22 = .ok (.if_icmp .le 12, 3) := by decide +kernel
theorem dX1_copy_25 : decode cX1_copy 25 = .ok (.aload_n 0, 1) := by decide +kernel
theorem dX1_copy_26 : decode cX1_copy 26 = .ok (.getfield 47, 3) := by decide +kernel
theorem dX1_copy_29 : decode cX1_copy 29 = .ok (.iload_n 2, 1) := by decide +kernel
theorem dX1_copy_30 : decode cX1_copy 30 = .ok (.baload, 1) := by decide +kernel
theorem dX1_copy_31 : decode cX1_copy 31 = .ok (.ifCond .eq 48, 3) := by decide +kernel
theorem dX1_copy_34 : decode cX1_copy 34 = .ok (.aload_n 0, 1) := by decide +kernel
theorem dX1_copy_35 : decode cX1_copy 35 = .ok (.getfield 44, 3) := by decide +kernel
theorem dX1_copy_38 : decode cX1_copy 38 = .ok (.iload_n 2, 1) := by decide +kernel
theorem dX1_copy_39 : decode cX1_copy 39 = .ok (.aload_n 0, 1) := by decide +kernel
theorem dX1_copy_40 : decode cX1_copy 40 = .ok (.getfield 44, 3) := by decide +kernel
theorem dX1_copy_43 : decode cX1_copy 43 = .ok (.iload_n 1, 1) := by decide +kernel
theorem dX1_copy_44 : decode cX1_copy 44 = .ok (.iaload, 1) := by decide +kernel
theorem dX1_copy_45 : decode cX1_copy 45 = .ok (.iastore, 1) := by decide +kernel
theorem dX1_copy_46 : decode cX1_copy 46 = .ok (.aload_n 0, 1) := by decide +kernel
theorem dX1_copy_47 : decode cX1_copy 47 = .ok (.dup, 1) := by decide +kernel
theorem dX1_copy_48 : decode cX1_copy 48 = .ok (.getfield 81, 3) := by decide +kernel
theorem dX1_copy_51 : decode cX1_copy 51 = .ok (.aload_n 0, 1) := by decide +kernel
theorem dX1_copy_52 : decode cX1_copy 52 = .ok (.getfield 47, 3) := by decide +kernel
theorem dX1_copy_55 : decode cX1_copy 55 = .ok (.iload_n 2, 1) := by decide +kernel
theorem dX1_copy_56 : decode cX1_copy 56 = .ok (.baload, 1) := by decide +kernel
theorem dX1_copy_57 : decode cX1_copy 57 = .ok (.ifCond .eq 7, 3) := by decide +kernel
theorem dX1_copy_60 : decode cX1_copy 60 = .ok (.iconst 1, 1) := by decide +kernel
theorem dX1_copy_61 : decode cX1_copy 61 = .ok (.goto 4, 3) := by decide +kernel
theorem dX1_copy_64 : decode cX1_copy 64 = .ok (.iconst 0, 1) := by decide +kernel
theorem dX1_copy_65 : decode cX1_copy 65 = .ok (.iadd, 1) := by decide +kernel
theorem dX1_copy_66 : decode cX1_copy 66 = .ok (.putfield 81, 3) := by decide +kernel
theorem dX1_copy_69 : decode cX1_copy 69 = .ok (.aload_n 0, 1) := by decide +kernel
theorem dX1_copy_70 : decode cX1_copy 70 = .ok (.getfield 47, 3) := by decide +kernel
theorem dX1_copy_73 : decode cX1_copy 73 = .ok (.iload_n 2, 1) := by decide +kernel
theorem dX1_copy_74 : decode cX1_copy 74 = .ok (.iconst 0, 1) := by decide +kernel
theorem dX1_copy_75 : decode cX1_copy 75 = .ok (.bastore, 1) := by decide +kernel
theorem dX1_copy_76 : decode cX1_copy 76 = .ok (.goto 10, 3) := by decide +kernel
theorem dX1_copy_79 : decode cX1_copy 79 = .ok (.aload_n 0, 1) := by decide +kernel
theorem dX1_copy_80 : decode cX1_copy 80 = .ok (.getfield 47, 3) := by decide +kernel
theorem dX1_copy_83 : decode cX1_copy 83 = .ok (.iload_n 2, 1) := by decide +kernel
theorem dX1_copy_84 : decode cX1_copy 84 = .ok (.iconst 1, 1) := by decide +kernel
theorem dX1_copy_85 : decode cX1_copy 85 = .ok (.bastore, 1) := by decide +kernel
theorem dX1_copy_86 : decode cX1_copy 86 = .ok (.return_, 1) := by decide +kernel
set_option maxRecDepth 20000 in
theorem ggX1_rest_X1_waitAt : GoodIn wsX1_rest wsX1_waitAt := goodIn_r _ [8, 9, 10, 11, 12, 7, 13, 14, 15, 16, 17, 18, 19, 20, 21, 22, 23, 24, 25, 26, 27, 28, 29, 30, 31, 32, 33, 34, 35, 36, 37, 38, 39] (by decide +kernel) (by decide +kernel)
set_option maxRecDepth 20000 in
theorem gX1_rest_X1_waitAt : GoodIn wsX1_rest (wsV RX1 84 RX1 yX1_waitAt wsX1_waitAt) := goodIn_app (goodIn_of _ (by decide +kernel)) ggX1_rest_X1_waitAt
theorem dX1_rest_0 : decode cX1_rest 0 = .ok (.aload_n 0, 1) := by decide +kernel
theorem dX1_rest_1 : decode cX1_rest 1 = .ok (.getfield 35, 3) := by decide +kernel
theorem dX1_rest_4 : decode cX1_rest 4 = .ok (.iload_n 1, 1) := by decide +kernel
theorem dX1_rest_5 : decode cX1_rest 5 = .ok (.iconst 1, 1) := by decide +kernel
theorem dX1_rest_6 : decode cX1_rest 6 = .ok (.iastore, 1) := by decide +kernel
theorem dX1_rest_7 : decode cX1_rest 7 = .ok (.aload_n 0, 1) := by decide +kernel
theorem dX1_rest_8 : decode cX1_rest 8 = .ok (.getfield 41, 3) := by decide +kernel
theorem dX1_rest_11 : decode cX1_rest 11 = .ok (.iload_n 1, 1) := by decide +kernel
theorem dX1_rest_12 : decode cX1_rest 12 = .ok (.iload_n 2, 1) := by decide +kernel
theorem dX1_rest_13 : decode cX1_rest 13 = .ok (.iastore, 1) := by decide +kernel
theorem dX1_rest_14 : decode cX1_rest 14 = .ok (.aload_n 0, 1) := by decide +kernel
theorem dX1_rest_15 : decode cX1_rest 15 = .ok (.getfield 38, 3) := by decide +kernel
theorem dX1_rest_18 : decode cX1_rest 18 = .ok (.iload_n 1, 1) := by decide +kernel
theorem dX1_rest_19 : decode cX1_rest 19 = .ok (.aload_n 0, 1) := by decide +kernel
theorem dX1_rest_20 : decode cX1_rest 20 = .ok (.iload_n 1, 1) := by decide +kernel
theorem dX1_rest_21 : decode cX1_rest 21 = .ok (.invokevirtual 84, 3) := by decide +kernel
theorem dX1_rest_24 : decode cX1_rest 24 = .ok (.iastore, 1) := by decide +kernel
theorem dX1_rest_25 : decode cX1_rest 25 = .ok (.return_, 1) := by decide +kernel
set_option maxRecDepth 20000 in
theorem ggX1_receive_X1_priorityAt : GoodIn wsX1_receive wsX1_priorityAt := goodIn_r _ [10, 11, 12, 13, 34, 35, 36, 37, 38, 39, 40, 41, 42, 43, 44, 45, 46, 47, 48, 49, 50, 51, 52] (by decide +kernel) (by decide +kernel)
set_option maxRecDepth 20000 in
theorem gX1_receive_X1_priorityAt : GoodIn wsX1_receive (wsV RX1 74 RX1 yX1_priorityAt wsX1_priorityAt) := goodIn_app (goodIn_of _ (by decide +kernel)) ggX1_receive_X1_priorityAt
set_option maxRecDepth 20000 in
theorem ggX1_receive_X1_rest : GoodIn wsX1_receive wsX1_rest := goodIn_r _ [17, 1, 4, 2, 18, 19, 20, 9, 21, 22, 23, 24, 25, 26, 6, 7, 8, 10, 11, 12, 13, 34, 35, 36, 37, 38, 39, 40, 41, 42, 43, 44, 45, 46, 47, 48, 49, 50, 51, 52] (by decide +kernel) (by decide +kernel)
set_option maxRecDepth 20000 in
theorem gX1_receive_X1_rest : GoodIn wsX1_receive (wsV RX1 87 RX1 yX1_rest wsX1_rest) := goodIn_app (goodIn_of _ (by decide +kernel)) ggX1_receive_X1_rest
set_option maxRecDepth 20000 in
theorem ggX1_receive_X1_copy : GoodIn wsX1_receive wsX1_copy := goodIn_r _ [30, 31, 32, 33, 34, 35, 36, 37, 38, 39, 40, 41, 42, 43, 44, 45, 46, 47, 48, 49, 50, 51, 52] (by decide +kernel) (by decide +kernel)
set_option maxRecDepth 20000 in
theorem gX1_receive_X1_copy : GoodIn wsX1_receive (wsV RX1 91 RX1 yX1_copy wsX1_copy) := goodIn_app (goodIn_of _ (by decide +kernel)) ggX1_receive_X1_copy
set_option maxRecDepth 20000 in
theorem ggX1_receive_X1_skew : GoodIn wsX1_receive wsX1_skew := goodIn_r _ [26, 22, 6, 7, 8, 9, 10, 11, 12, 13, 34, 35, 36, 37, 38, 39, 40, 41, 42, 43, 44, 45, 46, 47, 48, 49, 50, 51, 52] (by decide +kernel) (by decide +kernel)
set_option maxRecDepth 20000 in
theorem gX1_receive_X1_skew : GoodIn wsX1_receive (wsV RX1 78 RX1 yX1_skew wsX1_skew) := goodIn_app (goodIn_of _ (by decide +kernel)) ggX1_receive_X1_skew
theorem dX1_receive_0 : decode cX1_receive 0 = .ok (.aload_n 0, 1) := by decide +kernel
theorem dX1_receive_1 : decode cX1_receive 1 = .ok (.iload_n 2, 1) := by decide +kernel
theorem dX1_receive_2 : decode cX1_receive 2 = .ok (.invokevirtual 74, 3) := by decide +kernel
theorem dX1_receive_5 : decode cX1_receive 5 = .ok (.istore 4, 2) := by decide +kernel
theorem dX1_receive_7 : decode cX1_receive 7 = .ok (.aload_n 0, 1) := by decide +kernel
theorem dX1_receive_8 : decode cX1_receive 8 = .ok (.getfield 35, 3) := by decide +kernel
theorem dX1_receive_11 : decode cX1_receive 11 = .ok (.iload_n 2, 1) := by decide +kernel
theorem dX1_receive_12 : decode cX1_receive 12 = .ok (.iaload, 1) := by decide +kernel
theorem dX1_receive_13 : decode cX1_receive 13 = .ok (.iconst 2, 1) := by decide +kernel
theorem dX1_receive_14 : decode cX1_receive 14 = .ok (.if_icmp .ne 35, 3) := by decide +kernel
theorem dX1_receive_17 : decode cX1_receive 17 = .ok (.iload_n 3, 1) := by decide +kernel
theorem dX1_receive_18 : decode cX1_receive 18 = .ok (.iload 4, 2) := by decide +kernel
theorem dX1_receive_20 : decode cX1_receive 20 = .ok (.if_icmp .gt 14, 3) := by decide +kernel
theorem dX1_receive_23 : decode cX1_receive 23 = .ok (.iload_n 3, 1) := by decide +kernel
theorem dX1_receive_24 : decode cX1_receive 24 = .ok (.iload 4, 2) := by decide +kernel
theorem dX1_receive_26 : decode cX1_receive 26 = .ok (.if_icmp .ne 117, 3) := by decide +kernel
theorem dX1_receive_29 : decode cX1_receive 29 = .ok (.iload_n 1, 1) := by decide +kernel
theorem dX1_receive_30 : decode cX1_receive 30 = .ok (.iload_n 2, 1) := by decide +kernel
theorem dX1_receive_31 : decode cX1_receive 31 = .ok (.if_icmp .le 112, 3) := by decide +kernel
theorem dX1_receive_34 : decode cX1_receive 34 = .ok (.aload_n 0, 1) := by decide +kernel
theorem dX1_receive_35 : decode cX1_receive 35 = .ok (.iload_n 2, 1) := by decide +kernel
theorem dX1_receive_36 : decode cX1_receive 36 = .ok (.iconst 0, 1) := by decide +kernel
theorem dX1_receive_37 : decode cX1_receive 37 = .ok (.invokevirtual 87, 3) := by decide +kernel
theorem dX1_receive_40 : decode cX1_receive 40 = .ok (.aload_n 0, 1) := by decide +kernel
theorem dX1_receive_41 : decode cX1_receive 41 = .ok (.iload_n 1, 1) := by decide +kernel
theorem dX1_receive_42 : decode cX1_receive 42 = .ok (.iload_n 2, 1) := by decide +kernel
theorem dX1_receive_43 : decode cX1_receive 43 = .ok (.invokevirtual 91, 3) := by decide +kernel
theorem dX1_receive_46 : decode cX1_receive 46 = .ok (.goto 97, 3) := by decide +kernel
theorem dX1_receive_49 : decode cX1_receive 49 = .ok (.iload_n 3, 1) := by decide +kernel
theorem dX1_receive_50 : decode cX1_receive 50 = .ok (.ifCond .ne 25, 3) := by decide +kernel
theorem dX1_receive_53 : decode cX1_receive 53 = .ok (.aload_n 0, 1) := by decide +kernel
theorem dX1_receive_54 : decode cX1_receive 54 = .ok (.getfield 38, 3) := by decide +kernel
theorem dX1_receive_57 : decode cX1_receive 57 = .ok (.iload_n 2, 1) := by decide +kernel
theorem dX1_receive_58 : decode cX1_receive 58 = .ok (.aload_n 0, 1) := by decide +kernel
theorem dX1_receive_59 : decode cX1_receive 59 = .ok (.iload_n 2, 1) := by decide +kernel
theorem dX1_receive_60 : decode cX1_receive 60 = .ok (.invokevirtual 78, 3) := by decide +kernel
theorem dX1_receive_63 : decode cX1_receive 63 = .ok (.iconst 1, 1) := by decide +kernel
theorem dX1_receive_64 : decode cX1_receive 64 = .ok (.iadd, 1) := by decide +kernel
theorem dX1_receive_65 : decode cX1_receive 65 = .ok (.iastore, 1) := by decide +kernel
theorem dX1_receive_66 : decode cX1_receive 66 = .ok (.aload_n 0, 1) := by decide +kernel
theorem dX1_receive_67 : decode cX1_receive 67 = .ok (.iload_n 1, 1) := by decide +kernel
theorem dX1_receive_68 : decode cX1_receive 68 = .ok (.iload_n 2, 1) := by decide +kernel
theorem dX1_receive_69 : decode cX1_receive 69 = .ok (.invokevirtual 91, 3) := by decide +kernel
theorem dX1_receive_72 : decode cX1_receive 72 = .ok (.goto 71, 3) := by decide +kernel
theorem dX1_receive_75 : decode cX1_receive 75 = .ok (.aload_n 0, 1) := by decide +kernel
theorem dX1_receive_76 : decode cX1_receive 76 = .ok (.getfield 29, 3) := by decide +kernel
theorem dX1_receive_79 : decode cX1_receive 79 = .ok (.iload_n 2, 1) := by decide +kernel
theorem dX1_receive_80 : decode cX1_receive 80 = .ok (.iconst 3, 1) := by decide +kernel
theorem dX1_receive_81 : decode cX1_receive 81 = .ok (.irem, 1) := by decide +kernel
theorem dX1_receive_82 : decode cX1_receive 82 = .ok (.baload, 1) := by decide +kernel
theorem dX1_receive_83 : decode cX1_receive 83 = .ok (.ifCond .ne 9, 3) := by decide +kernel
theorem dX1_receive_86 : decode cX1_receive 86 = .ok (.iload 4, 2) := by decide +kernel
theorem dX1_receive_88 : decode cX1_receive 88 = .ok (.iload_n 3, 1) := by decide +kernel
theorem dX1_receive_89 : decode cX1_receive 89 = .ok (.if_icmp .gt 18, 3) := by decide +kernel
theorem dX1_receive_92 : decode cX1_receive 92 = .ok (.aload_n 0, 1) := by decide +kernel
theorem dX1_receive_93 : decode cX1_receive 93 = .ok (.iload_n 2, 1) := by decide +kernel
theorem dX1_receive_94 : decode cX1_receive 94 = .ok (.iconst 0, 1) := by decide +kernel
theorem dX1_receive_95 : decode cX1_receive 95 = .ok (.invokevirtual 87, 3) := by decide +kernel
theorem dX1_receive_98 : decode cX1_receive 98 = .ok (.aload_n 0, 1) := by decide +kernel
theorem dX1_receive_99 : decode cX1_receive 99 = .ok (.iload_n 1, 1) := by decide +kernel
theorem dX1_receive_100 : decode cX1_receive 100 = .ok (.iload_n 2, 1) := by decide +kernel
theorem dX1_receive_101 : decode cX1_receive 101 = .ok (.invokevirtual 91, 3) := by decide +kernel
theorem dX1_receive_104 : decode cX1_receive 104 = .ok (.goto 39, 3) := by decide +kernel
theorem dX1_receive_107 : decode cX1_receive 107 = .ok (.aload_n 0, 1) := by decide +kernel
theorem dX1_receive_108 : decode cX1_receive 108 = .ok (.getfield 41, 3) := by decide +kernel
theorem dX1_receive_111 : decode cX1_receive 111 = .ok (.iload_n 2, 1) := by decide +kernel
theorem dX1_receive_112 : decode cX1_receive 112 = .ok (.iaload, 1) := by decide +kernel
theorem dX1_receive_113 : decode cX1_receive 113 = .ok (.aload_n 0, 1) := by decide +kernel
theorem dX1_receive_114 : decode cX1_receive 114 = .ok (.getfield 32, 3) := by decide +kernel
theorem dX1_receive_117 : decode cX1_receive 117 = .ok (.iload_n 2, 1) := by decide +kernel
theorem dX1_receive_118 : decode cX1_receive 118 = .ok (.iconst 3, 1) := by decide +kernel
theorem dX1_receive_119 : decode cX1_receive 119 = .ok (.irem, 1) := by decide +kernel
theorem dX1_receive_120 : decode cX1_receive 120 = .ok (.iaload, 1) := by decide +kernel
theorem dX1_receive_121 : decode cX1_receive 121 = .ok (.if_icmp .ge 22, 3) := by decide +kernel
theorem dX1_receive_124 : decode cX1_receive 124 = .ok (.aload_n 0, 1) := by decide +kernel
theorem dX1_receive_125 : decode cX1_receive 125 = .ok (.iload_n 2, 1) := by decide +kernel
theorem dX1_receive_126 : decode cX1_receive 126 = .ok (.aload_n 0, 1) := by decide +kernel
theorem dX1_receive_127 : decode cX1_receive 127 = .ok (.getfield 41, 3) := by decide +kernel
theorem dX1_receive_130 : decode cX1_receive 130 = .ok (.iload_n 2, 1) := by decide +kernel
theorem dX1_receive_131 : decode cX1_receive 131 = .ok (.iaload, 1) := by decide +kernel
theorem dX1_receive_132 : decode cX1_receive 132 = .ok (.iconst 1, 1) := by decide +kernel
theorem dX1_receive_133 : decode cX1_receive 133 = .ok (.iadd, 1) := by decide +kernel
theorem dX1_receive_134 : decode cX1_receive 134 = .ok (.invokevirtual 87, 3) := by decide +kernel
theorem dX1_receive_137 : decode cX1_receive 137 = .ok (.aload_n 0, 1) := by decide +kernel
theorem dX1_receive_138 : decode cX1_receive 138 = .ok (.iload_n 1, 1) := by decide +kernel
theorem dX1_receive_139 : decode cX1_receive 139 = .ok (.iload_n 2, 1) := by decide +kernel
theorem dX1_receive_140 : decode cX1_receive 140 = .ok (.invokevirtual 91, 3) := by decide +kernel
theorem dX1_receive_143 : decode cX1_receive 143 = .ok (.return_, 1) := by decide +kernel
set_option maxRecDepth 20000 in
theorem ggX1_advertise_X1_receive : GoodIn wsX1_advertise wsX1_receive := goodIn_r _ [8, 2, 9, 10, 11, 12, 13, 14, 15, 7, 16, 17, 18, 19, 20, 21, 22, 23, 24, 25, 26, 27, 28, 29, 30, 31, 32, 33, 34, 35, 36, 37, 38, 39, 40, 41, 42, 43, 44, 45, 46, 47, 48, 49, 50, 51, 52, 53, 54, 55, 56, 57, 58] (by decide +kernel) (by decide +kernel)
set_option maxRecDepth 20000 in
theorem gX1_advertise_X1_receive : GoodIn wsX1_advertise (wsV RX1 94 RX1 yX1_receive wsX1_receive) := goodIn_app (goodIn_of _ (by decide +kernel)) ggX1_advertise_X1_receive
theorem dX1_advertise_0 : decode cX1_advertise 0 = .ok (.aload_n 0, 1) := by decide +kernel
theorem dX1_advertise_1 : decode cX1_advertise 1 = .ok (.getfield 56, 3) := by decide +kernel
theorem dX1_advertise_4 : decode cX1_advertise 4 = .ok (.iload_n 1, 1) := by decide +kernel
theorem dX1_advertise_5 : decode cX1_advertise 5 = .ok (.iconst 3, 1) := by decide +kernel
theorem dX1_advertise_6 : decode cX1_advertise 6 = .ok (.irem, 1) := by decide +kernel
theorem dX1_advertise_7 : decode cX1_advertise 7 = .ok (.dup2, 1) := by decide +kernel
theorem dX1_advertise_8 : decode cX1_advertise 8 = .ok (.iaload, 1) := by decide +kernel
theorem dX1_advertise_9 : decode cX1_advertise 9 = .ok (.iconst 1, 1) := by decide +kernel
theorem dX1_advertise_10 : decode cX1_advertise 10 = .ok (.iadd, 1) := by decide +kernel
theorem dX1_advertise_11 : decode cX1_advertise 11 = .ok (.iastore, 1) := by decide +kernel
theorem dX1_advertise_12 : decode cX1_advertise 12 = .ok (.iload_n 1, 1) := by decide +kernel
theorem dX1_advertise_13 : decode cX1_advertise 13 = .ok (.iconst 3, 1) := by decide +kernel
theorem dX1_advertise_14 : decode cX1_advertise 14 = .ok (.irem, 1) := by decide +kernel
theorem dX1_advertise_15 : decode cX1_advertise 15 = .ok (.istore_n 3, 1) := by decide +kernel
theorem dX1_advertise_16 : decode cX1_advertise 16 = .ok (.iload_n 3, 1) := by decide +kernel
theorem dX1_advertise_17 : decode cX1_advertise 17 = .ok (.bipush 12, 2) := by decide +kernel
theorem dX1_advertise_19 : decode cX1_advertise 19 = .ok (.if_icmp .ge 47, 3) := by decide +kernel
theorem dX1_advertise_22 : decode cX1_advertise 22 = .ok (.iload_n 3, 1) := by decide +kernel
theorem dX1_advertise_23 : decode cX1_advertise 23 = .ok (.iload_n 1, 1) := by decide +kernel
theorem dX1_advertise_24 : decode cX1_advertise 24 = .ok (.if_icmp .eq 36, 3) := by decide +kernel
theorem dX1_advertise_27 : decode cX1_advertise 27 = .ok (.aload_n 0, 1) := by decide +kernel
theorem dX1_advertise_28 : decode cX1_advertise 28 = .ok (.getfield 35, 3) := by decide +kernel
theorem dX1_advertise_31 : decode cX1_advertise 31 = .ok (.iload_n 3, 1) := by decide +kernel
theorem dX1_advertise_32 : decode cX1_advertise 32 = .ok (.iaload, 1) := by decide +kernel
theorem dX1_advertise_33 : decode cX1_advertise 33 = .ok (.ifCond .eq 27, 3) := by decide +kernel
theorem dX1_advertise_36 : decode cX1_advertise 36 = .ok (.aload_n 0, 1) := by decide +kernel
theorem dX1_advertise_37 : decode cX1_advertise 37 = .ok (.getfield 23, 3) := by decide +kernel
theorem dX1_advertise_40 : decode cX1_advertise 40 = .ok (.iconst 4, 1) := by decide +kernel
theorem dX1_advertise_41 : decode cX1_advertise 41 = .ok (.iload_n 1, 1) := by decide +kernel
theorem dX1_advertise_42 : decode cX1_advertise 42 = .ok (.iconst 3, 1) := by decide +kernel
theorem dX1_advertise_43 : decode cX1_advertise 43 = .ok (.idiv, 1) := by decide +kernel
theorem dX1_advertise_44 : decode cX1_advertise 44 = .ok (.imul, 1) := by decide +kernel
theorem dX1_advertise_45 : decode cX1_advertise 45 = .ok (.iload_n 3, 1) := by decide +kernel
theorem dX1_advertise_46 : decode cX1_advertise 46 = .ok (.iconst 3, 1) := by decide +kernel
theorem dX1_advertise_47 : decode cX1_advertise 47 = .ok (.idiv, 1) := by decide +kernel
theorem dX1_advertise_48 : decode cX1_advertise 48 = .ok (.iadd, 1) := by decide +kernel
theorem dX1_advertise_49 : decode cX1_advertise 49 = .ok (.baload, 1) := by decide +kernel
theorem dX1_advertise_50 : decode cX1_advertise 50 = .ok (.ifCond .ne 10, 3) := by decide +kernel
theorem dX1_advertise_53 : decode cX1_advertise 53 = .ok (.aload_n 0, 1) := by decide +kernel
theorem dX1_advertise_54 : decode cX1_advertise 54 = .ok (.iload_n 1, 1) := by decide +kernel
theorem dX1_advertise_55 : decode cX1_advertise 55 = .ok (.iload_n 3, 1) := by decide +kernel
theorem dX1_advertise_56 : decode cX1_advertise 56 = .ok (.iload_n 2, 1) := by decide +kernel
theorem dX1_advertise_57 : decode cX1_advertise 57 = .ok (.invokevirtual 94, 3) := by decide +kernel
theorem dX1_advertise_60 : decode cX1_advertise 60 = .ok (.iinc 3 3, 3) := by decide +kernel
theorem dX1_advertise_63 : decode cX1_advertise 63 = .ok (.goto (-47), 3) := by decide +kernel
theorem dX1_advertise_66 : decode cX1_advertise 66 = .ok (.return_, 1) := by decide +kernel
set_option maxRecDepth 20000 in
theorem ggX1_settle_X1_rest : GoodIn wsX1_settle wsX1_rest := goodIn_r _ [9, 3, 10, 11, 12, 13, 14, 8, 15, 16, 17, 18, 19, 20, 21, 22, 23, 24, 2, 25, 26, 27, 28, 29, 30, 31, 32, 33, 34, 35, 36, 37, 38, 39, 40, 41, 42, 43, 44, 45] (by decide +kernel) (by decide +kernel)
set_option maxRecDepth 20000 in
theorem gX1_settle_X1_rest : GoodIn wsX1_settle (wsV RX1 87 RX1 yX1_rest wsX1_rest) := goodIn_app (goodIn_of _ (by decide +kernel)) ggX1_settle_X1_rest
theorem dX1_settle_0 : decode cX1_settle 0 = .ok (.aload_n 0, 1) := by decide +kernel
theorem dX1_settle_1 : decode cX1_settle 1 = .ok (.getfield 7, 3) := by decide +kernel
theorem dX1_settle_4 : decode cX1_settle 4 = .ok (.iload_n 1, 1) := by decide +kernel
theorem dX1_settle_5 : decode cX1_settle 5 = .ok (.iconst 3, 1) := by decide +kernel
theorem dX1_settle_6 : decode cX1_settle 6 = .ok (.idiv, 1) := by decide +kernel
theorem dX1_settle_7 : decode cX1_settle 7 = .ok (.baload, 1) := by decide +kernel
theorem dX1_settle_8 : decode cX1_settle 8 = .ok (.ifCond .ne 16, 3) := by decide +kernel
theorem dX1_settle_11 : decode cX1_settle 11 = .ok (.aload_n 0, 1) := by decide +kernel
theorem dX1_settle_12 : decode cX1_settle 12 = .ok (.getfield 13, 3) := by decide +kernel
theorem dX1_settle_15 : decode cX1_settle 15 = .ok (.iload_n 1, 1) := by decide +kernel
theorem dX1_settle_16 : decode cX1_settle 16 = .ok (.iaload, 1) := by decide +kernel
theorem dX1_settle_17 : decode cX1_settle 17 = .ok (.ifCond .le 7, 3) := by decide +kernel
theorem dX1_settle_20 : decode cX1_settle 20 = .ok (.iconst 1, 1) := by decide +kernel
theorem dX1_settle_21 : decode cX1_settle 21 = .ok (.goto 4, 3) := by decide +kernel
theorem dX1_settle_24 : decode cX1_settle 24 = .ok (.iconst 0, 1) := by decide +kernel
theorem dX1_settle_25 : decode cX1_settle 25 = .ok (.istore_n 2, 1) := by decide +kernel
theorem dX1_settle_26 : decode cX1_settle 26 = .ok (.iload_n 2, 1) := by decide +kernel
theorem dX1_settle_27 : decode cX1_settle 27 = .ok (.ifCond .eq 25, 3) := by decide +kernel
theorem dX1_settle_30 : decode cX1_settle 30 = .ok (.aload_n 0, 1) := by decide +kernel
theorem dX1_settle_31 : decode cX1_settle 31 = .ok (.getfield 35, 3) := by decide +kernel
theorem dX1_settle_34 : decode cX1_settle 34 = .ok (.iload_n 1, 1) := by decide +kernel
theorem dX1_settle_35 : decode cX1_settle 35 = .ok (.iaload, 1) := by decide +kernel
theorem dX1_settle_36 : decode cX1_settle 36 = .ok (.ifCond .ne 16, 3) := by decide +kernel
theorem dX1_settle_39 : decode cX1_settle 39 = .ok (.aload_n 0, 1) := by decide +kernel
theorem dX1_settle_40 : decode cX1_settle 40 = .ok (.iload_n 1, 1) := by decide +kernel
theorem dX1_settle_41 : decode cX1_settle 41 = .ok (.iconst 0, 1) := by decide +kernel
theorem dX1_settle_42 : decode cX1_settle 42 = .ok (.invokevirtual 87, 3) := by decide +kernel
theorem dX1_settle_45 : decode cX1_settle 45 = .ok (.aload_n 0, 1) := by decide +kernel
theorem dX1_settle_46 : decode cX1_settle 46 = .ok (.getfield 47, 3) := by decide +kernel
theorem dX1_settle_49 : decode cX1_settle 49 = .ok (.iload_n 1, 1) := by decide +kernel
theorem dX1_settle_50 : decode cX1_settle 50 = .ok (.iconst 0, 1) := by decide +kernel
theorem dX1_settle_51 : decode cX1_settle 51 = .ok (.bastore, 1) := by decide +kernel
theorem dX1_settle_52 : decode cX1_settle 52 = .ok (.aload_n 0, 1) := by decide +kernel
theorem dX1_settle_53 : decode cX1_settle 53 = .ok (.getfield 35, 3) := by decide +kernel
theorem dX1_settle_56 : decode cX1_settle 56 = .ok (.iload_n 1, 1) := by decide +kernel
theorem dX1_settle_57 : decode cX1_settle 57 = .ok (.iload_n 2, 1) := by decide +kernel
theorem dX1_settle_58 : decode cX1_settle 58 = .ok (.ifCond .eq 12, 3) := by decide +kernel
theorem dX1_settle_61 : decode cX1_settle 61 = .ok (.aload_n 0, 1) := by decide +kernel
theorem dX1_settle_62 : decode cX1_settle 62 = .ok (.getfield 35, 3) := by decide +kernel
theorem dX1_settle_65 : decode cX1_settle 65 = .ok (.iload_n 1, 1) := by decide +kernel
theorem dX1_settle_66 : decode cX1_settle 66 = .ok (.iaload, 1) := by decide +kernel
theorem dX1_settle_67 : decode cX1_settle 67 = .ok (.goto 4, 3) := by decide +kernel
theorem dX1_settle_70 : decode cX1_settle 70 = .ok (.iconst 0, 1) := by decide +kernel
theorem dX1_settle_71 : decode cX1_settle 71 = .ok (.iastore, 1) := by decide +kernel
theorem dX1_settle_72 : decode cX1_settle 72 = .ok (.return_, 1) := by decide +kernel
set_option maxRecDepth 20000 in
theorem ggX1_setPriority_X1_are : GoodIn wsX1_setPriority wsX1_are := goodIn_r _ [6, 7, 8, 5, 9, 10, 11, 12, 13, 14, 15] (by decide +kernel) (by decide +kernel)
set_option maxRecDepth 20000 in
theorem gX1_setPriority_X1_are : GoodIn wsX1_setPriority (va_wsS RX1 98 yX1_are wsX1_are) := goodIn_app (goodIn_of _ (by decide +kernel)) ggX1_setPriority_X1_are
set_option maxRecDepth 20000 in
theorem ggX1_setPriority_X1_in : GoodIn wsX1_setPriority wsX1_in := goodIn_r _ [12] (by decide +kernel) (by decide +kernel)
set_option maxRecDepth 20000 in
theorem gX1_setPriority_X1_in : GoodIn wsX1_setPriority (va_wsS RX1 63 yX1_in wsX1_in) := goodIn_app (goodIn_of _ (by decide +kernel)) ggX1_setPriority_X1_in
set_option maxRecDepth 20000 in
theorem ggX1_setPriority_X1_goesWell : GoodIn wsX1_setPriority wsX1_goesWell := goodIn_r _ [19, 20, 66, 67, 68, 69, 70, 71, 72, 73, 74, 75, 76, 77, 78, 79, 80, 81, 82, 83, 84] (by decide +kernel) (by decide +kernel)
set_option maxRecDepth 20000 in
theorem gX1_setPriority_X1_goesWell : GoodIn wsX1_setPriority (wsV RX1 102 RX1 yX1_goesWell wsX1_goesWell) := goodIn_app (goodIn_of _ (by decide +kernel)) ggX1_setPriority_X1_goesWell
set_option maxRecDepth 20000 in
theorem ggX1_setPriority_X1_advertise : GoodIn wsX1_setPriority wsX1_advertise := goodIn_r _ [24, 25, 2, 26, 27, 28, 29, 5, 30, 31, 32, 33, 34, 35, 36, 37, 38, 1, 39, 40, 41, 42, 43, 44, 45, 46, 47, 48, 49, 50, 51, 52, 53, 54, 55, 56, 57, 58, 59, 60, 66, 67, 68, 69, 70, 71, 72, 73, 74, 75, 76, 77, 78, 79, 80, 81, 82, 83, 84] (by decide +kernel) (by decide +kernel)
set_option maxRecDepth 20000 in
theorem gX1_setPriority_X1_advertise : GoodIn wsX1_setPriority (wsV RX1 105 RX1 yX1_advertise wsX1_advertise) := goodIn_app (goodIn_of _ (by decide +kernel)) ggX1_setPriority_X1_advertise
set_option maxRecDepth 20000 in
theorem ggX1_setPriority_X1_settle : GoodIn wsX1_setPriority wsX1_settle := goodIn_r _ [64, 65, 1, 2, 59, 41, 42, 43, 5, 44, 33, 31, 45, 46, 47, 48, 49, 50, 51, 52, 53, 35, 36, 37, 38, 39, 40, 66, 67, 68, 69, 70, 71, 72, 73, 74, 75, 76, 77, 78, 79, 80, 81, 82, 83, 84] (by decide +kernel) (by decide +kernel)
set_option maxRecDepth 20000 in
theorem gX1_setPriority_X1_settle : GoodIn wsX1_setPriority (wsV RX1 108 RX1 yX1_settle wsX1_settle) := goodIn_app (goodIn_of _ (by decide +kernel)) ggX1_setPriority_X1_settle
theorem dX1_setPriority_0 : decode cX1_setPriority 0 = .ok (.aload_n 0, 1) := by decide +kernel
theorem dX1_setPriority_1 : decode cX1_setPriority 1 = .ok (.iload_n 1, 1) := by decide +kernel
theorem dX1_setPriority_2 : decode cX1_setPriority 2 = .ok (.iload_n 2, 1) := by decide +kernel
theorem dX1_setPriority_3 : decode cX1_setPriority 3 = .ok (.invokestatic 98, 3) := by decide +kernel
theorem dX1_setPriority_6 : decode cX1_setPriority 6 = .ok (.ifCond .eq 18, 3) := by decide +kernel
theorem dX1_setPriority_9 : decode cX1_setPriority 9 = .ok (.iload_n 3, 1) := by decide +kernel
theorem dX1_setPriority_10 : decode cX1_setPriority 10 = .ok (.iconst 0, 1) := by decide +kernel
theorem dX1_setPriority_11 : decode cX1_setPriority 11 = .ok (.sipush 254, 3) := by decide +kernel
theorem dX1_setPriority_14 : decode cX1_setPriority 14 = .ok (.invokestatic 63, 3) := by decide +kernel
theorem dX1_setPriority_17 : decode cX1_setPriority 17 = .ok (.ifCond .eq 7, 3) := by decide +kernel
theorem dX1_setPriority_20 : decode cX1_setPriority 20 = .ok (.iconst 0, 1) := by decide +kernel
theorem dX1_setPriority_21 : decode cX1_setPriority 21 = .ok (.goto 4, 3) := by decide +kernel
theorem dX1_setPriority_24 : decode cX1_setPriority 24 = .ok (.iconst 1, 1) := by decide +kernel
theorem dX1_setPriority_25 : decode cX1_setPriority 25 = .ok (.invokevirtual 102, 3) := by decide +kernel
theorem dX1_setPriority_28 : decode cX1_setPriority 28 = .ok (.ifCond .ne 5, 3) := by decide +kernel
theorem dX1_setPriority_31 : decode cX1_setPriority 31 = .ok (.iconst 0, 1) := by decide +kernel
theorem dX1_setPriority_32 : decode cX1_setPriority 32 = .ok (.ireturn, 1) := by decide +kernel
theorem dX1_setPriority_33 : decode cX1_setPriority 33 = .ok (.iconst 3, 1) := by decide +kernel
theorem dX1_setPriority_34 : decode cX1_setPriority 34 = .ok (.iload_n 1, 1) := by decide +kernel
theorem dX1_setPriority_35 : decode cX1_setPriority 35 = .ok (.imul, 1) := by decide +kernel
theorem dX1_setPriority_36 : decode cX1_setPriority 36 = .ok (.iload_n 2, 1) := by decide +kernel
theorem dX1_setPriority_37 : decode cX1_setPriority 37 = .ok (.iadd, 1) := by decide +kernel
theorem dX1_setPriority_38 : decode cX1_setPriority 38 = .ok (.istore 4, 2) := by decide +kernel
theorem dX1_setPriority_40 : decode cX1_setPriority 40 = .ok (.aload_n 0, 1) := by decide +kernel
theorem dX1_setPriority_41 : decode cX1_setPriority 41 = .ok (.getfield 13, 3) := by decide +kernel
theorem dX1_setPriority_44 : decode cX1_setPriority 44 = .ok (.iload 4, 2) := by decide +kernel
theorem dX1_setPriority_46 : decode cX1_setPriority 46 = .ok (.iaload, 1) := by decide +kernel
theorem dX1_setPriority_47 : decode cX1_setPriority 47 = .ok (.istore 5, 2) := by decide +kernel
theorem dX1_setPriority_49 : decode cX1_setPriority 49 = .ok (.iload_n 3, 1) := by decide +kernel
theorem dX1_setPriority_50 : decode cX1_setPriority 50 = .ok (.ifCond .ne 21, 3) := by decide +kernel
theorem dX1_setPriority_53 : decode cX1_setPriority 53 = .ok (.aload_n 0, 1) := by decide +kernel
theorem dX1_setPriority_54 : decode cX1_setPriority 54 = .ok (.getfield 35, 3) := by decide +kernel
theorem dX1_setPriority_57 : decode cX1_setPriority 57 = .ok (.iload 4, 2) := by decide +kernel
theorem dX1_setPriority_59 : decode cX1_setPriority 59 = .ok (.iaload, 1) := by decide +kernel
theorem dX1_setPriority_60 : decode cX1_setPriority 60 = .ok (.iconst 2, 1) := by decide +kernel
theorem dX1_setPriority_61 : decode cX1_setPriority 61 = .ok (.if_icmp .ne 10, 3) := by decide +kernel
theorem dX1_setPriority_64 : decode cX1_setPriority 64 = .ok (.aload_n 0, 1) := by decide +kernel
theorem dX1_setPriority_65 : decode cX1_setPriority 65 = .ok (.iload 4, 2) := by decide +kernel
theorem dX1_setPriority_67 : decode cX1_setPriority 67 = .ok (.iconst 0, 1) := by decide +kernel
theorem dX1_setPriority_68 : decode cX1_setPriority 68 = .ok (.invokevirtual 105, 3) := by decide +kernel
theorem dX1_setPriority_71 : decode cX1_setPriority 71 = .ok (.aload_n 0, 1) := by decide +kernel
theorem dX1_setPriority_72 : decode cX1_setPriority 72 = .ok (.getfield 13, 3) := by decide +kernel
theorem dX1_setPriority_75 : decode cX1_setPriority 75 = .ok (.iload 4, 2) := by decide +kernel
theorem dX1_setPriority_77 : decode cX1_setPriority 77 = .ok (.iload_n 3, 1) := by decide +kernel
theorem dX1_setPriority_78 : decode cX1_setPriority 78 = .ok (.iastore, 1) := by decide +kernel
theorem dX1_setPriority_79 : decode cX1_setPriority 79 = .ok (.aload_n 0, 1) := by decide +kernel
theorem dX1_setPriority_80 : decode cX1_setPriority 80 = .ok (.iload 4, 2) := by decide +kernel
theorem dX1_setPriority_82 : decode cX1_setPriority 82 = .ok (.invokevirtual 108, 3) := by decide +kernel
theorem dX1_setPriority_85 : decode cX1_setPriority 85 = .ok (.iload 5, 2) := by decide +kernel
theorem dX1_setPriority_87 : decode cX1_setPriority 87 = .ok (.ireturn, 1) := by decide +kernel
set_option maxRecDepth 20000 in
theorem ggX1_isLink_X1_isRouter : GoodIn wsX1_isLink wsX1_isRouter := goodIn_r _ [4, 5, 6, 3, 7] (by decide +kernel) (by decide +kernel)
set_option maxRecDepth 20000 in
theorem gX1_isLink_X1_isRouter : GoodIn wsX1_isLink (va_wsS RX1 67 yX1_isRouter wsX1_isRouter) := goodIn_app (goodIn_of _ (by decide +kernel)) ggX1_isLink_X1_isRouter
set_option maxRecDepth 20000 in
theorem ggX1_isLink_X1_in : GoodIn wsX1_isLink wsX1_in := goodIn_r _ [7] (by decide +kernel) (by decide +kernel)
set_option maxRecDepth 20000 in
theorem gX1_isLink_X1_in : GoodIn wsX1_isLink (va_wsS RX1 63 yX1_in wsX1_in) := goodIn_app (goodIn_of _ (by decide +kernel)) ggX1_isLink_X1_in
theorem dX1_isLink_0 : decode cX1_isLink 0 = .ok (.iload_n 0, 1) := by decide +kernel
theorem dX1_isLink_1 : decode cX1_isLink 1 = .ok (.invokestatic 67, 3) := by decide +kernel
theorem dX1_isLink_4 : decode cX1_isLink 4 = .ok (.ifCond .eq 16, 3) := by decide +kernel
theorem dX1_isLink_7 : decode cX1_isLink 7 = .ok (.iload_n 1, 1) := by decide +kernel
theorem dX1_isLink_8 : decode cX1_isLink 8 = .ok (.iconst 0, 1) := by decide +kernel
theorem dX1_isLink_9 : decode cX1_isLink 9 = .ok (.iconst 1, 1) := by decide +kernel
theorem dX1_isLink_10 : decode cX1_isLink 10 = .ok (.invokestatic 63, 3) := by decide +kernel
theorem dX1_isLink_13 : decode cX1_isLink 13 = .ok (.ifCond .eq 7, 3) := by decide +kernel
theorem dX1_isLink_16 : decode cX1_isLink 16 = .ok (.iconst 1, 1) := by decide +kernel
theorem dX1_isLink_17 : decode cX1_isLink 17 = .ok (.goto 4, 3) := by decide +kernel
theorem dX1_isLink_20 : decode cX1_isLink 20 = .ok (.iconst 0, 1) := by decide +kernel
theorem dX1_isLink_21 : decode cX1_isLink 21 = .ok (.ireturn, 1) := by decide +kernel
set_option maxRecDepth 20000 in
theorem ggX1_track_X1_isLink : GoodIn wsX1_track wsX1_isLink := goodIn_r _ [5, 6, 7, 4, 8, 9, 10, 11] (by decide +kernel) (by decide +kernel)
set_option maxRecDepth 20000 in
theorem gX1_track_X1_isLink : GoodIn wsX1_track (va_wsS RX1 112 yX1_isLink wsX1_isLink) := goodIn_app (goodIn_of _ (by decide +kernel)) ggX1_track_X1_isLink
set_option maxRecDepth 20000 in
theorem ggX1_track_X1_in : GoodIn wsX1_track wsX1_in := goodIn_r _ [11] (by decide +kernel) (by decide +kernel)
set_option maxRecDepth 20000 in
theorem gX1_track_X1_in : GoodIn wsX1_track (va_wsS RX1 63 yX1_in wsX1_in) := goodIn_app (goodIn_of _ (by decide +kernel)) ggX1_track_X1_in
set_option maxRecDepth 20000 in
theorem ggX1_track_X1_goesWell : GoodIn wsX1_track wsX1_goesWell := goodIn_r _ [15, 16, 17, 18, 19, 20, 21, 22, 23, 24, 25, 26, 27, 28, 29, 30, 31, 32, 33, 34, 35] (by decide +kernel) (by decide +kernel)
set_option maxRecDepth 20000 in
theorem gX1_track_X1_goesWell : GoodIn wsX1_track (wsV RX1 102 RX1 yX1_goesWell wsX1_goesWell) := goodIn_app (goodIn_of _ (by decide +kernel)) ggX1_track_X1_goesWell
theorem dX1_track_0 : decode cX1_track 0 = .ok (.aload_n 0, 1) := by decide +kernel
theorem dX1_track_1 : decode cX1_track 1 = .ok (.iload_n 1, 1) := by decide +kernel
theorem dX1_track_2 : decode cX1_track 2 = .ok (.iload_n 2, 1) := by decide +kernel
theorem dX1_track_3 : decode cX1_track 3 = .ok (.invokestatic 112, 3) := by decide +kernel
theorem dX1_track_6 : decode cX1_track 6 = .ok (.ifCond .eq 17, 3) := by decide +kernel
theorem dX1_track_9 : decode cX1_track 9 = .ok (.iload_n 3, 1) := by decide +kernel
theorem dX1_track_10 : decode cX1_track 10 = .ok (.iconst 0, 1) := by decide +kernel
theorem dX1_track_11 : decode cX1_track 11 = .ok (.bipush 100, 2) := by decide +kernel
theorem dX1_track_13 : decode cX1_track 13 = .ok (.invokestatic 63, 3) := by decide +kernel
theorem dX1_track_16 : decode cX1_track 16 = .ok (.ifCond .eq 7, 3) := by decide +kernel
theorem dX1_track_19 : decode cX1_track 19 = .ok (.iconst 0, 1) := by decide +kernel
theorem dX1_track_20 : decode cX1_track 20 = .ok (.goto 4, 3) := by decide +kernel
theorem dX1_track_23 : decode cX1_track 23 = .ok (.iconst 1, 1) := by decide +kernel
theorem dX1_track_24 : decode cX1_track 24 = .ok (.invokevirtual 102, 3) := by decide +kernel
theorem dX1_track_27 : decode cX1_track 27 = .ok (.ifCond .ne 5, 3) := by decide +kernel
theorem dX1_track_30 : decode cX1_track 30 = .ok (.iconst 0, 1) := by decide +kernel
theorem dX1_track_31 : decode cX1_track 31 = .ok (.ireturn, 1) := by decide +kernel
theorem dX1_track_32 : decode cX1_track 32 = .ok (.aload_n 0, 1) := by decide +kernel
theorem dX1_track_33 : decode cX1_track 33 = .ok (.getfield 17, 3) := by decide +kernel
theorem dX1_track_36 : decode cX1_track 36 = .ok (.iconst 2, 1) := by decide +kernel
theorem dX1_track_37 : decode cX1_track 37 = .ok (.iload_n 1, 1) := by decide +kernel
theorem dX1_track_38 : decode cX1_track 38 = .ok (.imul, 1) := by decide +kernel
theorem dX1_track_39 : decode cX1_track 39 = .ok (.iload_n 2, 1) := by decide +kernel
theorem dX1_track_40 : decode cX1_track 40 = .ok (.iadd, 1) := by decide +kernel
theorem dX1_track_41 : decode cX1_track 41 = .ok (.iaload, 1) := by decide +kernel
theorem dX1_track_42 : decode cX1_track 42 = .ok (.istore 4, 2) := by decide +kernel
theorem dX1_track_44 : decode cX1_track 44 = .ok (.aload_n 0, 1) := by decide +kernel
theorem dX1_track_45 : decode cX1_track 45 = .ok (.getfield 17, 3) := by decide +kernel
theorem dX1_track_48 : decode cX1_track 48 = .ok (.iconst 2, 1) := by decide +kernel
theorem dX1_track_49 : decode cX1_track 49 = .ok (.iload_n 1, 1) := by decide +kernel
theorem dX1_track_50 : decode cX1_track 50 = .ok (.imul, 1) := by decide +kernel
theorem dX1_track_51 : decode cX1_track 51 = .ok (.iload_n 2, 1) := by decide +kernel
theorem dX1_track_52 : decode cX1_track 52 = .ok (.iadd, 1) := by decide +kernel
theorem dX1_track_53 : decode cX1_track 53 = .ok (.iload_n 3, 1) := by decide +kernel
theorem dX1_track_54 : decode cX1_track 54 = .ok (.iastore, 1) := by decide +kernel
theorem dX1_track_55 : decode cX1_track 55 = .ok (.iload 4, 2) := by decide +kernel
theorem dX1_track_57 : decode cX1_track 57 = .ok (.ireturn, 1) := by decide +kernel
set_option maxRecDepth 20000 in
theorem ggX1_setLink_X1_isLink : GoodIn wsX1_setLink wsX1_isLink := goodIn_r _ [5, 6, 7, 4, 8, 9, 10, 11] (by decide +kernel) (by decide +kernel)
set_option maxRecDepth 20000 in
theorem gX1_setLink_X1_isLink : GoodIn wsX1_setLink (va_wsS RX1 112 yX1_isLink wsX1_isLink) := goodIn_app (goodIn_of _ (by decide +kernel)) ggX1_setLink_X1_isLink
set_option maxRecDepth 20000 in
theorem ggX1_setLink_X1_goesWell : GoodIn wsX1_setLink wsX1_goesWell := goodIn_r _ [15, 16, 17, 18, 19, 20, 21, 22, 23, 24, 25, 26, 27, 28, 29, 30, 31, 32, 33, 34, 35] (by decide +kernel) (by decide +kernel)
set_option maxRecDepth 20000 in
theorem gX1_setLink_X1_goesWell : GoodIn wsX1_setLink (wsV RX1 102 RX1 yX1_goesWell wsX1_goesWell) := goodIn_app (goodIn_of _ (by decide +kernel)) ggX1_setLink_X1_goesWell
theorem dX1_setLink_0 : decode cX1_setLink 0 = .ok (.aload_n 0, 1) := by decide +kernel
theorem dX1_setLink_1 : decode cX1_setLink 1 = .ok (.iload_n 1, 1) := by decide +kernel
theorem dX1_setLink_2 : decode cX1_setLink 2 = .ok (.iload_n 2, 1) := by decide +kernel
theorem dX1_setLink_3 : decode cX1_setLink 3 = .ok (.invokestatic 112, 3) := by decide +kernel
theorem dX1_setLink_6 : decode cX1_setLink 6 = .ok (.ifCond .eq 7, 3) := by decide +kernel
theorem dX1_setLink_9 : decode cX1_setLink 9 = .ok (.iconst 0, 1) := by decide +kernel
theorem dX1_setLink_10 : decode cX1_setLink 10 = .ok (.goto 4, 3) := by decide +kernel
theorem dX1_setLink_13 : decode cX1_setLink 13 = .ok (.iconst 1, 1) := by decide +kernel
theorem dX1_setLink_14 : decode cX1_setLink 14 = .ok (.invokevirtual 102, 3) := by decide +kernel
theorem dX1_setLink_17 : decode cX1_setLink 17 = .ok (.ifCond .ne 5, 3) := by decide +kernel
theorem dX1_setLink_20 : decode cX1_setLink 20 = .ok (.iconst 0, 1) := by decide +kernel
theorem dX1_setLink_21 : decode cX1_setLink 21 = .ok (.ireturn, 1) := by decide +kernel
theorem dX1_setLink_22 : decode cX1_setLink 22 = .ok (.aload_n 0, 1) := by decide +kernel
theorem dX1_setLink_23 : decode cX1_setLink 23 = .ok (.getfield 20, 3) := by decide +kernel
theorem dX1_setLink_26 : decode cX1_setLink 26 = .ok (.iconst 2, 1) := by decide +kernel
theorem dX1_setLink_27 : decode cX1_setLink 27 = .ok (.iload_n 1, 1) := by decide +kernel
theorem dX1_setLink_28 : decode cX1_setLink 28 = .ok (.imul, 1) := by decide +kernel
theorem dX1_setLink_29 : decode cX1_setLink 29 = .ok (.iload_n 2, 1) := by decide +kernel
theorem dX1_setLink_30 : decode cX1_setLink 30 = .ok (.iadd, 1) := by decide +kernel
theorem dX1_setLink_31 : decode cX1_setLink 31 = .ok (.baload, 1) := by decide +kernel
theorem dX1_setLink_32 : decode cX1_setLink 32 = .ok (.ifCond .ne 7, 3) := by decide +kernel
theorem dX1_setLink_35 : decode cX1_setLink 35 = .ok (.iconst 1, 1) := by decide +kernel
theorem dX1_setLink_36 : decode cX1_setLink 36 = .ok (.goto 4, 3) := by decide +kernel
theorem dX1_setLink_39 : decode cX1_setLink 39 = .ok (.iconst 0, 1) := by decide +kernel
theorem dX1_setLink_40 : decode cX1_setLink 40 = .ok (.istore 4, 2) := by decide +kernel
theorem dX1_setLink_42 : decode cX1_setLink 42 = .ok (.aload_n 0, 1) := by decide +kernel
theorem dX1_setLink_43 : decode cX1_setLink 43 = .ok (.getfield 20, 3) := by decide +kernel
theorem dX1_setLink_46 : decode cX1_setLink 46 = .ok (.iconst 2, 1) := by decide +kernel
theorem dX1_setLink_47 : decode cX1_setLink 47 = .ok (.iload_n 1, 1) := by decide +kernel
theorem dX1_setLink_48 : decode cX1_setLink 48 = .ok (.imul, 1) := by decide +kernel
theorem dX1_setLink_49 : decode cX1_setLink 49 = .ok (.iload_n 2, 1) := by decide +kernel
theorem dX1_setLink_50 : decode cX1_setLink 50 = .ok (.iadd, 1) := by decide +kernel
theorem dX1_setLink_51 : decode cX1_setLink 51 = .ok (.iload_n 3, 1) := by decide +kernel
theorem dX1_setLink_52 : decode cX1_setLink 52 = .ok (.ifCond .ne 7, 3) := by decide +kernel
theorem dX1_setLink_55 : decode cX1_setLink 55 = .ok (.iconst 1, 1) := by decide +kernel
theorem dX1_setLink_56 : decode cX1_setLink 56 = .ok (.goto 4, 3) := by decide +kernel
theorem dX1_setLink_59 : decode cX1_setLink 59 = .ok (.iconst 0, 1) := by decide +kernel
theorem dX1_setLink_60 : decode cX1_setLink 60 = .ok (.bastore, 1) := by decide +kernel
theorem dX1_setLink_61 : decode cX1_setLink 61 = .ok (.iload 4, 2) := by decide +kernel
theorem dX1_setLink_63 : decode cX1_setLink 63 = .ok (.ireturn, 1) := by decide +kernel
set_option maxRecDepth 20000 in
theorem ggX1_setPeriod_X1_isGroup : GoodIn wsX1_setPeriod wsX1_isGroup := goodIn_r _ [5, 6, 7, 4, 8] (by decide +kernel) (by decide +kernel)
set_option maxRecDepth 20000 in
theorem gX1_setPeriod_X1_isGroup : GoodIn wsX1_setPeriod (va_wsS RX1 71 yX1_isGroup wsX1_isGroup) := goodIn_app (goodIn_of _ (by decide +kernel)) ggX1_setPeriod_X1_isGroup
set_option maxRecDepth 20000 in
theorem ggX1_setPeriod_X1_in : GoodIn wsX1_setPeriod wsX1_in := goodIn_r _ [8] (by decide +kernel) (by decide +kernel)
set_option maxRecDepth 20000 in
theorem gX1_setPeriod_X1_in : GoodIn wsX1_setPeriod (va_wsS RX1 63 yX1_in wsX1_in) := goodIn_app (goodIn_of _ (by decide +kernel)) ggX1_setPeriod_X1_in
set_option maxRecDepth 20000 in
theorem ggX1_setPeriod_X1_goesWell : GoodIn wsX1_setPeriod wsX1_goesWell := goodIn_r _ [12, 13, 14, 15, 16, 17, 18, 19, 20, 21, 22, 23, 24, 25, 26, 27, 28, 29, 30, 31, 32] (by decide +kernel) (by decide +kernel)
set_option maxRecDepth 20000 in
theorem gX1_setPeriod_X1_goesWell : GoodIn wsX1_setPeriod (wsV RX1 102 RX1 yX1_goesWell wsX1_goesWell) := goodIn_app (goodIn_of _ (by decide +kernel)) ggX1_setPeriod_X1_goesWell
theorem dX1_setPeriod_0 : decode cX1_setPeriod 0 = .ok (.aload_n 0, 1) := by decide +kernel
theorem dX1_setPeriod_1 : decode cX1_setPeriod 1 = .ok (.iload_n 1, 1) := by decide +kernel
theorem dX1_setPeriod_2 : decode cX1_setPeriod 2 = .ok (.invokestatic 71, 3) := by decide +kernel
theorem dX1_setPeriod_5 : decode cX1_setPeriod 5 = .ok (.ifCond .eq 17, 3) := by decide +kernel
theorem dX1_setPeriod_8 : decode cX1_setPeriod 8 = .ok (.iload_n 2, 1) := by decide +kernel
theorem dX1_setPeriod_9 : decode cX1_setPeriod 9 = .ok (.iconst 1, 1) := by decide +kernel
theorem dX1_setPeriod_10 : decode cX1_setPeriod 10 = .ok (.bipush 10, 2) := by decide +kernel
theorem dX1_setPeriod_12 : decode cX1_setPeriod 12 = .ok (.invokestatic 63, 3) := by decide +kernel
theorem dX1_setPeriod_15 : decode cX1_setPeriod 15 = .ok (.ifCond .eq 7, 3) := by decide +kernel
theorem dX1_setPeriod_18 : decode cX1_setPeriod 18 = .ok (.iconst 0, 1) := by decide +kernel
theorem dX1_setPeriod_19 : decode cX1_setPeriod 19 = .ok (.goto 4, 3) := by decide +kernel
theorem dX1_setPeriod_22 : decode cX1_setPeriod 22 = .ok (.iconst 1, 1) := by decide +kernel
theorem dX1_setPeriod_23 : decode cX1_setPeriod 23 = .ok (.invokevirtual 102, 3) := by decide +kernel
theorem dX1_setPeriod_26 : decode cX1_setPeriod 26 = .ok (.ifCond .ne 5, 3) := by decide +kernel
theorem dX1_setPeriod_29 : decode cX1_setPeriod 29 = .ok (.iconst 0, 1) := by decide +kernel
theorem dX1_setPeriod_30 : decode cX1_setPeriod 30 = .ok (.ireturn, 1) := by decide +kernel
theorem dX1_setPeriod_31 : decode cX1_setPeriod 31 = .ok (.aload_n 0, 1) := by decide +kernel
theorem dX1_setPeriod_32 : decode cX1_setPeriod 32 = .ok (.getfield 26, 3) := by decide +kernel
theorem dX1_setPeriod_35 : decode cX1_setPeriod 35 = .ok (.iload_n 1, 1) := by decide +kernel
theorem dX1_setPeriod_36 : decode cX1_setPeriod 36 = .ok (.iaload, 1) := by decide +kernel
theorem dX1_setPeriod_37 : decode cX1_setPeriod 37 = .ok (.istore_n 3, 1) := by decide +kernel
theorem dX1_setPeriod_38 : decode cX1_setPeriod 38 = .ok (.aload_n 0, 1) := by decide +kernel
theorem dX1_setPeriod_39 : decode cX1_setPeriod 39 = .ok (.getfield 26, 3) := by decide +kernel
theorem dX1_setPeriod_42 : decode cX1_setPeriod 42 = .ok (.iload_n 1, 1) := by decide +kernel
theorem dX1_setPeriod_43 : decode cX1_setPeriod 43 = .ok (.iload_n 2, 1) := by decide +kernel
theorem dX1_setPeriod_44 : decode cX1_setPeriod 44 = .ok (.iastore, 1) := by decide +kernel
theorem dX1_setPeriod_45 : decode cX1_setPeriod 45 = .ok (.iload_n 3, 1) := by decide +kernel
theorem dX1_setPeriod_46 : decode cX1_setPeriod 46 = .ok (.ireturn, 1) := by decide +kernel
set_option maxRecDepth 20000 in
theorem ggX1_setPreemption_X1_isGroup : GoodIn wsX1_setPreemption wsX1_isGroup := goodIn_r _ [6, 7, 8, 5, 9] (by decide +kernel) (by decide +kernel)
set_option maxRecDepth 20000 in
theorem gX1_setPreemption_X1_isGroup : GoodIn wsX1_setPreemption (va_wsS RX1 71 yX1_isGroup wsX1_isGroup) := goodIn_app (goodIn_of _ (by decide +kernel)) ggX1_setPreemption_X1_isGroup
set_option maxRecDepth 20000 in
theorem ggX1_setPreemption_X1_in : GoodIn wsX1_setPreemption wsX1_in := goodIn_r _ [9] (by decide +kernel) (by decide +kernel)
set_option maxRecDepth 20000 in
theorem gX1_setPreemption_X1_in : GoodIn wsX1_setPreemption (va_wsS RX1 63 yX1_in wsX1_in) := goodIn_app (goodIn_of _ (by decide +kernel)) ggX1_setPreemption_X1_in
set_option maxRecDepth 20000 in
theorem ggX1_setPreemption_X1_goesWell : GoodIn wsX1_setPreemption wsX1_goesWell := goodIn_r _ [13, 14, 15, 16, 17, 18, 19, 20, 21, 22, 23, 24, 25, 26, 27, 28, 29, 30, 31, 32, 33] (by decide +kernel) (by decide +kernel)
set_option maxRecDepth 20000 in
theorem gX1_setPreemption_X1_goesWell : GoodIn wsX1_setPreemption (wsV RX1 102 RX1 yX1_goesWell wsX1_goesWell) := goodIn_app (goodIn_of _ (by decide +kernel)) ggX1_setPreemption_X1_goesWell
theorem dX1_setPreemption_0 : decode cX1_setPreemption 0 = .ok (.aload_n 0, 1) := by decide +kernel
theorem dX1_setPreemption_1 : decode cX1_setPreemption 1 = .ok (.iload_n 1, 1) := by decide +kernel
theorem dX1_setPreemption_2 : decode cX1_setPreemption 2 = .ok (.invokestatic 71, 3) := by decide +kernel
theorem dX1_setPreemption_5 : decode cX1_setPreemption 5 = .ok (.ifCond .eq 17, 3) := by decide +kernel
theorem dX1_setPreemption_8 : decode cX1_setPreemption 8 = .ok (.iload_n 3, 1) := by decide +kernel
theorem dX1_setPreemption_9 : decode cX1_setPreemption 9 = .ok (.iconst 0, 1) := by decide +kernel
theorem dX1_setPreemption_10 : decode cX1_setPreemption 10 = .ok (.bipush 10, 2) := by decide +kernel
theorem dX1_setPreemption_12 : decode cX1_setPreemption 12 = .ok (.invokestatic 63, 3) := by decide +kernel
theorem dX1_setPreemption_15 : decode cX1_setPreemption 15 = .ok (.ifCond .eq 7, 3) := by decide +kernel
theorem dX1_setPreemption_18 : decode cX1_setPreemption 18 = .ok (.iconst 0, 1) := by decide +kernel
theorem dX1_setPreemption_19 : decode cX1_setPreemption 19 = .ok (.goto 4, 3) := by decide +kernel
theorem dX1_setPreemption_22 : decode cX1_setPreemption 22 = .ok (.iconst 1, 1) := by decide +kernel
theorem dX1_setPreemption_23 : decode cX1_setPreemption 23 = .ok (.invokevirtual 102, 3) := by decide +kernel
theorem dX1_setPreemption_26 : decode cX1_setPreemption 26 = .ok (.ifCond .eq 25, 3) := by decide +kernel
theorem dX1_setPreemption_29 : decode cX1_setPreemption 29 = .ok (.aload_n 0, 1) := by decide +kernel
theorem dX1_setPreemption_30 : decode cX1_setPreemption 30 = .ok (.getfield 29, 3) := by decide +kernel
theorem dX1_setPreemption_33 : decode cX1_setPreemption 33 = .ok (.iload_n 1, 1) := by decide +kernel
theorem dX1_setPreemption_34 : decode cX1_setPreemption 34 = .ok (.iload_n 2, 1) := by decide +kernel
theorem dX1_setPreemption_35 : decode cX1_setPreemption 35 = .ok (.ifCond .ne 7, 3) := by decide +kernel
theorem dX1_setPreemption_38 : decode cX1_setPreemption 38 = .ok (.iconst 1, 1) := by decide +kernel
theorem dX1_setPreemption_39 : decode cX1_setPreemption 39 = .ok (.goto 4, 3) := by decide +kernel
theorem dX1_setPreemption_42 : decode cX1_setPreemption 42 = .ok (.iconst 0, 1) := by decide +kernel
theorem dX1_setPreemption_43 : decode cX1_setPreemption 43 = .ok (.bastore, 1) := by decide +kernel
theorem dX1_setPreemption_44 : decode cX1_setPreemption 44 = .ok (.aload_n 0, 1) := by decide +kernel
theorem dX1_setPreemption_45 : decode cX1_setPreemption 45 = .ok (.getfield 32, 3) := by decide +kernel
theorem dX1_setPreemption_48 : decode cX1_setPreemption 48 = .ok (.iload_n 1, 1) := by decide +kernel
theorem dX1_setPreemption_49 : decode cX1_setPreemption 49 = .ok (.iload_n 3, 1) := by decide +kernel
theorem dX1_setPreemption_50 : decode cX1_setPreemption 50 = .ok (.iastore, 1) := by decide +kernel
theorem dX1_setPreemption_51 : decode cX1_setPreemption 51 = .ok (.return_, 1) := by decide +kernel
set_option maxRecDepth 20000 in
theorem ggX1_join_X1_isRouter : GoodIn wsX1_join wsX1_isRouter := goodIn_r _ [5, 6, 7, 4, 8] (by decide +kernel) (by decide +kernel)
set_option maxRecDepth 20000 in
theorem gX1_join_X1_isRouter : GoodIn wsX1_join (va_wsS RX1 67 yX1_isRouter wsX1_isRouter) := goodIn_app (goodIn_of _ (by decide +kernel)) ggX1_join_X1_isRouter
set_option maxRecDepth 20000 in
theorem ggX1_join_X1_goesWell : GoodIn wsX1_join wsX1_goesWell := goodIn_r _ [12, 13, 14, 15, 16, 17, 18, 19, 20, 21, 22, 23, 24, 25, 26, 27, 28, 29, 30, 31, 32] (by decide +kernel) (by decide +kernel)
set_option maxRecDepth 20000 in
theorem gX1_join_X1_goesWell : GoodIn wsX1_join (wsV RX1 102 RX1 yX1_goesWell wsX1_goesWell) := goodIn_app (goodIn_of _ (by decide +kernel)) ggX1_join_X1_goesWell
theorem dX1_join_0 : decode cX1_join 0 = .ok (.aload_n 0, 1) := by decide +kernel
theorem dX1_join_1 : decode cX1_join 1 = .ok (.iload_n 1, 1) := by decide +kernel
theorem dX1_join_2 : decode cX1_join 2 = .ok (.invokestatic 67, 3) := by decide +kernel
theorem dX1_join_5 : decode cX1_join 5 = .ok (.ifCond .eq 19, 3) := by decide +kernel
theorem dX1_join_8 : decode cX1_join 8 = .ok (.iload_n 2, 1) := by decide +kernel
theorem dX1_join_9 : decode cX1_join 9 = .ok (.invokestatic 67, 3) := by decide +kernel
theorem dX1_join_12 : decode cX1_join 12 = .ok (.ifCond .eq 12, 3) := by decide +kernel
theorem dX1_join_15 : decode cX1_join 15 = .ok (.iload_n 1, 1) := by decide +kernel
theorem dX1_join_16 : decode cX1_join 16 = .ok (.iload_n 2, 1) := by decide +kernel
theorem dX1_join_17 : decode cX1_join 17 = .ok (.if_icmp .eq 7, 3) := by decide +kernel
theorem dX1_join_20 : decode cX1_join 20 = .ok (.iconst 0, 1) := by decide +kernel
theorem dX1_join_21 : decode cX1_join 21 = .ok (.goto 4, 3) := by decide +kernel
theorem dX1_join_24 : decode cX1_join 24 = .ok (.iconst 1, 1) := by decide +kernel
theorem dX1_join_25 : decode cX1_join 25 = .ok (.invokevirtual 102, 3) := by decide +kernel
theorem dX1_join_28 : decode cX1_join 28 = .ok (.ifCond .ne 5, 3) := by decide +kernel
theorem dX1_join_31 : decode cX1_join 31 = .ok (.iconst 0, 1) := by decide +kernel
theorem dX1_join_32 : decode cX1_join 32 = .ok (.ireturn, 1) := by decide +kernel
theorem dX1_join_33 : decode cX1_join 33 = .ok (.aload_n 0, 1) := by decide +kernel
theorem dX1_join_34 : decode cX1_join 34 = .ok (.getfield 23, 3) := by decide +kernel
theorem dX1_join_37 : decode cX1_join 37 = .ok (.iconst 4, 1) := by decide +kernel
theorem dX1_join_38 : decode cX1_join 38 = .ok (.iload_n 1, 1) := by decide +kernel
theorem dX1_join_39 : decode cX1_join 39 = .ok (.imul, 1) := by decide +kernel
theorem dX1_join_40 : decode cX1_join 40 = .ok (.iload_n 2, 1) := by decide +kernel
theorem dX1_join_41 : decode cX1_join 41 = .ok (.iadd, 1) := by decide +kernel
theorem dX1_join_42 : decode cX1_join 42 = .ok (.baload, 1) := by decide +kernel
theorem dX1_join_43 : decode cX1_join 43 = .ok (.ifCond .ne 7, 3) := by decide +kernel
theorem dX1_join_46 : decode cX1_join 46 = .ok (.iconst 1, 1) := by decide +kernel
theorem dX1_join_47 : decode cX1_join 47 = .ok (.goto 4, 3) := by decide +kernel
theorem dX1_join_50 : decode cX1_join 50 = .ok (.iconst 0, 1) := by decide +kernel
theorem dX1_join_51 : decode cX1_join 51 = .ok (.istore 4, 2) := by decide +kernel
theorem dX1_join_53 : decode cX1_join 53 = .ok (.aload_n 0, 1) := by decide +kernel
theorem dX1_join_54 : decode cX1_join 54 = .ok (.getfield 23, 3) := by decide +kernel
theorem dX1_join_57 : decode cX1_join 57 = .ok (.iconst 4, 1) := by decide +kernel
theorem dX1_join_58 : decode cX1_join 58 = .ok (.iload_n 1, 1) := by decide +kernel
theorem dX1_join_59 : decode cX1_join 59 = .ok (.imul, 1) := by decide +kernel
theorem dX1_join_60 : decode cX1_join 60 = .ok (.iload_n 2, 1) := by decide +kernel
theorem dX1_join_61 : decode cX1_join 61 = .ok (.iadd, 1) := by decide +kernel
theorem dX1_join_62 : decode cX1_join 62 = .ok (.iload_n 3, 1) := by decide +kernel
theorem dX1_join_63 : decode cX1_join 63 = .ok (.ifCond .ne 7, 3) := by decide +kernel
theorem dX1_join_66 : decode cX1_join 66 = .ok (.iconst 1, 1) := by decide +kernel
theorem dX1_join_67 : decode cX1_join 67 = .ok (.goto 4, 3) := by decide +kernel
theorem dX1_join_70 : decode cX1_join 70 = .ok (.iconst 0, 1) := by decide +kernel
theorem dX1_join_71 : decode cX1_join 71 = .ok (.bastore, 1) := by decide +kernel
theorem dX1_join_72 : decode cX1_join 72 = .ok (.aload_n 0, 1) := by decide +kernel
theorem dX1_join_73 : decode cX1_join 73 = .ok (.getfield 23, 3) := by decide +kernel
theorem dX1_join_76 : decode cX1_join 76 = .ok (.iconst 4, 1) := by decide +kernel
theorem dX1_join_77 : decode cX1_join 77 = .ok (.iload_n 2, 1) := by decide +kernel
theorem dX1_join_78 : decode cX1_join 78 = .ok (.imul, 1) := by decide +kernel
theorem dX1_join_79 : decode cX1_join 79 = .ok (.iload_n 1, 1) := by decide +kernel
theorem dX1_join_80 : decode cX1_join 80 = .ok (.iadd, 1) := by decide +kernel
theorem dX1_join_81 : decode cX1_join 81 = .ok (.iload_n 3, 1) := by decide +kernel
theorem dX1_join_82 : decode cX1_join 82 = .ok (.ifCond .ne 7, 3) := by decide +kernel
theorem dX1_join_85 : decode cX1_join 85 = .ok (.iconst 1, 1) := by decide +kernel
theorem dX1_join_86 : decode cX1_join 86 = .ok (.goto 4, 3) := by decide +kernel
theorem dX1_join_89 : decode cX1_join 89 = .ok (.iconst 0, 1) := by decide +kernel
theorem dX1_join_90 : decode cX1_join 90 = .ok (.bastore, 1) := by decide +kernel
theorem dX1_join_91 : decode cX1_join 91 = .ok (.iload 4, 2) := by decide +kernel
theorem dX1_join_93 : decode cX1_join 93 = .ok (.ireturn, 1) := by decide +kernel
set_option maxRecDepth 20000 in
theorem ggX1_die_X1_isRouter : GoodIn wsX1_die wsX1_isRouter := goodIn_r _ [6, 7, 8, 5, 9] (by decide +kernel) (by decide +kernel)
set_option maxRecDepth 20000 in
theorem gX1_die_X1_isRouter : GoodIn wsX1_die (va_wsS RX1 67 yX1_isRouter wsX1_isRouter) := goodIn_app (goodIn_of _ (by decide +kernel)) ggX1_die_X1_isRouter
set_option maxRecDepth 20000 in
theorem ggX1_die_X1_goesWell : GoodIn wsX1_die wsX1_goesWell := goodIn_r _ [13, 14, 42, 43, 44, 45, 46, 47, 48, 49, 50, 51, 52, 53, 54, 55, 56, 57, 58, 59, 60] (by decide +kernel) (by decide +kernel)
set_option maxRecDepth 20000 in
theorem gX1_die_X1_goesWell : GoodIn wsX1_die (wsV RX1 102 RX1 yX1_goesWell wsX1_goesWell) := goodIn_app (goodIn_of _ (by decide +kernel)) ggX1_die_X1_goesWell
set_option maxRecDepth 20000 in
theorem ggX1_die_X1_settle : GoodIn wsX1_die wsX1_settle := goodIn_r _ [18, 1, 19, 2, 20, 21, 22, 23, 5, 24, 25, 26, 27, 28, 29, 30, 31, 32, 33, 34, 35, 36, 37, 38, 39, 40, 41, 42, 43, 44, 45, 46, 47, 48, 49, 50, 51, 52, 53, 54, 55, 56, 57, 58, 59, 60] (by decide +kernel) (by decide +kernel)
set_option maxRecDepth 20000 in
theorem gX1_die_X1_settle : GoodIn wsX1_die (wsV RX1 108 RX1 yX1_settle wsX1_settle) := goodIn_app (goodIn_of _ (by decide +kernel)) ggX1_die_X1_settle
theorem dX1_die_0 : decode cX1_die 0 = .ok (.aload_n 0, 1) := by decide +kernel
theorem dX1_die_1 : decode cX1_die 1 = .ok (.iload_n 1, 1) := by decide +kernel
theorem dX1_die_2 : decode cX1_die 2 = .ok (.invokestatic 67, 3) := by decide +kernel
theorem dX1_die_5 : decode cX1_die 5 = .ok (.ifCond .ne 7, 3) := by decide +kernel
theorem dX1_die_8 : decode cX1_die 8 = .ok (.iconst 1, 1) := by decide +kernel
theorem dX1_die_9 : decode cX1_die 9 = .ok (.goto 17, 3) := by decide +kernel
theorem dX1_die_12 : decode cX1_die 12 = .ok (.aload_n 0, 1) := by decide +kernel
theorem dX1_die_13 : decode cX1_die 13 = .ok (.getfield 7, 3) := by decide +kernel
theorem dX1_die_16 : decode cX1_die 16 = .ok (.iload_n 1, 1) := by decide +kernel
theorem dX1_die_17 : decode cX1_die 17 = .ok (.baload, 1) := by decide +kernel
theorem dX1_die_18 : decode cX1_die 18 = .ok (.ifCond .eq 7, 3) := by decide +kernel
theorem dX1_die_21 : decode cX1_die 21 = .ok (.iconst 2, 1) := by decide +kernel
theorem dX1_die_22 : decode cX1_die 22 = .ok (.goto 4, 3) := by decide +kernel
theorem dX1_die_25 : decode cX1_die 25 = .ok (.iconst 0, 1) := by decide +kernel
theorem dX1_die_26 : decode cX1_die 26 = .ok (.invokevirtual 102, 3) := by decide +kernel
theorem dX1_die_29 : decode cX1_die 29 = .ok (.ifCond .ne 5, 3) := by decide +kernel
theorem dX1_die_32 : decode cX1_die 32 = .ok (.iconst 0, 1) := by decide +kernel
theorem dX1_die_33 : decode cX1_die 33 = .ok (.ireturn, 1) := by decide +kernel
theorem dX1_die_34 : decode cX1_die 34 = .ok (.iconst 0, 1) := by decide +kernel
theorem dX1_die_35 : decode cX1_die 35 = .ok (.istore_n 2, 1) := by decide +kernel
theorem dX1_die_36 : decode cX1_die 36 = .ok (.aload_n 0, 1) := by decide +kernel
theorem dX1_die_37 : decode cX1_die 37 = .ok (.getfield 7, 3) := by decide +kernel
theorem dX1_die_40 : decode cX1_die 40 = .ok (.iload_n 1, 1) := by decide +kernel
theorem dX1_die_41 : decode cX1_die 41 = .ok (.iconst 1, 1) := by decide +kernel
theorem dX1_die_42 : decode cX1_die 42 = .ok (.bastore, 1) := by decide +kernel
theorem dX1_die_43 : decode cX1_die 43 = .ok (.iconst 0, 1) := by decide +kernel
theorem dX1_die_44 : decode cX1_die 44 = .ok (.istore_n 3, 1) := by decide +kernel
theorem dX1_die_45 : decode cX1_die 45 = .ok (.iload_n 3, 1) := by decide +kernel
theorem dX1_die_46 : decode cX1_die 46 = .ok (.iconst 3, 1) := by decide +kernel
theorem dX1_die_47 : decode cX1_die 47 = .ok (.if_icmp .ge 40, 3) := by decide +kernel
theorem dX1_die_50 : decode cX1_die 50 = .ok (.iload_n 2, 1) := by decide +kernel
theorem dX1_die_51 : decode cX1_die 51 = .ok (.aload_n 0, 1) := by decide +kernel
theorem dX1_die_52 : decode cX1_die 52 = .ok (.getfield 35, 3) := by decide +kernel
theorem dX1_die_55 : decode cX1_die 55 = .ok (.iconst 3, 1) := by decide +kernel
theorem dX1_die_56 : decode cX1_die 56 = .ok (.iload_n 1, 1) := by decide +kernel
theorem dX1_die_57 : decode cX1_die 57 = .ok (.imul, 1) := by decide +kernel
theorem dX1_die_58 : decode cX1_die 58 = .ok (.iload_n 3, 1) := by decide +kernel
theorem dX1_die_59 : decode cX1_die 59 = .ok (.iadd, 1) := by decide +kernel
theorem dX1_die_60 : decode cX1_die 60 = .ok (.iaload, 1) := by decide +kernel
theorem dX1_die_61 : decode cX1_die 61 = .ok (.iconst 2, 1) := by decide +kernel
theorem dX1_die_62 : decode cX1_die 62 = .ok (.if_icmp .ne 7, 3) := by decide +kernel
theorem dX1_die_65 : decode cX1_die 65 = .ok (.iconst 1, 1) := by decide +kernel
theorem dX1_die_66 : decode cX1_die 66 = .ok (.goto 4, 3) := by decide +kernel
theorem dX1_die_69 : decode cX1_die 69 = .ok (.iconst 0, 1) := by decide +kernel
theorem dX1_die_70 : decode cX1_die 70 = .ok (.iadd, 1) := by decide +kernel
theorem dX1_die_71 : decode cX1_die 71 = .ok (.istore_n 2, 1) := by decide +kernel
theorem dX1_die_72 : decode cX1_die 72 = .ok (.aload_n 0, 1) := by decide +kernel
theorem dX1_die_73 : decode cX1_die 73 = .ok (.iconst 3, 1) := by decide +kernel
theorem dX1_die_74 : decode cX1_die 74 = .ok (.iload_n 1, 1) := by decide +kernel
theorem dX1_die_75 : decode cX1_die 75 = .ok (.imul, 1) := by decide +kernel
theorem dX1_die_76 : decode cX1_die 76 = .ok (.iload_n 3, 1) := by decide +kernel
theorem dX1_die_77 : decode cX1_die 77 = .ok (.iadd, 1) := by decide +kernel
theorem dX1_die_78 : decode cX1_die 78 = .ok (.invokevirtual 108, 3) := by decide +kernel
theorem dX1_die_81 : decode cX1_die 81 = .ok (.iinc 3 1, 3) := by decide +kernel
theorem dX1_die_84 : decode cX1_die 84 = .ok (.goto (-39), 3) := by decide +kernel
theorem dX1_die_87 : decode cX1_die 87 = .ok (.iload_n 2, 1) := by decide +kernel
theorem dX1_die_88 : decode cX1_die 88 = .ok (.ireturn, 1) := by decide +kernel
set_option maxRecDepth 20000 in
theorem ggX1_live_X1_isRouter : GoodIn wsX1_live wsX1_isRouter := goodIn_r _ [6, 7, 8, 5, 9] (by decide +kernel) (by decide +kernel)
set_option maxRecDepth 20000 in
theorem gX1_live_X1_isRouter : GoodIn wsX1_live (va_wsS RX1 67 yX1_isRouter wsX1_isRouter) := goodIn_app (goodIn_of _ (by decide +kernel)) ggX1_live_X1_isRouter
set_option maxRecDepth 20000 in
theorem ggX1_live_X1_goesWell : GoodIn wsX1_live wsX1_goesWell := goodIn_r _ [13, 14, 42, 43, 44, 45, 46, 47, 48, 49, 50, 51, 52, 53, 54, 55, 56, 57, 58, 59, 60] (by decide +kernel) (by decide +kernel)
set_option maxRecDepth 20000 in
theorem gX1_live_X1_goesWell : GoodIn wsX1_live (wsV RX1 102 RX1 yX1_goesWell wsX1_goesWell) := goodIn_app (goodIn_of _ (by decide +kernel)) ggX1_live_X1_goesWell
set_option maxRecDepth 20000 in
theorem ggX1_live_X1_settle : GoodIn wsX1_live wsX1_settle := goodIn_r _ [18, 1, 19, 2, 20, 21, 22, 23, 5, 24, 25, 26, 27, 28, 29, 30, 31, 32, 33, 34, 35, 36, 37, 38, 39, 40, 41, 42, 43, 44, 45, 46, 47, 48, 49, 50, 51, 52, 53, 54, 55, 56, 57, 58, 59, 60] (by decide +kernel) (by decide +kernel)
set_option maxRecDepth 20000 in
theorem gX1_live_X1_settle : GoodIn wsX1_live (wsV RX1 108 RX1 yX1_settle wsX1_settle) := goodIn_app (goodIn_of _ (by decide +kernel)) ggX1_live_X1_settle
theorem dX1_live_0 : decode cX1_live 0 = .ok (.aload_n 0, 1) := by decide +kernel
theorem dX1_live_1 : decode cX1_live 1 = .ok (.iload_n 1, 1) := by decide +kernel
theorem dX1_live_2 : decode cX1_live 2 = .ok (.invokestatic 67, 3) := by decide +kernel
theorem dX1_live_5 : decode cX1_live 5 = .ok (.ifCond .ne 7, 3) := by decide +kernel
theorem dX1_live_8 : decode cX1_live 8 = .ok (.iconst 1, 1) := by decide +kernel
theorem dX1_live_9 : decode cX1_live 9 = .ok (.goto 17, 3) := by decide +kernel
theorem dX1_live_12 : decode cX1_live 12 = .ok (.aload_n 0, 1) := by decide +kernel
theorem dX1_live_13 : decode cX1_live 13 = .ok (.getfield 7, 3) := by decide +kernel
theorem dX1_live_16 : decode cX1_live 16 = .ok (.iload_n 1, 1) := by decide +kernel
theorem dX1_live_17 : decode cX1_live 17 = .ok (.baload, 1) := by decide +kernel
theorem dX1_live_18 : decode cX1_live 18 = .ok (.ifCond .eq 7, 3) := by decide +kernel
theorem dX1_live_21 : decode cX1_live 21 = .ok (.iconst 0, 1) := by decide +kernel
theorem dX1_live_22 : decode cX1_live 22 = .ok (.goto 4, 3) := by decide +kernel
theorem dX1_live_25 : decode cX1_live 25 = .ok (.iconst 2, 1) := by decide +kernel
theorem dX1_live_26 : decode cX1_live 26 = .ok (.invokevirtual 102, 3) := by decide +kernel
theorem dX1_live_29 : decode cX1_live 29 = .ok (.ifCond .ne 5, 3) := by decide +kernel
theorem dX1_live_32 : decode cX1_live 32 = .ok (.iconst 0, 1) := by decide +kernel
theorem dX1_live_33 : decode cX1_live 33 = .ok (.ireturn, 1) := by decide +kernel
theorem dX1_live_34 : decode cX1_live 34 = .ok (.iconst 0, 1) := by decide +kernel
theorem dX1_live_35 : decode cX1_live 35 = .ok (.istore_n 2, 1) := by decide +kernel
theorem dX1_live_36 : decode cX1_live 36 = .ok (.aload_n 0, 1) := by decide +kernel
theorem dX1_live_37 : decode cX1_live 37 = .ok (.getfield 7, 3) := by decide +kernel
theorem dX1_live_40 : decode cX1_live 40 = .ok (.iload_n 1, 1) := by decide +kernel
theorem dX1_live_41 : decode cX1_live 41 = .ok (.iconst 0, 1) := by decide +kernel
theorem dX1_live_42 : decode cX1_live 42 = .ok (.bastore, 1) := by decide +kernel
theorem dX1_live_43 : decode cX1_live 43 = .ok (.iconst 0, 1) := by decide +kernel
theorem dX1_live_44 : decode cX1_live 44 = .ok (.istore_n 3, 1) := by decide +kernel
theorem dX1_live_45 : decode cX1_live 45 = .ok (.iload_n 3, 1) := by decide +kernel
theorem dX1_live_46 : decode cX1_live 46 = .ok (.iconst 3, 1) := by decide +kernel
theorem dX1_live_47 : decode cX1_live 47 = .ok (.if_icmp .ge 39, 3) := by decide +kernel
theorem dX1_live_50 : decode cX1_live 50 = .ok (.aload_n 0, 1) := by decide +kernel
theorem dX1_live_51 : decode cX1_live 51 = .ok (.iconst 3, 1) := by decide +kernel
theorem dX1_live_52 : decode cX1_live 52 = .ok (.iload_n 1, 1) := by decide +kernel
theorem dX1_live_53 : decode cX1_live 53 = .ok (.imul, 1) := by decide +kernel
theorem dX1_live_54 : decode cX1_live 54 = .ok (.iload_n 3, 1) := by decide +kernel
theorem dX1_live_55 : decode cX1_live 55 = .ok (.iadd, 1) := by decide +kernel
theorem dX1_live_56 : decode cX1_live 56 = .ok (.invokevirtual 108, 3) := by decide +kernel
theorem dX1_live_59 : decode cX1_live 59 = .ok (.iload_n 2, 1) := by decide +kernel
theorem dX1_live_60 : decode cX1_live 60 = .ok (.aload_n 0, 1) := by decide +kernel
theorem dX1_live_61 : decode cX1_live 61 = .ok (.getfield 35, 3) := by decide +kernel
theorem dX1_live_64 : decode cX1_live 64 = .ok (.iconst 3, 1) := by decide +kernel
theorem dX1_live_65 : decode cX1_live 65 = .ok (.iload_n 1, 1) := by decide +kernel
theorem dX1_live_66 : decode cX1_live 66 = .ok (.imul, 1) := by decide +kernel
theorem dX1_live_67 : decode cX1_live 67 = .ok (.iload_n 3, 1) := by decide +kernel
theorem dX1_live_68 : decode cX1_live 68 = .ok (.iadd, 1) := by decide +kernel
theorem dX1_live_69 : decode cX1_live 69 = .ok (.iaload, 1) := by decide +kernel
theorem dX1_live_70 : decode cX1_live 70 = .ok (.ifCond .ne 7, 3) := by decide +kernel
theorem dX1_live_73 : decode cX1_live 73 = .ok (.iconst 0, 1) := by decide +kernel
theorem dX1_live_74 : decode cX1_live 74 = .ok (.goto 4, 3) := by decide +kernel
theorem dX1_live_77 : decode cX1_live 77 = .ok (.iconst 1, 1) := by decide +kernel
theorem dX1_live_78 : decode cX1_live 78 = .ok (.iadd, 1) := by decide +kernel
theorem dX1_live_79 : decode cX1_live 79 = .ok (.istore_n 2, 1) := by decide +kernel
theorem dX1_live_80 : decode cX1_live 80 = .ok (.iinc 3 1, 3) := by decide +kernel
theorem dX1_live_83 : decode cX1_live 83 = .ok (.goto (-38), 3) := by decide +kernel
theorem dX1_live_86 : decode cX1_live 86 = .ok (.iload_n 2, 1) := by decide +kernel
theorem dX1_live_87 : decode cX1_live 87 = .ok (.ireturn, 1) := by decide +kernel
set_option maxRecDepth 20000 in
theorem ggX1_handOver_X1_are : GoodIn wsX1_handOver wsX1_are := goodIn_r _ [5, 6, 7, 4, 8, 9, 10, 11, 12, 13, 14] (by decide +kernel) (by decide +kernel)
set_option maxRecDepth 20000 in
theorem gX1_handOver_X1_are : GoodIn wsX1_handOver (va_wsS RX1 98 yX1_are wsX1_are) := goodIn_app (goodIn_of _ (by decide +kernel)) ggX1_handOver_X1_are
set_option maxRecDepth 20000 in
theorem ggX1_handOver_X1_goesWell : GoodIn wsX1_handOver wsX1_goesWell := goodIn_r _ [18, 19, 61, 62, 63, 64, 65, 66, 67, 68, 69, 70, 71, 72, 73, 74, 75, 76, 77, 78, 79] (by decide +kernel) (by decide +kernel)
set_option maxRecDepth 20000 in
theorem gX1_handOver_X1_goesWell : GoodIn wsX1_handOver (wsV RX1 102 RX1 yX1_goesWell wsX1_goesWell) := goodIn_app (goodIn_of _ (by decide +kernel)) ggX1_handOver_X1_goesWell
set_option maxRecDepth 20000 in
theorem ggX1_handOver_X1_rest : GoodIn wsX1_handOver wsX1_rest := goodIn_r _ [23, 1, 24, 25, 26, 27, 28, 4, 29, 30, 31, 32, 33, 34, 35, 36, 37, 38, 39, 40, 41, 61, 62, 63, 64, 65, 66, 67, 68, 69, 70, 71, 72, 73, 74, 75, 76, 77, 78, 79] (by decide +kernel) (by decide +kernel)
set_option maxRecDepth 20000 in
theorem gX1_handOver_X1_rest : GoodIn wsX1_handOver (wsV RX1 87 RX1 yX1_rest wsX1_rest) := goodIn_app (goodIn_of _ (by decide +kernel)) ggX1_handOver_X1_rest
set_option maxRecDepth 20000 in
theorem ggX1_handOver_X1_advertise : GoodIn wsX1_handOver wsX1_advertise := goodIn_r _ [45, 46, 1, 47, 48, 49, 50, 4, 51, 25, 52, 24, 53, 35, 36, 37, 38, 39, 40, 41, 20, 21, 22, 23, 26, 27, 28, 29, 30, 31, 32, 33, 34, 54, 55, 56, 57, 58, 59, 60, 61, 62, 63, 64, 65, 66, 67, 68, 69, 70, 71, 72, 73, 74, 75, 76, 77, 78, 79] (by decide +kernel) (by decide +kernel)
set_option maxRecDepth 20000 in
theorem gX1_handOver_X1_advertise : GoodIn wsX1_handOver (wsV RX1 105 RX1 yX1_advertise wsX1_advertise) := goodIn_app (goodIn_of _ (by decide +kernel)) ggX1_handOver_X1_advertise
theorem dX1_handOver_0 : decode cX1_handOver 0 = .ok (.iconst 3, 1) := by decide +kernel
theorem dX1_handOver_1 : decode cX1_handOver 1 = .ok (.iload_n 1, 1) := by decide +kernel
theorem dX1_handOver_2 : decode cX1_handOver 2 = .ok (.imul, 1) := by decide +kernel
theorem dX1_handOver_3 : decode cX1_handOver 3 = .ok (.iload_n 2, 1) := by decide +kernel
theorem dX1_handOver_4 : decode cX1_handOver 4 = .ok (.iadd, 1) := by decide +kernel
theorem dX1_handOver_5 : decode cX1_handOver 5 = .ok (.istore_n 3, 1) := by decide +kernel
theorem dX1_handOver_6 : decode cX1_handOver 6 = .ok (.iload_n 1, 1) := by decide +kernel
theorem dX1_handOver_7 : decode cX1_handOver 7 = .ok (.iload_n 2, 1) := by decide +kernel
theorem dX1_handOver_8 : decode cX1_handOver 8 = .ok (.invokestatic 98, 3) := by decide +kernel
theorem dX1_handOver_11 : decode cX1_handOver 11 = .ok (.ifCond .eq 17, 3) := by decide +kernel
theorem dX1_handOver_14 : decode cX1_handOver 14 = .ok (.aload_n 0, 1) := by decide +kernel
theorem dX1_handOver_15 : decode cX1_handOver 15 = .ok (.getfield 35, 3) := by decide +kernel
theorem dX1_handOver_18 : decode cX1_handOver 18 = .ok (.iload_n 3, 1) := by decide +kernel
theorem dX1_handOver_19 : decode cX1_handOver 19 = .ok (.iaload, 1) := by decide +kernel
theorem dX1_handOver_20 : decode cX1_handOver 20 = .ok (.iconst 2, 1) := by decide +kernel
theorem dX1_handOver_21 : decode cX1_handOver 21 = .ok (.if_icmp .ne 7, 3) := by decide +kernel
theorem dX1_handOver_24 : decode cX1_handOver 24 = .ok (.iconst 1, 1) := by decide +kernel
theorem dX1_handOver_25 : decode cX1_handOver 25 = .ok (.goto 4, 3) := by decide +kernel
theorem dX1_handOver_28 : decode cX1_handOver 28 = .ok (.iconst 0, 1) := by decide +kernel
theorem dX1_handOver_29 : decode cX1_handOver 29 = .ok (.istore 4, 2) := by decide +kernel
theorem dX1_handOver_31 : decode cX1_handOver 31 = .ok (.aload_n 0, 1) := by decide +kernel
theorem dX1_handOver_32 : decode cX1_handOver 32 = .ok (.iload_n 1, 1) := by decide +kernel
theorem dX1_handOver_33 : decode cX1_handOver 33 = .ok (.iload_n 2, 1) := by decide +kernel
theorem dX1_handOver_34 : decode cX1_handOver 34 = .ok (.invokestatic 98, 3) := by decide +kernel
theorem dX1_handOver_37 : decode cX1_handOver 37 = .ok (.ifCond .ne 7, 3) := by decide +kernel
theorem dX1_handOver_40 : decode cX1_handOver 40 = .ok (.iconst 1, 1) := by decide +kernel
theorem dX1_handOver_41 : decode cX1_handOver 41 = .ok (.goto 13, 3) := by decide +kernel
theorem dX1_handOver_44 : decode cX1_handOver 44 = .ok (.iload 4, 2) := by decide +kernel
theorem dX1_handOver_46 : decode cX1_handOver 46 = .ok (.ifCond .eq 7, 3) := by decide +kernel
theorem dX1_handOver_49 : decode cX1_handOver 49 = .ok (.iconst 0, 1) := by decide +kernel
theorem dX1_handOver_50 : decode cX1_handOver 50 = .ok (.goto 4, 3) := by decide +kernel
theorem dX1_handOver_53 : decode cX1_handOver 53 = .ok (.iconst 2, 1) := by decide +kernel
theorem dX1_handOver_54 : decode cX1_handOver 54 = .ok (.invokevirtual 102, 3) := by decide +kernel
theorem dX1_handOver_57 : decode cX1_handOver 57 = .ok (.ifCond .eq 15, 3) := by decide +kernel
theorem dX1_handOver_60 : decode cX1_handOver 60 = .ok (.aload_n 0, 1) := by decide +kernel
theorem dX1_handOver_61 : decode cX1_handOver 61 = .ok (.iload_n 3, 1) := by decide +kernel
theorem dX1_handOver_62 : decode cX1_handOver 62 = .ok (.iconst 0, 1) := by decide +kernel
theorem dX1_handOver_63 : decode cX1_handOver 63 = .ok (.invokevirtual 87, 3) := by decide +kernel
theorem dX1_handOver_66 : decode cX1_handOver 66 = .ok (.aload_n 0, 1) := by decide +kernel
theorem dX1_handOver_67 : decode cX1_handOver 67 = .ok (.iload_n 3, 1) := by decide +kernel
theorem dX1_handOver_68 : decode cX1_handOver 68 = .ok (.iconst 0, 1) := by decide +kernel
theorem dX1_handOver_69 : decode cX1_handOver 69 = .ok (.invokevirtual 105, 3) := by decide +kernel
theorem dX1_handOver_72 : decode cX1_handOver 72 = .ok (.return_, 1) := by decide +kernel
set_option maxRecDepth 20000 in
theorem ggX1_serve_X1_isGroup : GoodIn wsX1_serve wsX1_isGroup := goodIn_r _ [6, 7, 8, 5, 9] (by decide +kernel) (by decide +kernel)
set_option maxRecDepth 20000 in
theorem gX1_serve_X1_isGroup : GoodIn wsX1_serve (va_wsS RX1 71 yX1_isGroup wsX1_isGroup) := goodIn_app (goodIn_of _ (by decide +kernel)) ggX1_serve_X1_isGroup
set_option maxRecDepth 20000 in
theorem ggX1_serve_X1_in : GoodIn wsX1_serve wsX1_in := goodIn_r _ [9] (by decide +kernel) (by decide +kernel)
set_option maxRecDepth 20000 in
theorem gX1_serve_X1_in : GoodIn wsX1_serve (va_wsS RX1 63 yX1_in wsX1_in) := goodIn_app (goodIn_of _ (by decide +kernel)) ggX1_serve_X1_in
set_option maxRecDepth 20000 in
theorem ggX1_serve_X1_goesWell : GoodIn wsX1_serve wsX1_goesWell := goodIn_r _ [13, 14, 15, 16, 17, 18, 19, 20, 21, 22, 23, 24, 25, 26, 27, 28, 29, 30, 31, 32, 33] (by decide +kernel) (by decide +kernel)
set_option maxRecDepth 20000 in
theorem gX1_serve_X1_goesWell : GoodIn wsX1_serve (wsV RX1 102 RX1 yX1_goesWell wsX1_goesWell) := goodIn_app (goodIn_of _ (by decide +kernel)) ggX1_serve_X1_goesWell
theorem dX1_serve_0 : decode cX1_serve 0 = .ok (.aload_n 0, 1) := by decide +kernel
theorem dX1_serve_1 : decode cX1_serve 1 = .ok (.iload_n 1, 1) := by decide +kernel
theorem dX1_serve_2 : decode cX1_serve 2 = .ok (.invokestatic 71, 3) := by decide +kernel
theorem dX1_serve_5 : decode cX1_serve 5 = .ok (.ifCond .eq 17, 3) := by decide +kernel
theorem dX1_serve_8 : decode cX1_serve 8 = .ok (.iload_n 2, 1) := by decide +kernel
theorem dX1_serve_9 : decode cX1_serve 9 = .ok (.iconst 1, 1) := by decide +kernel
theorem dX1_serve_10 : decode cX1_serve 10 = .ok (.bipush 100, 2) := by decide +kernel
theorem dX1_serve_12 : decode cX1_serve 12 = .ok (.invokestatic 63, 3) := by decide +kernel
theorem dX1_serve_15 : decode cX1_serve 15 = .ok (.ifCond .eq 7, 3) := by decide +kernel
theorem dX1_serve_18 : decode cX1_serve 18 = .ok (.iconst 0, 1) := by decide +kernel
theorem dX1_serve_19 : decode cX1_serve 19 = .ok (.goto 4, 3) := by decide +kernel
theorem dX1_serve_22 : decode cX1_serve 22 = .ok (.iconst 1, 1) := by decide +kernel
theorem dX1_serve_23 : decode cX1_serve 23 = .ok (.invokevirtual 102, 3) := by decide +kernel
theorem dX1_serve_26 : decode cX1_serve 26 = .ok (.ifCond .ne 5, 3) := by decide +kernel
theorem dX1_serve_29 : decode cX1_serve 29 = .ok (.iconst 0, 1) := by decide +kernel
theorem dX1_serve_30 : decode cX1_serve 30 = .ok (.ireturn, 1) := by decide +kernel
theorem dX1_serve_31 : decode cX1_serve 31 = .ok (.iconst 0, 1) := by decide +kernel
theorem dX1_serve_32 : decode cX1_serve 32 = .ok (.istore_n 3, 1) := by decide +kernel
theorem dX1_serve_33 : decode cX1_serve 33 = .ok (.iload_n 1, 1) := by decide +kernel
theorem dX1_serve_34 : decode cX1_serve 34 = .ok (.istore 4, 2) := by decide +kernel
theorem dX1_serve_36 : decode cX1_serve 36 = .ok (.iload 4, 2) := by decide +kernel
theorem dX1_serve_38 : decode cX1_serve 38 = .ok (.bipush 12, 2) := by decide +kernel
theorem dX1_serve_40 : decode cX1_serve 40 = .ok (.if_icmp .ge 34, 3) := by decide +kernel
theorem dX1_serve_43 : decode cX1_serve 43 = .ok (.aload_n 0, 1) := by decide +kernel
theorem dX1_serve_44 : decode cX1_serve 44 = .ok (.getfield 35, 3) := by decide +kernel
theorem dX1_serve_47 : decode cX1_serve 47 = .ok (.iload 4, 2) := by decide +kernel
theorem dX1_serve_49 : decode cX1_serve 49 = .ok (.iaload, 1) := by decide +kernel
theorem dX1_serve_50 : decode cX1_serve 50 = .ok (.iconst 2, 1) := by decide +kernel
theorem dX1_serve_51 : decode cX1_serve 51 = .ok (.if_icmp .ne 17, 3) := by decide +kernel
theorem dX1_serve_54 : decode cX1_serve 54 = .ok (.aload_n 0, 1) := by decide +kernel
theorem dX1_serve_55 : decode cX1_serve 55 = .ok (.getfield 44, 3) := by decide +kernel
theorem dX1_serve_58 : decode cX1_serve 58 = .ok (.iload 4, 2) := by decide +kernel
theorem dX1_serve_60 : decode cX1_serve 60 = .ok (.dup2, 1) := by decide +kernel
theorem dX1_serve_61 : decode cX1_serve 61 = .ok (.iaload, 1) := by decide +kernel
theorem dX1_serve_62 : decode cX1_serve 62 = .ok (.iload_n 2, 1) := by decide +kernel
theorem dX1_serve_63 : decode cX1_serve 63 = .ok (.iadd, 1) := by decide +kernel
theorem dX1_serve_64 : decode cX1_serve 64 = .ok (.iastore, 1) := by decide +kernel
theorem dX1_serve_65 : decode cX1_serve 65 = .ok (.iinc 3 1, 3) := by decide +kernel
theorem dX1_serve_68 : decode cX1_serve 68 = .ok (.iinc 4 3, 3) := by decide +kernel
theorem dX1_serve_71 : decode cX1_serve 71 = .ok (.goto (-35), 3) := by decide +kernel
theorem dX1_serve_74 : decode cX1_serve 74 = .ok (.iload_n 3, 1) := by decide +kernel
theorem dX1_serve_75 : decode cX1_serve 75 = .ok (.ireturn, 1) := by decide +kernel
set_option maxRecDepth 20000 in
theorem ggX1_turn_X1_priorityAt : GoodIn wsX1_turn wsX1_priorityAt := goodIn_r _ [9, 10, 11, 12, 45, 46, 47, 48, 49, 50, 51, 52, 53, 54, 55, 56, 57, 58, 59, 60, 61, 62, 63] (by decide +kernel) (by decide +kernel)
set_option maxRecDepth 20000 in
theorem gX1_turn_X1_priorityAt : GoodIn wsX1_turn (wsV RX1 74 RX1 yX1_priorityAt wsX1_priorityAt) := goodIn_app (goodIn_of _ (by decide +kernel)) ggX1_turn_X1_priorityAt
set_option maxRecDepth 20000 in
theorem ggX1_turn_X1_advertise : GoodIn wsX1_turn wsX1_advertise := goodIn_r _ [16, 17, 1, 18, 19, 20, 21, 8, 22, 2, 23, 24, 25, 5, 6, 7, 9, 10, 11, 12, 26, 27, 28, 29, 30, 31, 32, 33, 4, 34, 35, 36, 37, 38, 39, 40, 41, 42, 43, 44, 45, 46, 47, 48, 49, 50, 51, 52, 53, 54, 55, 56, 57, 58, 59, 60, 61, 62, 63] (by decide +kernel) (by decide +kernel)
set_option maxRecDepth 20000 in
theorem gX1_turn_X1_advertise : GoodIn wsX1_turn (wsV RX1 105 RX1 yX1_advertise wsX1_advertise) := goodIn_app (goodIn_of _ (by decide +kernel)) ggX1_turn_X1_advertise
theorem dX1_turn_0 : decode cX1_turn 0 = .ok (.aload_n 0, 1) := by decide +kernel
theorem dX1_turn_1 : decode cX1_turn 1 = .ok (.getfield 35, 3) := by decide +kernel
theorem dX1_turn_4 : decode cX1_turn 4 = .ok (.iload_n 1, 1) := by decide +kernel
theorem dX1_turn_5 : decode cX1_turn 5 = .ok (.iaload, 1) := by decide +kernel
theorem dX1_turn_6 : decode cX1_turn 6 = .ok (.iload_n 2, 1) := by decide +kernel
theorem dX1_turn_7 : decode cX1_turn 7 = .ok (.if_icmp .ne 72, 3) := by decide +kernel
theorem dX1_turn_10 : decode cX1_turn 10 = .ok (.aload_n 0, 1) := by decide +kernel
theorem dX1_turn_11 : decode cX1_turn 11 = .ok (.getfield 38, 3) := by decide +kernel
theorem dX1_turn_14 : decode cX1_turn 14 = .ok (.iload_n 1, 1) := by decide +kernel
theorem dX1_turn_15 : decode cX1_turn 15 = .ok (.dup2, 1) := by decide +kernel
theorem dX1_turn_16 : decode cX1_turn 16 = .ok (.iaload, 1) := by decide +kernel
theorem dX1_turn_17 : decode cX1_turn 17 = .ok (.iconst 1, 1) := by decide +kernel
theorem dX1_turn_18 : decode cX1_turn 18 = .ok (.isub, 1) := by decide +kernel
theorem dX1_turn_19 : decode cX1_turn 19 = .ok (.iastore, 1) := by decide +kernel
theorem dX1_turn_20 : decode cX1_turn 20 = .ok (.aload_n 0, 1) := by decide +kernel
theorem dX1_turn_21 : decode cX1_turn 21 = .ok (.getfield 38, 3) := by decide +kernel
theorem dX1_turn_24 : decode cX1_turn 24 = .ok (.iload_n 1, 1) := by decide +kernel
theorem dX1_turn_25 : decode cX1_turn 25 = .ok (.iaload, 1) := by decide +kernel
theorem dX1_turn_26 : decode cX1_turn 26 = .ok (.ifCond .ne 53, 3) := by decide +kernel
theorem dX1_turn_29 : decode cX1_turn 29 = .ok (.aload_n 0, 1) := by decide +kernel
theorem dX1_turn_30 : decode cX1_turn 30 = .ok (.getfield 50, 3) := by decide +kernel
theorem dX1_turn_33 : decode cX1_turn 33 = .ok (.iload_n 1, 1) := by decide +kernel
theorem dX1_turn_34 : decode cX1_turn 34 = .ok (.dup2, 1) := by decide +kernel
theorem dX1_turn_35 : decode cX1_turn 35 = .ok (.iaload, 1) := by decide +kernel
theorem dX1_turn_36 : decode cX1_turn 36 = .ok (.iload_n 2, 1) := by decide +kernel
theorem dX1_turn_37 : decode cX1_turn 37 = .ok (.iconst 1, 1) := by decide +kernel
theorem dX1_turn_38 : decode cX1_turn 38 = .ok (.if_icmp .ne 7, 3) := by decide +kernel
theorem dX1_turn_41 : decode cX1_turn 41 = .ok (.iconst 1, 1) := by decide +kernel
theorem dX1_turn_42 : decode cX1_turn 42 = .ok (.goto 4, 3) := by decide +kernel
theorem dX1_turn_45 : decode cX1_turn 45 = .ok (.iconst 0, 1) := by decide +kernel
theorem dX1_turn_46 : decode cX1_turn 46 = .ok (.iadd, 1) := by decide +kernel
theorem dX1_turn_47 : decode cX1_turn 47 = .ok (.iastore, 1) := by decide +kernel
theorem dX1_turn_48 : decode cX1_turn 48 = .ok (.aload_n 0, 1) := by decide +kernel
theorem dX1_turn_49 : decode cX1_turn 49 = .ok (.getfield 35, 3) := by decide +kernel
theorem dX1_turn_52 : decode cX1_turn 52 = .ok (.iload_n 1, 1) := by decide +kernel
theorem dX1_turn_53 : decode cX1_turn 53 = .ok (.iconst 2, 1) := by decide +kernel
theorem dX1_turn_54 : decode cX1_turn 54 = .ok (.iastore, 1) := by decide +kernel
theorem dX1_turn_55 : decode cX1_turn 55 = .ok (.aload_n 0, 1) := by decide +kernel
theorem dX1_turn_56 : decode cX1_turn 56 = .ok (.iload_n 1, 1) := by decide +kernel
theorem dX1_turn_57 : decode cX1_turn 57 = .ok (.aload_n 0, 1) := by decide +kernel
theorem dX1_turn_58 : decode cX1_turn 58 = .ok (.iload_n 1, 1) := by decide +kernel
theorem dX1_turn_59 : decode cX1_turn 59 = .ok (.invokevirtual 74, 3) := by decide +kernel
theorem dX1_turn_62 : decode cX1_turn 62 = .ok (.invokevirtual 105, 3) := by decide +kernel
theorem dX1_turn_65 : decode cX1_turn 65 = .ok (.aload_n 0, 1) := by decide +kernel
theorem dX1_turn_66 : decode cX1_turn 66 = .ok (.getfield 38, 3) := by decide +kernel
theorem dX1_turn_69 : decode cX1_turn 69 = .ok (.iload_n 1, 1) := by decide +kernel
theorem dX1_turn_70 : decode cX1_turn 70 = .ok (.aload_n 0, 1) := by decide +kernel
theorem dX1_turn_71 : decode cX1_turn 71 = .ok (.getfield 26, 3) := by decide +kernel
theorem dX1_turn_74 : decode cX1_turn 74 = .ok (.iload_n 1, 1) := by decide +kernel
theorem dX1_turn_75 : decode cX1_turn 75 = .ok (.iconst 3, 1) := by decide +kernel
theorem dX1_turn_76 : decode cX1_turn 76 = .ok (.irem, 1) := by decide +kernel
theorem dX1_turn_77 : decode cX1_turn 77 = .ok (.iaload, 1) := by decide +kernel
theorem dX1_turn_78 : decode cX1_turn 78 = .ok (.iastore, 1) := by decide +kernel
theorem dX1_turn_79 : decode cX1_turn 79 = .ok (.return_, 1) := by decide +kernel
theorem dX1_hasMaster_0 : decode cX1_hasMaster 0 = .ok (.iconst 0, 1) := by decide +kernel
theorem dX1_hasMaster_1 : decode cX1_hasMaster 1 = .ok (.istore_n 2, 1) := by decide +kernel
theorem dX1_hasMaster_2 : decode cX1_hasMaster 2 = .ok (.iload_n 1, 1) := by decide +kernel
theorem dX1_hasMaster_3 : decode cX1_hasMaster 3 = .ok (.istore_n 3, 1) := by decide +kernel
theorem dX1_hasMaster_4 : decode cX1_hasMaster 4 = .ok (.iload_n 3, 1) := by decide +kernel
theorem dX1_hasMaster_5 : decode cX1_hasMaster 5 = .ok (.bipush 12, 2) := by decide +kernel
theorem dX1_hasMaster_7 : decode cX1_hasMaster 7 = .ok (.if_icmp .ge 29, 3) := by decide +kernel
theorem dX1_hasMaster_10 : decode cX1_hasMaster 10 = .ok (.iload_n 2, 1) := by decide +kernel
theorem dX1_hasMaster_11 : decode cX1_hasMaster 11 = .ok (.ifCond .ne 13, 3) := by decide +kernel
theorem dX1_hasMaster_14 : decode cX1_hasMaster 14 = .ok (.aload_n 0, 1) := by decide +kernel
theorem dX1_hasMaster_15 : decode cX1_hasMaster 15 = .ok (.getfield 35, 3) := by decide +kernel
theorem dX1_hasMaster_18 : decode cX1_hasMaster 18 = .ok (.iload_n 3, 1) := by decide +kernel
theorem dX1_hasMaster_19 : decode cX1_hasMaster 19 = .ok (.iaload, 1) := by decide +kernel
theorem dX1_hasMaster_20 : decode cX1_hasMaster 20 = .ok (.iconst 2, 1) := by decide +kernel
theorem dX1_hasMaster_21 : decode cX1_hasMaster 21 = .ok (.if_icmp .ne 7, 3) := by decide +kernel
theorem dX1_hasMaster_24 : decode cX1_hasMaster 24 = .ok (.iconst 1, 1) := by decide +kernel
theorem dX1_hasMaster_25 : decode cX1_hasMaster 25 = .ok (.goto 4, 3) := by decide +kernel
theorem dX1_hasMaster_28 : decode cX1_hasMaster 28 = .ok (.iconst 0, 1) := by decide +kernel
theorem dX1_hasMaster_29 : decode cX1_hasMaster 29 = .ok (.istore_n 2, 1) := by decide +kernel
theorem dX1_hasMaster_30 : decode cX1_hasMaster 30 = .ok (.iinc 3 3, 3) := by decide +kernel
theorem dX1_hasMaster_33 : decode cX1_hasMaster 33 = .ok (.goto (-29), 3) := by decide +kernel
theorem dX1_hasMaster_36 : decode cX1_hasMaster 36 = .ok (.iload_n 2, 1) := by decide +kernel
theorem dX1_hasMaster_37 : decode cX1_hasMaster 37 = .ok (.ireturn, 1) := by decide +kernel
set_option maxRecDepth 20000 in
theorem ggX1_tick_X1_in : GoodIn wsX1_tick wsX1_in := goodIn_r _ [6] (by decide +kernel) (by decide +kernel)
set_option maxRecDepth 20000 in
theorem gX1_tick_X1_in : GoodIn wsX1_tick (va_wsS RX1 63 yX1_in wsX1_in) := goodIn_app (goodIn_of _ (by decide +kernel)) ggX1_tick_X1_in
set_option maxRecDepth 20000 in
theorem ggX1_tick_X1_goesWell : GoodIn wsX1_tick wsX1_goesWell := goodIn_r _ [10, 11, 63, 64, 65, 66, 67, 68, 69, 70, 71, 72, 73, 74, 75, 76, 77, 78, 79, 80, 81] (by decide +kernel) (by decide +kernel)
set_option maxRecDepth 20000 in
theorem gX1_tick_X1_goesWell : GoodIn wsX1_tick (wsV RX1 102 RX1 yX1_goesWell wsX1_goesWell) := goodIn_app (goodIn_of _ (by decide +kernel)) ggX1_tick_X1_goesWell
set_option maxRecDepth 20000 in
theorem ggX1_tick_X1_turn : GoodIn wsX1_tick wsX1_turn := goodIn_r _ [15, 16, 17, 18, 19, 20, 21, 22, 5, 23, 24, 25, 26, 27, 28, 29, 30, 31, 32, 33, 34, 35, 36, 37, 38, 39, 40, 41, 42, 43, 44, 45, 46, 47, 48, 49, 50, 51, 52, 53, 54, 55, 56, 57, 58, 63, 64, 65, 66, 67, 68, 69, 70, 71, 72, 73, 74, 75, 76, 77, 78, 79, 80, 81] (by decide +kernel) (by decide +kernel)
set_option maxRecDepth 20000 in
theorem gX1_tick_X1_turn : GoodIn wsX1_tick (wsV RX1 115 RX1 yX1_turn wsX1_turn) := goodIn_app (goodIn_of _ (by decide +kernel)) ggX1_tick_X1_turn
set_option maxRecDepth 20000 in
theorem ggX1_tick_X1_hasMaster : GoodIn wsX1_tick wsX1_hasMaster := goodIn_r _ [62, 16, 63, 64, 65, 66, 67, 68, 69, 70, 71, 72, 73, 74, 75, 76, 77, 78, 79, 80, 81] (by decide +kernel) (by decide +kernel)
set_option maxRecDepth 20000 in
theorem gX1_tick_X1_hasMaster : GoodIn wsX1_tick (wsV RX1 118 RX1 yX1_hasMaster wsX1_hasMaster) := goodIn_app (goodIn_of _ (by decide +kernel)) ggX1_tick_X1_hasMaster
theorem dX1_tick_0 : decode cX1_tick 0 = .ok (.aload_n 0, 1) := by decide +kernel
theorem dX1_tick_1 : decode cX1_tick 1 = .ok (.iload_n 1, 1) := by decide +kernel
theorem dX1_tick_2 : decode cX1_tick 2 = .ok (.iconst 1, 1) := by decide +kernel
theorem dX1_tick_3 : decode cX1_tick 3 = .ok (.bipush 50, 2) := by decide +kernel
theorem dX1_tick_5 : decode cX1_tick 5 = .ok (.invokestatic 63, 3) := by decide +kernel
theorem dX1_tick_8 : decode cX1_tick 8 = .ok (.ifCond .eq 7, 3) := by decide +kernel
theorem dX1_tick_11 : decode cX1_tick 11 = .ok (.iconst 0, 1) := by decide +kernel
theorem dX1_tick_12 : decode cX1_tick 12 = .ok (.goto 4, 3) := by decide +kernel
theorem dX1_tick_15 : decode cX1_tick 15 = .ok (.iconst 1, 1) := by decide +kernel
theorem dX1_tick_16 : decode cX1_tick 16 = .ok (.invokevirtual 102, 3) := by decide +kernel
theorem dX1_tick_19 : decode cX1_tick 19 = .ok (.ifCond .ne 5, 3) := by decide +kernel
theorem dX1_tick_22 : decode cX1_tick 22 = .ok (.iconst 0, 1) := by decide +kernel
theorem dX1_tick_23 : decode cX1_tick 23 = .ok (.ireturn, 1) := by decide +kernel
theorem dX1_tick_24 : decode cX1_tick 24 = .ok (.iconst 0, 1) := by decide +kernel
theorem dX1_tick_25 : decode cX1_tick 25 = .ok (.istore_n 2, 1) := by decide +kernel
theorem dX1_tick_26 : decode cX1_tick 26 = .ok (.iload_n 2, 1) := by decide +kernel
theorem dX1_tick_27 : decode cX1_tick 27 = .ok (.iload_n 1, 1) := by decide +kernel
theorem dX1_tick_28 : decode cX1_tick 28 = .ok (.iconst 3, 1) := by decide +kernel
theorem dX1_tick_29 : decode cX1_tick 29 = .ok (.imul, 1) := by decide +kernel
theorem dX1_tick_30 : decode cX1_tick 30 = .ok (.if_icmp .ge 81, 3) := by decide +kernel
theorem dX1_tick_33 : decode cX1_tick 33 = .ok (.iload_n 2, 1) := by decide +kernel
theorem dX1_tick_34 : decode cX1_tick 34 = .ok (.iconst 3, 1) := by decide +kernel
theorem dX1_tick_35 : decode cX1_tick 35 = .ok (.irem, 1) := by decide +kernel
theorem dX1_tick_36 : decode cX1_tick 36 = .ok (.istore_n 3, 1) := by decide +kernel
theorem dX1_tick_37 : decode cX1_tick 37 = .ok (.iload_n 3, 1) := by decide +kernel
theorem dX1_tick_38 : decode cX1_tick 38 = .ok (.istore 4, 2) := by decide +kernel
theorem dX1_tick_40 : decode cX1_tick 40 = .ok (.iload 4, 2) := by decide +kernel
theorem dX1_tick_42 : decode cX1_tick 42 = .ok (.bipush 12, 2) := by decide +kernel
theorem dX1_tick_44 : decode cX1_tick 44 = .ok (.if_icmp .ge 16, 3) := by decide +kernel
theorem dX1_tick_47 : decode cX1_tick 47 = .ok (.aload_n 0, 1) := by decide +kernel
theorem dX1_tick_48 : decode cX1_tick 48 = .ok (.iload 4, 2) := by decide +kernel
theorem dX1_tick_50 : decode cX1_tick 50 = .ok (.iconst 2, 1) := by decide +kernel
theorem dX1_tick_51 : decode cX1_tick 51 = .ok (.invokevirtual 115, 3) := by decide +kernel
theorem dX1_tick_54 : decode cX1_tick 54 = .ok (.iinc 4 3, 3) := by decide +kernel
theorem dX1_tick_57 : decode cX1_tick 57 = .ok (.goto (-17), 3) := by decide +kernel
theorem dX1_tick_60 : decode cX1_tick 60 = .ok (.iload_n 3, 1) := by decide +kernel
theorem dX1_tick_61 : decode cX1_tick 61 = .ok (.istore 4, 2) := by decide +kernel
theorem dX1_tick_63 : decode cX1_tick 63 = .ok (.iload 4, 2) := by decide +kernel
theorem dX1_tick_65 : decode cX1_tick 65 = .ok (.bipush 12, 2) := by decide +kernel
theorem dX1_tick_67 : decode cX1_tick 67 = .ok (.if_icmp .ge 16, 3) := by decide +kernel
theorem dX1_tick_70 : decode cX1_tick 70 = .ok (.aload_n 0, 1) := by decide +kernel
theorem dX1_tick_71 : decode cX1_tick 71 = .ok (.iload 4, 2) := by decide +kernel
theorem dX1_tick_73 : decode cX1_tick 73 = .ok (.iconst 1, 1) := by decide +kernel
theorem dX1_tick_74 : decode cX1_tick 74 = .ok (.invokevirtual 115, 3) := by decide +kernel
theorem dX1_tick_77 : decode cX1_tick 77 = .ok (.iinc 4 3, 3) := by decide +kernel
theorem dX1_tick_80 : decode cX1_tick 80 = .ok (.goto (-17), 3) := by decide +kernel
theorem dX1_tick_83 : decode cX1_tick 83 = .ok (.aload_n 0, 1) := by decide +kernel
theorem dX1_tick_84 : decode cX1_tick 84 = .ok (.getfield 53, 3) := by decide +kernel
theorem dX1_tick_87 : decode cX1_tick 87 = .ok (.iload_n 3, 1) := by decide +kernel
theorem dX1_tick_88 : decode cX1_tick 88 = .ok (.dup2, 1) := by decide +kernel
theorem dX1_tick_89 : decode cX1_tick 89 = .ok (.iaload, 1) := by decide +kernel
theorem dX1_tick_90 : decode cX1_tick 90 = .ok (.aload_n 0, 1) := by decide +kernel
theorem dX1_tick_91 : decode cX1_tick 91 = .ok (.iload_n 3, 1) := by decide +kernel
theorem dX1_tick_92 : decode cX1_tick 92 = .ok (.invokevirtual 118, 3) := by decide +kernel
theorem dX1_tick_95 : decode cX1_tick 95 = .ok (.ifCond .eq 7, 3) := by decide +kernel
theorem dX1_tick_98 : decode cX1_tick 98 = .ok (.iconst 0, 1) := by decide +kernel
theorem dX1_tick_99 : decode cX1_tick 99 = .ok (.goto 4, 3) := by decide +kernel
theorem dX1_tick_102 : decode cX1_tick 102 = .ok (.iconst 1, 1) := by decide +kernel
theorem dX1_tick_103 : decode cX1_tick 103 = .ok (.iadd, 1) := by decide +kernel
theorem dX1_tick_104 : decode cX1_tick 104 = .ok (.iastore, 1) := by decide +kernel
theorem dX1_tick_105 : decode cX1_tick 105 = .ok (.iinc 2 1, 3) := by decide +kernel
theorem dX1_tick_108 : decode cX1_tick 108 = .ok (.goto (-82), 3) := by decide +kernel
theorem dX1_tick_111 : decode cX1_tick 111 = .ok (.aload_n 0, 1) := by decide +kernel
theorem dX1_tick_112 : decode cX1_tick 112 = .ok (.dup, 1) := by decide +kernel
theorem dX1_tick_113 : decode cX1_tick 113 = .ok (.getfield 121, 3) := by decide +kernel
theorem dX1_tick_116 : decode cX1_tick 116 = .ok (.iload_n 1, 1) := by decide +kernel
theorem dX1_tick_117 : decode cX1_tick 117 = .ok (.iadd, 1) := by decide +kernel
theorem dX1_tick_118 : decode cX1_tick 118 = .ok (.putfield 121, 3) := by decide +kernel
theorem dX1_tick_121 : decode cX1_tick 121 = .ok (.aload_n 0, 1) := by decide +kernel
theorem dX1_tick_122 : decode cX1_tick 122 = .ok (.getfield 121, 3) := by decide +kernel
theorem dX1_tick_125 : decode cX1_tick 125 = .ok (.ireturn, 1) := by decide +kernel
set_option maxRecDepth 20000 in
theorem ggX1_state_X1_are : GoodIn wsX1_state wsX1_are := goodIn_r _ [5, 6, 7, 4, 8, 9, 10, 11, 12, 13, 14] (by decide +kernel) (by decide +kernel)
set_option maxRecDepth 20000 in
theorem gX1_state_X1_are : GoodIn wsX1_state (va_wsS RX1 98 yX1_are wsX1_are) := goodIn_app (goodIn_of _ (by decide +kernel)) ggX1_state_X1_are
set_option maxRecDepth 20000 in
theorem ggX1_state_X1_goesWell : GoodIn wsX1_state wsX1_goesWell := goodIn_r _ [18, 19, 20, 21, 22, 23, 24, 25, 26, 27, 28, 29, 30, 31, 32, 33, 34, 35, 36, 37, 38] (by decide +kernel) (by decide +kernel)
set_option maxRecDepth 20000 in
theorem gX1_state_X1_goesWell : GoodIn wsX1_state (wsV RX1 102 RX1 yX1_goesWell wsX1_goesWell) := goodIn_app (goodIn_of _ (by decide +kernel)) ggX1_state_X1_goesWell
theorem dX1_state_0 : decode cX1_state 0 = .ok (.aload_n 0, 1) := by decide +kernel
theorem dX1_state_1 : decode cX1_state 1 = .ok (.iload_n 1, 1) := by decide +kernel
theorem dX1_state_2 : decode cX1_state 2 = .ok (.iload_n 2, 1) := by decide +kernel
theorem dX1_state_3 : decode cX1_state 3 = .ok (.invokestatic 98, 3) := by decide +kernel
theorem dX1_state_6 : decode cX1_state 6 = .ok (.ifCond .eq 7, 3) := by decide +kernel
theorem dX1_state_9 : decode cX1_state 9 = .ok (.iconst 0, 1) := by decide +kernel
theorem dX1_state_10 : decode cX1_state 10 = .ok (.goto 4, 3) := by decide +kernel
theorem dX1_state_13 : decode cX1_state 13 = .ok (.iconst 1, 1) := by decide +kernel
theorem dX1_state_14 : decode cX1_state 14 = .ok (.invokevirtual 102, 3) := by decide +kernel
theorem dX1_state_17 : decode cX1_state 17 = .ok (.ifCond .eq 16, 3) := by decide +kernel
theorem dX1_state_20 : decode cX1_state 20 = .ok (.aload_n 0, 1) := by decide +kernel
theorem dX1_state_21 : decode cX1_state 21 = .ok (.getfield 35, 3) := by decide +kernel
theorem dX1_state_24 : decode cX1_state 24 = .ok (.iconst 3, 1) := by decide +kernel
theorem dX1_state_25 : decode cX1_state 25 = .ok (.iload_n 1, 1) := by decide +kernel
theorem dX1_state_26 : decode cX1_state 26 = .ok (.imul, 1) := by decide +kernel
theorem dX1_state_27 : decode cX1_state 27 = .ok (.iload_n 2, 1) := by decide +kernel
theorem dX1_state_28 : decode cX1_state 28 = .ok (.iadd, 1) := by decide +kernel
theorem dX1_state_29 : decode cX1_state 29 = .ok (.iaload, 1) := by decide +kernel
theorem dX1_state_30 : decode cX1_state 30 = .ok (.goto 4, 3) := by decide +kernel
theorem dX1_state_33 : decode cX1_state 33 = .ok (.iconst 0, 1) := by decide +kernel
theorem dX1_state_34 : decode cX1_state 34 = .ok (.ireturn, 1) := by decide +kernel
set_option maxRecDepth 20000 in
theorem ggX1_priority_X1_are : GoodIn wsX1_priority wsX1_are := goodIn_r _ [5, 6, 7, 4, 8, 9, 10, 11, 12, 13, 14] (by decide +kernel) (by decide +kernel)
set_option maxRecDepth 20000 in
theorem gX1_priority_X1_are : GoodIn wsX1_priority (va_wsS RX1 98 yX1_are wsX1_are) := goodIn_app (goodIn_of _ (by decide +kernel)) ggX1_priority_X1_are
set_option maxRecDepth 20000 in
theorem ggX1_priority_X1_goesWell : GoodIn wsX1_priority wsX1_goesWell := goodIn_r _ [18, 19, 27, 28, 29, 30, 31, 32, 33, 34, 35, 36, 37, 38, 39, 40, 41, 42, 43, 44, 45] (by decide +kernel) (by decide +kernel)
set_option maxRecDepth 20000 in
theorem gX1_priority_X1_goesWell : GoodIn wsX1_priority (wsV RX1 102 RX1 yX1_goesWell wsX1_goesWell) := goodIn_app (goodIn_of _ (by decide +kernel)) ggX1_priority_X1_goesWell
set_option maxRecDepth 20000 in
theorem ggX1_priority_X1_priorityAt : GoodIn wsX1_priority wsX1_priorityAt := goodIn_r _ [23, 24, 25, 26, 27, 28, 29, 30, 31, 32, 33, 34, 35, 36, 37, 38, 39, 40, 41, 42, 43, 44, 45] (by decide +kernel) (by decide +kernel)
set_option maxRecDepth 20000 in
theorem gX1_priority_X1_priorityAt : GoodIn wsX1_priority (wsV RX1 74 RX1 yX1_priorityAt wsX1_priorityAt) := goodIn_app (goodIn_of _ (by decide +kernel)) ggX1_priority_X1_priorityAt
theorem dX1_priority_0 : decode cX1_priority 0 = .ok (.iconst 3, 1) := by decide +kernel
theorem dX1_priority_1 : decode cX1_priority 1 = .ok (.iload_n 1, 1) := by decide +kernel
theorem dX1_priority_2 : decode cX1_priority 2 = .ok (.imul, 1) := by decide +kernel
theorem dX1_priority_3 : decode cX1_priority 3 = .ok (.iload_n 2, 1) := by decide +kernel
theorem dX1_priority_4 : decode cX1_priority 4 = .ok (.iadd, 1) := by decide +kernel
theorem dX1_priority_5 : decode cX1_priority 5 = .ok (.istore_n 3, 1) := by decide +kernel
theorem dX1_priority_6 : decode cX1_priority 6 = .ok (.aload_n 0, 1) := by decide +kernel
theorem dX1_priority_7 : decode cX1_priority 7 = .ok (.iload_n 1, 1) := by decide +kernel
theorem dX1_priority_8 : decode cX1_priority 8 = .ok (.iload_n 2, 1) := by decide +kernel
theorem dX1_priority_9 : decode cX1_priority 9 = .ok (.invokestatic 98, 3) := by decide +kernel
theorem dX1_priority_12 : decode cX1_priority 12 = .ok (.ifCond .eq 7, 3) := by decide +kernel
theorem dX1_priority_15 : decode cX1_priority 15 = .ok (.iconst 0, 1) := by decide +kernel
theorem dX1_priority_16 : decode cX1_priority 16 = .ok (.goto 4, 3) := by decide +kernel
theorem dX1_priority_19 : decode cX1_priority 19 = .ok (.iconst 1, 1) := by decide +kernel
theorem dX1_priority_20 : decode cX1_priority 20 = .ok (.invokevirtual 102, 3) := by decide +kernel
theorem dX1_priority_23 : decode cX1_priority 23 = .ok (.ifCond .eq 20, 3) := by decide +kernel
theorem dX1_priority_26 : decode cX1_priority 26 = .ok (.aload_n 0, 1) := by decide +kernel
theorem dX1_priority_27 : decode cX1_priority 27 = .ok (.getfield 35, 3) := by decide +kernel
theorem dX1_priority_30 : decode cX1_priority 30 = .ok (.iload_n 3, 1) := by decide +kernel
theorem dX1_priority_31 : decode cX1_priority 31 = .ok (.iaload, 1) := by decide +kernel
theorem dX1_priority_32 : decode cX1_priority 32 = .ok (.ifCond .eq 11, 3) := by decide +kernel
theorem dX1_priority_35 : decode cX1_priority 35 = .ok (.aload_n 0, 1) := by decide +kernel
theorem dX1_priority_36 : decode cX1_priority 36 = .ok (.iload_n 3, 1) := by decide +kernel
theorem dX1_priority_37 : decode cX1_priority 37 = .ok (.invokevirtual 74, 3) := by decide +kernel
theorem dX1_priority_40 : decode cX1_priority 40 = .ok (.goto 4, 3) := by decide +kernel
theorem dX1_priority_43 : decode cX1_priority 43 = .ok (.iconst 0, 1) := by decide +kernel
theorem dX1_priority_44 : decode cX1_priority 44 = .ok (.ireturn, 1) := by decide +kernel
set_option maxRecDepth 20000 in
theorem ggX1_timer_X1_are : GoodIn wsX1_timer wsX1_are := goodIn_r _ [6, 7, 8, 5, 9, 10, 11, 12, 13, 14, 15] (by decide +kernel) (by decide +kernel)
set_option maxRecDepth 20000 in
theorem gX1_timer_X1_are : GoodIn wsX1_timer (va_wsS RX1 98 yX1_are wsX1_are) := goodIn_app (goodIn_of _ (by decide +kernel)) ggX1_timer_X1_are
set_option maxRecDepth 20000 in
theorem ggX1_timer_X1_goesWell : GoodIn wsX1_timer wsX1_goesWell := goodIn_r _ [19, 20, 21, 22, 23, 24, 25, 26, 27, 28, 29, 30, 31, 32, 33, 34, 35, 36, 37, 38, 39] (by decide +kernel) (by decide +kernel)
set_option maxRecDepth 20000 in
theorem gX1_timer_X1_goesWell : GoodIn wsX1_timer (wsV RX1 102 RX1 yX1_goesWell wsX1_goesWell) := goodIn_app (goodIn_of _ (by decide +kernel)) ggX1_timer_X1_goesWell
theorem dX1_timer_0 : decode cX1_timer 0 = .ok (.iconst 3, 1) := by decide +kernel
theorem dX1_timer_1 : decode cX1_timer 1 = .ok (.iload_n 1, 1) := by decide +kernel
theorem dX1_timer_2 : decode cX1_timer 2 = .ok (.imul, 1) := by decide +kernel
theorem dX1_timer_3 : decode cX1_timer 3 = .ok (.iload_n 2, 1) := by decide +kernel
theorem dX1_timer_4 : decode cX1_timer 4 = .ok (.iadd, 1) := by decide +kernel
theorem dX1_timer_5 : decode cX1_timer 5 = .ok (.istore_n 3, 1) := by decide +kernel
theorem dX1_timer_6 : decode cX1_timer 6 = .ok (.iload_n 1, 1) := by decide +kernel
theorem dX1_timer_7 : decode cX1_timer 7 = .ok (.iload_n 2, 1) := by decide +kernel
theorem dX1_timer_8 : decode cX1_timer 8 = .ok (.invokestatic 98, 3) := by decide +kernel
theorem dX1_timer_11 : decode cX1_timer 11 = .ok (.istore 4, 2) := by decide +kernel
theorem dX1_timer_13 : decode cX1_timer 13 = .ok (.aload_n 0, 1) := by decide +kernel
theorem dX1_timer_14 : decode cX1_timer 14 = .ok (.iload 4, 2) := by decide +kernel
theorem dX1_timer_16 : decode cX1_timer 16 = .ok (.ifCond .ne 7, 3) := by decide +kernel
theorem dX1_timer_19 : decode cX1_timer 19 = .ok (.iconst 1, 1) := by decide +kernel
theorem dX1_timer_20 : decode cX1_timer 20 = .ok (.goto 17, 3) := by decide +kernel
theorem dX1_timer_23 : decode cX1_timer 23 = .ok (.aload_n 0, 1) := by decide +kernel
theorem dX1_timer_24 : decode cX1_timer 24 = .ok (.getfield 35, 3) := by decide +kernel
theorem dX1_timer_27 : decode cX1_timer 27 = .ok (.iload_n 3, 1) := by decide +kernel
theorem dX1_timer_28 : decode cX1_timer 28 = .ok (.iaload, 1) := by decide +kernel
theorem dX1_timer_29 : decode cX1_timer 29 = .ok (.ifCond .ne 7, 3) := by decide +kernel
theorem dX1_timer_32 : decode cX1_timer 32 = .ok (.iconst 2, 1) := by decide +kernel
theorem dX1_timer_33 : decode cX1_timer 33 = .ok (.goto 4, 3) := by decide +kernel
theorem dX1_timer_36 : decode cX1_timer 36 = .ok (.iconst 0, 1) := by decide +kernel
theorem dX1_timer_37 : decode cX1_timer 37 = .ok (.invokevirtual 102, 3) := by decide +kernel
theorem dX1_timer_40 : decode cX1_timer 40 = .ok (.ifCond .eq 12, 3) := by decide +kernel
theorem dX1_timer_43 : decode cX1_timer 43 = .ok (.aload_n 0, 1) := by decide +kernel
theorem dX1_timer_44 : decode cX1_timer 44 = .ok (.getfield 38, 3) := by decide +kernel
theorem dX1_timer_47 : decode cX1_timer 47 = .ok (.iload_n 3, 1) := by decide +kernel
theorem dX1_timer_48 : decode cX1_timer 48 = .ok (.iaload, 1) := by decide +kernel
theorem dX1_timer_49 : decode cX1_timer 49 = .ok (.goto 4, 3) := by decide +kernel
theorem dX1_timer_52 : decode cX1_timer 52 = .ok (.iconst 0, 1) := by decide +kernel
theorem dX1_timer_53 : decode cX1_timer 53 = .ok (.ireturn, 1) := by decide +kernel
set_option maxRecDepth 20000 in
theorem ggX1_masters_X1_isGroup : GoodIn wsX1_masters wsX1_isGroup := goodIn_r _ [5, 6, 7, 4, 8] (by decide +kernel) (by decide +kernel)
set_option maxRecDepth 20000 in
theorem gX1_masters_X1_isGroup : GoodIn wsX1_masters (va_wsS RX1 71 yX1_isGroup wsX1_isGroup) := goodIn_app (goodIn_of _ (by decide +kernel)) ggX1_masters_X1_isGroup
set_option maxRecDepth 20000 in
theorem ggX1_masters_X1_goesWell : GoodIn wsX1_masters wsX1_goesWell := goodIn_r _ [12, 13, 14, 15, 16, 17, 18, 19, 20, 21, 22, 23, 24, 25, 26, 27, 28, 29, 30, 31, 32] (by decide +kernel) (by decide +kernel)
set_option maxRecDepth 20000 in
theorem gX1_masters_X1_goesWell : GoodIn wsX1_masters (wsV RX1 102 RX1 yX1_goesWell wsX1_goesWell) := goodIn_app (goodIn_of _ (by decide +kernel)) ggX1_masters_X1_goesWell
theorem dX1_masters_0 : decode cX1_masters 0 = .ok (.aload_n 0, 1) := by decide +kernel
theorem dX1_masters_1 : decode cX1_masters 1 = .ok (.iload_n 1, 1) := by decide +kernel
theorem dX1_masters_2 : decode cX1_masters 2 = .ok (.invokestatic 71, 3) := by decide +kernel
theorem dX1_masters_5 : decode cX1_masters 5 = .ok (.ifCond .eq 7, 3) := by decide +kernel
theorem dX1_masters_8 : decode cX1_masters 8 = .ok (.iconst 0, 1) := by decide +kernel
theorem dX1_masters_9 : decode cX1_masters 9 = .ok (.goto 4, 3) := by decide +kernel
theorem dX1_masters_12 : decode cX1_masters 12 = .ok (.iconst 1, 1) := by decide +kernel
theorem dX1_masters_13 : decode cX1_masters 13 = .ok (.invokevirtual 102, 3) := by decide +kernel
theorem dX1_masters_16 : decode cX1_masters 16 = .ok (.ifCond .ne 5, 3) := by decide +kernel
theorem dX1_masters_19 : decode cX1_masters 19 = .ok (.iconst 0, 1) := by decide +kernel
theorem dX1_masters_20 : decode cX1_masters 20 = .ok (.ireturn, 1) := by decide +kernel
theorem dX1_masters_21 : decode cX1_masters 21 = .ok (.iconst 0, 1) := by decide +kernel
theorem dX1_masters_22 : decode cX1_masters 22 = .ok (.istore_n 2, 1) := by decide +kernel
theorem dX1_masters_23 : decode cX1_masters 23 = .ok (.iconst 0, 1) := by decide +kernel
theorem dX1_masters_24 : decode cX1_masters 24 = .ok (.istore_n 3, 1) := by decide +kernel
theorem dX1_masters_25 : decode cX1_masters 25 = .ok (.iload_n 3, 1) := by decide +kernel
theorem dX1_masters_26 : decode cX1_masters 26 = .ok (.iconst 4, 1) := by decide +kernel
theorem dX1_masters_27 : decode cX1_masters 27 = .ok (.if_icmp .ge 33, 3) := by decide +kernel
theorem dX1_masters_30 : decode cX1_masters 30 = .ok (.iload_n 2, 1) := by decide +kernel
theorem dX1_masters_31 : decode cX1_masters 31 = .ok (.aload_n 0, 1) := by decide +kernel
theorem dX1_masters_32 : decode cX1_masters 32 = .ok (.getfield 35, 3) := by decide +kernel
theorem dX1_masters_35 : decode cX1_masters 35 = .ok (.iconst 3, 1) := by decide +kernel
theorem dX1_masters_36 : decode cX1_masters 36 = .ok (.iload_n 3, 1) := by decide +kernel
theorem dX1_masters_37 : decode cX1_masters 37 = .ok (.imul, 1) := by decide +kernel
theorem dX1_masters_38 : decode cX1_masters 38 = .ok (.iload_n 1, 1) := by decide +kernel
theorem dX1_masters_39 : decode cX1_masters 39 = .ok (.iadd, 1) := by decide +kernel
theorem dX1_masters_40 : decode cX1_masters 40 = .ok (.iaload, 1) := by decide +kernel
theorem dX1_masters_41 : decode cX1_masters 41 = .ok (.iconst 2, 1) := by decide +kernel
theorem dX1_masters_42 : decode cX1_masters 42 = .ok (.if_icmp .ne 9, 3) := by decide +kernel
theorem dX1_masters_45 : decode cX1_masters 45 = .ok (.iconst 1, 1) := by decide +kernel
theorem dX1_masters_46 : decode cX1_masters 46 = .ok (.iload_n 3, 1) := by decide +kernel
theorem dX1_masters_47 : decode cX1_masters 47 = .ok (.ishl, 1) := by decide +kernel
theorem dX1_masters_48 : decode cX1_masters 48 = .ok (.goto 4, 3) := by decide +kernel
theorem dX1_masters_51 : decode cX1_masters 51 = .ok (.iconst 0, 1) := by decide +kernel
theorem dX1_masters_52 : decode cX1_masters 52 = .ok (.iadd, 1) := by decide +kernel
theorem dX1_masters_53 : decode cX1_masters 53 = .ok (.istore_n 2, 1) := by decide +kernel
theorem dX1_masters_54 : decode cX1_masters 54 = .ok (.iinc 3 1, 3) := by decide +kernel
theorem dX1_masters_57 : decode cX1_masters 57 = .ok (.goto (-32), 3) := by decide +kernel
theorem dX1_masters_60 : decode cX1_masters 60 = .ok (.iload_n 2, 1) := by decide +kernel
theorem dX1_masters_61 : decode cX1_masters 61 = .ok (.ireturn, 1) := by decide +kernel
set_option maxRecDepth 20000 in
theorem ggX1_changes_X1_are : GoodIn wsX1_changes wsX1_are := goodIn_r _ [5, 6, 7, 4, 8, 9, 10, 11, 12, 13, 14] (by decide +kernel) (by decide +kernel)
set_option maxRecDepth 20000 in
theorem gX1_changes_X1_are : GoodIn wsX1_changes (va_wsS RX1 98 yX1_are wsX1_are) := goodIn_app (goodIn_of _ (by decide +kernel)) ggX1_changes_X1_are
set_option maxRecDepth 20000 in
theorem ggX1_changes_X1_goesWell : GoodIn wsX1_changes wsX1_goesWell := goodIn_r _ [18, 19, 20, 21, 22, 23, 24, 25, 26, 27, 28, 29, 30, 31, 32, 33, 34, 35, 36, 37, 38] (by decide +kernel) (by decide +kernel)
set_option maxRecDepth 20000 in
theorem gX1_changes_X1_goesWell : GoodIn wsX1_changes (wsV RX1 102 RX1 yX1_goesWell wsX1_goesWell) := goodIn_app (goodIn_of _ (by decide +kernel)) ggX1_changes_X1_goesWell
theorem dX1_changes_0 : decode cX1_changes 0 = .ok (.aload_n 0, 1) := by decide +kernel
theorem dX1_changes_1 : decode cX1_changes 1 = .ok (.iload_n 1, 1) := by decide +kernel
theorem dX1_changes_2 : decode cX1_changes 2 = .ok (.iload_n 2, 1) := by decide +kernel
theorem dX1_changes_3 : decode cX1_changes 3 = .ok (.invokestatic 98, 3) := by decide +kernel
theorem dX1_changes_6 : decode cX1_changes 6 = .ok (.ifCond .eq 7, 3) := by decide +kernel
theorem dX1_changes_9 : decode cX1_changes 9 = .ok (.iconst 0, 1) := by decide +kernel
theorem dX1_changes_10 : decode cX1_changes 10 = .ok (.goto 4, 3) := by decide +kernel
theorem dX1_changes_13 : decode cX1_changes 13 = .ok (.iconst 1, 1) := by decide +kernel
theorem dX1_changes_14 : decode cX1_changes 14 = .ok (.invokevirtual 102, 3) := by decide +kernel
theorem dX1_changes_17 : decode cX1_changes 17 = .ok (.ifCond .eq 16, 3) := by decide +kernel
theorem dX1_changes_20 : decode cX1_changes 20 = .ok (.aload_n 0, 1) := by decide +kernel
theorem dX1_changes_21 : decode cX1_changes 21 = .ok (.getfield 50, 3) := by decide +kernel
theorem dX1_changes_24 : decode cX1_changes 24 = .ok (.iconst 3, 1) := by decide +kernel
theorem dX1_changes_25 : decode cX1_changes 25 = .ok (.iload_n 1, 1) := by decide +kernel
theorem dX1_changes_26 : decode cX1_changes 26 = .ok (.imul, 1) := by decide +kernel
theorem dX1_changes_27 : decode cX1_changes 27 = .ok (.iload_n 2, 1) := by decide +kernel
theorem dX1_changes_28 : decode cX1_changes 28 = .ok (.iadd, 1) := by decide +kernel
theorem dX1_changes_29 : decode cX1_changes 29 = .ok (.iaload, 1) := by decide +kernel
theorem dX1_changes_30 : decode cX1_changes 30 = .ok (.goto 4, 3) := by decide +kernel
theorem dX1_changes_33 : decode cX1_changes 33 = .ok (.iconst 0, 1) := by decide +kernel
theorem dX1_changes_34 : decode cX1_changes 34 = .ok (.ireturn, 1) := by decide +kernel
set_option maxRecDepth 20000 in
theorem ggX1_gaps_X1_isGroup : GoodIn wsX1_gaps wsX1_isGroup := goodIn_r _ [5, 6, 7, 4, 8] (by decide +kernel) (by decide +kernel)
set_option maxRecDepth 20000 in
theorem gX1_gaps_X1_isGroup : GoodIn wsX1_gaps (va_wsS RX1 71 yX1_isGroup wsX1_isGroup) := goodIn_app (goodIn_of _ (by decide +kernel)) ggX1_gaps_X1_isGroup
set_option maxRecDepth 20000 in
theorem ggX1_gaps_X1_goesWell : GoodIn wsX1_gaps wsX1_goesWell := goodIn_r _ [12, 13, 14, 15, 16, 17, 18, 19, 20, 21, 22, 23, 24, 25, 26, 27, 28, 29, 30, 31, 32] (by decide +kernel) (by decide +kernel)
set_option maxRecDepth 20000 in
theorem gX1_gaps_X1_goesWell : GoodIn wsX1_gaps (wsV RX1 102 RX1 yX1_goesWell wsX1_goesWell) := goodIn_app (goodIn_of _ (by decide +kernel)) ggX1_gaps_X1_goesWell
theorem dX1_gaps_0 : decode cX1_gaps 0 = .ok (.aload_n 0, 1) := by decide +kernel
theorem dX1_gaps_1 : decode cX1_gaps 1 = .ok (.iload_n 1, 1) := by decide +kernel
theorem dX1_gaps_2 : decode cX1_gaps 2 = .ok (.invokestatic 71, 3) := by decide +kernel
theorem dX1_gaps_5 : decode cX1_gaps 5 = .ok (.ifCond .eq 7, 3) := by decide +kernel
theorem dX1_gaps_8 : decode cX1_gaps 8 = .ok (.iconst 0, 1) := by decide +kernel
theorem dX1_gaps_9 : decode cX1_gaps 9 = .ok (.goto 4, 3) := by decide +kernel
theorem dX1_gaps_12 : decode cX1_gaps 12 = .ok (.iconst 1, 1) := by decide +kernel
theorem dX1_gaps_13 : decode cX1_gaps 13 = .ok (.invokevirtual 102, 3) := by decide +kernel
theorem dX1_gaps_16 : decode cX1_gaps 16 = .ok (.ifCond .eq 12, 3) := by decide +kernel
theorem dX1_gaps_19 : decode cX1_gaps 19 = .ok (.aload_n 0, 1) := by decide +kernel
theorem dX1_gaps_20 : decode cX1_gaps 20 = .ok (.getfield 53, 3) := by decide +kernel
theorem dX1_gaps_23 : decode cX1_gaps 23 = .ok (.iload_n 1, 1) := by decide +kernel
theorem dX1_gaps_24 : decode cX1_gaps 24 = .ok (.iaload, 1) := by decide +kernel
theorem dX1_gaps_25 : decode cX1_gaps 25 = .ok (.goto 4, 3) := by decide +kernel
theorem dX1_gaps_28 : decode cX1_gaps 28 = .ok (.iconst 0, 1) := by decide +kernel
theorem dX1_gaps_29 : decode cX1_gaps 29 = .ok (.ireturn, 1) := by decide +kernel
set_option maxRecDepth 20000 in
theorem ggX1_sent_X1_isGroup : GoodIn wsX1_sent wsX1_isGroup := goodIn_r _ [5, 6, 7, 4, 8] (by decide +kernel) (by decide +kernel)
set_option maxRecDepth 20000 in
theorem gX1_sent_X1_isGroup : GoodIn wsX1_sent (va_wsS RX1 71 yX1_isGroup wsX1_isGroup) := goodIn_app (goodIn_of _ (by decide +kernel)) ggX1_sent_X1_isGroup
set_option maxRecDepth 20000 in
theorem ggX1_sent_X1_goesWell : GoodIn wsX1_sent wsX1_goesWell := goodIn_r _ [12, 13, 14, 15, 16, 17, 18, 19, 20, 21, 22, 23, 24, 25, 26, 27, 28, 29, 30, 31, 32] (by decide +kernel) (by decide +kernel)
set_option maxRecDepth 20000 in
theorem gX1_sent_X1_goesWell : GoodIn wsX1_sent (wsV RX1 102 RX1 yX1_goesWell wsX1_goesWell) := goodIn_app (goodIn_of _ (by decide +kernel)) ggX1_sent_X1_goesWell
theorem dX1_sent_0 : decode cX1_sent 0 = .ok (.aload_n 0, 1) := by decide +kernel
theorem dX1_sent_1 : decode cX1_sent 1 = .ok (.iload_n 1, 1) := by decide +kernel
theorem dX1_sent_2 : decode cX1_sent 2 = .ok (.invokestatic 71, 3) := by decide +kernel
theorem dX1_sent_5 : decode cX1_sent 5 = .ok (.ifCond .eq 7, 3) := by decide +kernel
theorem dX1_sent_8 : decode cX1_sent 8 = .ok (.iconst 0, 1) := by decide +kernel
theorem dX1_sent_9 : decode cX1_sent 9 = .ok (.goto 4, 3) := by decide +kernel
theorem dX1_sent_12 : decode cX1_sent 12 = .ok (.iconst 1, 1) := by decide +kernel
theorem dX1_sent_13 : decode cX1_sent 13 = .ok (.invokevirtual 102, 3) := by decide +kernel
theorem dX1_sent_16 : decode cX1_sent 16 = .ok (.ifCond .eq 12, 3) := by decide +kernel
theorem dX1_sent_19 : decode cX1_sent 19 = .ok (.aload_n 0, 1) := by decide +kernel
theorem dX1_sent_20 : decode cX1_sent 20 = .ok (.getfield 56, 3) := by decide +kernel
theorem dX1_sent_23 : decode cX1_sent 23 = .ok (.iload_n 1, 1) := by decide +kernel
theorem dX1_sent_24 : decode cX1_sent 24 = .ok (.iaload, 1) := by decide +kernel
theorem dX1_sent_25 : decode cX1_sent 25 = .ok (.goto 4, 3) := by decide +kernel
theorem dX1_sent_28 : decode cX1_sent 28 = .ok (.iconst 0, 1) := by decide +kernel
theorem dX1_sent_29 : decode cX1_sent 29 = .ok (.ireturn, 1) := by decide +kernel
set_option maxRecDepth 20000 in
theorem ggX1_known_X1_are : GoodIn wsX1_known wsX1_are := goodIn_r _ [5, 6, 7, 4, 8, 9, 10, 11, 12, 13, 14] (by decide +kernel) (by decide +kernel)
set_option maxRecDepth 20000 in
theorem gX1_known_X1_are : GoodIn wsX1_known (va_wsS RX1 98 yX1_are wsX1_are) := goodIn_app (goodIn_of _ (by decide +kernel)) ggX1_known_X1_are
set_option maxRecDepth 20000 in
theorem ggX1_known_X1_goesWell : GoodIn wsX1_known wsX1_goesWell := goodIn_r _ [18, 19, 20, 21, 22, 23, 24, 25, 26, 27, 28, 29, 30, 31, 32, 33, 34, 35, 36, 37, 38] (by decide +kernel) (by decide +kernel)
set_option maxRecDepth 20000 in
theorem gX1_known_X1_goesWell : GoodIn wsX1_known (wsV RX1 102 RX1 yX1_goesWell wsX1_goesWell) := goodIn_app (goodIn_of _ (by decide +kernel)) ggX1_known_X1_goesWell
theorem dX1_known_0 : decode cX1_known 0 = .ok (.aload_n 0, 1) := by decide +kernel
theorem dX1_known_1 : decode cX1_known 1 = .ok (.iload_n 1, 1) := by decide +kernel
theorem dX1_known_2 : decode cX1_known 2 = .ok (.iload_n 2, 1) := by decide +kernel
theorem dX1_known_3 : decode cX1_known 3 = .ok (.invokestatic 98, 3) := by decide +kernel
theorem dX1_known_6 : decode cX1_known 6 = .ok (.ifCond .eq 7, 3) := by decide +kernel
theorem dX1_known_9 : decode cX1_known 9 = .ok (.iconst 0, 1) := by decide +kernel
theorem dX1_known_10 : decode cX1_known 10 = .ok (.goto 4, 3) := by decide +kernel
theorem dX1_known_13 : decode cX1_known 13 = .ok (.iconst 1, 1) := by decide +kernel
theorem dX1_known_14 : decode cX1_known 14 = .ok (.invokevirtual 102, 3) := by decide +kernel
theorem dX1_known_17 : decode cX1_known 17 = .ok (.ifCond .eq 16, 3) := by decide +kernel
theorem dX1_known_20 : decode cX1_known 20 = .ok (.aload_n 0, 1) := by decide +kernel
theorem dX1_known_21 : decode cX1_known 21 = .ok (.getfield 44, 3) := by decide +kernel
theorem dX1_known_24 : decode cX1_known 24 = .ok (.iconst 3, 1) := by decide +kernel
theorem dX1_known_25 : decode cX1_known 25 = .ok (.iload_n 1, 1) := by decide +kernel
theorem dX1_known_26 : decode cX1_known 26 = .ok (.imul, 1) := by decide +kernel
theorem dX1_known_27 : decode cX1_known 27 = .ok (.iload_n 2, 1) := by decide +kernel
theorem dX1_known_28 : decode cX1_known 28 = .ok (.iadd, 1) := by decide +kernel
theorem dX1_known_29 : decode cX1_known 29 = .ok (.iaload, 1) := by decide +kernel
theorem dX1_known_30 : decode cX1_known 30 = .ok (.goto 4, 3) := by decide +kernel
theorem dX1_known_33 : decode cX1_known 33 = .ok (.iconst 0, 1) := by decide +kernel
theorem dX1_known_34 : decode cX1_known 34 = .ok (.ireturn, 1) := by decide +kernel
theorem dX1_repairs_0 : decode cX1_repairs 0 = .ok (.aload_n 0, 1) := by decide +kernel
theorem dX1_repairs_1 : decode cX1_repairs 1 = .ok (.iconst 0, 1) := by decide +kernel
theorem dX1_repairs_2 : decode cX1_repairs 2 = .ok (.putfield 59, 3) := by decide +kernel
theorem dX1_repairs_5 : decode cX1_repairs 5 = .ok (.aload_n 0, 1) := by decide +kernel
theorem dX1_repairs_6 : decode cX1_repairs 6 = .ok (.getfield 81, 3) := by decide +kernel
theorem dX1_repairs_9 : decode cX1_repairs 9 = .ok (.ireturn, 1) := by decide +kernel
set_option maxRecDepth 20000 in
theorem ggX1_isSettled_X1_isGroup : GoodIn wsX1_isSettled wsX1_isGroup := goodIn_r _ [6, 7, 8, 5, 9] (by decide +kernel) (by decide +kernel)
set_option maxRecDepth 20000 in
theorem gX1_isSettled_X1_isGroup : GoodIn wsX1_isSettled (va_wsS RX1 71 yX1_isGroup wsX1_isGroup) := goodIn_app (goodIn_of _ (by decide +kernel)) ggX1_isSettled_X1_isGroup
set_option maxRecDepth 20000 in
theorem ggX1_isSettled_X1_goesWell : GoodIn wsX1_isSettled wsX1_goesWell := goodIn_r _ [13, 14, 19, 20, 21, 22, 23, 24, 25, 26, 27, 28, 29, 30, 31, 32, 33, 34, 35, 36, 37] (by decide +kernel) (by decide +kernel)
set_option maxRecDepth 20000 in
theorem gX1_isSettled_X1_goesWell : GoodIn wsX1_isSettled (wsV RX1 102 RX1 yX1_goesWell wsX1_goesWell) := goodIn_app (goodIn_of _ (by decide +kernel)) ggX1_isSettled_X1_goesWell
set_option maxRecDepth 20000 in
theorem ggX1_isSettled_X1_hasMaster : GoodIn wsX1_isSettled wsX1_hasMaster := goodIn_r _ [18, 1, 19, 20, 21, 22, 23, 24, 25, 26, 27, 28, 29, 30, 31, 32, 33, 34, 35, 36, 37] (by decide +kernel) (by decide +kernel)
set_option maxRecDepth 20000 in
theorem gX1_isSettled_X1_hasMaster : GoodIn wsX1_isSettled (wsV RX1 118 RX1 yX1_hasMaster wsX1_hasMaster) := goodIn_app (goodIn_of _ (by decide +kernel)) ggX1_isSettled_X1_hasMaster
theorem dX1_isSettled_0 : decode cX1_isSettled 0 = .ok (.aload_n 0, 1) := by decide +kernel
theorem dX1_isSettled_1 : decode cX1_isSettled 1 = .ok (.iload_n 1, 1) := by decide +kernel
theorem dX1_isSettled_2 : decode cX1_isSettled 2 = .ok (.invokestatic 71, 3) := by decide +kernel
theorem dX1_isSettled_5 : decode cX1_isSettled 5 = .ok (.ifCond .eq 7, 3) := by decide +kernel
theorem dX1_isSettled_8 : decode cX1_isSettled 8 = .ok (.iconst 0, 1) := by decide +kernel
theorem dX1_isSettled_9 : decode cX1_isSettled 9 = .ok (.goto 4, 3) := by decide +kernel
theorem dX1_isSettled_12 : decode cX1_isSettled 12 = .ok (.iconst 1, 1) := by decide +kernel
theorem dX1_isSettled_13 : decode cX1_isSettled 13 = .ok (.invokevirtual 102, 3) := by decide +kernel
theorem dX1_isSettled_16 : decode cX1_isSettled 16 = .ok (.ifCond .ne 5, 3) := by decide +kernel
theorem dX1_isSettled_19 : decode cX1_isSettled 19 = .ok (.iconst 0, 1) := by decide +kernel
theorem dX1_isSettled_20 : decode cX1_isSettled 20 = .ok (.ireturn, 1) := by decide +kernel
theorem dX1_isSettled_21 : decode cX1_isSettled 21 = .ok (.iconst 0, 1) := by decide +kernel
theorem dX1_isSettled_22 : decode cX1_isSettled 22 = .ok (.istore_n 2, 1) := by decide +kernel
theorem dX1_isSettled_23 : decode cX1_isSettled 23 = .ok (.iconst 1, 1) := by decide +kernel
theorem dX1_isSettled_24 : decode cX1_isSettled 24 = .ok (.istore_n 3, 1) := by decide +kernel
theorem dX1_isSettled_25 : decode cX1_isSettled 25 = .ok (.iload_n 1, 1) := by decide +kernel
theorem dX1_isSettled_26 : decode cX1_isSettled 26 = .ok (.istore 4, 2) := by decide +kernel
theorem dX1_isSettled_28 : decode cX1_isSettled 28 = .ok (.iload 4, 2) := by decide +kernel
theorem dX1_isSettled_30 : decode cX1_isSettled 30 = .ok (.bipush 12, 2) := by decide +kernel
theorem dX1_isSettled_32 : decode cX1_isSettled 32 = .ok (.if_icmp .ge 108, 3) := by decide +kernel
theorem dX1_isSettled_35 : decode cX1_isSettled 35 = .ok (.iload_n 2, 1) := by decide +kernel
theorem dX1_isSettled_36 : decode cX1_isSettled 36 = .ok (.ifCond .ne 13, 3) := by decide +kernel
theorem dX1_isSettled_39 : decode cX1_isSettled 39 = .ok (.aload_n 0, 1) := by decide +kernel
theorem dX1_isSettled_40 : decode cX1_isSettled 40 = .ok (.getfield 35, 3) := by decide +kernel
theorem dX1_isSettled_43 : decode cX1_isSettled 43 = .ok (.iload 4, 2) := by decide +kernel
theorem dX1_isSettled_45 : decode cX1_isSettled 45 = .ok (.iaload, 1) := by decide +kernel
theorem dX1_isSettled_46 : decode cX1_isSettled 46 = .ok (.ifCond .eq 7, 3) := by decide +kernel
theorem dX1_isSettled_49 : decode cX1_isSettled 49 = .ok (.iconst 1, 1) := by decide +kernel
theorem dX1_isSettled_50 : decode cX1_isSettled 50 = .ok (.goto 4, 3) := by decide +kernel
theorem dX1_isSettled_53 : decode cX1_isSettled 53 = .ok (.iconst 0, 1) := by decide +kernel
theorem dX1_isSettled_54 : decode cX1_isSettled 54 = .ok (.istore_n 2, 1) := by decide +kernel
theorem dX1_isSettled_55 : decode cX1_isSettled 55 = .ok (.iload_n 1, 1) := by decide +kernel
theorem dX1_isSettled_56 : decode cX1_isSettled 56 = .ok (.istore 5, 2) := by decide +kernel
theorem dX1_isSettled_58 : decode cX1_isSettled 58 = .ok (.iload 5, 2) := by decide +kernel
theorem dX1_isSettled_60 : decode cX1_isSettled 60 = .ok (.iload 4, 2) := by decide +kernel
theorem dX1_isSettled_62 : decode cX1_isSettled 62 = .ok (.if_icmp .ge 72, 3) := by decide +kernel
theorem dX1_isSettled_65 : decode cX1_isSettled 65 = .ok (.aload_n 0, 1) := by decide +kernel
theorem dX1_isSettled_66 : decode cX1_isSettled 66 = .ok (.getfield 35, 3) := by decide +kernel
theorem dX1_isSettled_69 : decode cX1_isSettled 69 = .ok (.iload 4, 2) := by decide +kernel
theorem dX1_isSettled_71 : decode cX1_isSettled 71 = .ok (.iaload, 1) := by decide +kernel
theorem dX1_isSettled_72 : decode cX1_isSettled 72 = .ok (.iconst 2, 1) := by decide +kernel
theorem dX1_isSettled_73 : decode cX1_isSettled 73 = .ok (.if_icmp .ne 18, 3) := by decide +kernel
theorem dX1_isSettled_76 : decode cX1_isSettled 76 = .ok (.aload_n 0, 1) := by decide +kernel
theorem dX1_isSettled_77 : decode cX1_isSettled 77 = .ok (.getfield 35, 3) := by decide +kernel
theorem dX1_isSettled_80 : decode cX1_isSettled 80 = .ok (.iload 5, 2) := by decide +kernel
theorem dX1_isSettled_82 : decode cX1_isSettled 82 = .ok (.iaload, 1) := by decide +kernel
theorem dX1_isSettled_83 : decode cX1_isSettled 83 = .ok (.iconst 2, 1) := by decide +kernel
theorem dX1_isSettled_84 : decode cX1_isSettled 84 = .ok (.if_icmp .ne 7, 3) := by decide +kernel
theorem dX1_isSettled_87 : decode cX1_isSettled 87 = .ok (.iconst 1, 1) := by decide +kernel
theorem dX1_isSettled_88 : decode cX1_isSettled 88 = .ok (.goto 4, 3) := by decide +kernel
theorem dX1_isSettled_91 : decode cX1_isSettled 91 = .ok (.iconst 0, 1) := by decide +kernel
theorem dX1_isSettled_92 : decode cX1_isSettled 92 = .ok (.istore 6, 2) := by decide +kernel
theorem dX1_isSettled_94 : decode cX1_isSettled 94 = .ok (.iload_n 3, 1) := by decide +kernel
theorem dX1_isSettled_95 : decode cX1_isSettled 95 = .ok (.ifCond .eq 31, 3) := by decide +kernel
theorem dX1_isSettled_98 : decode cX1_isSettled 98 = .ok (.iload 6, 2) := by decide +kernel
theorem dX1_isSettled_100 : decode cX1_isSettled 100 = .ok (.ifCond .eq 22, 3) := by decide +kernel
theorem dX1_isSettled_103 : decode cX1_isSettled 103 = .ok (.aload_n 0, 1) := by decide +kernel
theorem dX1_isSettled_104 : decode cX1_isSettled 104 = .ok (.getfield 23, 3) := by decide +kernel
theorem dX1_isSettled_107 : decode cX1_isSettled 107 = .ok (.iconst 4, 1) := by decide +kernel
theorem dX1_isSettled_108 : decode cX1_isSettled 108 = .ok (.iload 4, 2) := by decide +kernel
theorem dX1_isSettled_110 : decode cX1_isSettled 110 = .ok (.iconst 3, 1) := by decide +kernel
theorem dX1_isSettled_111 : decode cX1_isSettled 111 = .ok (.idiv, 1) := by decide +kernel
theorem dX1_isSettled_112 : decode cX1_isSettled 112 = .ok (.imul, 1) := by decide +kernel
theorem dX1_isSettled_113 : decode cX1_isSettled 113 = .ok (.iload 5, 2) := by decide +kernel
theorem dX1_isSettled_115 : decode cX1_isSettled 115 = .ok (.iconst 3, 1) := by decide +kernel
theorem dX1_isSettled_116 : decode cX1_isSettled 116 = .ok (.idiv, 1) := by decide +kernel
theorem dX1_isSettled_117 : decode cX1_isSettled 117 = .ok (.iadd, 1) := by decide +kernel
theorem dX1_isSettled_118 : decode cX1_isSettled 118 = .ok (.baload, 1) := by decide +kernel
theorem dX1_isSettled_119 : decode cX1_isSettled 119 = .ok (.ifCond .eq 7, 3) := by decide +kernel
theorem dX1_isSettled_122 : decode cX1_isSettled 122 = .ok (.iconst 1, 1) := by decide +kernel
theorem dX1_isSettled_123 : decode cX1_isSettled 123 = .ok (.goto 4, 3) := by decide +kernel
theorem dX1_isSettled_126 : decode cX1_isSettled 126 = .ok (.iconst 0, 1) := by decide +kernel
theorem dX1_isSettled_127 : decode cX1_isSettled 127 = .ok (.istore_n 3, 1) := by decide +kernel
theorem dX1_isSettled_128 : decode cX1_isSettled 128 = .ok (.iinc 5 3, 3) := by decide +kernel
theorem dX1_isSettled_131 : decode cX1_isSettled 131 = .ok (.goto (-73), 3) := by decide +kernel
theorem dX1_isSettled_134 : decode cX1_isSettled 134 = .ok (.iinc 4 3, 3) := by decide +kernel
theorem dX1_isSettled_137 : decode cX1_isSettled 137 = .ok (.goto (-109), 3) := by decide +kernel
theorem dX1_isSettled_140 : decode cX1_isSettled 140 = .ok (.iload_n 3, 1) := by decide +kernel
theorem dX1_isSettled_141 : decode cX1_isSettled 141 = .ok (.ifCond .eq 19, 3) := by decide +kernel
theorem dX1_isSettled_144 : decode cX1_isSettled 144 = .ok (.iload_n 2, 1) := by decide +kernel
theorem dX1_isSettled_145 : decode cX1_isSettled 145 = .ok (.ifCond .eq 11, 3) := by decide +kernel
theorem dX1_isSettled_148 : decode cX1_isSettled 148 = .ok (.aload_n 0, 1) := by decide +kernel
theorem dX1_isSettled_149 : decode cX1_isSettled 149 = .ok (.iload_n 1, 1) := by decide +kernel
theorem dX1_isSettled_150 : decode cX1_isSettled 150 = .ok (.invokevirtual 118, 3) := by decide +kernel
theorem dX1_isSettled_153 : decode cX1_isSettled 153 = .ok (.ifCond .eq 7, 3) := by decide +kernel
theorem dX1_isSettled_156 : decode cX1_isSettled 156 = .ok (.iconst 1, 1) := by decide +kernel
theorem dX1_isSettled_157 : decode cX1_isSettled 157 = .ok (.goto 4, 3) := by decide +kernel
theorem dX1_isSettled_160 : decode cX1_isSettled 160 = .ok (.iconst 0, 1) := by decide +kernel
theorem dX1_isSettled_161 : decode cX1_isSettled 161 = .ok (.ireturn, 1) := by decide +kernel
theorem dJ9_max_7cf53_0 : decode cJ9_max_7cf53 0 = .ok (.iload_n 0, 1) := by decide +kernel
theorem dJ9_max_7cf53_1 : decode cJ9_max_7cf53 1 = .ok (.iload_n 1, 1) := by decide +kernel
theorem dJ9_max_7cf53_2 : decode cJ9_max_7cf53 2 = .ok (.if_icmp .lt 7, 3) := by decide +kernel
theorem dJ9_max_7cf53_5 : decode cJ9_max_7cf53 5 = .ok (.iload_n 0, 1) := by decide +kernel
theorem dJ9_max_7cf53_6 : decode cJ9_max_7cf53 6 = .ok (.goto 4, 3) := by decide +kernel
theorem dJ9_max_7cf53_9 : decode cJ9_max_7cf53 9 = .ok (.iload_n 1, 1) := by decide +kernel
theorem dJ9_max_7cf53_10 : decode cJ9_max_7cf53 10 = .ok (.ireturn, 1) := by decide +kernel
set_option maxRecDepth 20000 in
theorem ggL_setPriority_X0_setPriority : GoodIn wsL_setPriority wsX0_setPriority := goodIn_ca (goodIn_r _ [6, 7, 8, 9, 10, 11, 5, 12, 13, 14, 15, 16, 17, 18, 19, 20, 21, 22, 23, 24, 25, 26, 27, 28, 29, 30, 31, 32, 33, 34, 35, 36, 37, 38, 39, 40, 41, 42, 43, 44, 45, 46, 47, 48, 49, 50, 51, 52, 53, 54, 55, 56, 57, 58, 59, 60, 61, 62, 63, 64, 65, 66, 67, 68, 69, 70, 71, 72, 73, 74, 75, 76, 77, 78, 79, 80, 81, 82, 83, 84, 85, 86, 87, 88, 89, 90, 91, 92, 93, 94, 95, 96] (by decide +kernel) (by decide +kernel)) (goodIn_sub (fun _ h => List.mem_cons_of_mem _ (List.mem_append_right _ h)) (by decide +kernel))
set_option maxRecDepth 20000 in
theorem gL_setPriority_X0_setPriority : GoodIn wsL_setPriority (wsV RL 7 RX0 yX0_setPriority wsX0_setPriority) := goodIn_app (goodIn_of _ (by decide +kernel)) ggL_setPriority_X0_setPriority
end
section
theorem dL_setPriority_0 : decode cL_setPriority 0 = .ok (.aload 4, 2) := by decide +kernel
theorem dL_setPriority_2 : decode cL_setPriority 2 = .ok (.iconst 0, 1) := by decide +kernel
theorem dL_setPriority_3 : decode cL_setPriority 3 = .ok (.aload_n 0, 1) := by decide +kernel
theorem dL_setPriority_4 : decode cL_setPriority 4 = .ok (.iload_n 1, 1) := by decide +kernel
theorem dL_setPriority_5 : decode cL_setPriority 5 = .ok (.iload_n 2, 1) := by decide +kernel
theorem dL_setPriority_6 : decode cL_setPriority 6 = .ok (.iload_n 3, 1) := by decide +kernel
theorem dL_setPriority_7 : decode cL_setPriority 7 = .ok (.invokevirtual 7, 3) := by decide +kernel
theorem dL_setPriority_10 : decode cL_setPriority 10 = .ok (.i2l, 1) := by decide +kernel
theorem dL_setPriority_11 : decode cL_setPriority 11 = .ok (.lastore, 1) := by decide +kernel
theorem dL_setPriority_12 : decode cL_setPriority 12 = .ok (.goto 7, 3) := by decide +kernel
theorem dL_setPriority_15 : decode cL_setPriority 15 = .ok (.astore 5, 2) := by decide +kernel
theorem dL_setPriority_17 : decode cL_setPriority 17 = .ok (.iconst 1, 1) := by decide +kernel
theorem dL_setPriority_18 : decode cL_setPriority 18 = .ok (.ireturn, 1) := by decide +kernel
theorem dL_setPriority_19 : decode cL_setPriority 19 = .ok (.iconst 0, 1) := by decide +kernel
theorem dL_setPriority_20 : decode cL_setPriority 20 = .ok (.ireturn, 1) := by decide +kernel
set_option maxRecDepth 20000 in
theorem ggL_track_X0_track : GoodIn wsL_track wsX0_track := goodIn_ca (goodIn_r _ [6, 7, 8, 9, 5, 10, 11, 12, 13, 14, 15, 16, 17, 18, 19, 20, 21, 22, 23, 24, 25, 26, 27, 28, 29, 30, 31, 32, 33, 34, 35, 36, 37, 38, 39] (by decide +kernel) (by decide +kernel)) (goodIn_sub (fun _ h => List.mem_cons_of_mem _ (List.mem_append_right _ h)) (by decide +kernel))
set_option maxRecDepth 20000 in
theorem gL_track_X0_track : GoodIn wsL_track (wsV RL 15 RX0 yX0_track wsX0_track) := goodIn_app (goodIn_of _ (by decide +kernel)) ggL_track_X0_track
theorem dL_track_0 : decode cL_track 0 = .ok (.aload 4, 2) := by decide +kernel
theorem dL_track_2 : decode cL_track 2 = .ok (.iconst 0, 1) := by decide +kernel
theorem dL_track_3 : decode cL_track 3 = .ok (.aload_n 0, 1) := by decide +kernel
theorem dL_track_4 : decode cL_track 4 = .ok (.iload_n 1, 1) := by decide +kernel
theorem dL_track_5 : decode cL_track 5 = .ok (.iload_n 2, 1) := by decide +kernel
theorem dL_track_6 : decode cL_track 6 = .ok (.iload_n 3, 1) := by decide +kernel
theorem dL_track_7 : decode cL_track 7 = .ok (.invokevirtual 15, 3) := by decide +kernel
theorem dL_track_10 : decode cL_track 10 = .ok (.i2l, 1) := by decide +kernel
theorem dL_track_11 : decode cL_track 11 = .ok (.lastore, 1) := by decide +kernel
theorem dL_track_12 : decode cL_track 12 = .ok (.goto 7, 3) := by decide +kernel
theorem dL_track_15 : decode cL_track 15 = .ok (.astore 5, 2) := by decide +kernel
theorem dL_track_17 : decode cL_track 17 = .ok (.iconst 1, 1) := by decide +kernel
theorem dL_track_18 : decode cL_track 18 = .ok (.ireturn, 1) := by decide +kernel
theorem dL_track_19 : decode cL_track 19 = .ok (.iconst 0, 1) := by decide +kernel
theorem dL_track_20 : decode cL_track 20 = .ok (.ireturn, 1) := by decide +kernel
set_option maxRecDepth 20000 in
theorem ggL_setLink_X0_setLink : GoodIn wsL_setLink wsX0_setLink := goodIn_ca (goodIn_r _ [6, 7, 8, 9, 5, 10, 11, 12, 13, 14, 15, 16, 17, 18, 19, 20, 21, 22, 23, 24, 25, 26, 27, 28, 29, 30, 31, 32, 33, 34, 35, 36] (by decide +kernel) (by decide +kernel)) (goodIn_sub (fun _ h => List.mem_cons_of_mem _ (List.mem_append_right _ h)) (by decide +kernel))
set_option maxRecDepth 20000 in
theorem gL_setLink_X0_setLink : GoodIn wsL_setLink (wsV RL 18 RX0 yX0_setLink wsX0_setLink) := goodIn_app (goodIn_of _ (by decide +kernel)) ggL_setLink_X0_setLink
theorem dL_setLink_0 : decode cL_setLink 0 = .ok (.aload 4, 2) := by decide +kernel
theorem dL_setLink_2 : decode cL_setLink 2 = .ok (.iconst 0, 1) := by decide +kernel
theorem dL_setLink_3 : decode cL_setLink 3 = .ok (.aload_n 0, 1) := by decide +kernel
theorem dL_setLink_4 : decode cL_setLink 4 = .ok (.iload_n 1, 1) := by decide +kernel
theorem dL_setLink_5 : decode cL_setLink 5 = .ok (.iload_n 2, 1) := by decide +kernel
theorem dL_setLink_6 : decode cL_setLink 6 = .ok (.iload_n 3, 1) := by decide +kernel
theorem dL_setLink_7 : decode cL_setLink 7 = .ok (.invokevirtual 18, 3) := by decide +kernel
theorem dL_setLink_10 : decode cL_setLink 10 = .ok (.ifCond .eq 7, 3) := by decide +kernel
theorem dL_setLink_13 : decode cL_setLink 13 = .ok (.lconst 1, 1) := by decide +kernel
theorem dL_setLink_14 : decode cL_setLink 14 = .ok (.goto 4, 3) := by decide +kernel
theorem dL_setLink_17 : decode cL_setLink 17 = .ok (.lconst 0, 1) := by decide +kernel
theorem dL_setLink_18 : decode cL_setLink 18 = .ok (.lastore, 1) := by decide +kernel
theorem dL_setLink_19 : decode cL_setLink 19 = .ok (.goto 7, 3) := by decide +kernel
theorem dL_setLink_22 : decode cL_setLink 22 = .ok (.astore 5, 2) := by decide +kernel
theorem dL_setLink_24 : decode cL_setLink 24 = .ok (.iconst 1, 1) := by decide +kernel
theorem dL_setLink_25 : decode cL_setLink 25 = .ok (.ireturn, 1) := by decide +kernel
theorem dL_setLink_26 : decode cL_setLink 26 = .ok (.iconst 0, 1) := by decide +kernel
theorem dL_setLink_27 : decode cL_setLink 27 = .ok (.ireturn, 1) := by decide +kernel
set_option maxRecDepth 20000 in
theorem ggL_setPeriod_X0_setPeriod : GoodIn wsL_setPeriod wsX0_setPeriod := goodIn_ca (goodIn_r _ [6, 7, 8, 9, 5, 10, 11, 12, 13, 14, 15, 16, 17, 18, 19, 20, 21, 22, 23, 24, 25, 26, 27, 28, 29, 30, 31, 32, 33] (by decide +kernel) (by decide +kernel)) (goodIn_sub (fun _ h => List.mem_cons_of_mem _ (List.mem_append_right _ h)) (by decide +kernel))
set_option maxRecDepth 20000 in
theorem gL_setPeriod_X0_setPeriod : GoodIn wsL_setPeriod (wsV RL 22 RX0 yX0_setPeriod wsX0_setPeriod) := goodIn_app (goodIn_of _ (by decide +kernel)) ggL_setPeriod_X0_setPeriod
theorem dL_setPeriod_0 : decode cL_setPeriod 0 = .ok (.aload_n 3, 1) := by decide +kernel
theorem dL_setPeriod_1 : decode cL_setPeriod 1 = .ok (.iconst 0, 1) := by decide +kernel
theorem dL_setPeriod_2 : decode cL_setPeriod 2 = .ok (.aload_n 0, 1) := by decide +kernel
theorem dL_setPeriod_3 : decode cL_setPeriod 3 = .ok (.iload_n 1, 1) := by decide +kernel
theorem dL_setPeriod_4 : decode cL_setPeriod 4 = .ok (.iload_n 2, 1) := by decide +kernel
theorem dL_setPeriod_5 : decode cL_setPeriod 5 = .ok (.invokevirtual 22, 3) := by decide +kernel
theorem dL_setPeriod_8 : decode cL_setPeriod 8 = .ok (.i2l, 1) := by decide +kernel
theorem dL_setPeriod_9 : decode cL_setPeriod 9 = .ok (.lastore, 1) := by decide +kernel
theorem dL_setPeriod_10 : decode cL_setPeriod 10 = .ok (.goto 7, 3) := by decide +kernel
theorem dL_setPeriod_13 : decode cL_setPeriod 13 = .ok (.astore 4, 2) := by decide +kernel
theorem dL_setPeriod_15 : decode cL_setPeriod 15 = .ok (.iconst 1, 1) := by decide +kernel
theorem dL_setPeriod_16 : decode cL_setPeriod 16 = .ok (.ireturn, 1) := by decide +kernel
theorem dL_setPeriod_17 : decode cL_setPeriod 17 = .ok (.iconst 0, 1) := by decide +kernel
theorem dL_setPeriod_18 : decode cL_setPeriod 18 = .ok (.ireturn, 1) := by decide +kernel
set_option maxRecDepth 20000 in
theorem ggL_setPreemption_X0_setPreemption : GoodIn wsL_setPreemption wsX0_setPreemption := goodIn_ca (goodIn_r _ [6, 7, 8, 9, 10, 5, 11, 12, 13, 14, 15, 16, 17, 18, 19, 20, 21, 22, 23, 24, 25, 26, 27, 28, 29, 30, 31, 32, 33, 34] (by decide +kernel) (by decide +kernel)) (goodIn_sub (fun _ h => List.mem_cons_of_mem _ (List.mem_append_right _ h)) (by decide +kernel))
set_option maxRecDepth 20000 in
theorem gL_setPreemption_X0_setPreemption : GoodIn wsL_setPreemption (wsV RL 26 RX0 yX0_setPreemption wsX0_setPreemption) := goodIn_app (goodIn_of _ (by decide +kernel)) ggL_setPreemption_X0_setPreemption
theorem dL_setPreemption_0 : decode cL_setPreemption 0 = .ok (.aload_n 0, 1) := by decide +kernel
theorem dL_setPreemption_1 : decode cL_setPreemption 1 = .ok (.iload_n 1, 1) := by decide +kernel
theorem dL_setPreemption_2 : decode cL_setPreemption 2 = .ok (.iload_n 2, 1) := by decide +kernel
theorem dL_setPreemption_3 : decode cL_setPreemption 3 = .ok (.iload_n 3, 1) := by decide +kernel
theorem dL_setPreemption_4 : decode cL_setPreemption 4 = .ok (.invokevirtual 26, 3) := by decide +kernel
theorem dL_setPreemption_7 : decode cL_setPreemption 7 = .ok (.goto 7, 3) := by decide +kernel
theorem dL_setPreemption_10 : decode cL_setPreemption 10 = .ok (.astore 4, 2) := by decide +kernel
theorem dL_setPreemption_12 : decode cL_setPreemption 12 = .ok (.iconst 1, 1) := by decide +kernel
theorem dL_setPreemption_13 : decode cL_setPreemption 13 = .ok (.ireturn, 1) := by decide +kernel
theorem dL_setPreemption_14 : decode cL_setPreemption 14 = .ok (.iconst 0, 1) := by decide +kernel
theorem dL_setPreemption_15 : decode cL_setPreemption 15 = .ok (.ireturn, 1) := by decide +kernel
set_option maxRecDepth 20000 in
theorem ggL_join_X0_join : GoodIn wsL_join wsX0_join := goodIn_ca (goodIn_r _ [6, 7, 8, 9, 10, 11, 5, 12, 13, 14, 15, 16, 17, 18, 19, 20, 21, 22, 23, 24, 25, 26, 27, 28, 29, 30] (by decide +kernel) (by decide +kernel)) (goodIn_sub (fun _ h => List.mem_cons_of_mem _ (List.mem_append_right _ h)) (by decide +kernel))
set_option maxRecDepth 20000 in
theorem gL_join_X0_join : GoodIn wsL_join (wsV RL 30 RX0 yX0_join wsX0_join) := goodIn_app (goodIn_of _ (by decide +kernel)) ggL_join_X0_join
theorem dL_join_0 : decode cL_join 0 = .ok (.aload 4, 2) := by decide +kernel
theorem dL_join_2 : decode cL_join 2 = .ok (.iconst 0, 1) := by decide +kernel
theorem dL_join_3 : decode cL_join 3 = .ok (.aload_n 0, 1) := by decide +kernel
theorem dL_join_4 : decode cL_join 4 = .ok (.iload_n 1, 1) := by decide +kernel
theorem dL_join_5 : decode cL_join 5 = .ok (.iload_n 2, 1) := by decide +kernel
theorem dL_join_6 : decode cL_join 6 = .ok (.iload_n 3, 1) := by decide +kernel
theorem dL_join_7 : decode cL_join 7 = .ok (.invokevirtual 30, 3) := by decide +kernel
theorem dL_join_10 : decode cL_join 10 = .ok (.ifCond .eq 7, 3) := by decide +kernel
theorem dL_join_13 : decode cL_join 13 = .ok (.lconst 1, 1) := by decide +kernel
theorem dL_join_14 : decode cL_join 14 = .ok (.goto 4, 3) := by decide +kernel
theorem dL_join_17 : decode cL_join 17 = .ok (.lconst 0, 1) := by decide +kernel
theorem dL_join_18 : decode cL_join 18 = .ok (.lastore, 1) := by decide +kernel
theorem dL_join_19 : decode cL_join 19 = .ok (.goto 7, 3) := by decide +kernel
theorem dL_join_22 : decode cL_join 22 = .ok (.astore 5, 2) := by decide +kernel
theorem dL_join_24 : decode cL_join 24 = .ok (.iconst 1, 1) := by decide +kernel
theorem dL_join_25 : decode cL_join 25 = .ok (.ireturn, 1) := by decide +kernel
theorem dL_join_26 : decode cL_join 26 = .ok (.iconst 0, 1) := by decide +kernel
theorem dL_join_27 : decode cL_join 27 = .ok (.ireturn, 1) := by decide +kernel
set_option maxRecDepth 20000 in
theorem ggL_die_X0_die : GoodIn wsL_die wsX0_die := goodIn_ca (goodIn_ca (goodIn_r _ [7, 8, 9, 10, 11, 12, 13, 6, 14, 15, 16, 17, 18, 19, 20, 21, 22, 23, 24, 25, 26, 27, 28, 29, 30, 31, 32, 33, 34, 35, 36, 37] (by decide +kernel) (by decide +kernel)) (goodIn_sub (fun _ h => List.mem_cons_of_mem _ (List.mem_append_left _ (List.mem_append_right _ h))) (by decide +kernel))) (goodIn_sub (fun _ h => List.mem_cons_of_mem _ (List.mem_append_right _ h)) (by decide +kernel))
set_option maxRecDepth 20000 in
theorem gL_die_X0_die : GoodIn wsL_die (wsV RL 33 RX0 yX0_die wsX0_die) := goodIn_app (goodIn_of _ (by decide +kernel)) ggL_die_X0_die
theorem dL_die_0 : decode cL_die 0 = .ok (.aload_n 2, 1) := by decide +kernel
theorem dL_die_1 : decode cL_die 1 = .ok (.iconst 0, 1) := by decide +kernel
theorem dL_die_2 : decode cL_die 2 = .ok (.aload_n 0, 1) := by decide +kernel
theorem dL_die_3 : decode cL_die 3 = .ok (.iload_n 1, 1) := by decide +kernel
theorem dL_die_4 : decode cL_die 4 = .ok (.invokevirtual 33, 3) := by decide +kernel
theorem dL_die_7 : decode cL_die 7 = .ok (.i2l, 1) := by decide +kernel
theorem dL_die_8 : decode cL_die 8 = .ok (.lastore, 1) := by decide +kernel
theorem dL_die_9 : decode cL_die 9 = .ok (.goto 9, 3) := by decide +kernel
theorem dL_die_12 : decode cL_die 12 = .ok (.astore_n 3, 1) := by decide +kernel
theorem dL_die_13 : decode cL_die 13 = .ok (.iconst 1, 1) := by decide +kernel
theorem dL_die_14 : decode cL_die 14 = .ok (.ireturn, 1) := by decide +kernel
theorem dL_die_15 : decode cL_die 15 = .ok (.astore_n 3, 1) := by decide +kernel
theorem dL_die_16 : decode cL_die 16 = .ok (.iconst 2, 1) := by decide +kernel
theorem dL_die_17 : decode cL_die 17 = .ok (.ireturn, 1) := by decide +kernel
theorem dL_die_18 : decode cL_die 18 = .ok (.iconst 0, 1) := by decide +kernel
theorem dL_die_19 : decode cL_die 19 = .ok (.ireturn, 1) := by decide +kernel
set_option maxRecDepth 20000 in
theorem ggL_live_X0_live : GoodIn wsL_live wsX0_live := goodIn_ca (goodIn_ca (goodIn_r _ [7, 8, 9, 10, 11, 12, 13, 6, 14, 15, 16, 17, 18, 19, 20, 21, 22, 23, 24, 25, 26, 27, 28, 29, 30, 31, 32, 33, 34, 35, 36, 37, 38, 39, 40, 41, 42, 43, 44, 45, 46, 47, 48, 49, 50, 51, 52, 53, 54, 55, 56, 57, 58, 59, 60, 61, 62, 63, 64, 65, 66, 67, 68, 69, 70, 71] (by decide +kernel) (by decide +kernel)) (goodIn_sub (fun _ h => List.mem_cons_of_mem _ (List.mem_append_left _ (List.mem_append_right _ h))) (by decide +kernel))) (goodIn_sub (fun _ h => List.mem_cons_of_mem _ (List.mem_append_right _ h)) (by decide +kernel))
set_option maxRecDepth 20000 in
theorem gL_live_X0_live : GoodIn wsL_live (wsV RL 39 RX0 yX0_live wsX0_live) := goodIn_app (goodIn_of _ (by decide +kernel)) ggL_live_X0_live
theorem dL_live_0 : decode cL_live 0 = .ok (.aload_n 2, 1) := by decide +kernel
theorem dL_live_1 : decode cL_live 1 = .ok (.iconst 0, 1) := by decide +kernel
theorem dL_live_2 : decode cL_live 2 = .ok (.aload_n 0, 1) := by decide +kernel
theorem dL_live_3 : decode cL_live 3 = .ok (.iload_n 1, 1) := by decide +kernel
theorem dL_live_4 : decode cL_live 4 = .ok (.invokevirtual 39, 3) := by decide +kernel
theorem dL_live_7 : decode cL_live 7 = .ok (.i2l, 1) := by decide +kernel
theorem dL_live_8 : decode cL_live 8 = .ok (.lastore, 1) := by decide +kernel
theorem dL_live_9 : decode cL_live 9 = .ok (.goto 9, 3) := by decide +kernel
theorem dL_live_12 : decode cL_live 12 = .ok (.astore_n 3, 1) := by decide +kernel
theorem dL_live_13 : decode cL_live 13 = .ok (.iconst 1, 1) := by decide +kernel
theorem dL_live_14 : decode cL_live 14 = .ok (.ireturn, 1) := by decide +kernel
theorem dL_live_15 : decode cL_live 15 = .ok (.astore_n 3, 1) := by decide +kernel
theorem dL_live_16 : decode cL_live 16 = .ok (.iconst 2, 1) := by decide +kernel
theorem dL_live_17 : decode cL_live 17 = .ok (.ireturn, 1) := by decide +kernel
theorem dL_live_18 : decode cL_live 18 = .ok (.iconst 0, 1) := by decide +kernel
theorem dL_live_19 : decode cL_live 19 = .ok (.ireturn, 1) := by decide +kernel
set_option maxRecDepth 20000 in
theorem ggL_handOver_X0_handOver : GoodIn wsL_handOver wsX0_handOver := goodIn_ca (goodIn_ca (goodIn_r _ [7, 8, 9, 10, 11, 12, 6, 13, 14, 15, 16, 17, 18, 19, 20, 21, 22, 23, 24, 25, 26, 27, 28, 29, 30, 31, 32, 33, 34, 35, 36, 37, 38, 39, 40, 41, 42, 43, 44, 45, 46, 47, 48, 49, 50, 51, 52, 53, 54, 55, 56, 57, 58, 59, 60, 61, 62, 63, 64, 65, 66, 67, 68, 69, 70, 71, 72, 73, 74, 75, 76, 77, 78, 79, 80, 81, 82, 83, 84, 85, 86, 87, 88, 89, 90, 91] (by decide +kernel) (by decide +kernel)) (goodIn_sub (fun _ h => List.mem_cons_of_mem _ (List.mem_append_left _ (List.mem_append_right _ h))) (by decide +kernel))) (goodIn_sub (fun _ h => List.mem_cons_of_mem _ (List.mem_append_right _ h)) (by decide +kernel))
set_option maxRecDepth 20000 in
theorem gL_handOver_X0_handOver : GoodIn wsL_handOver (wsV RL 42 RX0 yX0_handOver wsX0_handOver) := goodIn_app (goodIn_of _ (by decide +kernel)) ggL_handOver_X0_handOver
theorem dL_handOver_0 : decode cL_handOver 0 = .ok (.aload_n 0, 1) := by decide +kernel
theorem dL_handOver_1 : decode cL_handOver 1 = .ok (.iload_n 1, 1) := by decide +kernel
theorem dL_handOver_2 : decode cL_handOver 2 = .ok (.iload_n 2, 1) := by decide +kernel
theorem dL_handOver_3 : decode cL_handOver 3 = .ok (.invokevirtual 42, 3) := by decide +kernel
theorem dL_handOver_6 : decode cL_handOver 6 = .ok (.goto 9, 3) := by decide +kernel
theorem dL_handOver_9 : decode cL_handOver 9 = .ok (.astore_n 3, 1) := by decide +kernel
theorem dL_handOver_10 : decode cL_handOver 10 = .ok (.iconst 1, 1) := by decide +kernel
theorem dL_handOver_11 : decode cL_handOver 11 = .ok (.ireturn, 1) := by decide +kernel
theorem dL_handOver_12 : decode cL_handOver 12 = .ok (.astore_n 3, 1) := by decide +kernel
theorem dL_handOver_13 : decode cL_handOver 13 = .ok (.iconst 2, 1) := by decide +kernel
theorem dL_handOver_14 : decode cL_handOver 14 = .ok (.ireturn, 1) := by decide +kernel
theorem dL_handOver_15 : decode cL_handOver 15 = .ok (.iconst 0, 1) := by decide +kernel
theorem dL_handOver_16 : decode cL_handOver 16 = .ok (.ireturn, 1) := by decide +kernel
set_option maxRecDepth 20000 in
theorem ggL_serve_X0_serve : GoodIn wsL_serve wsX0_serve := goodIn_ca (goodIn_r _ [6, 7, 8, 9, 10, 5, 11, 12, 13, 14, 15, 16, 17, 18, 19, 20, 21, 22, 23, 24, 25, 26, 27, 28, 29, 30, 31, 32, 33, 34, 35, 36, 37] (by decide +kernel) (by decide +kernel)) (goodIn_sub (fun _ h => List.mem_cons_of_mem _ (List.mem_append_right _ h)) (by decide +kernel))
set_option maxRecDepth 20000 in
theorem gL_serve_X0_serve : GoodIn wsL_serve (wsV RL 46 RX0 yX0_serve wsX0_serve) := goodIn_app (goodIn_of _ (by decide +kernel)) ggL_serve_X0_serve
theorem dL_serve_0 : decode cL_serve 0 = .ok (.aload_n 3, 1) := by decide +kernel
theorem dL_serve_1 : decode cL_serve 1 = .ok (.iconst 0, 1) := by decide +kernel
theorem dL_serve_2 : decode cL_serve 2 = .ok (.aload_n 0, 1) := by decide +kernel
theorem dL_serve_3 : decode cL_serve 3 = .ok (.iload_n 1, 1) := by decide +kernel
theorem dL_serve_4 : decode cL_serve 4 = .ok (.iload_n 2, 1) := by decide +kernel
theorem dL_serve_5 : decode cL_serve 5 = .ok (.invokevirtual 46, 3) := by decide +kernel
theorem dL_serve_8 : decode cL_serve 8 = .ok (.i2l, 1) := by decide +kernel
theorem dL_serve_9 : decode cL_serve 9 = .ok (.lastore, 1) := by decide +kernel
theorem dL_serve_10 : decode cL_serve 10 = .ok (.goto 7, 3) := by decide +kernel
theorem dL_serve_13 : decode cL_serve 13 = .ok (.astore 4, 2) := by decide +kernel
theorem dL_serve_15 : decode cL_serve 15 = .ok (.iconst 1, 1) := by decide +kernel
theorem dL_serve_16 : decode cL_serve 16 = .ok (.ireturn, 1) := by decide +kernel
theorem dL_serve_17 : decode cL_serve 17 = .ok (.iconst 0, 1) := by decide +kernel
theorem dL_serve_18 : decode cL_serve 18 = .ok (.ireturn, 1) := by decide +kernel
set_option maxRecDepth 20000 in
theorem ggL_tick_X0_tick : GoodIn wsL_tick wsX0_tick := goodIn_ca (goodIn_r _ [6, 7, 8, 9, 5, 10, 11, 12, 13, 14, 15, 16, 17, 18, 19, 20, 21, 22, 23, 24, 25, 26, 27, 28, 29, 30, 31, 32, 33, 34, 35, 36, 37, 38, 39, 40, 41, 42, 43, 44, 45, 46, 47, 48, 49, 50, 51, 52, 53, 54, 55, 56, 57, 58, 59, 60, 61, 62, 63, 64, 65, 66, 67, 68, 69, 70, 71, 72, 73, 74, 75, 76, 77, 78, 79, 80, 81, 82, 83, 84, 85, 86, 87, 88, 89, 90, 91, 92, 93, 94, 95, 96, 97, 98, 99, 100, 101, 102, 103, 104] (by decide +kernel) (by decide +kernel)) (goodIn_sub (fun _ h => List.mem_cons_of_mem _ (List.mem_append_right _ h)) (by decide +kernel))
set_option maxRecDepth 20000 in
theorem gL_tick_X0_tick : GoodIn wsL_tick (wsV RL 49 RX0 yX0_tick wsX0_tick) := goodIn_app (goodIn_of _ (by decide +kernel)) ggL_tick_X0_tick
theorem dL_tick_0 : decode cL_tick 0 = .ok (.aload_n 2, 1) := by decide +kernel
theorem dL_tick_1 : decode cL_tick 1 = .ok (.iconst 0, 1) := by decide +kernel
theorem dL_tick_2 : decode cL_tick 2 = .ok (.aload_n 0, 1) := by decide +kernel
theorem dL_tick_3 : decode cL_tick 3 = .ok (.iload_n 1, 1) := by decide +kernel
theorem dL_tick_4 : decode cL_tick 4 = .ok (.invokevirtual 49, 3) := by decide +kernel
theorem dL_tick_7 : decode cL_tick 7 = .ok (.i2l, 1) := by decide +kernel
theorem dL_tick_8 : decode cL_tick 8 = .ok (.lastore, 1) := by decide +kernel
theorem dL_tick_9 : decode cL_tick 9 = .ok (.goto 6, 3) := by decide +kernel
theorem dL_tick_12 : decode cL_tick 12 = .ok (.astore_n 3, 1) := by decide +kernel
theorem dL_tick_13 : decode cL_tick 13 = .ok (.iconst 1, 1) := by decide +kernel
theorem dL_tick_14 : decode cL_tick 14 = .ok (.ireturn, 1) := by decide +kernel
theorem dL_tick_15 : decode cL_tick 15 = .ok (.iconst 0, 1) := by decide +kernel
theorem dL_tick_16 : decode cL_tick 16 = .ok (.ireturn, 1) := by decide +kernel
set_option maxRecDepth 20000 in
theorem ggL_state_X0_state : GoodIn wsL_state wsX0_state := goodIn_ca (goodIn_r _ [6, 7, 8, 9, 5, 10, 11, 12, 13, 14, 15, 16, 17, 18, 19, 20, 21, 22, 23, 24, 25, 26, 27, 28, 29, 30, 31, 32, 33, 34, 35, 36] (by decide +kernel) (by decide +kernel)) (goodIn_sub (fun _ h => List.mem_cons_of_mem _ (List.mem_append_right _ h)) (by decide +kernel))
set_option maxRecDepth 20000 in
theorem gL_state_X0_state : GoodIn wsL_state (wsV RL 52 RX0 yX0_state wsX0_state) := goodIn_app (goodIn_of _ (by decide +kernel)) ggL_state_X0_state
theorem dL_state_0 : decode cL_state 0 = .ok (.aload_n 3, 1) := by decide +kernel
theorem dL_state_1 : decode cL_state 1 = .ok (.iconst 0, 1) := by decide +kernel
theorem dL_state_2 : decode cL_state 2 = .ok (.aload_n 0, 1) := by decide +kernel
theorem dL_state_3 : decode cL_state 3 = .ok (.iload_n 1, 1) := by decide +kernel
theorem dL_state_4 : decode cL_state 4 = .ok (.iload_n 2, 1) := by decide +kernel
theorem dL_state_5 : decode cL_state 5 = .ok (.invokevirtual 52, 3) := by decide +kernel
theorem dL_state_8 : decode cL_state 8 = .ok (.i2l, 1) := by decide +kernel
theorem dL_state_9 : decode cL_state 9 = .ok (.lastore, 1) := by decide +kernel
theorem dL_state_10 : decode cL_state 10 = .ok (.goto 7, 3) := by decide +kernel
theorem dL_state_13 : decode cL_state 13 = .ok (.astore 4, 2) := by decide +kernel
theorem dL_state_15 : decode cL_state 15 = .ok (.iconst 1, 1) := by decide +kernel
theorem dL_state_16 : decode cL_state 16 = .ok (.ireturn, 1) := by decide +kernel
theorem dL_state_17 : decode cL_state 17 = .ok (.iconst 0, 1) := by decide +kernel
theorem dL_state_18 : decode cL_state 18 = .ok (.ireturn, 1) := by decide +kernel
set_option maxRecDepth 20000 in
theorem ggL_priority_X0_priority : GoodIn wsL_priority wsX0_priority := goodIn_ca (goodIn_r _ [6, 7, 8, 9, 5, 10, 11, 12, 13, 14, 15, 16, 17, 18, 19, 20, 21, 22, 23, 24, 25, 26, 27, 28, 29, 30, 31, 32, 33, 34, 35, 36, 37, 38, 39, 40, 41, 42, 43, 44, 45, 46, 47, 48, 49, 50] (by decide +kernel) (by decide +kernel)) (goodIn_sub (fun _ h => List.mem_cons_of_mem _ (List.mem_append_right _ h)) (by decide +kernel))
set_option maxRecDepth 20000 in
theorem gL_priority_X0_priority : GoodIn wsL_priority (wsV RL 55 RX0 yX0_priority wsX0_priority) := goodIn_app (goodIn_of _ (by decide +kernel)) ggL_priority_X0_priority
theorem dL_priority_0 : decode cL_priority 0 = .ok (.aload_n 3, 1) := by decide +kernel
theorem dL_priority_1 : decode cL_priority 1 = .ok (.iconst 0, 1) := by decide +kernel
theorem dL_priority_2 : decode cL_priority 2 = .ok (.aload_n 0, 1) := by decide +kernel
theorem dL_priority_3 : decode cL_priority 3 = .ok (.iload_n 1, 1) := by decide +kernel
theorem dL_priority_4 : decode cL_priority 4 = .ok (.iload_n 2, 1) := by decide +kernel
theorem dL_priority_5 : decode cL_priority 5 = .ok (.invokevirtual 55, 3) := by decide +kernel
theorem dL_priority_8 : decode cL_priority 8 = .ok (.i2l, 1) := by decide +kernel
theorem dL_priority_9 : decode cL_priority 9 = .ok (.lastore, 1) := by decide +kernel
theorem dL_priority_10 : decode cL_priority 10 = .ok (.goto 7, 3) := by decide +kernel
theorem dL_priority_13 : decode cL_priority 13 = .ok (.astore 4, 2) := by decide +kernel
theorem dL_priority_15 : decode cL_priority 15 = .ok (.iconst 1, 1) := by decide +kernel
theorem dL_priority_16 : decode cL_priority 16 = .ok (.ireturn, 1) := by decide +kernel
theorem dL_priority_17 : decode cL_priority 17 = .ok (.iconst 0, 1) := by decide +kernel
theorem dL_priority_18 : decode cL_priority 18 = .ok (.ireturn, 1) := by decide +kernel
set_option maxRecDepth 20000 in
theorem ggL_timer_X0_timer : GoodIn wsL_timer wsX0_timer := goodIn_ca (goodIn_ca (goodIn_r _ [7, 8, 9, 10, 11, 12, 13, 6, 14, 15, 16, 17, 18, 19, 20, 21, 22, 23, 24, 25, 26, 27, 28, 29, 30, 31, 32, 33, 34, 35, 36, 37, 38, 39, 40] (by decide +kernel) (by decide +kernel)) (goodIn_sub (fun _ h => List.mem_cons_of_mem _ (List.mem_append_left _ (List.mem_append_right _ h))) (by decide +kernel))) (goodIn_sub (fun _ h => List.mem_cons_of_mem _ (List.mem_append_right _ h)) (by decide +kernel))
set_option maxRecDepth 20000 in
theorem gL_timer_X0_timer : GoodIn wsL_timer (wsV RL 58 RX0 yX0_timer wsX0_timer) := goodIn_app (goodIn_of _ (by decide +kernel)) ggL_timer_X0_timer
theorem dL_timer_0 : decode cL_timer 0 = .ok (.aload_n 3, 1) := by decide +kernel
theorem dL_timer_1 : decode cL_timer 1 = .ok (.iconst 0, 1) := by decide +kernel
theorem dL_timer_2 : decode cL_timer 2 = .ok (.aload_n 0, 1) := by decide +kernel
theorem dL_timer_3 : decode cL_timer 3 = .ok (.iload_n 1, 1) := by decide +kernel
theorem dL_timer_4 : decode cL_timer 4 = .ok (.iload_n 2, 1) := by decide +kernel
theorem dL_timer_5 : decode cL_timer 5 = .ok (.invokevirtual 58, 3) := by decide +kernel
theorem dL_timer_8 : decode cL_timer 8 = .ok (.i2l, 1) := by decide +kernel
theorem dL_timer_9 : decode cL_timer 9 = .ok (.lastore, 1) := by decide +kernel
theorem dL_timer_10 : decode cL_timer 10 = .ok (.goto 11, 3) := by decide +kernel
theorem dL_timer_13 : decode cL_timer 13 = .ok (.astore 4, 2) := by decide +kernel
theorem dL_timer_15 : decode cL_timer 15 = .ok (.iconst 1, 1) := by decide +kernel
theorem dL_timer_16 : decode cL_timer 16 = .ok (.ireturn, 1) := by decide +kernel
theorem dL_timer_17 : decode cL_timer 17 = .ok (.astore 4, 2) := by decide +kernel
theorem dL_timer_19 : decode cL_timer 19 = .ok (.iconst 2, 1) := by decide +kernel
theorem dL_timer_20 : decode cL_timer 20 = .ok (.ireturn, 1) := by decide +kernel
theorem dL_timer_21 : decode cL_timer 21 = .ok (.iconst 0, 1) := by decide +kernel
theorem dL_timer_22 : decode cL_timer 22 = .ok (.ireturn, 1) := by decide +kernel
set_option maxRecDepth 20000 in
theorem ggL_masters_X0_masters : GoodIn wsL_masters wsX0_masters := goodIn_ca (goodIn_r _ [6, 7, 8, 5, 9, 10, 11, 12, 13, 14, 15, 16, 17, 18, 19, 20, 21, 22, 23, 24, 25, 26, 27, 28, 29, 30, 31, 32, 33, 34, 35, 36, 37] (by decide +kernel) (by decide +kernel)) (goodIn_sub (fun _ h => List.mem_cons_of_mem _ (List.mem_append_right _ h)) (by decide +kernel))
set_option maxRecDepth 20000 in
theorem gL_masters_X0_masters : GoodIn wsL_masters (wsV RL 61 RX0 yX0_masters wsX0_masters) := goodIn_app (goodIn_of _ (by decide +kernel)) ggL_masters_X0_masters
theorem dL_masters_0 : decode cL_masters 0 = .ok (.aload_n 2, 1) := by decide +kernel
theorem dL_masters_1 : decode cL_masters 1 = .ok (.iconst 0, 1) := by decide +kernel
theorem dL_masters_2 : decode cL_masters 2 = .ok (.aload_n 0, 1) := by decide +kernel
theorem dL_masters_3 : decode cL_masters 3 = .ok (.iload_n 1, 1) := by decide +kernel
theorem dL_masters_4 : decode cL_masters 4 = .ok (.invokevirtual 61, 3) := by decide +kernel
theorem dL_masters_7 : decode cL_masters 7 = .ok (.i2l, 1) := by decide +kernel
theorem dL_masters_8 : decode cL_masters 8 = .ok (.lastore, 1) := by decide +kernel
theorem dL_masters_9 : decode cL_masters 9 = .ok (.goto 6, 3) := by decide +kernel
theorem dL_masters_12 : decode cL_masters 12 = .ok (.astore_n 3, 1) := by decide +kernel
theorem dL_masters_13 : decode cL_masters 13 = .ok (.iconst 1, 1) := by decide +kernel
theorem dL_masters_14 : decode cL_masters 14 = .ok (.ireturn, 1) := by decide +kernel
theorem dL_masters_15 : decode cL_masters 15 = .ok (.iconst 0, 1) := by decide +kernel
theorem dL_masters_16 : decode cL_masters 16 = .ok (.ireturn, 1) := by decide +kernel
set_option maxRecDepth 20000 in
theorem ggL_changes_X0_changes : GoodIn wsL_changes wsX0_changes := goodIn_ca (goodIn_r _ [6, 7, 8, 9, 5, 10, 11, 12, 13, 14, 15, 16, 17, 18, 19, 20, 21, 22, 23, 24, 25, 26, 27, 28, 29, 30, 31, 32, 33, 34, 35, 36] (by decide +kernel) (by decide +kernel)) (goodIn_sub (fun _ h => List.mem_cons_of_mem _ (List.mem_append_right _ h)) (by decide +kernel))
set_option maxRecDepth 20000 in
theorem gL_changes_X0_changes : GoodIn wsL_changes (wsV RL 64 RX0 yX0_changes wsX0_changes) := goodIn_app (goodIn_of _ (by decide +kernel)) ggL_changes_X0_changes
theorem dL_changes_0 : decode cL_changes 0 = .ok (.aload_n 3, 1) := by decide +kernel
theorem dL_changes_1 : decode cL_changes 1 = .ok (.iconst 0, 1) := by decide +kernel
theorem dL_changes_2 : decode cL_changes 2 = .ok (.aload_n 0, 1) := by decide +kernel
theorem dL_changes_3 : decode cL_changes 3 = .ok (.iload_n 1, 1) := by decide +kernel
theorem dL_changes_4 : decode cL_changes 4 = .ok (.iload_n 2, 1) := by decide +kernel
theorem dL_changes_5 : decode cL_changes 5 = .ok (.invokevirtual 64, 3) := by decide +kernel
theorem dL_changes_8 : decode cL_changes 8 = .ok (.i2l, 1) := by decide +kernel
theorem dL_changes_9 : decode cL_changes 9 = .ok (.lastore, 1) := by decide +kernel
theorem dL_changes_10 : decode cL_changes 10 = .ok (.goto 7, 3) := by decide +kernel
theorem dL_changes_13 : decode cL_changes 13 = .ok (.astore 4, 2) := by decide +kernel
theorem dL_changes_15 : decode cL_changes 15 = .ok (.iconst 1, 1) := by decide +kernel
theorem dL_changes_16 : decode cL_changes 16 = .ok (.ireturn, 1) := by decide +kernel
theorem dL_changes_17 : decode cL_changes 17 = .ok (.iconst 0, 1) := by decide +kernel
theorem dL_changes_18 : decode cL_changes 18 = .ok (.ireturn, 1) := by decide +kernel
set_option maxRecDepth 20000 in
theorem ggL_gaps_X0_gaps : GoodIn wsL_gaps wsX0_gaps := goodIn_ca (goodIn_r _ [6, 7, 8, 9, 5, 10, 11, 12, 13, 14, 15, 16, 17, 18, 19, 20, 21, 22, 23, 24, 25, 26, 27, 28, 29, 30] (by decide +kernel) (by decide +kernel)) (goodIn_sub (fun _ h => List.mem_cons_of_mem _ (List.mem_append_right _ h)) (by decide +kernel))
set_option maxRecDepth 20000 in
theorem gL_gaps_X0_gaps : GoodIn wsL_gaps (wsV RL 67 RX0 yX0_gaps wsX0_gaps) := goodIn_app (goodIn_of _ (by decide +kernel)) ggL_gaps_X0_gaps
theorem dL_gaps_0 : decode cL_gaps 0 = .ok (.aload_n 2, 1) := by decide +kernel
theorem dL_gaps_1 : decode cL_gaps 1 = .ok (.iconst 0, 1) := by decide +kernel
theorem dL_gaps_2 : decode cL_gaps 2 = .ok (.aload_n 0, 1) := by decide +kernel
theorem dL_gaps_3 : decode cL_gaps 3 = .ok (.iload_n 1, 1) := by decide +kernel
theorem dL_gaps_4 : decode cL_gaps 4 = .ok (.invokevirtual 67, 3) := by decide +kernel
theorem dL_gaps_7 : decode cL_gaps 7 = .ok (.i2l, 1) := by decide +kernel
theorem dL_gaps_8 : decode cL_gaps 8 = .ok (.lastore, 1) := by decide +kernel
theorem dL_gaps_9 : decode cL_gaps 9 = .ok (.goto 6, 3) := by decide +kernel
theorem dL_gaps_12 : decode cL_gaps 12 = .ok (.astore_n 3, 1) := by decide +kernel
theorem dL_gaps_13 : decode cL_gaps 13 = .ok (.iconst 1, 1) := by decide +kernel
theorem dL_gaps_14 : decode cL_gaps 14 = .ok (.ireturn, 1) := by decide +kernel
theorem dL_gaps_15 : decode cL_gaps 15 = .ok (.iconst 0, 1) := by decide +kernel
theorem dL_gaps_16 : decode cL_gaps 16 = .ok (.ireturn, 1) := by decide +kernel
set_option maxRecDepth 20000 in
theorem ggL_sent_X0_sent : GoodIn wsL_sent wsX0_sent := goodIn_ca (goodIn_r _ [6, 7, 8, 9, 5, 10, 11, 12, 13, 14, 15, 16, 17, 18, 19, 20, 21, 22, 23, 24, 25, 26, 27, 28, 29, 30] (by decide +kernel) (by decide +kernel)) (goodIn_sub (fun _ h => List.mem_cons_of_mem _ (List.mem_append_right _ h)) (by decide +kernel))
set_option maxRecDepth 20000 in
theorem gL_sent_X0_sent : GoodIn wsL_sent (wsV RL 70 RX0 yX0_sent wsX0_sent) := goodIn_app (goodIn_of _ (by decide +kernel)) ggL_sent_X0_sent
theorem dL_sent_0 : decode cL_sent 0 = .ok (.aload_n 2, 1) := by decide +kernel
theorem dL_sent_1 : decode cL_sent 1 = .ok (.iconst 0, 1) := by decide +kernel
theorem dL_sent_2 : decode cL_sent 2 = .ok (.aload_n 0, 1) := by decide +kernel
theorem dL_sent_3 : decode cL_sent 3 = .ok (.iload_n 1, 1) := by decide +kernel
theorem dL_sent_4 : decode cL_sent 4 = .ok (.invokevirtual 70, 3) := by decide +kernel
theorem dL_sent_7 : decode cL_sent 7 = .ok (.i2l, 1) := by decide +kernel
theorem dL_sent_8 : decode cL_sent 8 = .ok (.lastore, 1) := by decide +kernel
theorem dL_sent_9 : decode cL_sent 9 = .ok (.goto 6, 3) := by decide +kernel
theorem dL_sent_12 : decode cL_sent 12 = .ok (.astore_n 3, 1) := by decide +kernel
theorem dL_sent_13 : decode cL_sent 13 = .ok (.iconst 1, 1) := by decide +kernel
theorem dL_sent_14 : decode cL_sent 14 = .ok (.ireturn, 1) := by decide +kernel
theorem dL_sent_15 : decode cL_sent 15 = .ok (.iconst 0, 1) := by decide +kernel
theorem dL_sent_16 : decode cL_sent 16 = .ok (.ireturn, 1) := by decide +kernel
set_option maxRecDepth 20000 in
theorem ggL_known_X0_known : GoodIn wsL_known wsX0_known := goodIn_ca (goodIn_r _ [6, 7, 8, 9, 5, 10, 11, 12, 13, 14, 15, 16, 17, 18, 19, 20, 21, 22, 23, 24, 25, 26, 27, 28, 29, 30, 31, 32, 33, 34, 35, 36] (by decide +kernel) (by decide +kernel)) (goodIn_sub (fun _ h => List.mem_cons_of_mem _ (List.mem_append_right _ h)) (by decide +kernel))
set_option maxRecDepth 20000 in
theorem gL_known_X0_known : GoodIn wsL_known (wsV RL 73 RX0 yX0_known wsX0_known) := goodIn_app (goodIn_of _ (by decide +kernel)) ggL_known_X0_known
theorem dL_known_0 : decode cL_known 0 = .ok (.aload_n 3, 1) := by decide +kernel
theorem dL_known_1 : decode cL_known 1 = .ok (.iconst 0, 1) := by decide +kernel
theorem dL_known_2 : decode cL_known 2 = .ok (.aload_n 0, 1) := by decide +kernel
theorem dL_known_3 : decode cL_known 3 = .ok (.iload_n 1, 1) := by decide +kernel
theorem dL_known_4 : decode cL_known 4 = .ok (.iload_n 2, 1) := by decide +kernel
theorem dL_known_5 : decode cL_known 5 = .ok (.invokevirtual 73, 3) := by decide +kernel
theorem dL_known_8 : decode cL_known 8 = .ok (.i2l, 1) := by decide +kernel
theorem dL_known_9 : decode cL_known 9 = .ok (.lastore, 1) := by decide +kernel
theorem dL_known_10 : decode cL_known 10 = .ok (.goto 7, 3) := by decide +kernel
theorem dL_known_13 : decode cL_known 13 = .ok (.astore 4, 2) := by decide +kernel
theorem dL_known_15 : decode cL_known 15 = .ok (.iconst 1, 1) := by decide +kernel
theorem dL_known_16 : decode cL_known 16 = .ok (.ireturn, 1) := by decide +kernel
theorem dL_known_17 : decode cL_known 17 = .ok (.iconst 0, 1) := by decide +kernel
theorem dL_known_18 : decode cL_known 18 = .ok (.ireturn, 1) := by decide +kernel
set_option maxRecDepth 20000 in
theorem ggL_isSettled_X0_isSettled : GoodIn wsL_isSettled wsX0_isSettled := goodIn_ca (goodIn_r _ [6, 7, 8, 5, 9, 10, 11, 12, 13, 14, 15, 16, 17, 18, 19, 20, 21, 22, 23, 24, 25, 26, 27, 28, 29, 30, 31, 32, 33, 34, 35, 36, 37, 38, 39, 40, 41, 42] (by decide +kernel) (by decide +kernel)) (goodIn_sub (fun _ h => List.mem_cons_of_mem _ (List.mem_append_right _ h)) (by decide +kernel))
set_option maxRecDepth 20000 in
theorem gL_isSettled_X0_isSettled : GoodIn wsL_isSettled (wsV RL 76 RX0 yX0_isSettled wsX0_isSettled) := goodIn_app (goodIn_of _ (by decide +kernel)) ggL_isSettled_X0_isSettled
theorem dL_isSettled_0 : decode cL_isSettled 0 = .ok (.aload_n 2, 1) := by decide +kernel
theorem dL_isSettled_1 : decode cL_isSettled 1 = .ok (.iconst 0, 1) := by decide +kernel
theorem dL_isSettled_2 : decode cL_isSettled 2 = .ok (.aload_n 0, 1) := by decide +kernel
theorem dL_isSettled_3 : decode cL_isSettled 3 = .ok (.iload_n 1, 1) := by decide +kernel
theorem dL_isSettled_4 : decode cL_isSettled 4 = .ok (.invokevirtual 76, 3) := by decide +kernel
theorem dL_isSettled_7 : decode cL_isSettled 7 = .ok (.ifCond .eq 7, 3) := by decide +kernel
theorem dL_isSettled_10 : decode cL_isSettled 10 = .ok (.lconst 1, 1) := by decide +kernel
theorem dL_isSettled_11 : decode cL_isSettled 11 = .ok (.goto 4, 3) := by decide +kernel
theorem dL_isSettled_14 : decode cL_isSettled 14 = .ok (.lconst 0, 1) := by decide +kernel
theorem dL_isSettled_15 : decode cL_isSettled 15 = .ok (.lastore, 1) := by decide +kernel
theorem dL_isSettled_16 : decode cL_isSettled 16 = .ok (.goto 6, 3) := by decide +kernel
theorem dL_isSettled_19 : decode cL_isSettled 19 = .ok (.astore_n 3, 1) := by decide +kernel
theorem dL_isSettled_20 : decode cL_isSettled 20 = .ok (.iconst 1, 1) := by decide +kernel
theorem dL_isSettled_21 : decode cL_isSettled 21 = .ok (.ireturn, 1) := by decide +kernel
theorem dL_isSettled_22 : decode cL_isSettled 22 = .ok (.iconst 0, 1) := by decide +kernel
theorem dL_isSettled_23 : decode cL_isSettled 23 = .ok (.ireturn, 1) := by decide +kernel
set_option maxRecDepth 20000 in
theorem ggL_law_X0_init : GoodIn wsL_law wsX0_init := goodIn_r _ [9, 10, 11, 12, 13, 14, 15, 16, 17, 18, 19, 20, 21, 22, 23, 24, 25, 26, 27, 28, 29, 30, 432, 433, 434, 435, 436, 437, 438, 439, 440, 441, 442, 443, 444, 445, 446, 447, 448, 449] (by decide +kernel) (by decide +kernel)
set_option maxRecDepth 20000 in
theorem gL_law_X0_init : GoodIn wsL_law (wsX0_init) := ggL_law_X0_init
set_option maxRecDepth 20000 in
theorem ggL_law_X1_init : GoodIn wsL_law wsX1_init := goodIn_r _ [33, 34, 11, 12, 13, 35, 17, 36, 37, 38, 39, 40, 41, 42, 43, 44, 45, 46, 47, 48, 49, 50, 450, 451, 452, 453, 454, 455, 456, 457, 458, 459, 460, 461, 462, 463, 464, 465, 466, 467, 468] (by decide +kernel) (by decide +kernel)
set_option maxRecDepth 20000 in
theorem gL_law_X1_init : GoodIn wsL_law (wsX1_init) := ggL_law_X1_init
set_option maxRecDepth 20000 in
theorem ggL_law_L_setPriority : GoodIn wsL_law wsL_setPriority := goodIn_ca (goodIn_r _ [54, 55, 56, 57, 58, 2, 59, 24, 25, 14, 60, 61, 62, 63, 64, 65, 66, 67, 68, 69, 70, 71, 72, 73, 74, 75, 76, 77, 23, 15, 78, 79, 80, 81, 82, 83, 84, 85, 16, 18, 86, 87, 88, 89, 90, 91, 92, 93, 94, 95, 96, 27, 26, 97, 98, 99, 100, 19, 101, 102, 103, 104, 105, 106, 107, 108, 28, 30, 109, 110, 111, 112, 113, 20, 21, 114, 115, 116, 117, 432, 433, 434, 435, 436, 437, 438, 439, 440, 441, 442, 443, 444, 445, 446, 447, 448, 449] (by decide +kernel) (by decide +kernel)) (goodIn_sub (fun _ h => List.mem_append_left _ (List.mem_append_right _ h)) (by decide +kernel))
set_option maxRecDepth 20000 in
theorem gL_law_L_setPriority : GoodIn wsL_law (va_wsS RL 84 yL_setPriority wsL_setPriority) := goodIn_app (goodIn_of _ (by decide +kernel)) ggL_law_L_setPriority
set_option maxRecDepth 20000 in
theorem ggL_law_X1_setPriority : GoodIn wsL_law wsX1_setPriority := goodIn_r _ [121, 36, 43, 122, 123, 5, 124, 125, 126, 127, 128, 129, 130, 131, 132, 133, 134, 135, 136, 137, 138, 139, 140, 141, 142, 50, 39, 143, 144, 145, 146, 44, 41, 45, 42, 147, 148, 149, 150, 38, 37, 151, 152, 153, 154, 155, 156, 157, 158, 40, 159, 160, 161, 162, 163, 164, 165, 166, 46, 47, 167, 168, 169, 170, 171, 35, 450, 451, 452, 453, 454, 455, 456, 457, 458, 459, 460, 461, 462, 463, 464, 465, 466, 467, 468] (by decide +kernel) (by decide +kernel)
set_option maxRecDepth 20000 in
theorem gL_law_X1_setPriority : GoodIn wsL_law (wsV RL 89 RX1 yX1_setPriority wsX1_setPriority) := goodIn_app (goodIn_of _ (by decide +kernel)) ggL_law_X1_setPriority
set_option maxRecDepth 20000 in
theorem ggL_law_X1_thrown : GoodIn wsL_law wsX1_thrown := goodIn_r _ [175, 138, 450, 451, 452, 453, 454, 455, 456, 457, 458, 459, 460, 461, 462, 463, 464, 465, 466, 467, 468] (by decide +kernel) (by decide +kernel)
set_option maxRecDepth 20000 in
theorem gL_law_X1_thrown : GoodIn wsL_law (wsV RL 90 RX1 yX1_thrown wsX1_thrown) := goodIn_app (goodIn_of _ (by decide +kernel)) ggL_law_X1_thrown
set_option maxRecDepth 20000 in
theorem ggL_law_L_track : GoodIn wsL_law wsL_track := goodIn_ca (goodIn_r _ [178, 55, 179, 180, 181, 2, 182, 18, 60, 61, 62, 63, 64, 183, 184, 185, 68, 69, 70, 90, 91, 92, 432, 433, 434, 435, 436, 437, 438, 439, 440, 441, 442, 443, 444, 445, 446, 447, 448, 449] (by decide +kernel) (by decide +kernel)) (goodIn_sub (fun _ h => List.mem_append_left _ (List.mem_append_right _ h)) (by decide +kernel))
set_option maxRecDepth 20000 in
theorem gL_law_L_track : GoodIn wsL_law (va_wsS RL 94 yL_track wsL_track) := goodIn_app (goodIn_of _ (by decide +kernel)) ggL_law_L_track
set_option maxRecDepth 20000 in
theorem ggL_law_X1_track : GoodIn wsL_law wsX1_track := goodIn_r _ [189, 37, 190, 191, 5, 192, 125, 126, 127, 128, 129, 130, 134, 135, 136, 137, 138, 450, 451, 452, 453, 454, 455, 456, 457, 458, 459, 460, 461, 462, 463, 464, 465, 466, 467, 468] (by decide +kernel) (by decide +kernel)
set_option maxRecDepth 20000 in
theorem gL_law_X1_track : GoodIn wsL_law (wsV RL 96 RX1 yX1_track wsX1_track) := goodIn_app (goodIn_of _ (by decide +kernel)) ggL_law_X1_track
set_option maxRecDepth 20000 in
theorem ggL_law_L_setLink : GoodIn wsL_law wsL_setLink := goodIn_ca (goodIn_r _ [195, 55, 196, 197, 198, 2, 199, 16, 60, 61, 62, 63, 64, 183, 184, 185, 90, 91, 92, 432, 433, 434, 435, 436, 437, 438, 439, 440, 441, 442, 443, 444, 445, 446, 447, 448, 449] (by decide +kernel) (by decide +kernel)) (goodIn_sub (fun _ h => List.mem_append_left _ (List.mem_append_right _ h)) (by decide +kernel))
set_option maxRecDepth 20000 in
theorem gL_law_L_setLink : GoodIn wsL_law (va_wsS RL 97 yL_setLink wsL_setLink) := goodIn_app (goodIn_of _ (by decide +kernel)) ggL_law_L_setLink
set_option maxRecDepth 20000 in
theorem ggL_law_X1_setLink : GoodIn wsL_law wsX1_setLink := goodIn_r _ [203, 38, 190, 191, 5, 192, 125, 126, 127, 128, 129, 130, 134, 135, 136, 137, 138, 450, 451, 452, 453, 454, 455, 456, 457, 458, 459, 460, 461, 462, 463, 464, 465, 466, 467, 468] (by decide +kernel) (by decide +kernel)
set_option maxRecDepth 20000 in
theorem gL_law_X1_setLink : GoodIn wsL_law (wsV RL 100 RX1 yX1_setLink wsX1_setLink) := goodIn_app (goodIn_of _ (by decide +kernel)) ggL_law_X1_setLink
set_option maxRecDepth 20000 in
theorem ggL_law_L_setPeriod : GoodIn wsL_law wsL_setPeriod := goodIn_ca (goodIn_r _ [206, 55, 207, 208, 209, 2, 210, 19, 65, 66, 67, 63, 64, 68, 69, 70, 432, 433, 434, 435, 436, 437, 438, 439, 440, 441, 442, 443, 444, 445, 446, 447, 448, 449] (by decide +kernel) (by decide +kernel)) (goodIn_sub (fun _ h => List.mem_append_left _ (List.mem_append_right _ h)) (by decide +kernel))
set_option maxRecDepth 20000 in
theorem gL_law_L_setPeriod : GoodIn wsL_law (va_wsS RL 101 yL_setPeriod wsL_setPeriod) := goodIn_app (goodIn_of _ (by decide +kernel)) ggL_law_L_setPeriod
set_option maxRecDepth 20000 in
theorem ggL_law_X1_setPeriod : GoodIn wsL_law wsX1_setPeriod := goodIn_r _ [214, 40, 131, 132, 5, 133, 128, 129, 130, 134, 135, 136, 137, 138, 450, 451, 452, 453, 454, 455, 456, 457, 458, 459, 460, 461, 462, 463, 464, 465, 466, 467, 468] (by decide +kernel) (by decide +kernel)
set_option maxRecDepth 20000 in
theorem gL_law_X1_setPeriod : GoodIn wsL_law (wsV RL 104 RX1 yX1_setPeriod wsX1_setPeriod) := goodIn_app (goodIn_of _ (by decide +kernel)) ggL_law_X1_setPeriod
set_option maxRecDepth 20000 in
theorem ggL_law_L_setPreemption : GoodIn wsL_law wsL_setPreemption := goodIn_ca (goodIn_r _ [217, 55, 218, 219, 220, 2, 221, 20, 21, 65, 66, 67, 63, 64, 68, 69, 70, 432, 433, 434, 435, 436, 437, 438, 439, 440, 441, 442, 443, 444, 445, 446, 447, 448, 449] (by decide +kernel) (by decide +kernel)) (goodIn_sub (fun _ h => List.mem_append_left _ (List.mem_append_right _ h)) (by decide +kernel))
set_option maxRecDepth 20000 in
theorem gL_law_L_setPreemption : GoodIn wsL_law (va_wsS RL 105 yL_setPreemption wsL_setPreemption) := goodIn_app (goodIn_of _ (by decide +kernel)) ggL_law_L_setPreemption
set_option maxRecDepth 20000 in
theorem ggL_law_X1_setPreemption : GoodIn wsL_law wsX1_setPreemption := goodIn_r _ [225, 41, 42, 131, 132, 5, 133, 128, 129, 130, 134, 135, 136, 137, 138, 450, 451, 452, 453, 454, 455, 456, 457, 458, 459, 460, 461, 462, 463, 464, 465, 466, 467, 468] (by decide +kernel) (by decide +kernel)
set_option maxRecDepth 20000 in
theorem gL_law_X1_setPreemption : GoodIn wsL_law (wsV RL 108 RX1 yX1_setPreemption wsX1_setPreemption) := goodIn_app (goodIn_of _ (by decide +kernel)) ggL_law_X1_setPreemption
set_option maxRecDepth 20000 in
theorem ggL_law_L_join : GoodIn wsL_law wsL_join := goodIn_ca (goodIn_r _ [228, 55, 229, 230, 231, 2, 232, 63, 64, 15, 60, 61, 62, 432, 433, 434, 435, 436, 437, 438, 439, 440, 441, 442, 443, 444, 445, 446, 447, 448, 449] (by decide +kernel) (by decide +kernel)) (goodIn_sub (fun _ h => List.mem_append_left _ (List.mem_append_right _ h)) (by decide +kernel))
set_option maxRecDepth 20000 in
theorem gL_law_L_join : GoodIn wsL_law (va_wsS RL 109 yL_join wsL_join) := goodIn_app (goodIn_of _ (by decide +kernel)) ggL_law_L_join
set_option maxRecDepth 20000 in
theorem ggL_law_X1_join : GoodIn wsL_law wsX1_join := goodIn_r _ [236, 39, 125, 126, 5, 127, 128, 129, 130, 134, 135, 136, 137, 138, 450, 451, 452, 453, 454, 455, 456, 457, 458, 459, 460, 461, 462, 463, 464, 465, 466, 467, 468] (by decide +kernel) (by decide +kernel)
set_option maxRecDepth 20000 in
theorem gL_law_X1_join : GoodIn wsL_law (wsV RL 111 RX1 yX1_join wsX1_join) := goodIn_app (goodIn_of _ (by decide +kernel)) ggL_law_X1_join
set_option maxRecDepth 20000 in
theorem ggL_law_L_die : GoodIn wsL_law wsL_die := goodIn_ca (goodIn_ca (goodIn_r _ [239, 55, 240, 241, 242, 243, 2, 244, 245, 246, 14, 25, 60, 61, 62, 63, 64, 71, 72, 73, 432, 433, 434, 435, 436, 437, 438, 439, 440, 441, 442, 443, 444, 445, 446, 447, 448, 449] (by decide +kernel) (by decide +kernel)) (goodIn_sub (fun _ h => List.mem_append_right _ h) (by decide +kernel))) (goodIn_sub (fun _ h => List.mem_append_left _ (List.mem_append_right _ h)) (by decide +kernel))
set_option maxRecDepth 20000 in
theorem gL_law_L_die : GoodIn wsL_law (va_wsS RL 112 yL_die wsL_die) := goodIn_app (goodIn_of _ (by decide +kernel)) ggL_law_L_die
set_option maxRecDepth 20000 in
theorem ggL_law_X1_die : GoodIn wsL_law wsX1_die := goodIn_r _ [250, 35, 43, 125, 126, 5, 127, 128, 129, 130, 134, 135, 136, 137, 138, 168, 169, 170, 171, 36, 47, 151, 152, 153, 154, 45, 44, 155, 156, 157, 158, 40, 159, 160, 161, 162, 147, 148, 149, 150, 38, 37, 450, 451, 452, 453, 454, 455, 456, 457, 458, 459, 460, 461, 462, 463, 464, 465, 466, 467, 468] (by decide +kernel) (by decide +kernel)
set_option maxRecDepth 20000 in
theorem gL_law_X1_die : GoodIn wsL_law (wsV RL 115 RX1 yX1_die wsX1_die) := goodIn_app (goodIn_of _ (by decide +kernel)) ggL_law_X1_die
set_option maxRecDepth 20000 in
theorem ggL_law_L_live : GoodIn wsL_law wsL_live := goodIn_ca (goodIn_ca (goodIn_r _ [253, 55, 240, 254, 255, 256, 2, 257, 245, 246, 14, 24, 60, 61, 62, 63, 64, 71, 72, 73, 114, 115, 116, 117, 30, 93, 94, 95, 96, 25, 27, 26, 82, 83, 84, 85, 16, 18, 86, 87, 88, 89, 90, 91, 92, 97, 98, 99, 100, 19, 101, 102, 103, 104, 432, 433, 434, 435, 436, 437, 438, 439, 440, 441, 442, 443, 444, 445, 446, 447, 448, 449] (by decide +kernel) (by decide +kernel)) (goodIn_sub (fun _ h => List.mem_append_right _ h) (by decide +kernel))) (goodIn_sub (fun _ h => List.mem_append_left _ (List.mem_append_right _ h)) (by decide +kernel))
set_option maxRecDepth 20000 in
theorem gL_law_L_live : GoodIn wsL_law (va_wsS RL 116 yL_live wsL_live) := goodIn_app (goodIn_of _ (by decide +kernel)) ggL_law_L_live
set_option maxRecDepth 20000 in
theorem ggL_law_X1_live : GoodIn wsL_law wsX1_live := goodIn_r _ [261, 35, 43, 125, 126, 5, 127, 128, 129, 130, 134, 135, 136, 137, 138, 168, 169, 170, 171, 36, 47, 151, 152, 153, 154, 45, 44, 155, 156, 157, 158, 40, 159, 160, 161, 162, 147, 148, 149, 150, 38, 37, 450, 451, 452, 453, 454, 455, 456, 457, 458, 459, 460, 461, 462, 463, 464, 465, 466, 467, 468] (by decide +kernel) (by decide +kernel)
set_option maxRecDepth 20000 in
theorem gL_law_X1_live : GoodIn wsL_law (wsV RL 118 RX1 yX1_live wsX1_live) := goodIn_app (goodIn_of _ (by decide +kernel)) ggL_law_X1_live
set_option maxRecDepth 20000 in
theorem ggL_law_L_handOver : GoodIn wsL_law wsL_handOver := goodIn_ca (goodIn_ca (goodIn_r _ [264, 55, 240, 265, 266, 267, 2, 268, 245, 246, 25, 60, 61, 62, 63, 64, 65, 66, 67, 71, 72, 73, 93, 94, 95, 96, 27, 26, 82, 83, 84, 85, 24, 16, 18, 86, 87, 88, 89, 90, 91, 92, 97, 98, 99, 100, 19, 101, 102, 103, 104, 74, 75, 76, 77, 23, 15, 78, 79, 80, 81, 105, 106, 107, 108, 28, 30, 109, 110, 111, 112, 113, 20, 21, 432, 433, 434, 435, 436, 437, 438, 439, 440, 441, 442, 443, 444, 445, 446, 447, 448, 449] (by decide +kernel) (by decide +kernel)) (goodIn_sub (fun _ h => List.mem_append_right _ h) (by decide +kernel))) (goodIn_sub (fun _ h => List.mem_append_left _ (List.mem_append_right _ h)) (by decide +kernel))
set_option maxRecDepth 20000 in
theorem gL_law_L_handOver : GoodIn wsL_law (va_wsS RL 119 yL_handOver wsL_handOver) := goodIn_app (goodIn_of _ (by decide +kernel)) ggL_law_L_handOver
set_option maxRecDepth 20000 in
theorem ggL_law_X1_handOver : GoodIn wsL_law wsX1_handOver := goodIn_r _ [272, 43, 122, 123, 5, 124, 125, 126, 127, 128, 129, 130, 131, 132, 133, 134, 135, 136, 137, 138, 151, 152, 153, 154, 45, 44, 155, 156, 157, 158, 40, 159, 160, 161, 162, 147, 148, 149, 150, 36, 38, 37, 139, 140, 141, 142, 50, 39, 143, 144, 145, 146, 41, 42, 163, 164, 165, 166, 46, 47, 167, 450, 451, 452, 453, 454, 455, 456, 457, 458, 459, 460, 461, 462, 463, 464, 465, 466, 467, 468] (by decide +kernel) (by decide +kernel)
set_option maxRecDepth 20000 in
theorem gL_law_X1_handOver : GoodIn wsL_law (wsV RL 122 RX1 yX1_handOver wsX1_handOver) := goodIn_app (goodIn_of _ (by decide +kernel)) ggL_law_X1_handOver
set_option maxRecDepth 20000 in
theorem ggL_law_L_serve : GoodIn wsL_law wsL_serve := goodIn_ca (goodIn_r _ [275, 55, 276, 277, 278, 2, 279, 25, 28, 65, 66, 67, 63, 64, 68, 69, 70, 71, 72, 73, 432, 433, 434, 435, 436, 437, 438, 439, 440, 441, 442, 443, 444, 445, 446, 447, 448, 449] (by decide +kernel) (by decide +kernel)) (goodIn_sub (fun _ h => List.mem_append_left _ (List.mem_append_right _ h)) (by decide +kernel))
set_option maxRecDepth 20000 in
theorem gL_law_L_serve : GoodIn wsL_law (va_wsS RL 123 yL_serve wsL_serve) := goodIn_app (goodIn_of _ (by decide +kernel)) ggL_law_L_serve
set_option maxRecDepth 20000 in
theorem ggL_law_X1_serve : GoodIn wsL_law wsX1_serve := goodIn_r _ [283, 43, 46, 131, 132, 5, 133, 128, 129, 130, 134, 135, 136, 137, 138, 450, 451, 452, 453, 454, 455, 456, 457, 458, 459, 460, 461, 462, 463, 464, 465, 466, 467, 468] (by decide +kernel) (by decide +kernel)
set_option maxRecDepth 20000 in
theorem gL_law_X1_serve : GoodIn wsL_law (wsV RL 125 RX1 yX1_serve wsX1_serve) := goodIn_app (goodIn_of _ (by decide +kernel)) ggL_law_X1_serve
set_option maxRecDepth 20000 in
theorem ggL_law_L_tick : GoodIn wsL_law wsL_tick := goodIn_ca (goodIn_r _ [286, 55, 287, 288, 289, 2, 290, 291, 68, 69, 70, 63, 64, 292, 293, 294, 295, 25, 26, 19, 71, 72, 73, 82, 83, 84, 85, 24, 16, 18, 86, 87, 88, 89, 90, 91, 92, 74, 75, 76, 77, 23, 15, 78, 79, 80, 81, 93, 94, 95, 96, 27, 97, 98, 99, 100, 101, 102, 103, 104, 105, 106, 107, 108, 28, 30, 109, 110, 111, 112, 113, 20, 21, 296, 297, 298, 299, 29, 300, 301, 302, 303, 22, 304, 305, 306, 307, 432, 433, 434, 435, 436, 437, 438, 439, 440, 441, 442, 443, 444, 445, 446, 447, 448, 449] (by decide +kernel) (by decide +kernel)) (goodIn_sub (fun _ h => List.mem_append_left _ (List.mem_append_right _ h)) (by decide +kernel))
set_option maxRecDepth 20000 in
theorem gL_law_L_tick : GoodIn wsL_law (va_wsS RL 126 yL_tick wsL_tick) := goodIn_app (goodIn_of _ (by decide +kernel)) ggL_law_L_tick
set_option maxRecDepth 20000 in
theorem ggL_law_X1_tick : GoodIn wsL_law wsX1_tick := goodIn_r _ [311, 49, 312, 128, 129, 5, 130, 134, 135, 136, 137, 138, 313, 314, 315, 316, 43, 44, 48, 40, 147, 148, 149, 150, 36, 38, 37, 139, 140, 141, 142, 50, 39, 143, 144, 145, 146, 41, 45, 42, 151, 152, 153, 154, 155, 156, 157, 158, 159, 160, 161, 162, 163, 164, 165, 166, 46, 47, 167, 317, 318, 319, 320, 450, 451, 452, 453, 454, 455, 456, 457, 458, 459, 460, 461, 462, 463, 464, 465, 466, 467, 468] (by decide +kernel) (by decide +kernel)
set_option maxRecDepth 20000 in
theorem gL_law_X1_tick : GoodIn wsL_law (wsV RL 128 RX1 yX1_tick wsX1_tick) := goodIn_app (goodIn_of _ (by decide +kernel)) ggL_law_X1_tick
set_option maxRecDepth 20000 in
theorem ggL_law_L_state : GoodIn wsL_law wsL_state := goodIn_ca (goodIn_r _ [323, 55, 324, 325, 326, 2, 327, 25, 60, 61, 62, 63, 64, 65, 66, 67, 71, 72, 73, 432, 433, 434, 435, 436, 437, 438, 439, 440, 441, 442, 443, 444, 445, 446, 447, 448, 449] (by decide +kernel) (by decide +kernel)) (goodIn_sub (fun _ h => List.mem_append_left _ (List.mem_append_right _ h)) (by decide +kernel))
set_option maxRecDepth 20000 in
theorem gL_law_L_state : GoodIn wsL_law (va_wsS RL 129 yL_state wsL_state) := goodIn_app (goodIn_of _ (by decide +kernel)) ggL_law_L_state
set_option maxRecDepth 20000 in
theorem ggL_law_X1_state : GoodIn wsL_law wsX1_state := goodIn_r _ [331, 43, 122, 123, 5, 124, 125, 126, 127, 128, 129, 130, 131, 132, 133, 134, 135, 136, 137, 138, 450, 451, 452, 453, 454, 455, 456, 457, 458, 459, 460, 461, 462, 463, 464, 465, 466, 467, 468] (by decide +kernel) (by decide +kernel)
set_option maxRecDepth 20000 in
theorem gL_law_X1_state : GoodIn wsL_law (wsV RL 131 RX1 yX1_state wsX1_state) := goodIn_app (goodIn_of _ (by decide +kernel)) ggL_law_X1_state
set_option maxRecDepth 20000 in
theorem ggL_law_L_priority : GoodIn wsL_law wsL_priority := goodIn_ca (goodIn_r _ [334, 55, 335, 336, 337, 2, 338, 25, 60, 61, 62, 63, 64, 65, 66, 67, 71, 72, 73, 82, 83, 84, 85, 24, 16, 18, 86, 87, 88, 89, 90, 91, 92, 432, 433, 434, 435, 436, 437, 438, 439, 440, 441, 442, 443, 444, 445, 446, 447, 448, 449] (by decide +kernel) (by decide +kernel)) (goodIn_sub (fun _ h => List.mem_append_left _ (List.mem_append_right _ h)) (by decide +kernel))
set_option maxRecDepth 20000 in
theorem gL_law_L_priority : GoodIn wsL_law (va_wsS RL 132 yL_priority wsL_priority) := goodIn_app (goodIn_of _ (by decide +kernel)) ggL_law_L_priority
set_option maxRecDepth 20000 in
theorem ggL_law_X1_priority : GoodIn wsL_law wsX1_priority := goodIn_r _ [342, 43, 122, 123, 5, 124, 125, 126, 127, 128, 129, 130, 131, 132, 133, 134, 135, 136, 137, 138, 147, 148, 149, 150, 36, 38, 37, 450, 451, 452, 453, 454, 455, 456, 457, 458, 459, 460, 461, 462, 463, 464, 465, 466, 467, 468] (by decide +kernel) (by decide +kernel)
set_option maxRecDepth 20000 in
theorem gL_law_X1_priority : GoodIn wsL_law (wsV RL 134 RX1 yX1_priority wsX1_priority) := goodIn_app (goodIn_of _ (by decide +kernel)) ggL_law_X1_priority
set_option maxRecDepth 20000 in
theorem ggL_law_L_timer : GoodIn wsL_law wsL_timer := goodIn_ca (goodIn_ca (goodIn_r _ [345, 55, 240, 346, 347, 348, 2, 349, 245, 246, 25, 26, 60, 61, 62, 63, 64, 65, 66, 67, 71, 72, 73, 432, 433, 434, 435, 436, 437, 438, 439, 440, 441, 442, 443, 444, 445, 446, 447, 448, 449] (by decide +kernel) (by decide +kernel)) (goodIn_sub (fun _ h => List.mem_append_right _ h) (by decide +kernel))) (goodIn_sub (fun _ h => List.mem_append_left _ (List.mem_append_right _ h)) (by decide +kernel))
set_option maxRecDepth 20000 in
theorem gL_law_L_timer : GoodIn wsL_law (va_wsS RL 135 yL_timer wsL_timer) := goodIn_app (goodIn_of _ (by decide +kernel)) ggL_law_L_timer
set_option maxRecDepth 20000 in
theorem ggL_law_X1_timer : GoodIn wsL_law wsX1_timer := goodIn_r _ [353, 43, 44, 122, 123, 5, 124, 125, 126, 127, 128, 129, 130, 131, 132, 133, 134, 135, 136, 137, 138, 450, 451, 452, 453, 454, 455, 456, 457, 458, 459, 460, 461, 462, 463, 464, 465, 466, 467, 468] (by decide +kernel) (by decide +kernel)
set_option maxRecDepth 20000 in
theorem gL_law_X1_timer : GoodIn wsL_law (wsV RL 137 RX1 yX1_timer wsX1_timer) := goodIn_app (goodIn_of _ (by decide +kernel)) ggL_law_X1_timer
set_option maxRecDepth 20000 in
theorem ggL_law_L_masters : GoodIn wsL_law wsL_masters := goodIn_ca (goodIn_r _ [356, 55, 357, 358, 359, 2, 360, 65, 66, 67, 63, 64, 304, 305, 306, 307, 25, 71, 72, 73, 432, 433, 434, 435, 436, 437, 438, 439, 440, 441, 442, 443, 444, 445, 446, 447, 448, 449] (by decide +kernel) (by decide +kernel)) (goodIn_sub (fun _ h => List.mem_append_left _ (List.mem_append_right _ h)) (by decide +kernel))
set_option maxRecDepth 20000 in
theorem gL_law_L_masters : GoodIn wsL_law (va_wsS RL 138 yL_masters wsL_masters) := goodIn_app (goodIn_of _ (by decide +kernel)) ggL_law_L_masters
set_option maxRecDepth 20000 in
theorem ggL_law_X1_masters : GoodIn wsL_law wsX1_masters := goodIn_r _ [364, 43, 131, 132, 5, 133, 128, 129, 130, 134, 135, 136, 137, 138, 450, 451, 452, 453, 454, 455, 456, 457, 458, 459, 460, 461, 462, 463, 464, 465, 466, 467, 468] (by decide +kernel) (by decide +kernel)
set_option maxRecDepth 20000 in
theorem gL_law_X1_masters : GoodIn wsL_law (wsV RL 140 RX1 yX1_masters wsX1_masters) := goodIn_app (goodIn_of _ (by decide +kernel)) ggL_law_X1_masters
set_option maxRecDepth 20000 in
theorem ggL_law_L_changes : GoodIn wsL_law wsL_changes := goodIn_ca (goodIn_r _ [367, 55, 368, 369, 370, 2, 371, 29, 60, 61, 62, 63, 64, 65, 66, 67, 71, 72, 73, 432, 433, 434, 435, 436, 437, 438, 439, 440, 441, 442, 443, 444, 445, 446, 447, 448, 449] (by decide +kernel) (by decide +kernel)) (goodIn_sub (fun _ h => List.mem_append_left _ (List.mem_append_right _ h)) (by decide +kernel))
set_option maxRecDepth 20000 in
theorem gL_law_L_changes : GoodIn wsL_law (va_wsS RL 141 yL_changes wsL_changes) := goodIn_app (goodIn_of _ (by decide +kernel)) ggL_law_L_changes
set_option maxRecDepth 20000 in
theorem ggL_law_X1_changes : GoodIn wsL_law wsX1_changes := goodIn_r _ [375, 48, 122, 123, 5, 124, 125, 126, 127, 128, 129, 130, 131, 132, 133, 134, 135, 136, 137, 138, 450, 451, 452, 453, 454, 455, 456, 457, 458, 459, 460, 461, 462, 463, 464, 465, 466, 467, 468] (by decide +kernel) (by decide +kernel)
set_option maxRecDepth 20000 in
theorem gL_law_X1_changes : GoodIn wsL_law (wsV RL 143 RX1 yX1_changes wsX1_changes) := goodIn_app (goodIn_of _ (by decide +kernel)) ggL_law_X1_changes
set_option maxRecDepth 20000 in
theorem ggL_law_L_gaps : GoodIn wsL_law wsL_gaps := goodIn_ca (goodIn_r _ [378, 55, 379, 380, 381, 2, 382, 22, 65, 66, 67, 63, 64, 432, 433, 434, 435, 436, 437, 438, 439, 440, 441, 442, 443, 444, 445, 446, 447, 448, 449] (by decide +kernel) (by decide +kernel)) (goodIn_sub (fun _ h => List.mem_append_left _ (List.mem_append_right _ h)) (by decide +kernel))
set_option maxRecDepth 20000 in
theorem gL_law_L_gaps : GoodIn wsL_law (va_wsS RL 144 yL_gaps wsL_gaps) := goodIn_app (goodIn_of _ (by decide +kernel)) ggL_law_L_gaps
set_option maxRecDepth 20000 in
theorem ggL_law_X1_gaps : GoodIn wsL_law wsX1_gaps := goodIn_r _ [386, 49, 131, 132, 5, 133, 128, 129, 130, 134, 135, 136, 137, 138, 450, 451, 452, 453, 454, 455, 456, 457, 458, 459, 460, 461, 462, 463, 464, 465, 466, 467, 468] (by decide +kernel) (by decide +kernel)
set_option maxRecDepth 20000 in
theorem gL_law_X1_gaps : GoodIn wsL_law (wsV RL 146 RX1 yX1_gaps wsX1_gaps) := goodIn_app (goodIn_of _ (by decide +kernel)) ggL_law_X1_gaps
set_option maxRecDepth 20000 in
theorem ggL_law_L_sent : GoodIn wsL_law wsL_sent := goodIn_ca (goodIn_r _ [389, 55, 390, 391, 392, 2, 393, 23, 65, 66, 67, 63, 64, 432, 433, 434, 435, 436, 437, 438, 439, 440, 441, 442, 443, 444, 445, 446, 447, 448, 449] (by decide +kernel) (by decide +kernel)) (goodIn_sub (fun _ h => List.mem_append_left _ (List.mem_append_right _ h)) (by decide +kernel))
set_option maxRecDepth 20000 in
theorem gL_law_L_sent : GoodIn wsL_law (va_wsS RL 147 yL_sent wsL_sent) := goodIn_app (goodIn_of _ (by decide +kernel)) ggL_law_L_sent
set_option maxRecDepth 20000 in
theorem ggL_law_X1_sent : GoodIn wsL_law wsX1_sent := goodIn_r _ [397, 50, 131, 132, 5, 133, 128, 129, 130, 134, 135, 136, 137, 138, 450, 451, 452, 453, 454, 455, 456, 457, 458, 459, 460, 461, 462, 463, 464, 465, 466, 467, 468] (by decide +kernel) (by decide +kernel)
set_option maxRecDepth 20000 in
theorem gL_law_X1_sent : GoodIn wsL_law (wsV RL 149 RX1 yX1_sent wsX1_sent) := goodIn_app (goodIn_of _ (by decide +kernel)) ggL_law_X1_sent
set_option maxRecDepth 20000 in
theorem ggL_law_L_known : GoodIn wsL_law wsL_known := goodIn_ca (goodIn_r _ [400, 55, 401, 402, 403, 2, 404, 28, 60, 61, 62, 63, 64, 65, 66, 67, 71, 72, 73, 432, 433, 434, 435, 436, 437, 438, 439, 440, 441, 442, 443, 444, 445, 446, 447, 448, 449] (by decide +kernel) (by decide +kernel)) (goodIn_sub (fun _ h => List.mem_append_left _ (List.mem_append_right _ h)) (by decide +kernel))
set_option maxRecDepth 20000 in
theorem gL_law_L_known : GoodIn wsL_law (va_wsS RL 150 yL_known wsL_known) := goodIn_app (goodIn_of _ (by decide +kernel)) ggL_law_L_known
set_option maxRecDepth 20000 in
theorem ggL_law_X1_known : GoodIn wsL_law wsX1_known := goodIn_r _ [408, 46, 122, 123, 5, 124, 125, 126, 127, 128, 129, 130, 131, 132, 133, 134, 135, 136, 137, 138, 450, 451, 452, 453, 454, 455, 456, 457, 458, 459, 460, 461, 462, 463, 464, 465, 466, 467, 468] (by decide +kernel) (by decide +kernel)
set_option maxRecDepth 20000 in
theorem gL_law_X1_known : GoodIn wsL_law (wsV RL 152 RX1 yX1_known wsX1_known) := goodIn_app (goodIn_of _ (by decide +kernel)) ggL_law_X1_known
set_option maxRecDepth 20000 in
theorem ggL_law_X0_repairs : GoodIn wsL_law wsX0_repairs := goodIn_r _ [412, 109, 432, 433, 434, 435, 436, 437, 438, 439, 440, 441, 442, 443, 444, 445, 446, 447, 448, 449] (by decide +kernel) (by decide +kernel)
set_option maxRecDepth 20000 in
theorem gL_law_X0_repairs : GoodIn wsL_law (wsV RL 153 RX0 yX0_repairs wsX0_repairs) := goodIn_app (goodIn_of _ (by decide +kernel)) ggL_law_X0_repairs
set_option maxRecDepth 20000 in
theorem ggL_law_X1_repairs : GoodIn wsL_law wsX1_repairs := goodIn_r _ [416, 138, 167, 450, 451, 452, 453, 454, 455, 456, 457, 458, 459, 460, 461, 462, 463, 464, 465, 466, 467, 468] (by decide +kernel) (by decide +kernel)
set_option maxRecDepth 20000 in
theorem gL_law_X1_repairs : GoodIn wsL_law (wsV RL 156 RX1 yX1_repairs wsX1_repairs) := goodIn_app (goodIn_of _ (by decide +kernel)) ggL_law_X1_repairs
set_option maxRecDepth 20000 in
theorem ggL_law_L_isSettled : GoodIn wsL_law wsL_isSettled := goodIn_ca (goodIn_r _ [419, 55, 420, 421, 422, 2, 423, 65, 66, 67, 63, 64, 304, 305, 306, 307, 25, 71, 72, 73, 424, 425, 426, 427, 15, 432, 433, 434, 435, 436, 437, 438, 439, 440, 441, 442, 443, 444, 445, 446, 447, 448, 449] (by decide +kernel) (by decide +kernel)) (goodIn_sub (fun _ h => List.mem_append_left _ (List.mem_append_right _ h)) (by decide +kernel))
set_option maxRecDepth 20000 in
theorem gL_law_L_isSettled : GoodIn wsL_law (va_wsS RL 157 yL_isSettled wsL_isSettled) := goodIn_app (goodIn_of _ (by decide +kernel)) ggL_law_L_isSettled
set_option maxRecDepth 20000 in
theorem ggL_law_X1_isSettled : GoodIn wsL_law wsX1_isSettled := goodIn_r _ [431, 43, 39, 131, 132, 5, 133, 128, 129, 130, 134, 135, 136, 137, 138, 317, 318, 319, 320, 450, 451, 452, 453, 454, 455, 456, 457, 458, 459, 460, 461, 462, 463, 464, 465, 466, 467, 468] (by decide +kernel) (by decide +kernel)
set_option maxRecDepth 20000 in
theorem gL_law_X1_isSettled : GoodIn wsL_law (wsV RL 159 RX1 yX1_isSettled wsX1_isSettled) := goodIn_app (goodIn_of _ (by decide +kernel)) ggL_law_X1_isSettled
end
section
theorem dL_law_0 : decode cL_law 0 = .ok (.new 8, 3) := by decide +kernel
theorem dL_law_3 : decode cL_law 3 = .ok (.dup, 1) := by decide +kernel
theorem dL_law_4 : decode cL_law 4 = .ok (.invokespecial 80, 3) := by decide +kernel
theorem dL_law_7 : decode cL_law 7 = .ok (.astore_n 1, 1) := by decide +kernel
theorem dL_law_8 : decode cL_law 8 = .ok (.new 81, 3) := by decide +kernel
theorem dL_law_11 : decode cL_law 11 = .ok (.dup, 1) := by decide +kernel
theorem dL_law_12 : decode cL_law 12 = .ok (.invokespecial 83, 3) := by decide +kernel
theorem dL_law_15 : decode cL_law 15 = .ok (.astore_n 2, 1) := by decide +kernel
theorem dL_law_16 : decode cL_law 16 = .ok (.iconst 1, 1) := by decide +kernel
theorem dL_law_17 : decode cL_law 17 = .ok (.newarray .long, 2) := by decide +kernel
theorem dL_law_19 : decode cL_law 19 = .ok (.astore_n 3, 1) := by decide +kernel
theorem dL_law_20 : decode cL_law 20 = .ok (.iconst 0, 1) := by decide +kernel
theorem dL_law_21 : decode cL_law 21 = .ok (.istore 4, 2) := by decide +kernel
theorem dL_law_23 : decode cL_law 23 = .ok (.iload 4, 2) := by decide +kernel
theorem dL_law_25 : decode cL_law 25 = .ok (.aload_n 0, 1) := by decide +kernel
theorem dL_law_26 : decode cL_law 26 = .ok (.arraylength, 1) := by decide +kernel
theorem dL_law_27 : decode cL_law 27 = .ok (.iconst 4, 1) := by decide +kernel
theorem dL_law_28 : decode cL_law 28 = .ok (.isub, 1) := by decide +kernel
theorem dL_law_29 : decode cL_law 29 = .ok (.if_icmp .gt 1491, 3) := by decide +kernel
theorem dL_law_32 : decode cL_law 32 = .ok (.aload_n 0, 1) := by decide +kernel
theorem dL_law_33 : decode cL_law 33 = .ok (.iload 4, 2) := by decide +kernel
theorem dL_law_35 : decode cL_law 35 = .ok (.iaload, 1) := by decide +kernel
theorem dL_law_36 : decode cL_law 36 = .ok (.bipush 31, 2) := by decide +kernel
theorem dL_law_38 : decode cL_law 38 = .ok (.iand, 1) := by decide +kernel
theorem dL_law_39 : decode cL_law 39 = .ok (.tableswitch 1475 0 20 #[97, 177, 257, 360, 428, 504, 607, 663, 719, 767, 835, 891, 959, 1027, 1095, 1151, 1219, 1275, 1331, 1399, 1412], 97) := by decide +kernel
theorem dL_law_136 : decode cL_law 136 = .ok (.aload_n 1, 1) := by decide +kernel
theorem dL_law_137 : decode cL_law 137 = .ok (.aload_n 0, 1) := by decide +kernel
theorem dL_law_138 : decode cL_law 138 = .ok (.iload 4, 2) := by decide +kernel
theorem dL_law_140 : decode cL_law 140 = .ok (.iconst 1, 1) := by decide +kernel
theorem dL_law_141 : decode cL_law 141 = .ok (.iadd, 1) := by decide +kernel
theorem dL_law_142 : decode cL_law 142 = .ok (.iaload, 1) := by decide +kernel
theorem dL_law_143 : decode cL_law 143 = .ok (.aload_n 0, 1) := by decide +kernel
theorem dL_law_144 : decode cL_law 144 = .ok (.iload 4, 2) := by decide +kernel
theorem dL_law_146 : decode cL_law 146 = .ok (.iconst 2, 1) := by decide +kernel
theorem dL_law_147 : decode cL_law 147 = .ok (.iadd, 1) := by decide +kernel
theorem dL_law_148 : decode cL_law 148 = .ok (.iaload, 1) := by decide +kernel
theorem dL_law_149 : decode cL_law 149 = .ok (.aload_n 0, 1) := by decide +kernel
theorem dL_law_150 : decode cL_law 150 = .ok (.iload 4, 2) := by decide +kernel
theorem dL_law_152 : decode cL_law 152 = .ok (.iconst 3, 1) := by decide +kernel
theorem dL_law_153 : decode cL_law 153 = .ok (.iadd, 1) := by decide +kernel
theorem dL_law_154 : decode cL_law 154 = .ok (.iaload, 1) := by decide +kernel
theorem dL_law_155 : decode cL_law 155 = .ok (.aload_n 3, 1) := by decide +kernel
theorem dL_law_156 : decode cL_law 156 = .ok (.invokestatic 84, 3) := by decide +kernel
theorem dL_law_159 : decode cL_law 159 = .ok (.istore 5, 2) := by decide +kernel
theorem dL_law_161 : decode cL_law 161 = .ok (.aload_n 2, 1) := by decide +kernel
theorem dL_law_162 : decode cL_law 162 = .ok (.aload_n 0, 1) := by decide +kernel
theorem dL_law_163 : decode cL_law 163 = .ok (.iload 4, 2) := by decide +kernel
theorem dL_law_165 : decode cL_law 165 = .ok (.iconst 1, 1) := by decide +kernel
theorem dL_law_166 : decode cL_law 166 = .ok (.iadd, 1) := by decide +kernel
theorem dL_law_167 : decode cL_law 167 = .ok (.iaload, 1) := by decide +kernel
theorem dL_law_168 : decode cL_law 168 = .ok (.aload_n 0, 1) := by decide +kernel
theorem dL_law_169 : decode cL_law 169 = .ok (.iload 4, 2) := by decide +kernel
theorem dL_law_171 : decode cL_law 171 = .ok (.iconst 2, 1) := by decide +kernel
theorem dL_law_172 : decode cL_law 172 = .ok (.iadd, 1) := by decide +kernel
theorem dL_law_173 : decode cL_law 173 = .ok (.iaload, 1) := by decide +kernel
theorem dL_law_174 : decode cL_law 174 = .ok (.aload_n 0, 1) := by decide +kernel
theorem dL_law_175 : decode cL_law 175 = .ok (.iload 4, 2) := by decide +kernel
theorem dL_law_177 : decode cL_law 177 = .ok (.iconst 3, 1) := by decide +kernel
theorem dL_law_178 : decode cL_law 178 = .ok (.iadd, 1) := by decide +kernel
theorem dL_law_179 : decode cL_law 179 = .ok (.iaload, 1) := by decide +kernel
theorem dL_law_180 : decode cL_law 180 = .ok (.invokevirtual 89, 3) := by decide +kernel
theorem dL_law_183 : decode cL_law 183 = .ok (.istore 6, 2) := by decide +kernel
theorem dL_law_185 : decode cL_law 185 = .ok (.aload_n 2, 1) := by decide +kernel
theorem dL_law_186 : decode cL_law 186 = .ok (.invokevirtual 90, 3) := by decide +kernel
theorem dL_law_189 : decode cL_law 189 = .ok (.iload 5, 2) := by decide +kernel
theorem dL_law_191 : decode cL_law 191 = .ok (.if_icmp .eq 5, 3) := by decide +kernel
theorem dL_law_194 : decode cL_law 194 = .ok (.iconst 0, 1) := by decide +kernel
theorem dL_law_195 : decode cL_law 195 = .ok (.ireturn, 1) := by decide +kernel
theorem dL_law_196 : decode cL_law 196 = .ok (.iload 5, 2) := by decide +kernel
theorem dL_law_198 : decode cL_law 198 = .ok (.ifCond .ne 15, 3) := by decide +kernel
theorem dL_law_201 : decode cL_law 201 = .ok (.aload_n 3, 1) := by decide +kernel
theorem dL_law_202 : decode cL_law 202 = .ok (.iconst 0, 1) := by decide +kernel
theorem dL_law_203 : decode cL_law 203 = .ok (.laload, 1) := by decide +kernel
theorem dL_law_204 : decode cL_law 204 = .ok (.iload 6, 2) := by decide +kernel
theorem dL_law_206 : decode cL_law 206 = .ok (.i2l, 1) := by decide +kernel
theorem dL_law_207 : decode cL_law 207 = .ok (.lcmp, 1) := by decide +kernel
theorem dL_law_208 : decode cL_law 208 = .ok (.ifCond .eq 5, 3) := by decide +kernel
theorem dL_law_211 : decode cL_law 211 = .ok (.iconst 0, 1) := by decide +kernel
theorem dL_law_212 : decode cL_law 212 = .ok (.ireturn, 1) := by decide +kernel
theorem dL_law_213 : decode cL_law 213 = .ok (.goto 1301, 3) := by decide +kernel
theorem dL_law_216 : decode cL_law 216 = .ok (.aload_n 1, 1) := by decide +kernel
theorem dL_law_217 : decode cL_law 217 = .ok (.aload_n 0, 1) := by decide +kernel
theorem dL_law_218 : decode cL_law 218 = .ok (.iload 4, 2) := by decide +kernel
theorem dL_law_220 : decode cL_law 220 = .ok (.iconst 1, 1) := by decide +kernel
theorem dL_law_221 : decode cL_law 221 = .ok (.iadd, 1) := by decide +kernel
theorem dL_law_222 : decode cL_law 222 = .ok (.iaload, 1) := by decide +kernel
theorem dL_law_223 : decode cL_law 223 = .ok (.aload_n 0, 1) := by decide +kernel
theorem dL_law_224 : decode cL_law 224 = .ok (.iload 4, 2) := by decide +kernel
theorem dL_law_226 : decode cL_law 226 = .ok (.iconst 2, 1) := by decide +kernel
theorem dL_law_227 : decode cL_law 227 = .ok (.iadd, 1) := by decide +kernel
theorem dL_law_228 : decode cL_law 228 = .ok (.iaload, 1) := by decide +kernel
theorem dL_law_229 : decode cL_law 229 = .ok (.aload_n 0, 1) := by decide +kernel
theorem dL_law_230 : decode cL_law 230 = .ok (.iload 4, 2) := by decide +kernel
theorem dL_law_232 : decode cL_law 232 = .ok (.iconst 3, 1) := by decide +kernel
theorem dL_law_233 : decode cL_law 233 = .ok (.iadd, 1) := by decide +kernel
theorem dL_law_234 : decode cL_law 234 = .ok (.iaload, 1) := by decide +kernel
theorem dL_law_235 : decode cL_law 235 = .ok (.aload_n 3, 1) := by decide +kernel
theorem dL_law_236 : decode cL_law 236 = .ok (.invokestatic 94, 3) := by decide +kernel
theorem dL_law_239 : decode cL_law 239 = .ok (.istore 5, 2) := by decide +kernel
theorem dL_law_241 : decode cL_law 241 = .ok (.aload_n 2, 1) := by decide +kernel
theorem dL_law_242 : decode cL_law 242 = .ok (.aload_n 0, 1) := by decide +kernel
theorem dL_law_243 : decode cL_law 243 = .ok (.iload 4, 2) := by decide +kernel
theorem dL_law_245 : decode cL_law 245 = .ok (.iconst 1, 1) := by decide +kernel
theorem dL_law_246 : decode cL_law 246 = .ok (.iadd, 1) := by decide +kernel
theorem dL_law_247 : decode cL_law 247 = .ok (.iaload, 1) := by decide +kernel
theorem dL_law_248 : decode cL_law 248 = .ok (.aload_n 0, 1) := by decide +kernel
theorem dL_law_249 : decode cL_law 249 = .ok (.iload 4, 2) := by decide +kernel
theorem dL_law_251 : decode cL_law 251 = .ok (.iconst 2, 1) := by decide +kernel
theorem dL_law_252 : decode cL_law 252 = .ok (.iadd, 1) := by decide +kernel
theorem dL_law_253 : decode cL_law 253 = .ok (.iaload, 1) := by decide +kernel
theorem dL_law_254 : decode cL_law 254 = .ok (.aload_n 0, 1) := by decide +kernel
theorem dL_law_255 : decode cL_law 255 = .ok (.iload 4, 2) := by decide +kernel
theorem dL_law_257 : decode cL_law 257 = .ok (.iconst 3, 1) := by decide +kernel
theorem dL_law_258 : decode cL_law 258 = .ok (.iadd, 1) := by decide +kernel
theorem dL_law_259 : decode cL_law 259 = .ok (.iaload, 1) := by decide +kernel
theorem dL_law_260 : decode cL_law 260 = .ok (.invokevirtual 96, 3) := by decide +kernel
theorem dL_law_263 : decode cL_law 263 = .ok (.istore 6, 2) := by decide +kernel
theorem dL_law_265 : decode cL_law 265 = .ok (.aload_n 2, 1) := by decide +kernel
theorem dL_law_266 : decode cL_law 266 = .ok (.invokevirtual 90, 3) := by decide +kernel
theorem dL_law_269 : decode cL_law 269 = .ok (.iload 5, 2) := by decide +kernel
theorem dL_law_271 : decode cL_law 271 = .ok (.if_icmp .eq 5, 3) := by decide +kernel
theorem dL_law_274 : decode cL_law 274 = .ok (.iconst 0, 1) := by decide +kernel
theorem dL_law_275 : decode cL_law 275 = .ok (.ireturn, 1) := by decide +kernel
theorem dL_law_276 : decode cL_law 276 = .ok (.iload 5, 2) := by decide +kernel
theorem dL_law_278 : decode cL_law 278 = .ok (.ifCond .ne 15, 3) := by decide +kernel
theorem dL_law_281 : decode cL_law 281 = .ok (.aload_n 3, 1) := by decide +kernel
theorem dL_law_282 : decode cL_law 282 = .ok (.iconst 0, 1) := by decide +kernel
theorem dL_law_283 : decode cL_law 283 = .ok (.laload, 1) := by decide +kernel
theorem dL_law_284 : decode cL_law 284 = .ok (.iload 6, 2) := by decide +kernel
theorem dL_law_286 : decode cL_law 286 = .ok (.i2l, 1) := by decide +kernel
theorem dL_law_287 : decode cL_law 287 = .ok (.lcmp, 1) := by decide +kernel
theorem dL_law_288 : decode cL_law 288 = .ok (.ifCond .eq 5, 3) := by decide +kernel
theorem dL_law_291 : decode cL_law 291 = .ok (.iconst 0, 1) := by decide +kernel
theorem dL_law_292 : decode cL_law 292 = .ok (.ireturn, 1) := by decide +kernel
theorem dL_law_293 : decode cL_law 293 = .ok (.goto 1221, 3) := by decide +kernel
theorem dL_law_296 : decode cL_law 296 = .ok (.aload_n 1, 1) := by decide +kernel
theorem dL_law_297 : decode cL_law 297 = .ok (.aload_n 0, 1) := by decide +kernel
theorem dL_law_298 : decode cL_law 298 = .ok (.iload 4, 2) := by decide +kernel
theorem dL_law_300 : decode cL_law 300 = .ok (.iconst 1, 1) := by decide +kernel
theorem dL_law_301 : decode cL_law 301 = .ok (.iadd, 1) := by decide +kernel
theorem dL_law_302 : decode cL_law 302 = .ok (.iaload, 1) := by decide +kernel
theorem dL_law_303 : decode cL_law 303 = .ok (.aload_n 0, 1) := by decide +kernel
theorem dL_law_304 : decode cL_law 304 = .ok (.iload 4, 2) := by decide +kernel
theorem dL_law_306 : decode cL_law 306 = .ok (.iconst 2, 1) := by decide +kernel
theorem dL_law_307 : decode cL_law 307 = .ok (.iadd, 1) := by decide +kernel
theorem dL_law_308 : decode cL_law 308 = .ok (.iaload, 1) := by decide +kernel
theorem dL_law_309 : decode cL_law 309 = .ok (.aload_n 0, 1) := by decide +kernel
theorem dL_law_310 : decode cL_law 310 = .ok (.iload 4, 2) := by decide +kernel
theorem dL_law_312 : decode cL_law 312 = .ok (.iconst 3, 1) := by decide +kernel
theorem dL_law_313 : decode cL_law 313 = .ok (.iadd, 1) := by decide +kernel
theorem dL_law_314 : decode cL_law 314 = .ok (.iaload, 1) := by decide +kernel
theorem dL_law_315 : decode cL_law 315 = .ok (.ifCond .eq 7, 3) := by decide +kernel
theorem dL_law_318 : decode cL_law 318 = .ok (.iconst 1, 1) := by decide +kernel
theorem dL_law_319 : decode cL_law 319 = .ok (.goto 4, 3) := by decide +kernel
theorem dL_law_322 : decode cL_law 322 = .ok (.iconst 0, 1) := by decide +kernel
theorem dL_law_323 : decode cL_law 323 = .ok (.aload_n 3, 1) := by decide +kernel
theorem dL_law_324 : decode cL_law 324 = .ok (.invokestatic 97, 3) := by decide +kernel
theorem dL_law_327 : decode cL_law 327 = .ok (.istore 5, 2) := by decide +kernel
theorem dL_law_329 : decode cL_law 329 = .ok (.aload_n 2, 1) := by decide +kernel
theorem dL_law_330 : decode cL_law 330 = .ok (.aload_n 0, 1) := by decide +kernel
theorem dL_law_331 : decode cL_law 331 = .ok (.iload 4, 2) := by decide +kernel
theorem dL_law_333 : decode cL_law 333 = .ok (.iconst 1, 1) := by decide +kernel
theorem dL_law_334 : decode cL_law 334 = .ok (.iadd, 1) := by decide +kernel
theorem dL_law_335 : decode cL_law 335 = .ok (.iaload, 1) := by decide +kernel
theorem dL_law_336 : decode cL_law 336 = .ok (.aload_n 0, 1) := by decide +kernel
theorem dL_law_337 : decode cL_law 337 = .ok (.iload 4, 2) := by decide +kernel
theorem dL_law_339 : decode cL_law 339 = .ok (.iconst 2, 1) := by decide +kernel
theorem dL_law_340 : decode cL_law 340 = .ok (.iadd, 1) := by decide +kernel
theorem dL_law_341 : decode cL_law 341 = .ok (.iaload, 1) := by decide +kernel
theorem dL_law_342 : decode cL_law 342 = .ok (.aload_n 0, 1) := by decide +kernel
theorem dL_law_343 : decode cL_law 343 = .ok (.iload 4, 2) := by decide +kernel
theorem dL_law_345 : decode cL_law 345 = .ok (.iconst 3, 1) := by decide +kernel
theorem dL_law_346 : decode cL_law 346 = .ok (.iadd, 1) := by decide +kernel
theorem dL_law_347 : decode cL_law 347 = .ok (.iaload, 1) := by decide +kernel
theorem dL_law_348 : decode cL_law 348 = .ok (.ifCond .eq 7, 3) := by decide +kernel
theorem dL_law_351 : decode cL_law 351 = .ok (.iconst 1, 1) := by decide +kernel
theorem dL_law_352 : decode cL_law 352 = .ok (.goto 4, 3) := by decide +kernel
theorem dL_law_355 : decode cL_law 355 = .ok (.iconst 0, 1) := by decide +kernel
theorem dL_law_356 : decode cL_law 356 = .ok (.invokevirtual 100, 3) := by decide +kernel
theorem dL_law_359 : decode cL_law 359 = .ok (.istore 6, 2) := by decide +kernel
theorem dL_law_361 : decode cL_law 361 = .ok (.aload_n 2, 1) := by decide +kernel
theorem dL_law_362 : decode cL_law 362 = .ok (.invokevirtual 90, 3) := by decide +kernel
theorem dL_law_365 : decode cL_law 365 = .ok (.iload 5, 2) := by decide +kernel
theorem dL_law_367 : decode cL_law 367 = .ok (.if_icmp .eq 5, 3) := by decide +kernel
theorem dL_law_370 : decode cL_law 370 = .ok (.iconst 0, 1) := by decide +kernel
theorem dL_law_371 : decode cL_law 371 = .ok (.ireturn, 1) := by decide +kernel
theorem dL_law_372 : decode cL_law 372 = .ok (.iload 5, 2) := by decide +kernel
theorem dL_law_374 : decode cL_law 374 = .ok (.ifCond .ne 22, 3) := by decide +kernel
theorem dL_law_377 : decode cL_law 377 = .ok (.aload_n 3, 1) := by decide +kernel
theorem dL_law_378 : decode cL_law 378 = .ok (.iconst 0, 1) := by decide +kernel
theorem dL_law_379 : decode cL_law 379 = .ok (.laload, 1) := by decide +kernel
theorem dL_law_380 : decode cL_law 380 = .ok (.iload 6, 2) := by decide +kernel
theorem dL_law_382 : decode cL_law 382 = .ok (.ifCond .eq 7, 3) := by decide +kernel
theorem dL_law_385 : decode cL_law 385 = .ok (.lconst 1, 1) := by decide +kernel
theorem dL_law_386 : decode cL_law 386 = .ok (.goto 4, 3) := by decide +kernel
theorem dL_law_389 : decode cL_law 389 = .ok (.lconst 0, 1) := by decide +kernel
theorem dL_law_390 : decode cL_law 390 = .ok (.lcmp, 1) := by decide +kernel
theorem dL_law_391 : decode cL_law 391 = .ok (.ifCond .eq 5, 3) := by decide +kernel
theorem dL_law_394 : decode cL_law 394 = .ok (.iconst 0, 1) := by decide +kernel
theorem dL_law_395 : decode cL_law 395 = .ok (.ireturn, 1) := by decide +kernel
theorem dL_law_396 : decode cL_law 396 = .ok (.goto 1118, 3) := by decide +kernel
theorem dL_law_399 : decode cL_law 399 = .ok (.aload_n 1, 1) := by decide +kernel
theorem dL_law_400 : decode cL_law 400 = .ok (.aload_n 0, 1) := by decide +kernel
theorem dL_law_401 : decode cL_law 401 = .ok (.iload 4, 2) := by decide +kernel
theorem dL_law_403 : decode cL_law 403 = .ok (.iconst 1, 1) := by decide +kernel
theorem dL_law_404 : decode cL_law 404 = .ok (.iadd, 1) := by decide +kernel
theorem dL_law_405 : decode cL_law 405 = .ok (.iaload, 1) := by decide +kernel
theorem dL_law_406 : decode cL_law 406 = .ok (.aload_n 0, 1) := by decide +kernel
theorem dL_law_407 : decode cL_law 407 = .ok (.iload 4, 2) := by decide +kernel
theorem dL_law_409 : decode cL_law 409 = .ok (.iconst 2, 1) := by decide +kernel
theorem dL_law_410 : decode cL_law 410 = .ok (.iadd, 1) := by decide +kernel
theorem dL_law_411 : decode cL_law 411 = .ok (.iaload, 1) := by decide +kernel
theorem dL_law_412 : decode cL_law 412 = .ok (.aload_n 3, 1) := by decide +kernel
theorem dL_law_413 : decode cL_law 413 = .ok (.invokestatic 101, 3) := by decide +kernel
theorem dL_law_416 : decode cL_law 416 = .ok (.istore 5, 2) := by decide +kernel
theorem dL_law_418 : decode cL_law 418 = .ok (.aload_n 2, 1) := by decide +kernel
theorem dL_law_419 : decode cL_law 419 = .ok (.aload_n 0, 1) := by decide +kernel
theorem dL_law_420 : decode cL_law 420 = .ok (.iload 4, 2) := by decide +kernel
theorem dL_law_422 : decode cL_law 422 = .ok (.iconst 1, 1) := by decide +kernel
theorem dL_law_423 : decode cL_law 423 = .ok (.iadd, 1) := by decide +kernel
theorem dL_law_424 : decode cL_law 424 = .ok (.iaload, 1) := by decide +kernel
theorem dL_law_425 : decode cL_law 425 = .ok (.aload_n 0, 1) := by decide +kernel
theorem dL_law_426 : decode cL_law 426 = .ok (.iload 4, 2) := by decide +kernel
theorem dL_law_428 : decode cL_law 428 = .ok (.iconst 2, 1) := by decide +kernel
theorem dL_law_429 : decode cL_law 429 = .ok (.iadd, 1) := by decide +kernel
theorem dL_law_430 : decode cL_law 430 = .ok (.iaload, 1) := by decide +kernel
theorem dL_law_431 : decode cL_law 431 = .ok (.invokevirtual 104, 3) := by decide +kernel
theorem dL_law_434 : decode cL_law 434 = .ok (.istore 6, 2) := by decide +kernel
theorem dL_law_436 : decode cL_law 436 = .ok (.aload_n 2, 1) := by decide +kernel
theorem dL_law_437 : decode cL_law 437 = .ok (.invokevirtual 90, 3) := by decide +kernel
theorem dL_law_440 : decode cL_law 440 = .ok (.iload 5, 2) := by decide +kernel
theorem dL_law_442 : decode cL_law 442 = .ok (.if_icmp .eq 5, 3) := by decide +kernel
theorem dL_law_445 : decode cL_law 445 = .ok (.iconst 0, 1) := by decide +kernel
theorem dL_law_446 : decode cL_law 446 = .ok (.ireturn, 1) := by decide +kernel
theorem dL_law_447 : decode cL_law 447 = .ok (.iload 5, 2) := by decide +kernel
theorem dL_law_449 : decode cL_law 449 = .ok (.ifCond .ne 15, 3) := by decide +kernel
theorem dL_law_452 : decode cL_law 452 = .ok (.aload_n 3, 1) := by decide +kernel
theorem dL_law_453 : decode cL_law 453 = .ok (.iconst 0, 1) := by decide +kernel
theorem dL_law_454 : decode cL_law 454 = .ok (.laload, 1) := by decide +kernel
theorem dL_law_455 : decode cL_law 455 = .ok (.iload 6, 2) := by decide +kernel
theorem dL_law_457 : decode cL_law 457 = .ok (.i2l, 1) := by decide +kernel
theorem dL_law_458 : decode cL_law 458 = .ok (.lcmp, 1) := by decide +kernel
theorem dL_law_459 : decode cL_law 459 = .ok (.ifCond .eq 5, 3) := by decide +kernel
theorem dL_law_462 : decode cL_law 462 = .ok (.iconst 0, 1) := by decide +kernel
theorem dL_law_463 : decode cL_law 463 = .ok (.ireturn, 1) := by decide +kernel
theorem dL_law_464 : decode cL_law 464 = .ok (.goto 1050, 3) := by decide +kernel
theorem dL_law_467 : decode cL_law 467 = .ok (.aload_n 1, 1) := by decide +kernel
theorem dL_law_468 : decode cL_law 468 = .ok (.aload_n 0, 1) := by decide +kernel
theorem dL_law_469 : decode cL_law 469 = .ok (.iload 4, 2) := by decide +kernel
theorem dL_law_471 : decode cL_law 471 = .ok (.iconst 1, 1) := by decide +kernel
theorem dL_law_472 : decode cL_law 472 = .ok (.iadd, 1) := by decide +kernel
theorem dL_law_473 : decode cL_law 473 = .ok (.iaload, 1) := by decide +kernel
theorem dL_law_474 : decode cL_law 474 = .ok (.aload_n 0, 1) := by decide +kernel
theorem dL_law_475 : decode cL_law 475 = .ok (.iload 4, 2) := by decide +kernel
theorem dL_law_477 : decode cL_law 477 = .ok (.iconst 2, 1) := by decide +kernel
theorem dL_law_478 : decode cL_law 478 = .ok (.iadd, 1) := by decide +kernel
theorem dL_law_479 : decode cL_law 479 = .ok (.iaload, 1) := by decide +kernel
theorem dL_law_480 : decode cL_law 480 = .ok (.ifCond .eq 7, 3) := by decide +kernel
theorem dL_law_483 : decode cL_law 483 = .ok (.iconst 1, 1) := by decide +kernel
theorem dL_law_484 : decode cL_law 484 = .ok (.goto 4, 3) := by decide +kernel
theorem dL_law_487 : decode cL_law 487 = .ok (.iconst 0, 1) := by decide +kernel
theorem dL_law_488 : decode cL_law 488 = .ok (.aload_n 0, 1) := by decide +kernel
theorem dL_law_489 : decode cL_law 489 = .ok (.iload 4, 2) := by decide +kernel
theorem dL_law_491 : decode cL_law 491 = .ok (.iconst 3, 1) := by decide +kernel
theorem dL_law_492 : decode cL_law 492 = .ok (.iadd, 1) := by decide +kernel
theorem dL_law_493 : decode cL_law 493 = .ok (.iaload, 1) := by decide +kernel
theorem dL_law_494 : decode cL_law 494 = .ok (.invokestatic 105, 3) := by decide +kernel
theorem dL_law_497 : decode cL_law 497 = .ok (.istore 5, 2) := by decide +kernel
theorem dL_law_499 : decode cL_law 499 = .ok (.aload_n 2, 1) := by decide +kernel
theorem dL_law_500 : decode cL_law 500 = .ok (.aload_n 0, 1) := by decide +kernel
theorem dL_law_501 : decode cL_law 501 = .ok (.iload 4, 2) := by decide +kernel
theorem dL_law_503 : decode cL_law 503 = .ok (.iconst 1, 1) := by decide +kernel
theorem dL_law_504 : decode cL_law 504 = .ok (.iadd, 1) := by decide +kernel
theorem dL_law_505 : decode cL_law 505 = .ok (.iaload, 1) := by decide +kernel
theorem dL_law_506 : decode cL_law 506 = .ok (.aload_n 0, 1) := by decide +kernel
theorem dL_law_507 : decode cL_law 507 = .ok (.iload 4, 2) := by decide +kernel
theorem dL_law_509 : decode cL_law 509 = .ok (.iconst 2, 1) := by decide +kernel
theorem dL_law_510 : decode cL_law 510 = .ok (.iadd, 1) := by decide +kernel
theorem dL_law_511 : decode cL_law 511 = .ok (.iaload, 1) := by decide +kernel
theorem dL_law_512 : decode cL_law 512 = .ok (.ifCond .eq 7, 3) := by decide +kernel
theorem dL_law_515 : decode cL_law 515 = .ok (.iconst 1, 1) := by decide +kernel
theorem dL_law_516 : decode cL_law 516 = .ok (.goto 4, 3) := by decide +kernel
theorem dL_law_519 : decode cL_law 519 = .ok (.iconst 0, 1) := by decide +kernel
theorem dL_law_520 : decode cL_law 520 = .ok (.aload_n 0, 1) := by decide +kernel
theorem dL_law_521 : decode cL_law 521 = .ok (.iload 4, 2) := by decide +kernel
theorem dL_law_523 : decode cL_law 523 = .ok (.iconst 3, 1) := by decide +kernel
theorem dL_law_524 : decode cL_law 524 = .ok (.iadd, 1) := by decide +kernel
theorem dL_law_525 : decode cL_law 525 = .ok (.iaload, 1) := by decide +kernel
theorem dL_law_526 : decode cL_law 526 = .ok (.invokevirtual 108, 3) := by decide +kernel
theorem dL_law_529 : decode cL_law 529 = .ok (.aload_n 2, 1) := by decide +kernel
theorem dL_law_530 : decode cL_law 530 = .ok (.invokevirtual 90, 3) := by decide +kernel
theorem dL_law_533 : decode cL_law 533 = .ok (.iload 5, 2) := by decide +kernel
theorem dL_law_535 : decode cL_law 535 = .ok (.if_icmp .eq 5, 3) := by decide +kernel
theorem dL_law_538 : decode cL_law 538 = .ok (.iconst 0, 1) := by decide +kernel
theorem dL_law_539 : decode cL_law 539 = .ok (.ireturn, 1) := by decide +kernel
theorem dL_law_540 : decode cL_law 540 = .ok (.goto 974, 3) := by decide +kernel
theorem dL_law_543 : decode cL_law 543 = .ok (.aload_n 1, 1) := by decide +kernel
theorem dL_law_544 : decode cL_law 544 = .ok (.aload_n 0, 1) := by decide +kernel
theorem dL_law_545 : decode cL_law 545 = .ok (.iload 4, 2) := by decide +kernel
theorem dL_law_547 : decode cL_law 547 = .ok (.iconst 1, 1) := by decide +kernel
theorem dL_law_548 : decode cL_law 548 = .ok (.iadd, 1) := by decide +kernel
theorem dL_law_549 : decode cL_law 549 = .ok (.iaload, 1) := by decide +kernel
theorem dL_law_550 : decode cL_law 550 = .ok (.aload_n 0, 1) := by decide +kernel
theorem dL_law_551 : decode cL_law 551 = .ok (.iload 4, 2) := by decide +kernel
theorem dL_law_553 : decode cL_law 553 = .ok (.iconst 2, 1) := by decide +kernel
theorem dL_law_554 : decode cL_law 554 = .ok (.iadd, 1) := by decide +kernel
theorem dL_law_555 : decode cL_law 555 = .ok (.iaload, 1) := by decide +kernel
theorem dL_law_556 : decode cL_law 556 = .ok (.aload_n 0, 1) := by decide +kernel
theorem dL_law_557 : decode cL_law 557 = .ok (.iload 4, 2) := by decide +kernel
theorem dL_law_559 : decode cL_law 559 = .ok (.iconst 3, 1) := by decide +kernel
theorem dL_law_560 : decode cL_law 560 = .ok (.iadd, 1) := by decide +kernel
theorem dL_law_561 : decode cL_law 561 = .ok (.iaload, 1) := by decide +kernel
theorem dL_law_562 : decode cL_law 562 = .ok (.ifCond .eq 7, 3) := by decide +kernel
theorem dL_law_565 : decode cL_law 565 = .ok (.iconst 1, 1) := by decide +kernel
theorem dL_law_566 : decode cL_law 566 = .ok (.goto 4, 3) := by decide +kernel
theorem dL_law_569 : decode cL_law 569 = .ok (.iconst 0, 1) := by decide +kernel
theorem dL_law_570 : decode cL_law 570 = .ok (.aload_n 3, 1) := by decide +kernel
theorem dL_law_571 : decode cL_law 571 = .ok (.invokestatic 109, 3) := by decide +kernel
theorem dL_law_574 : decode cL_law 574 = .ok (.istore 5, 2) := by decide +kernel
theorem dL_law_576 : decode cL_law 576 = .ok (.aload_n 2, 1) := by decide +kernel
theorem dL_law_577 : decode cL_law 577 = .ok (.aload_n 0, 1) := by decide +kernel
theorem dL_law_578 : decode cL_law 578 = .ok (.iload 4, 2) := by decide +kernel
theorem dL_law_580 : decode cL_law 580 = .ok (.iconst 1, 1) := by decide +kernel
theorem dL_law_581 : decode cL_law 581 = .ok (.iadd, 1) := by decide +kernel
theorem dL_law_582 : decode cL_law 582 = .ok (.iaload, 1) := by decide +kernel
theorem dL_law_583 : decode cL_law 583 = .ok (.aload_n 0, 1) := by decide +kernel
theorem dL_law_584 : decode cL_law 584 = .ok (.iload 4, 2) := by decide +kernel
theorem dL_law_586 : decode cL_law 586 = .ok (.iconst 2, 1) := by decide +kernel
theorem dL_law_587 : decode cL_law 587 = .ok (.iadd, 1) := by decide +kernel
theorem dL_law_588 : decode cL_law 588 = .ok (.iaload, 1) := by decide +kernel
theorem dL_law_589 : decode cL_law 589 = .ok (.aload_n 0, 1) := by decide +kernel
theorem dL_law_590 : decode cL_law 590 = .ok (.iload 4, 2) := by decide +kernel
theorem dL_law_592 : decode cL_law 592 = .ok (.iconst 3, 1) := by decide +kernel
theorem dL_law_593 : decode cL_law 593 = .ok (.iadd, 1) := by decide +kernel
theorem dL_law_594 : decode cL_law 594 = .ok (.iaload, 1) := by decide +kernel
theorem dL_law_595 : decode cL_law 595 = .ok (.ifCond .eq 7, 3) := by decide +kernel
theorem dL_law_598 : decode cL_law 598 = .ok (.iconst 1, 1) := by decide +kernel
theorem dL_law_599 : decode cL_law 599 = .ok (.goto 4, 3) := by decide +kernel
theorem dL_law_602 : decode cL_law 602 = .ok (.iconst 0, 1) := by decide +kernel
theorem dL_law_603 : decode cL_law 603 = .ok (.invokevirtual 111, 3) := by decide +kernel
theorem dL_law_606 : decode cL_law 606 = .ok (.istore 6, 2) := by decide +kernel
theorem dL_law_608 : decode cL_law 608 = .ok (.aload_n 2, 1) := by decide +kernel
theorem dL_law_609 : decode cL_law 609 = .ok (.invokevirtual 90, 3) := by decide +kernel
theorem dL_law_612 : decode cL_law 612 = .ok (.iload 5, 2) := by decide +kernel
theorem dL_law_614 : decode cL_law 614 = .ok (.if_icmp .eq 5, 3) := by decide +kernel
theorem dL_law_617 : decode cL_law 617 = .ok (.iconst 0, 1) := by decide +kernel
theorem dL_law_618 : decode cL_law 618 = .ok (.ireturn, 1) := by decide +kernel
theorem dL_law_619 : decode cL_law 619 = .ok (.iload 5, 2) := by decide +kernel
theorem dL_law_621 : decode cL_law 621 = .ok (.ifCond .ne 22, 3) := by decide +kernel
theorem dL_law_624 : decode cL_law 624 = .ok (.aload_n 3, 1) := by decide +kernel
theorem dL_law_625 : decode cL_law 625 = .ok (.iconst 0, 1) := by decide +kernel
theorem dL_law_626 : decode cL_law 626 = .ok (.laload, 1) := by decide +kernel
theorem dL_law_627 : decode cL_law 627 = .ok (.iload 6, 2) := by decide +kernel
theorem dL_law_629 : decode cL_law 629 = .ok (.ifCond .eq 7, 3) := by decide +kernel
theorem dL_law_632 : decode cL_law 632 = .ok (.lconst 1, 1) := by decide +kernel
theorem dL_law_633 : decode cL_law 633 = .ok (.goto 4, 3) := by decide +kernel
theorem dL_law_636 : decode cL_law 636 = .ok (.lconst 0, 1) := by decide +kernel
theorem dL_law_637 : decode cL_law 637 = .ok (.lcmp, 1) := by decide +kernel
theorem dL_law_638 : decode cL_law 638 = .ok (.ifCond .eq 5, 3) := by decide +kernel
theorem dL_law_641 : decode cL_law 641 = .ok (.iconst 0, 1) := by decide +kernel
theorem dL_law_642 : decode cL_law 642 = .ok (.ireturn, 1) := by decide +kernel
theorem dL_law_643 : decode cL_law 643 = .ok (.goto 871, 3) := by decide +kernel
theorem dL_law_646 : decode cL_law 646 = .ok (.aload_n 1, 1) := by decide +kernel
theorem dL_law_647 : decode cL_law 647 = .ok (.aload_n 0, 1) := by decide +kernel
theorem dL_law_648 : decode cL_law 648 = .ok (.iload 4, 2) := by decide +kernel
theorem dL_law_650 : decode cL_law 650 = .ok (.iconst 1, 1) := by decide +kernel
theorem dL_law_651 : decode cL_law 651 = .ok (.iadd, 1) := by decide +kernel
theorem dL_law_652 : decode cL_law 652 = .ok (.iaload, 1) := by decide +kernel
theorem dL_law_653 : decode cL_law 653 = .ok (.aload_n 3, 1) := by decide +kernel
theorem dL_law_654 : decode cL_law 654 = .ok (.invokestatic 112, 3) := by decide +kernel
theorem dL_law_657 : decode cL_law 657 = .ok (.istore 5, 2) := by decide +kernel
theorem dL_law_659 : decode cL_law 659 = .ok (.aload_n 2, 1) := by decide +kernel
theorem dL_law_660 : decode cL_law 660 = .ok (.aload_n 0, 1) := by decide +kernel
theorem dL_law_661 : decode cL_law 661 = .ok (.iload 4, 2) := by decide +kernel
theorem dL_law_663 : decode cL_law 663 = .ok (.iconst 1, 1) := by decide +kernel
theorem dL_law_664 : decode cL_law 664 = .ok (.iadd, 1) := by decide +kernel
theorem dL_law_665 : decode cL_law 665 = .ok (.iaload, 1) := by decide +kernel
theorem dL_law_666 : decode cL_law 666 = .ok (.invokevirtual 115, 3) := by decide +kernel
theorem dL_law_669 : decode cL_law 669 = .ok (.istore 6, 2) := by decide +kernel
theorem dL_law_671 : decode cL_law 671 = .ok (.aload_n 2, 1) := by decide +kernel
theorem dL_law_672 : decode cL_law 672 = .ok (.invokevirtual 90, 3) := by decide +kernel
theorem dL_law_675 : decode cL_law 675 = .ok (.iload 5, 2) := by decide +kernel
theorem dL_law_677 : decode cL_law 677 = .ok (.if_icmp .eq 5, 3) := by decide +kernel
theorem dL_law_680 : decode cL_law 680 = .ok (.iconst 0, 1) := by decide +kernel
theorem dL_law_681 : decode cL_law 681 = .ok (.ireturn, 1) := by decide +kernel
theorem dL_law_682 : decode cL_law 682 = .ok (.iload 5, 2) := by decide +kernel
theorem dL_law_684 : decode cL_law 684 = .ok (.ifCond .ne 15, 3) := by decide +kernel
theorem dL_law_687 : decode cL_law 687 = .ok (.aload_n 3, 1) := by decide +kernel
theorem dL_law_688 : decode cL_law 688 = .ok (.iconst 0, 1) := by decide +kernel
theorem dL_law_689 : decode cL_law 689 = .ok (.laload, 1) := by decide +kernel
theorem dL_law_690 : decode cL_law 690 = .ok (.iload 6, 2) := by decide +kernel
theorem dL_law_692 : decode cL_law 692 = .ok (.i2l, 1) := by decide +kernel
theorem dL_law_693 : decode cL_law 693 = .ok (.lcmp, 1) := by decide +kernel
theorem dL_law_694 : decode cL_law 694 = .ok (.ifCond .eq 5, 3) := by decide +kernel
theorem dL_law_697 : decode cL_law 697 = .ok (.iconst 0, 1) := by decide +kernel
theorem dL_law_698 : decode cL_law 698 = .ok (.ireturn, 1) := by decide +kernel
theorem dL_law_699 : decode cL_law 699 = .ok (.goto 815, 3) := by decide +kernel
theorem dL_law_702 : decode cL_law 702 = .ok (.aload_n 1, 1) := by decide +kernel
theorem dL_law_703 : decode cL_law 703 = .ok (.aload_n 0, 1) := by decide +kernel
theorem dL_law_704 : decode cL_law 704 = .ok (.iload 4, 2) := by decide +kernel
theorem dL_law_706 : decode cL_law 706 = .ok (.iconst 1, 1) := by decide +kernel
theorem dL_law_707 : decode cL_law 707 = .ok (.iadd, 1) := by decide +kernel
theorem dL_law_708 : decode cL_law 708 = .ok (.iaload, 1) := by decide +kernel
theorem dL_law_709 : decode cL_law 709 = .ok (.aload_n 3, 1) := by decide +kernel
theorem dL_law_710 : decode cL_law 710 = .ok (.invokestatic 116, 3) := by decide +kernel
theorem dL_law_713 : decode cL_law 713 = .ok (.istore 5, 2) := by decide +kernel
theorem dL_law_715 : decode cL_law 715 = .ok (.aload_n 2, 1) := by decide +kernel
theorem dL_law_716 : decode cL_law 716 = .ok (.aload_n 0, 1) := by decide +kernel
theorem dL_law_717 : decode cL_law 717 = .ok (.iload 4, 2) := by decide +kernel
theorem dL_law_719 : decode cL_law 719 = .ok (.iconst 1, 1) := by decide +kernel
theorem dL_law_720 : decode cL_law 720 = .ok (.iadd, 1) := by decide +kernel
theorem dL_law_721 : decode cL_law 721 = .ok (.iaload, 1) := by decide +kernel
theorem dL_law_722 : decode cL_law 722 = .ok (.invokevirtual 118, 3) := by decide +kernel
theorem dL_law_725 : decode cL_law 725 = .ok (.istore 6, 2) := by decide +kernel
theorem dL_law_727 : decode cL_law 727 = .ok (.aload_n 2, 1) := by decide +kernel
theorem dL_law_728 : decode cL_law 728 = .ok (.invokevirtual 90, 3) := by decide +kernel
theorem dL_law_731 : decode cL_law 731 = .ok (.iload 5, 2) := by decide +kernel
theorem dL_law_733 : decode cL_law 733 = .ok (.if_icmp .eq 5, 3) := by decide +kernel
theorem dL_law_736 : decode cL_law 736 = .ok (.iconst 0, 1) := by decide +kernel
theorem dL_law_737 : decode cL_law 737 = .ok (.ireturn, 1) := by decide +kernel
theorem dL_law_738 : decode cL_law 738 = .ok (.iload 5, 2) := by decide +kernel
theorem dL_law_740 : decode cL_law 740 = .ok (.ifCond .ne 15, 3) := by decide +kernel
theorem dL_law_743 : decode cL_law 743 = .ok (.aload_n 3, 1) := by decide +kernel
theorem dL_law_744 : decode cL_law 744 = .ok (.iconst 0, 1) := by decide +kernel
theorem dL_law_745 : decode cL_law 745 = .ok (.laload, 1) := by decide +kernel
theorem dL_law_746 : decode cL_law 746 = .ok (.iload 6, 2) := by decide +kernel
theorem dL_law_748 : decode cL_law 748 = .ok (.i2l, 1) := by decide +kernel
theorem dL_law_749 : decode cL_law 749 = .ok (.lcmp, 1) := by decide +kernel
theorem dL_law_750 : decode cL_law 750 = .ok (.ifCond .eq 5, 3) := by decide +kernel
theorem dL_law_753 : decode cL_law 753 = .ok (.iconst 0, 1) := by decide +kernel
theorem dL_law_754 : decode cL_law 754 = .ok (.ireturn, 1) := by decide +kernel
theorem dL_law_755 : decode cL_law 755 = .ok (.goto 759, 3) := by decide +kernel
theorem dL_law_758 : decode cL_law 758 = .ok (.aload_n 1, 1) := by decide +kernel
theorem dL_law_759 : decode cL_law 759 = .ok (.aload_n 0, 1) := by decide +kernel
theorem dL_law_760 : decode cL_law 760 = .ok (.iload 4, 2) := by decide +kernel
theorem dL_law_762 : decode cL_law 762 = .ok (.iconst 1, 1) := by decide +kernel
theorem dL_law_763 : decode cL_law 763 = .ok (.iadd, 1) := by decide +kernel
theorem dL_law_764 : decode cL_law 764 = .ok (.iaload, 1) := by decide +kernel
theorem dL_law_765 : decode cL_law 765 = .ok (.aload_n 0, 1) := by decide +kernel
theorem dL_law_766 : decode cL_law 766 = .ok (.iload 4, 2) := by decide +kernel
theorem dL_law_768 : decode cL_law 768 = .ok (.iconst 2, 1) := by decide +kernel
theorem dL_law_769 : decode cL_law 769 = .ok (.iadd, 1) := by decide +kernel
theorem dL_law_770 : decode cL_law 770 = .ok (.iaload, 1) := by decide +kernel
theorem dL_law_771 : decode cL_law 771 = .ok (.invokestatic 119, 3) := by decide +kernel
theorem dL_law_774 : decode cL_law 774 = .ok (.istore 5, 2) := by decide +kernel
theorem dL_law_776 : decode cL_law 776 = .ok (.aload_n 2, 1) := by decide +kernel
theorem dL_law_777 : decode cL_law 777 = .ok (.aload_n 0, 1) := by decide +kernel
theorem dL_law_778 : decode cL_law 778 = .ok (.iload 4, 2) := by decide +kernel
theorem dL_law_780 : decode cL_law 780 = .ok (.iconst 1, 1) := by decide +kernel
theorem dL_law_781 : decode cL_law 781 = .ok (.iadd, 1) := by decide +kernel
theorem dL_law_782 : decode cL_law 782 = .ok (.iaload, 1) := by decide +kernel
theorem dL_law_783 : decode cL_law 783 = .ok (.aload_n 0, 1) := by decide +kernel
theorem dL_law_784 : decode cL_law 784 = .ok (.iload 4, 2) := by decide +kernel
theorem dL_law_786 : decode cL_law 786 = .ok (.iconst 2, 1) := by decide +kernel
theorem dL_law_787 : decode cL_law 787 = .ok (.iadd, 1) := by decide +kernel
theorem dL_law_788 : decode cL_law 788 = .ok (.iaload, 1) := by decide +kernel
theorem dL_law_789 : decode cL_law 789 = .ok (.invokevirtual 122, 3) := by decide +kernel
theorem dL_law_792 : decode cL_law 792 = .ok (.aload_n 2, 1) := by decide +kernel
theorem dL_law_793 : decode cL_law 793 = .ok (.invokevirtual 90, 3) := by decide +kernel
theorem dL_law_796 : decode cL_law 796 = .ok (.iload 5, 2) := by decide +kernel
end
section
theorem dL_law_798 : decode cL_law 798 = .ok (.if_icmp .eq 5, 3) := by decide +kernel
theorem dL_law_801 : decode cL_law 801 = .ok (.iconst 0, 1) := by decide +kernel
theorem dL_law_802 : decode cL_law 802 = .ok (.ireturn, 1) := by decide +kernel
theorem dL_law_803 : decode cL_law 803 = .ok (.goto 711, 3) := by decide +kernel
theorem dL_law_806 : decode cL_law 806 = .ok (.aload_n 1, 1) := by decide +kernel
theorem dL_law_807 : decode cL_law 807 = .ok (.aload_n 0, 1) := by decide +kernel
theorem dL_law_808 : decode cL_law 808 = .ok (.iload 4, 2) := by decide +kernel
theorem dL_law_810 : decode cL_law 810 = .ok (.iconst 1, 1) := by decide +kernel
theorem dL_law_811 : decode cL_law 811 = .ok (.iadd, 1) := by decide +kernel
theorem dL_law_812 : decode cL_law 812 = .ok (.iaload, 1) := by decide +kernel
theorem dL_law_813 : decode cL_law 813 = .ok (.aload_n 0, 1) := by decide +kernel
theorem dL_law_814 : decode cL_law 814 = .ok (.iload 4, 2) := by decide +kernel
theorem dL_law_816 : decode cL_law 816 = .ok (.iconst 2, 1) := by decide +kernel
theorem dL_law_817 : decode cL_law 817 = .ok (.iadd, 1) := by decide +kernel
theorem dL_law_818 : decode cL_law 818 = .ok (.iaload, 1) := by decide +kernel
theorem dL_law_819 : decode cL_law 819 = .ok (.aload_n 3, 1) := by decide +kernel
theorem dL_law_820 : decode cL_law 820 = .ok (.invokestatic 123, 3) := by decide +kernel
theorem dL_law_823 : decode cL_law 823 = .ok (.istore 5, 2) := by decide +kernel
theorem dL_law_825 : decode cL_law 825 = .ok (.aload_n 2, 1) := by decide +kernel
theorem dL_law_826 : decode cL_law 826 = .ok (.aload_n 0, 1) := by decide +kernel
theorem dL_law_827 : decode cL_law 827 = .ok (.iload 4, 2) := by decide +kernel
theorem dL_law_829 : decode cL_law 829 = .ok (.iconst 1, 1) := by decide +kernel
theorem dL_law_830 : decode cL_law 830 = .ok (.iadd, 1) := by decide +kernel
theorem dL_law_831 : decode cL_law 831 = .ok (.iaload, 1) := by decide +kernel
theorem dL_law_832 : decode cL_law 832 = .ok (.aload_n 0, 1) := by decide +kernel
theorem dL_law_833 : decode cL_law 833 = .ok (.iload 4, 2) := by decide +kernel
theorem dL_law_835 : decode cL_law 835 = .ok (.iconst 2, 1) := by decide +kernel
theorem dL_law_836 : decode cL_law 836 = .ok (.iadd, 1) := by decide +kernel
theorem dL_law_837 : decode cL_law 837 = .ok (.iaload, 1) := by decide +kernel
theorem dL_law_838 : decode cL_law 838 = .ok (.invokevirtual 125, 3) := by decide +kernel
theorem dL_law_841 : decode cL_law 841 = .ok (.istore 6, 2) := by decide +kernel
theorem dL_law_843 : decode cL_law 843 = .ok (.aload_n 2, 1) := by decide +kernel
theorem dL_law_844 : decode cL_law 844 = .ok (.invokevirtual 90, 3) := by decide +kernel
theorem dL_law_847 : decode cL_law 847 = .ok (.iload 5, 2) := by decide +kernel
theorem dL_law_849 : decode cL_law 849 = .ok (.if_icmp .eq 5, 3) := by decide +kernel
theorem dL_law_852 : decode cL_law 852 = .ok (.iconst 0, 1) := by decide +kernel
theorem dL_law_853 : decode cL_law 853 = .ok (.ireturn, 1) := by decide +kernel
theorem dL_law_854 : decode cL_law 854 = .ok (.iload 5, 2) := by decide +kernel
theorem dL_law_856 : decode cL_law 856 = .ok (.ifCond .ne 15, 3) := by decide +kernel
theorem dL_law_859 : decode cL_law 859 = .ok (.aload_n 3, 1) := by decide +kernel
theorem dL_law_860 : decode cL_law 860 = .ok (.iconst 0, 1) := by decide +kernel
theorem dL_law_861 : decode cL_law 861 = .ok (.laload, 1) := by decide +kernel
theorem dL_law_862 : decode cL_law 862 = .ok (.iload 6, 2) := by decide +kernel
theorem dL_law_864 : decode cL_law 864 = .ok (.i2l, 1) := by decide +kernel
theorem dL_law_865 : decode cL_law 865 = .ok (.lcmp, 1) := by decide +kernel
theorem dL_law_866 : decode cL_law 866 = .ok (.ifCond .eq 5, 3) := by decide +kernel
theorem dL_law_869 : decode cL_law 869 = .ok (.iconst 0, 1) := by decide +kernel
theorem dL_law_870 : decode cL_law 870 = .ok (.ireturn, 1) := by decide +kernel
theorem dL_law_871 : decode cL_law 871 = .ok (.goto 643, 3) := by decide +kernel
theorem dL_law_874 : decode cL_law 874 = .ok (.aload_n 1, 1) := by decide +kernel
theorem dL_law_875 : decode cL_law 875 = .ok (.aload_n 0, 1) := by decide +kernel
theorem dL_law_876 : decode cL_law 876 = .ok (.iload 4, 2) := by decide +kernel
theorem dL_law_878 : decode cL_law 878 = .ok (.iconst 1, 1) := by decide +kernel
theorem dL_law_879 : decode cL_law 879 = .ok (.iadd, 1) := by decide +kernel
theorem dL_law_880 : decode cL_law 880 = .ok (.iaload, 1) := by decide +kernel
theorem dL_law_881 : decode cL_law 881 = .ok (.aload_n 3, 1) := by decide +kernel
theorem dL_law_882 : decode cL_law 882 = .ok (.invokestatic 126, 3) := by decide +kernel
theorem dL_law_885 : decode cL_law 885 = .ok (.istore 5, 2) := by decide +kernel
theorem dL_law_887 : decode cL_law 887 = .ok (.aload_n 2, 1) := by decide +kernel
theorem dL_law_888 : decode cL_law 888 = .ok (.aload_n 0, 1) := by decide +kernel
theorem dL_law_889 : decode cL_law 889 = .ok (.iload 4, 2) := by decide +kernel
theorem dL_law_891 : decode cL_law 891 = .ok (.iconst 1, 1) := by decide +kernel
theorem dL_law_892 : decode cL_law 892 = .ok (.iadd, 1) := by decide +kernel
theorem dL_law_893 : decode cL_law 893 = .ok (.iaload, 1) := by decide +kernel
theorem dL_law_894 : decode cL_law 894 = .ok (.invokevirtual 128, 3) := by decide +kernel
theorem dL_law_897 : decode cL_law 897 = .ok (.istore 6, 2) := by decide +kernel
theorem dL_law_899 : decode cL_law 899 = .ok (.aload_n 2, 1) := by decide +kernel
theorem dL_law_900 : decode cL_law 900 = .ok (.invokevirtual 90, 3) := by decide +kernel
theorem dL_law_903 : decode cL_law 903 = .ok (.iload 5, 2) := by decide +kernel
theorem dL_law_905 : decode cL_law 905 = .ok (.if_icmp .eq 5, 3) := by decide +kernel
theorem dL_law_908 : decode cL_law 908 = .ok (.iconst 0, 1) := by decide +kernel
theorem dL_law_909 : decode cL_law 909 = .ok (.ireturn, 1) := by decide +kernel
theorem dL_law_910 : decode cL_law 910 = .ok (.iload 5, 2) := by decide +kernel
theorem dL_law_912 : decode cL_law 912 = .ok (.ifCond .ne 15, 3) := by decide +kernel
theorem dL_law_915 : decode cL_law 915 = .ok (.aload_n 3, 1) := by decide +kernel
theorem dL_law_916 : decode cL_law 916 = .ok (.iconst 0, 1) := by decide +kernel
theorem dL_law_917 : decode cL_law 917 = .ok (.laload, 1) := by decide +kernel
theorem dL_law_918 : decode cL_law 918 = .ok (.iload 6, 2) := by decide +kernel
theorem dL_law_920 : decode cL_law 920 = .ok (.i2l, 1) := by decide +kernel
theorem dL_law_921 : decode cL_law 921 = .ok (.lcmp, 1) := by decide +kernel
theorem dL_law_922 : decode cL_law 922 = .ok (.ifCond .eq 5, 3) := by decide +kernel
theorem dL_law_925 : decode cL_law 925 = .ok (.iconst 0, 1) := by decide +kernel
theorem dL_law_926 : decode cL_law 926 = .ok (.ireturn, 1) := by decide +kernel
theorem dL_law_927 : decode cL_law 927 = .ok (.goto 587, 3) := by decide +kernel
theorem dL_law_930 : decode cL_law 930 = .ok (.aload_n 1, 1) := by decide +kernel
theorem dL_law_931 : decode cL_law 931 = .ok (.aload_n 0, 1) := by decide +kernel
theorem dL_law_932 : decode cL_law 932 = .ok (.iload 4, 2) := by decide +kernel
theorem dL_law_934 : decode cL_law 934 = .ok (.iconst 1, 1) := by decide +kernel
theorem dL_law_935 : decode cL_law 935 = .ok (.iadd, 1) := by decide +kernel
theorem dL_law_936 : decode cL_law 936 = .ok (.iaload, 1) := by decide +kernel
theorem dL_law_937 : decode cL_law 937 = .ok (.aload_n 0, 1) := by decide +kernel
theorem dL_law_938 : decode cL_law 938 = .ok (.iload 4, 2) := by decide +kernel
theorem dL_law_940 : decode cL_law 940 = .ok (.iconst 2, 1) := by decide +kernel
theorem dL_law_941 : decode cL_law 941 = .ok (.iadd, 1) := by decide +kernel
theorem dL_law_942 : decode cL_law 942 = .ok (.iaload, 1) := by decide +kernel
theorem dL_law_943 : decode cL_law 943 = .ok (.aload_n 3, 1) := by decide +kernel
theorem dL_law_944 : decode cL_law 944 = .ok (.invokestatic 129, 3) := by decide +kernel
theorem dL_law_947 : decode cL_law 947 = .ok (.istore 5, 2) := by decide +kernel
theorem dL_law_949 : decode cL_law 949 = .ok (.aload_n 2, 1) := by decide +kernel
theorem dL_law_950 : decode cL_law 950 = .ok (.aload_n 0, 1) := by decide +kernel
theorem dL_law_951 : decode cL_law 951 = .ok (.iload 4, 2) := by decide +kernel
theorem dL_law_953 : decode cL_law 953 = .ok (.iconst 1, 1) := by decide +kernel
theorem dL_law_954 : decode cL_law 954 = .ok (.iadd, 1) := by decide +kernel
theorem dL_law_955 : decode cL_law 955 = .ok (.iaload, 1) := by decide +kernel
theorem dL_law_956 : decode cL_law 956 = .ok (.aload_n 0, 1) := by decide +kernel
theorem dL_law_957 : decode cL_law 957 = .ok (.iload 4, 2) := by decide +kernel
theorem dL_law_959 : decode cL_law 959 = .ok (.iconst 2, 1) := by decide +kernel
theorem dL_law_960 : decode cL_law 960 = .ok (.iadd, 1) := by decide +kernel
theorem dL_law_961 : decode cL_law 961 = .ok (.iaload, 1) := by decide +kernel
theorem dL_law_962 : decode cL_law 962 = .ok (.invokevirtual 131, 3) := by decide +kernel
theorem dL_law_965 : decode cL_law 965 = .ok (.istore 6, 2) := by decide +kernel
theorem dL_law_967 : decode cL_law 967 = .ok (.aload_n 2, 1) := by decide +kernel
theorem dL_law_968 : decode cL_law 968 = .ok (.invokevirtual 90, 3) := by decide +kernel
theorem dL_law_971 : decode cL_law 971 = .ok (.iload 5, 2) := by decide +kernel
theorem dL_law_973 : decode cL_law 973 = .ok (.if_icmp .eq 5, 3) := by decide +kernel
theorem dL_law_976 : decode cL_law 976 = .ok (.iconst 0, 1) := by decide +kernel
theorem dL_law_977 : decode cL_law 977 = .ok (.ireturn, 1) := by decide +kernel
theorem dL_law_978 : decode cL_law 978 = .ok (.iload 5, 2) := by decide +kernel
theorem dL_law_980 : decode cL_law 980 = .ok (.ifCond .ne 15, 3) := by decide +kernel
theorem dL_law_983 : decode cL_law 983 = .ok (.aload_n 3, 1) := by decide +kernel
theorem dL_law_984 : decode cL_law 984 = .ok (.iconst 0, 1) := by decide +kernel
theorem dL_law_985 : decode cL_law 985 = .ok (.laload, 1) := by decide +kernel
theorem dL_law_986 : decode cL_law 986 = .ok (.iload 6, 2) := by decide +kernel
theorem dL_law_988 : decode cL_law 988 = .ok (.i2l, 1) := by decide +kernel
theorem dL_law_989 : decode cL_law 989 = .ok (.lcmp, 1) := by decide +kernel
theorem dL_law_990 : decode cL_law 990 = .ok (.ifCond .eq 5, 3) := by decide +kernel
theorem dL_law_993 : decode cL_law 993 = .ok (.iconst 0, 1) := by decide +kernel
theorem dL_law_994 : decode cL_law 994 = .ok (.ireturn, 1) := by decide +kernel
theorem dL_law_995 : decode cL_law 995 = .ok (.goto 519, 3) := by decide +kernel
theorem dL_law_998 : decode cL_law 998 = .ok (.aload_n 1, 1) := by decide +kernel
theorem dL_law_999 : decode cL_law 999 = .ok (.aload_n 0, 1) := by decide +kernel
theorem dL_law_1000 : decode cL_law 1000 = .ok (.iload 4, 2) := by decide +kernel
theorem dL_law_1002 : decode cL_law 1002 = .ok (.iconst 1, 1) := by decide +kernel
theorem dL_law_1003 : decode cL_law 1003 = .ok (.iadd, 1) := by decide +kernel
theorem dL_law_1004 : decode cL_law 1004 = .ok (.iaload, 1) := by decide +kernel
theorem dL_law_1005 : decode cL_law 1005 = .ok (.aload_n 0, 1) := by decide +kernel
theorem dL_law_1006 : decode cL_law 1006 = .ok (.iload 4, 2) := by decide +kernel
theorem dL_law_1008 : decode cL_law 1008 = .ok (.iconst 2, 1) := by decide +kernel
theorem dL_law_1009 : decode cL_law 1009 = .ok (.iadd, 1) := by decide +kernel
theorem dL_law_1010 : decode cL_law 1010 = .ok (.iaload, 1) := by decide +kernel
theorem dL_law_1011 : decode cL_law 1011 = .ok (.aload_n 3, 1) := by decide +kernel
theorem dL_law_1012 : decode cL_law 1012 = .ok (.invokestatic 132, 3) := by decide +kernel
theorem dL_law_1015 : decode cL_law 1015 = .ok (.istore 5, 2) := by decide +kernel
theorem dL_law_1017 : decode cL_law 1017 = .ok (.aload_n 2, 1) := by decide +kernel
theorem dL_law_1018 : decode cL_law 1018 = .ok (.aload_n 0, 1) := by decide +kernel
theorem dL_law_1019 : decode cL_law 1019 = .ok (.iload 4, 2) := by decide +kernel
theorem dL_law_1021 : decode cL_law 1021 = .ok (.iconst 1, 1) := by decide +kernel
theorem dL_law_1022 : decode cL_law 1022 = .ok (.iadd, 1) := by decide +kernel
theorem dL_law_1023 : decode cL_law 1023 = .ok (.iaload, 1) := by decide +kernel
theorem dL_law_1024 : decode cL_law 1024 = .ok (.aload_n 0, 1) := by decide +kernel
theorem dL_law_1025 : decode cL_law 1025 = .ok (.iload 4, 2) := by decide +kernel
theorem dL_law_1027 : decode cL_law 1027 = .ok (.iconst 2, 1) := by decide +kernel
theorem dL_law_1028 : decode cL_law 1028 = .ok (.iadd, 1) := by decide +kernel
theorem dL_law_1029 : decode cL_law 1029 = .ok (.iaload, 1) := by decide +kernel
theorem dL_law_1030 : decode cL_law 1030 = .ok (.invokevirtual 134, 3) := by decide +kernel
theorem dL_law_1033 : decode cL_law 1033 = .ok (.istore 6, 2) := by decide +kernel
theorem dL_law_1035 : decode cL_law 1035 = .ok (.aload_n 2, 1) := by decide +kernel
theorem dL_law_1036 : decode cL_law 1036 = .ok (.invokevirtual 90, 3) := by decide +kernel
theorem dL_law_1039 : decode cL_law 1039 = .ok (.iload 5, 2) := by decide +kernel
theorem dL_law_1041 : decode cL_law 1041 = .ok (.if_icmp .eq 5, 3) := by decide +kernel
theorem dL_law_1044 : decode cL_law 1044 = .ok (.iconst 0, 1) := by decide +kernel
theorem dL_law_1045 : decode cL_law 1045 = .ok (.ireturn, 1) := by decide +kernel
theorem dL_law_1046 : decode cL_law 1046 = .ok (.iload 5, 2) := by decide +kernel
theorem dL_law_1048 : decode cL_law 1048 = .ok (.ifCond .ne 15, 3) := by decide +kernel
theorem dL_law_1051 : decode cL_law 1051 = .ok (.aload_n 3, 1) := by decide +kernel
theorem dL_law_1052 : decode cL_law 1052 = .ok (.iconst 0, 1) := by decide +kernel
theorem dL_law_1053 : decode cL_law 1053 = .ok (.laload, 1) := by decide +kernel
theorem dL_law_1054 : decode cL_law 1054 = .ok (.iload 6, 2) := by decide +kernel
theorem dL_law_1056 : decode cL_law 1056 = .ok (.i2l, 1) := by decide +kernel
theorem dL_law_1057 : decode cL_law 1057 = .ok (.lcmp, 1) := by decide +kernel
theorem dL_law_1058 : decode cL_law 1058 = .ok (.ifCond .eq 5, 3) := by decide +kernel
theorem dL_law_1061 : decode cL_law 1061 = .ok (.iconst 0, 1) := by decide +kernel
theorem dL_law_1062 : decode cL_law 1062 = .ok (.ireturn, 1) := by decide +kernel
theorem dL_law_1063 : decode cL_law 1063 = .ok (.goto 451, 3) := by decide +kernel
theorem dL_law_1066 : decode cL_law 1066 = .ok (.aload_n 1, 1) := by decide +kernel
theorem dL_law_1067 : decode cL_law 1067 = .ok (.aload_n 0, 1) := by decide +kernel
theorem dL_law_1068 : decode cL_law 1068 = .ok (.iload 4, 2) := by decide +kernel
theorem dL_law_1070 : decode cL_law 1070 = .ok (.iconst 1, 1) := by decide +kernel
theorem dL_law_1071 : decode cL_law 1071 = .ok (.iadd, 1) := by decide +kernel
theorem dL_law_1072 : decode cL_law 1072 = .ok (.iaload, 1) := by decide +kernel
theorem dL_law_1073 : decode cL_law 1073 = .ok (.aload_n 0, 1) := by decide +kernel
theorem dL_law_1074 : decode cL_law 1074 = .ok (.iload 4, 2) := by decide +kernel
theorem dL_law_1076 : decode cL_law 1076 = .ok (.iconst 2, 1) := by decide +kernel
theorem dL_law_1077 : decode cL_law 1077 = .ok (.iadd, 1) := by decide +kernel
theorem dL_law_1078 : decode cL_law 1078 = .ok (.iaload, 1) := by decide +kernel
theorem dL_law_1079 : decode cL_law 1079 = .ok (.aload_n 3, 1) := by decide +kernel
theorem dL_law_1080 : decode cL_law 1080 = .ok (.invokestatic 135, 3) := by decide +kernel
theorem dL_law_1083 : decode cL_law 1083 = .ok (.istore 5, 2) := by decide +kernel
theorem dL_law_1085 : decode cL_law 1085 = .ok (.aload_n 2, 1) := by decide +kernel
theorem dL_law_1086 : decode cL_law 1086 = .ok (.aload_n 0, 1) := by decide +kernel
theorem dL_law_1087 : decode cL_law 1087 = .ok (.iload 4, 2) := by decide +kernel
theorem dL_law_1089 : decode cL_law 1089 = .ok (.iconst 1, 1) := by decide +kernel
theorem dL_law_1090 : decode cL_law 1090 = .ok (.iadd, 1) := by decide +kernel
theorem dL_law_1091 : decode cL_law 1091 = .ok (.iaload, 1) := by decide +kernel
theorem dL_law_1092 : decode cL_law 1092 = .ok (.aload_n 0, 1) := by decide +kernel
theorem dL_law_1093 : decode cL_law 1093 = .ok (.iload 4, 2) := by decide +kernel
theorem dL_law_1095 : decode cL_law 1095 = .ok (.iconst 2, 1) := by decide +kernel
theorem dL_law_1096 : decode cL_law 1096 = .ok (.iadd, 1) := by decide +kernel
theorem dL_law_1097 : decode cL_law 1097 = .ok (.iaload, 1) := by decide +kernel
theorem dL_law_1098 : decode cL_law 1098 = .ok (.invokevirtual 137, 3) := by decide +kernel
theorem dL_law_1101 : decode cL_law 1101 = .ok (.istore 6, 2) := by decide +kernel
theorem dL_law_1103 : decode cL_law 1103 = .ok (.aload_n 2, 1) := by decide +kernel
theorem dL_law_1104 : decode cL_law 1104 = .ok (.invokevirtual 90, 3) := by decide +kernel
theorem dL_law_1107 : decode cL_law 1107 = .ok (.iload 5, 2) := by decide +kernel
theorem dL_law_1109 : decode cL_law 1109 = .ok (.if_icmp .eq 5, 3) := by decide +kernel
theorem dL_law_1112 : decode cL_law 1112 = .ok (.iconst 0, 1) := by decide +kernel
theorem dL_law_1113 : decode cL_law 1113 = .ok (.ireturn, 1) := by decide +kernel
theorem dL_law_1114 : decode cL_law 1114 = .ok (.iload 5, 2) := by decide +kernel
theorem dL_law_1116 : decode cL_law 1116 = .ok (.ifCond .ne 15, 3) := by decide +kernel
theorem dL_law_1119 : decode cL_law 1119 = .ok (.aload_n 3, 1) := by decide +kernel
theorem dL_law_1120 : decode cL_law 1120 = .ok (.iconst 0, 1) := by decide +kernel
theorem dL_law_1121 : decode cL_law 1121 = .ok (.laload, 1) := by decide +kernel
theorem dL_law_1122 : decode cL_law 1122 = .ok (.iload 6, 2) := by decide +kernel
theorem dL_law_1124 : decode cL_law 1124 = .ok (.i2l, 1) := by decide +kernel
theorem dL_law_1125 : decode cL_law 1125 = .ok (.lcmp, 1) := by decide +kernel
theorem dL_law_1126 : decode cL_law 1126 = .ok (.ifCond .eq 5, 3) := by decide +kernel
theorem dL_law_1129 : decode cL_law 1129 = .ok (.iconst 0, 1) := by decide +kernel
theorem dL_law_1130 : decode cL_law 1130 = .ok (.ireturn, 1) := by decide +kernel
theorem dL_law_1131 : decode cL_law 1131 = .ok (.goto 383, 3) := by decide +kernel
theorem dL_law_1134 : decode cL_law 1134 = .ok (.aload_n 1, 1) := by decide +kernel
theorem dL_law_1135 : decode cL_law 1135 = .ok (.aload_n 0, 1) := by decide +kernel
theorem dL_law_1136 : decode cL_law 1136 = .ok (.iload 4, 2) := by decide +kernel
theorem dL_law_1138 : decode cL_law 1138 = .ok (.iconst 1, 1) := by decide +kernel
theorem dL_law_1139 : decode cL_law 1139 = .ok (.iadd, 1) := by decide +kernel
theorem dL_law_1140 : decode cL_law 1140 = .ok (.iaload, 1) := by decide +kernel
theorem dL_law_1141 : decode cL_law 1141 = .ok (.aload_n 3, 1) := by decide +kernel
theorem dL_law_1142 : decode cL_law 1142 = .ok (.invokestatic 138, 3) := by decide +kernel
theorem dL_law_1145 : decode cL_law 1145 = .ok (.istore 5, 2) := by decide +kernel
theorem dL_law_1147 : decode cL_law 1147 = .ok (.aload_n 2, 1) := by decide +kernel
theorem dL_law_1148 : decode cL_law 1148 = .ok (.aload_n 0, 1) := by decide +kernel
theorem dL_law_1149 : decode cL_law 1149 = .ok (.iload 4, 2) := by decide +kernel
theorem dL_law_1151 : decode cL_law 1151 = .ok (.iconst 1, 1) := by decide +kernel
theorem dL_law_1152 : decode cL_law 1152 = .ok (.iadd, 1) := by decide +kernel
theorem dL_law_1153 : decode cL_law 1153 = .ok (.iaload, 1) := by decide +kernel
theorem dL_law_1154 : decode cL_law 1154 = .ok (.invokevirtual 140, 3) := by decide +kernel
theorem dL_law_1157 : decode cL_law 1157 = .ok (.istore 6, 2) := by decide +kernel
theorem dL_law_1159 : decode cL_law 1159 = .ok (.aload_n 2, 1) := by decide +kernel
theorem dL_law_1160 : decode cL_law 1160 = .ok (.invokevirtual 90, 3) := by decide +kernel
theorem dL_law_1163 : decode cL_law 1163 = .ok (.iload 5, 2) := by decide +kernel
theorem dL_law_1165 : decode cL_law 1165 = .ok (.if_icmp .eq 5, 3) := by decide +kernel
theorem dL_law_1168 : decode cL_law 1168 = .ok (.iconst 0, 1) := by decide +kernel
theorem dL_law_1169 : decode cL_law 1169 = .ok (.ireturn, 1) := by decide +kernel
theorem dL_law_1170 : decode cL_law 1170 = .ok (.iload 5, 2) := by decide +kernel
theorem dL_law_1172 : decode cL_law 1172 = .ok (.ifCond .ne 15, 3) := by decide +kernel
theorem dL_law_1175 : decode cL_law 1175 = .ok (.aload_n 3, 1) := by decide +kernel
theorem dL_law_1176 : decode cL_law 1176 = .ok (.iconst 0, 1) := by decide +kernel
theorem dL_law_1177 : decode cL_law 1177 = .ok (.laload, 1) := by decide +kernel
theorem dL_law_1178 : decode cL_law 1178 = .ok (.iload 6, 2) := by decide +kernel
theorem dL_law_1180 : decode cL_law 1180 = .ok (.i2l, 1) := by decide +kernel
theorem dL_law_1181 : decode cL_law 1181 = .ok (.lcmp, 1) := by decide +kernel
theorem dL_law_1182 : decode cL_law 1182 = .ok (.ifCond .eq 5, 3) := by decide +kernel
theorem dL_law_1185 : decode cL_law 1185 = .ok (.iconst 0, 1) := by decide +kernel
theorem dL_law_1186 : decode cL_law 1186 = .ok (.ireturn, 1) := by decide +kernel
theorem dL_law_1187 : decode cL_law 1187 = .ok (.goto 327, 3) := by decide +kernel
theorem dL_law_1190 : decode cL_law 1190 = .ok (.aload_n 1, 1) := by decide +kernel
theorem dL_law_1191 : decode cL_law 1191 = .ok (.aload_n 0, 1) := by decide +kernel
theorem dL_law_1192 : decode cL_law 1192 = .ok (.iload 4, 2) := by decide +kernel
theorem dL_law_1194 : decode cL_law 1194 = .ok (.iconst 1, 1) := by decide +kernel
theorem dL_law_1195 : decode cL_law 1195 = .ok (.iadd, 1) := by decide +kernel
theorem dL_law_1196 : decode cL_law 1196 = .ok (.iaload, 1) := by decide +kernel
theorem dL_law_1197 : decode cL_law 1197 = .ok (.aload_n 0, 1) := by decide +kernel
theorem dL_law_1198 : decode cL_law 1198 = .ok (.iload 4, 2) := by decide +kernel
theorem dL_law_1200 : decode cL_law 1200 = .ok (.iconst 2, 1) := by decide +kernel
theorem dL_law_1201 : decode cL_law 1201 = .ok (.iadd, 1) := by decide +kernel
theorem dL_law_1202 : decode cL_law 1202 = .ok (.iaload, 1) := by decide +kernel
theorem dL_law_1203 : decode cL_law 1203 = .ok (.aload_n 3, 1) := by decide +kernel
theorem dL_law_1204 : decode cL_law 1204 = .ok (.invokestatic 141, 3) := by decide +kernel
theorem dL_law_1207 : decode cL_law 1207 = .ok (.istore 5, 2) := by decide +kernel
theorem dL_law_1209 : decode cL_law 1209 = .ok (.aload_n 2, 1) := by decide +kernel
theorem dL_law_1210 : decode cL_law 1210 = .ok (.aload_n 0, 1) := by decide +kernel
theorem dL_law_1211 : decode cL_law 1211 = .ok (.iload 4, 2) := by decide +kernel
theorem dL_law_1213 : decode cL_law 1213 = .ok (.iconst 1, 1) := by decide +kernel
theorem dL_law_1214 : decode cL_law 1214 = .ok (.iadd, 1) := by decide +kernel
theorem dL_law_1215 : decode cL_law 1215 = .ok (.iaload, 1) := by decide +kernel
theorem dL_law_1216 : decode cL_law 1216 = .ok (.aload_n 0, 1) := by decide +kernel
theorem dL_law_1217 : decode cL_law 1217 = .ok (.iload 4, 2) := by decide +kernel
theorem dL_law_1219 : decode cL_law 1219 = .ok (.iconst 2, 1) := by decide +kernel
theorem dL_law_1220 : decode cL_law 1220 = .ok (.iadd, 1) := by decide +kernel
theorem dL_law_1221 : decode cL_law 1221 = .ok (.iaload, 1) := by decide +kernel
theorem dL_law_1222 : decode cL_law 1222 = .ok (.invokevirtual 143, 3) := by decide +kernel
theorem dL_law_1225 : decode cL_law 1225 = .ok (.istore 6, 2) := by decide +kernel
theorem dL_law_1227 : decode cL_law 1227 = .ok (.aload_n 2, 1) := by decide +kernel
theorem dL_law_1228 : decode cL_law 1228 = .ok (.invokevirtual 90, 3) := by decide +kernel
theorem dL_law_1231 : decode cL_law 1231 = .ok (.iload 5, 2) := by decide +kernel
theorem dL_law_1233 : decode cL_law 1233 = .ok (.if_icmp .eq 5, 3) := by decide +kernel
theorem dL_law_1236 : decode cL_law 1236 = .ok (.iconst 0, 1) := by decide +kernel
theorem dL_law_1237 : decode cL_law 1237 = .ok (.ireturn, 1) := by decide +kernel
theorem dL_law_1238 : decode cL_law 1238 = .ok (.iload 5, 2) := by decide +kernel
theorem dL_law_1240 : decode cL_law 1240 = .ok (.ifCond .ne 15, 3) := by decide +kernel
theorem dL_law_1243 : decode cL_law 1243 = .ok (.aload_n 3, 1) := by decide +kernel
theorem dL_law_1244 : decode cL_law 1244 = .ok (.iconst 0, 1) := by decide +kernel
theorem dL_law_1245 : decode cL_law 1245 = .ok (.laload, 1) := by decide +kernel
theorem dL_law_1246 : decode cL_law 1246 = .ok (.iload 6, 2) := by decide +kernel
theorem dL_law_1248 : decode cL_law 1248 = .ok (.i2l, 1) := by decide +kernel
theorem dL_law_1249 : decode cL_law 1249 = .ok (.lcmp, 1) := by decide +kernel
theorem dL_law_1250 : decode cL_law 1250 = .ok (.ifCond .eq 5, 3) := by decide +kernel
theorem dL_law_1253 : decode cL_law 1253 = .ok (.iconst 0, 1) := by decide +kernel
theorem dL_law_1254 : decode cL_law 1254 = .ok (.ireturn, 1) := by decide +kernel
theorem dL_law_1255 : decode cL_law 1255 = .ok (.goto 259, 3) := by decide +kernel
theorem dL_law_1258 : decode cL_law 1258 = .ok (.aload_n 1, 1) := by decide +kernel
theorem dL_law_1259 : decode cL_law 1259 = .ok (.aload_n 0, 1) := by decide +kernel
theorem dL_law_1260 : decode cL_law 1260 = .ok (.iload 4, 2) := by decide +kernel
theorem dL_law_1262 : decode cL_law 1262 = .ok (.iconst 1, 1) := by decide +kernel
theorem dL_law_1263 : decode cL_law 1263 = .ok (.iadd, 1) := by decide +kernel
theorem dL_law_1264 : decode cL_law 1264 = .ok (.iaload, 1) := by decide +kernel
theorem dL_law_1265 : decode cL_law 1265 = .ok (.aload_n 3, 1) := by decide +kernel
theorem dL_law_1266 : decode cL_law 1266 = .ok (.invokestatic 144, 3) := by decide +kernel
theorem dL_law_1269 : decode cL_law 1269 = .ok (.istore 5, 2) := by decide +kernel
theorem dL_law_1271 : decode cL_law 1271 = .ok (.aload_n 2, 1) := by decide +kernel
theorem dL_law_1272 : decode cL_law 1272 = .ok (.aload_n 0, 1) := by decide +kernel
theorem dL_law_1273 : decode cL_law 1273 = .ok (.iload 4, 2) := by decide +kernel
theorem dL_law_1275 : decode cL_law 1275 = .ok (.iconst 1, 1) := by decide +kernel
theorem dL_law_1276 : decode cL_law 1276 = .ok (.iadd, 1) := by decide +kernel
theorem dL_law_1277 : decode cL_law 1277 = .ok (.iaload, 1) := by decide +kernel
theorem dL_law_1278 : decode cL_law 1278 = .ok (.invokevirtual 146, 3) := by decide +kernel
theorem dL_law_1281 : decode cL_law 1281 = .ok (.istore 6, 2) := by decide +kernel
theorem dL_law_1283 : decode cL_law 1283 = .ok (.aload_n 2, 1) := by decide +kernel
theorem dL_law_1284 : decode cL_law 1284 = .ok (.invokevirtual 90, 3) := by decide +kernel
theorem dL_law_1287 : decode cL_law 1287 = .ok (.iload 5, 2) := by decide +kernel
theorem dL_law_1289 : decode cL_law 1289 = .ok (.if_icmp .eq 5, 3) := by decide +kernel
theorem dL_law_1292 : decode cL_law 1292 = .ok (.iconst 0, 1) := by decide +kernel
theorem dL_law_1293 : decode cL_law 1293 = .ok (.ireturn, 1) := by decide +kernel
theorem dL_law_1294 : decode cL_law 1294 = .ok (.iload 5, 2) := by decide +kernel
theorem dL_law_1296 : decode cL_law 1296 = .ok (.ifCond .ne 15, 3) := by decide +kernel
theorem dL_law_1299 : decode cL_law 1299 = .ok (.aload_n 3, 1) := by decide +kernel
theorem dL_law_1300 : decode cL_law 1300 = .ok (.iconst 0, 1) := by decide +kernel
theorem dL_law_1301 : decode cL_law 1301 = .ok (.laload, 1) := by decide +kernel
theorem dL_law_1302 : decode cL_law 1302 = .ok (.iload 6, 2) := by decide +kernel
theorem dL_law_1304 : decode cL_law 1304 = .ok (.i2l, 1) := by decide +kernel
theorem dL_law_1305 : decode cL_law 1305 = .ok (.lcmp, 1) := by decide +kernel
theorem dL_law_1306 : decode cL_law 1306 = .ok (.ifCond .eq 5, 3) := by decide +kernel
theorem dL_law_1309 : decode cL_law 1309 = .ok (.iconst 0, 1) := by decide +kernel
theorem dL_law_1310 : decode cL_law 1310 = .ok (.ireturn, 1) := by decide +kernel
theorem dL_law_1311 : decode cL_law 1311 = .ok (.goto 203, 3) := by decide +kernel
theorem dL_law_1314 : decode cL_law 1314 = .ok (.aload_n 1, 1) := by decide +kernel
theorem dL_law_1315 : decode cL_law 1315 = .ok (.aload_n 0, 1) := by decide +kernel
theorem dL_law_1316 : decode cL_law 1316 = .ok (.iload 4, 2) := by decide +kernel
theorem dL_law_1318 : decode cL_law 1318 = .ok (.iconst 1, 1) := by decide +kernel
theorem dL_law_1319 : decode cL_law 1319 = .ok (.iadd, 1) := by decide +kernel
theorem dL_law_1320 : decode cL_law 1320 = .ok (.iaload, 1) := by decide +kernel
theorem dL_law_1321 : decode cL_law 1321 = .ok (.aload_n 3, 1) := by decide +kernel
theorem dL_law_1322 : decode cL_law 1322 = .ok (.invokestatic 147, 3) := by decide +kernel
theorem dL_law_1325 : decode cL_law 1325 = .ok (.istore 5, 2) := by decide +kernel
theorem dL_law_1327 : decode cL_law 1327 = .ok (.aload_n 2, 1) := by decide +kernel
theorem dL_law_1328 : decode cL_law 1328 = .ok (.aload_n 0, 1) := by decide +kernel
theorem dL_law_1329 : decode cL_law 1329 = .ok (.iload 4, 2) := by decide +kernel
theorem dL_law_1331 : decode cL_law 1331 = .ok (.iconst 1, 1) := by decide +kernel
theorem dL_law_1332 : decode cL_law 1332 = .ok (.iadd, 1) := by decide +kernel
theorem dL_law_1333 : decode cL_law 1333 = .ok (.iaload, 1) := by decide +kernel
theorem dL_law_1334 : decode cL_law 1334 = .ok (.invokevirtual 149, 3) := by decide +kernel
theorem dL_law_1337 : decode cL_law 1337 = .ok (.istore 6, 2) := by decide +kernel
theorem dL_law_1339 : decode cL_law 1339 = .ok (.aload_n 2, 1) := by decide +kernel
theorem dL_law_1340 : decode cL_law 1340 = .ok (.invokevirtual 90, 3) := by decide +kernel
theorem dL_law_1343 : decode cL_law 1343 = .ok (.iload 5, 2) := by decide +kernel
theorem dL_law_1345 : decode cL_law 1345 = .ok (.if_icmp .eq 5, 3) := by decide +kernel
theorem dL_law_1348 : decode cL_law 1348 = .ok (.iconst 0, 1) := by decide +kernel
theorem dL_law_1349 : decode cL_law 1349 = .ok (.ireturn, 1) := by decide +kernel
theorem dL_law_1350 : decode cL_law 1350 = .ok (.iload 5, 2) := by decide +kernel
theorem dL_law_1352 : decode cL_law 1352 = .ok (.ifCond .ne 15, 3) := by decide +kernel
theorem dL_law_1355 : decode cL_law 1355 = .ok (.aload_n 3, 1) := by decide +kernel
theorem dL_law_1356 : decode cL_law 1356 = .ok (.iconst 0, 1) := by decide +kernel
theorem dL_law_1357 : decode cL_law 1357 = .ok (.laload, 1) := by decide +kernel
theorem dL_law_1358 : decode cL_law 1358 = .ok (.iload 6, 2) := by decide +kernel
theorem dL_law_1360 : decode cL_law 1360 = .ok (.i2l, 1) := by decide +kernel
theorem dL_law_1361 : decode cL_law 1361 = .ok (.lcmp, 1) := by decide +kernel
theorem dL_law_1362 : decode cL_law 1362 = .ok (.ifCond .eq 5, 3) := by decide +kernel
theorem dL_law_1365 : decode cL_law 1365 = .ok (.iconst 0, 1) := by decide +kernel
theorem dL_law_1366 : decode cL_law 1366 = .ok (.ireturn, 1) := by decide +kernel
theorem dL_law_1367 : decode cL_law 1367 = .ok (.goto 147, 3) := by decide +kernel
theorem dL_law_1370 : decode cL_law 1370 = .ok (.aload_n 1, 1) := by decide +kernel
theorem dL_law_1371 : decode cL_law 1371 = .ok (.aload_n 0, 1) := by decide +kernel
theorem dL_law_1372 : decode cL_law 1372 = .ok (.iload 4, 2) := by decide +kernel
theorem dL_law_1374 : decode cL_law 1374 = .ok (.iconst 1, 1) := by decide +kernel
theorem dL_law_1375 : decode cL_law 1375 = .ok (.iadd, 1) := by decide +kernel
theorem dL_law_1376 : decode cL_law 1376 = .ok (.iaload, 1) := by decide +kernel
theorem dL_law_1377 : decode cL_law 1377 = .ok (.aload_n 0, 1) := by decide +kernel
theorem dL_law_1378 : decode cL_law 1378 = .ok (.iload 4, 2) := by decide +kernel
theorem dL_law_1380 : decode cL_law 1380 = .ok (.iconst 2, 1) := by decide +kernel
theorem dL_law_1381 : decode cL_law 1381 = .ok (.iadd, 1) := by decide +kernel
theorem dL_law_1382 : decode cL_law 1382 = .ok (.iaload, 1) := by decide +kernel
theorem dL_law_1383 : decode cL_law 1383 = .ok (.aload_n 3, 1) := by decide +kernel
theorem dL_law_1384 : decode cL_law 1384 = .ok (.invokestatic 150, 3) := by decide +kernel
theorem dL_law_1387 : decode cL_law 1387 = .ok (.istore 5, 2) := by decide +kernel
theorem dL_law_1389 : decode cL_law 1389 = .ok (.aload_n 2, 1) := by decide +kernel
theorem dL_law_1390 : decode cL_law 1390 = .ok (.aload_n 0, 1) := by decide +kernel
theorem dL_law_1391 : decode cL_law 1391 = .ok (.iload 4, 2) := by decide +kernel
theorem dL_law_1393 : decode cL_law 1393 = .ok (.iconst 1, 1) := by decide +kernel
theorem dL_law_1394 : decode cL_law 1394 = .ok (.iadd, 1) := by decide +kernel
theorem dL_law_1395 : decode cL_law 1395 = .ok (.iaload, 1) := by decide +kernel
theorem dL_law_1396 : decode cL_law 1396 = .ok (.aload_n 0, 1) := by decide +kernel
theorem dL_law_1397 : decode cL_law 1397 = .ok (.iload 4, 2) := by decide +kernel
theorem dL_law_1399 : decode cL_law 1399 = .ok (.iconst 2, 1) := by decide +kernel
theorem dL_law_1400 : decode cL_law 1400 = .ok (.iadd, 1) := by decide +kernel
theorem dL_law_1401 : decode cL_law 1401 = .ok (.iaload, 1) := by decide +kernel
theorem dL_law_1402 : decode cL_law 1402 = .ok (.invokevirtual 152, 3) := by decide +kernel
theorem dL_law_1405 : decode cL_law 1405 = .ok (.istore 6, 2) := by decide +kernel
theorem dL_law_1407 : decode cL_law 1407 = .ok (.aload_n 2, 1) := by decide +kernel
theorem dL_law_1408 : decode cL_law 1408 = .ok (.invokevirtual 90, 3) := by decide +kernel
theorem dL_law_1411 : decode cL_law 1411 = .ok (.iload 5, 2) := by decide +kernel
theorem dL_law_1413 : decode cL_law 1413 = .ok (.if_icmp .eq 5, 3) := by decide +kernel
theorem dL_law_1416 : decode cL_law 1416 = .ok (.iconst 0, 1) := by decide +kernel
theorem dL_law_1417 : decode cL_law 1417 = .ok (.ireturn, 1) := by decide +kernel
theorem dL_law_1418 : decode cL_law 1418 = .ok (.iload 5, 2) := by decide +kernel
theorem dL_law_1420 : decode cL_law 1420 = .ok (.ifCond .ne 15, 3) := by decide +kernel
theorem dL_law_1423 : decode cL_law 1423 = .ok (.aload_n 3, 1) := by decide +kernel
theorem dL_law_1424 : decode cL_law 1424 = .ok (.iconst 0, 1) := by decide +kernel
theorem dL_law_1425 : decode cL_law 1425 = .ok (.laload, 1) := by decide +kernel
theorem dL_law_1426 : decode cL_law 1426 = .ok (.iload 6, 2) := by decide +kernel
theorem dL_law_1428 : decode cL_law 1428 = .ok (.i2l, 1) := by decide +kernel
theorem dL_law_1429 : decode cL_law 1429 = .ok (.lcmp, 1) := by decide +kernel
theorem dL_law_1430 : decode cL_law 1430 = .ok (.ifCond .eq 5, 3) := by decide +kernel
theorem dL_law_1433 : decode cL_law 1433 = .ok (.iconst 0, 1) := by decide +kernel
theorem dL_law_1434 : decode cL_law 1434 = .ok (.ireturn, 1) := by decide +kernel
theorem dL_law_1435 : decode cL_law 1435 = .ok (.goto 79, 3) := by decide +kernel
theorem dL_law_1438 : decode cL_law 1438 = .ok (.aload_n 1, 1) := by decide +kernel
theorem dL_law_1439 : decode cL_law 1439 = .ok (.invokevirtual 153, 3) := by decide +kernel
theorem dL_law_1442 : decode cL_law 1442 = .ok (.aload_n 2, 1) := by decide +kernel
theorem dL_law_1443 : decode cL_law 1443 = .ok (.invokevirtual 156, 3) := by decide +kernel
theorem dL_law_1446 : decode cL_law 1446 = .ok (.if_icmp .eq 68, 3) := by decide +kernel
theorem dL_law_1449 : decode cL_law 1449 = .ok (.iconst 0, 1) := by decide +kernel
theorem dL_law_1450 : decode cL_law 1450 = .ok (.ireturn, 1) := by decide +kernel
theorem dL_law_1451 : decode cL_law 1451 = .ok (.aload_n 1, 1) := by decide +kernel
theorem dL_law_1452 : decode cL_law 1452 = .ok (.aload_n 0, 1) := by decide +kernel
theorem dL_law_1453 : decode cL_law 1453 = .ok (.iload 4, 2) := by decide +kernel
theorem dL_law_1455 : decode cL_law 1455 = .ok (.iconst 1, 1) := by decide +kernel
theorem dL_law_1456 : decode cL_law 1456 = .ok (.iadd, 1) := by decide +kernel
theorem dL_law_1457 : decode cL_law 1457 = .ok (.iaload, 1) := by decide +kernel
theorem dL_law_1458 : decode cL_law 1458 = .ok (.aload_n 3, 1) := by decide +kernel
theorem dL_law_1459 : decode cL_law 1459 = .ok (.invokestatic 157, 3) := by decide +kernel
theorem dL_law_1462 : decode cL_law 1462 = .ok (.istore 5, 2) := by decide +kernel
theorem dL_law_1464 : decode cL_law 1464 = .ok (.aload_n 2, 1) := by decide +kernel
theorem dL_law_1465 : decode cL_law 1465 = .ok (.aload_n 0, 1) := by decide +kernel
theorem dL_law_1466 : decode cL_law 1466 = .ok (.iload 4, 2) := by decide +kernel
theorem dL_law_1468 : decode cL_law 1468 = .ok (.iconst 1, 1) := by decide +kernel
theorem dL_law_1469 : decode cL_law 1469 = .ok (.iadd, 1) := by decide +kernel
theorem dL_law_1470 : decode cL_law 1470 = .ok (.iaload, 1) := by decide +kernel
theorem dL_law_1471 : decode cL_law 1471 = .ok (.invokevirtual 159, 3) := by decide +kernel
theorem dL_law_1474 : decode cL_law 1474 = .ok (.istore 6, 2) := by decide +kernel
theorem dL_law_1476 : decode cL_law 1476 = .ok (.aload_n 2, 1) := by decide +kernel
theorem dL_law_1477 : decode cL_law 1477 = .ok (.invokevirtual 90, 3) := by decide +kernel
theorem dL_law_1480 : decode cL_law 1480 = .ok (.iload 5, 2) := by decide +kernel
theorem dL_law_1482 : decode cL_law 1482 = .ok (.if_icmp .eq 5, 3) := by decide +kernel
theorem dL_law_1485 : decode cL_law 1485 = .ok (.iconst 0, 1) := by decide +kernel
theorem dL_law_1486 : decode cL_law 1486 = .ok (.ireturn, 1) := by decide +kernel
theorem dL_law_1487 : decode cL_law 1487 = .ok (.iload 5, 2) := by decide +kernel
theorem dL_law_1489 : decode cL_law 1489 = .ok (.ifCond .ne 22, 3) := by decide +kernel
theorem dL_law_1492 : decode cL_law 1492 = .ok (.aload_n 3, 1) := by decide +kernel
theorem dL_law_1493 : decode cL_law 1493 = .ok (.iconst 0, 1) := by decide +kernel
theorem dL_law_1494 : decode cL_law 1494 = .ok (.laload, 1) := by decide +kernel
theorem dL_law_1495 : decode cL_law 1495 = .ok (.iload 6, 2) := by decide +kernel
theorem dL_law_1497 : decode cL_law 1497 = .ok (.ifCond .eq 7, 3) := by decide +kernel
theorem dL_law_1500 : decode cL_law 1500 = .ok (.lconst 1, 1) := by decide +kernel
theorem dL_law_1501 : decode cL_law 1501 = .ok (.goto 4, 3) := by decide +kernel
theorem dL_law_1504 : decode cL_law 1504 = .ok (.lconst 0, 1) := by decide +kernel
theorem dL_law_1505 : decode cL_law 1505 = .ok (.lcmp, 1) := by decide +kernel
theorem dL_law_1506 : decode cL_law 1506 = .ok (.ifCond .eq 5, 3) := by decide +kernel
theorem dL_law_1509 : decode cL_law 1509 = .ok (.iconst 0, 1) := by decide +kernel
theorem dL_law_1510 : decode cL_law 1510 = .ok (.ireturn, 1) := by decide +kernel
theorem dL_law_1511 : decode cL_law 1511 = .ok (.goto 3, 3) := by decide +kernel
theorem dL_law_1514 : decode cL_law 1514 = .ok (.iinc 4 4, 3) := by decide +kernel
theorem dL_law_1517 : decode cL_law 1517 = .ok (.goto (-1494), 3) := by decide +kernel
theorem dL_law_1520 : decode cL_law 1520 = .ok (.iconst 1, 1) := by decide +kernel
theorem dL_law_1521 : decode cL_law 1521 = .ok (.ireturn, 1) := by decide +kernel
end
section
/-! ===== the bundled world and its rows (own) ===== -/
abbrev sC : Type := Nat → Nat → Int32
def up (σ : sC) (k p : Nat) (v : Int32) : sC := fun k' => if k' = k then upd (σ k) p v else σ k'
theorem up_eq (σ : sC) (k p : Nat) (v : Int32) : up σ k p v k p = v := by simp [up, upd]
theorem up_ne (σ : sC) (k p : Nat) (v : Int32) {q : Nat} (h : q ≠ p) : up σ k p v k q = σ k q := by simp [up, upd, h]
theorem up_nk (σ : sC) (k p : Nat) (v : Int32) {k' : Nat} (h : k' ≠ k) : up σ k p v k' = σ k' := by simp [up, h]
theorem up_self (σ : sC) (k p : Nat) (v : Int32) (h : σ k p = v) : up σ k p v = σ := by
  funext k' q
  by_cases hk : k' = k
  · subst hk
    by_cases hq : q = p
    · subst hq; rw [up_eq, h]
    · rw [up_ne _ _ _ _ hq]
  · rw [up_nk _ _ _ _ hk]
/-- the world ws, in H -/
def Wd (D : va_G) (A : Nat → Prop) (H0 : Heap) (ws : va_W) (H : Heap) (locs : List Loc) : Prop := va_P D vwCl ws H ∧ va_D A ws ∧ va_S A H0 H locs ∧ ∀ q, H0.size ≤ q → A q
theorem Wd.P {D : va_G} {A : Nat → Prop} {H0 H : Heap} {ws : va_W} {locs : List Loc} (h : Wd D A H0 ws H locs) : va_P D vwCl ws H := h.1
theorem Wd.cast {D : va_G} {A : Nat → Prop} {H0 H : Heap} {ws ws' : va_W} {locs : List Loc} (e : ws = ws') (h : Wd D A H0 ws H locs) : Wd D A H0 ws' H locs := e ▸ h
/-- the world for walks that throw: read only -/
def Wt (D : va_G) (A : Nat → Prop) (H0 : Heap) (ws : va_W) (H : Heap) (locs : List Loc) : Prop := va_P D vwCl ws H ∧ va_S A H0 H locs ∧ (∀ q, H0.size ≤ q → A q) ∧ ∀ (k : Nat) (q : Nat × va_E), ws[k]? = some q → q.1 < H0.size ∧ ¬ A q.1
section BX
variable {p : Program} {l : Launch} {e : Env} {R : Room} {s : State} {m : MethodId} {args : Array Value} {below : List Frame} {meth : Method} {c : Code} {H : Heap} {locs : List Loc} {cells slots : Nat} {Q : State → Prop}
variable {cc : ByteArray} {nL pc : Nat} {ls : Array Slot} {rest : List Value} {Ts : List Cond} {own : String} {D : va_G} {A : Nat → Prop} {H0 : Heap} {ws ws' : va_W} {tys : List (ClassId × FieldType)}
theorem bx_get (S : CallFix p m c cc nL s args Ts own) (hK : va_K D vwCl tys s) {C : String} {T : u_T} {N ci index : Nat} (hin : ∀ w ∈ u_ws C T N, w ∈ Ts) (hP : va_P D vwCl ws H) (q0 : Nat) {a : Nat} {fs : List Value} (he : ws[q0]? = some (a, .inr (ci, fs))) (hc : vwCl[ci]? = some (C, T, N)) (k : Nat) (hk : k < N) (hl : Cond.fieldLink own index (T k).1 (T k).2.1 (T k).2.2.1 ∈ Ts) {v : Value} (hv : fs[k]? = some v) (hdg : decode cc pc = .ok (.getfield index, 3))
    (kk : W p l e R s m args below meth c H locs cells slots Q (F0 m (pc + 3) ls (v :: rest))) : W p l e R s m args below meth c H locs cells slots Q (F0 m pc ls (.ref a :: rest)) :=
  va_get S.1 S.2.1 S.2.2.2.2 hin S.2.2.2.1 hK hP q0 he hc k hk (S.2.2.2.2 _ hl) (fun _ h9 => h9) hv hdg kk
theorem bx_iald (S : CallFix p m c cc nL s args Ts own) (hK : va_K D vwCl tys s) (hP : va_P D vwCl ws H) (q0 t0 : Nat) {a : Nat} {cA : ClassId} {n i : Nat} {f : Nat → Int32} (ha : ws[q0]? = some (a, .inl (cA, n, .inl f))) (ht : tys[t0]? = some (cA, .int)) (hi : i < n) (hn : n < 100) {v : Int32} (hv : f i = v) (hdg : decode cc pc = .ok (.iaload, 1))
    (kk : W p l e R s m args below meth c H locs cells slots Q (F0 m (pc + 1) ls (.int v :: rest))) : W p l e R s m args below meth c H locs cells slots Q (F0 m pc ls (.int (nI i) :: .ref a :: rest)) := by
  refine va_iald S.1 S.2.1 hK hP q0 t0 ha ht (vp_in_nI hi (by omega)) hdg ?_
  rw [nI_clamp (by omega), hv]
  exact kk
theorem bx_zald (S : CallFix p m c cc nL s args Ts own) (hK : va_K D vwCl tys s) (hP : va_P D vwCl ws H) (q0 t0 : Nat) {a : Nat} {cA : ClassId} {n i : Nat} {f : Nat → Int32} (ha : ws[q0]? = some (a, .inl (cA, n, .inl f))) (ht : tys[t0]? = some (cA, .boolean)) (hi : i < n) (hn : n < 100) {v : Int32} (hv : f i = v) (hdg : decode cc pc = .ok (.baload, 1))
    (kk : W p l e R s m args below meth c H locs cells slots Q (F0 m (pc + 1) ls (.int v :: rest))) : W p l e R s m args below meth c H locs cells slots Q (F0 m pc ls (.int (nI i) :: .ref a :: rest)) := by
  refine va_zald S.1 S.2.1 hK hP q0 t0 ha ht (vp_in_nI hi (by omega)) hdg ?_
  rw [nI_clamp (by omega), hv]
  exact kk
theorem bx_iast (S : CallFix p m c cc nL s args Ts own) (hK : va_K D vwCl tys s) (hw : Wd D A H0 ws H locs) (q0 t0 : Nat) {a : Nat} {cA : ClassId} {n i : Nat} {f : Nat → Int32} (ha : ws[q0]? = some (a, .inl (cA, n, .inl f))) (ht : tys[t0]? = some (cA, .int)) (hi : i < n) (hn : n < 100) {x : Int32} (he : ws.set q0 (a, .inl (cA, n, .inl (upd f i x))) = ws') (hdg : decode cc pc = .ok (.iastore, 1))
    (kk : ∀ (H1 : Heap) (locs1 : List Loc), Wd D A H0 ws' H1 locs1 → W p l e R s m args below meth c H1 locs1 cells slots Q (F0 m (pc + 1) ls rest)) : W p l e R s m args below meth c H locs cells slots Q (F0 m pc ls (.int x :: .int (nI i) :: .ref a :: rest)) := by
  refine va_iast S.1 S.2.1 hK hw.1 hw.2.1 hw.2.2.1 q0 t0 ha ht (vp_in_nI hi (by omega)) hdg (fun H1 locs1 hP hD hS => ?_)
  rw [nI_clamp (by omega), he] at hP hD
  exact kk H1 locs1 ⟨hP, hD, hS, hw.2.2.2⟩
theorem bx_zast (S : CallFix p m c cc nL s args Ts own) (hK : va_K D vwCl tys s) (hw : Wd D A H0 ws H locs) (q0 t0 : Nat) {a : Nat} {cA : ClassId} {n i : Nat} {f : Nat → Int32} (ha : ws[q0]? = some (a, .inl (cA, n, .inl f))) (ht : tys[t0]? = some (cA, .boolean)) (hi : i < n) (hn : n < 100) {x : Int32} (hx : vp_nar .boolean x = x) (he : ws.set q0 (a, .inl (cA, n, .inl (upd f i x))) = ws') (hdg : decode cc pc = .ok (.bastore, 1))
    (kk : ∀ (H1 : Heap) (locs1 : List Loc), Wd D A H0 ws' H1 locs1 → W p l e R s m args below meth c H1 locs1 cells slots Q (F0 m (pc + 1) ls rest)) : W p l e R s m args below meth c H locs cells slots Q (F0 m pc ls (.int x :: .int (nI i) :: .ref a :: rest)) := by
  refine va_zast S.1 S.2.1 hK hw.1 hw.2.1 hw.2.2.1 q0 t0 ha ht (vp_in_nI hi (by omega)) hdg (fun H1 locs1 hP hD hS => ?_)
  rw [nI_clamp (by omega), hx, he] at hP hD
  exact kk H1 locs1 ⟨hP, hD, hS, hw.2.2.2⟩
/-- an int field of the object at q0 -/
theorem bx_put (S : CallFix p m c cc nL s args Ts own) (hK : va_K D vwCl tys s) {C : String} {T : u_T} {N ci index : Nat} (hin : ∀ w ∈ u_ws C T N, w ∈ Ts) (ty0 : Nat → FieldType) (hty : ∀ k, k < N → parseFieldDescriptor (T k).2.2.1 = some (ty0 k)) (hnm : ∀ a, a < N → ∀ b, b < N → a ≠ b → (T a).2.1 ≠ (T b).2.1) (hw : Wd D A H0 ws H locs) (q0 : Nat) {a : Nat} {fs : List Value} (he : ws[q0]? = some (a, .inr (ci, fs))) (hc : vwCl[ci]? = some (C, T, N)) (k : Nat) (hk : k < N) (hl : Cond.fieldLink own index (T k).1 (T k).2.1 (T k).2.2.1 ∈ Ts) (hfin : (T k).2.2.2 = false) {x : Int32} (hd : parseFieldDescriptor (T k).2.2.1 = some .int) (hlen : k < fs.length) (hs : ws.set q0 (a, .inr (ci, fs.set k (.int x))) = ws') (hdg : decode cc pc = .ok (.putfield index, 3))
    (kk : ∀ (H1 : Heap) (locs1 : List Loc), Wd D A H0 ws' H1 locs1 → W p l e R s m args below meth c H1 locs1 cells slots Q (F0 m (pc + 3) ls rest)) : W p l e R s m args below meth c H locs cells slots Q (F0 m pc ls (.int x :: .ref a :: rest)) := by
  refine va_put S.1 S.2.1 S.2.2.2.2 hin ty0 hty hnm S.2.2.2.1 hK hw.1 hw.2.1 hw.2.2.1 q0 he hc k hk (S.2.2.2.2 _ hl) (fun _ h9 => h9) hfin hd rfl rfl hlen hdg (fun H1 locs1 hP hD hS => ?_)
  rw [hs] at hP hD
  exact kk H1 locs1 ⟨hP, hD, hS, hw.2.2.2⟩
/-- the top of the stack under another name -/
theorem bx_top {x y : Int32} (h : x = y) (kk : W p l e R s m args below meth c H locs cells slots Q (F0 m pc ls (.int y :: rest))) : W p l e R s m args below meth c H locs cells slots Q (F0 m pc ls (.int x :: rest)) := h ▸ kk
theorem br_eq (S : CallFix p m c cc nL s args Ts own) {x y : Int32} {off : Int} {tgt : Nat} (hdg : decode cc pc = .ok (.if_icmp .eq off, 3)) (ht : (pc : Int) + off = (tgt : Int))
    (kt : x = y → W p l e R s m args below meth c H locs cells slots Q (F0 m tgt ls rest)) (kf : ¬ x = y → W p l e R s m args below meth c H locs cells slots Q (F0 m (pc + 3) ls rest)) : W p l e R s m args below meth c H locs cells slots Q (F0 m pc ls (.int y :: .int x :: rest)) := lv_icmp_eq S.1 S.2.1 hdg ht kt kf
theorem br_ne (S : CallFix p m c cc nL s args Ts own) {x y : Int32} {off : Int} {tgt : Nat} (hdg : decode cc pc = .ok (.if_icmp .ne off, 3)) (ht : (pc : Int) + off = (tgt : Int))
    (kt : ¬ x = y → W p l e R s m args below meth c H locs cells slots Q (F0 m tgt ls rest)) (kf : x = y → W p l e R s m args below meth c H locs cells slots Q (F0 m (pc + 3) ls rest)) : W p l e R s m args below meth c H locs cells slots Q (F0 m pc ls (.int y :: .int x :: rest)) := lv_icmp_ne S.1 S.2.1 hdg ht kt kf
theorem br_lt (S : CallFix p m c cc nL s args Ts own) {x y : Int32} {off : Int} {tgt : Nat} (hdg : decode cc pc = .ok (.if_icmp .lt off, 3)) (ht : (pc : Int) + off = (tgt : Int))
    (kt : x < y → W p l e R s m args below meth c H locs cells slots Q (F0 m tgt ls rest)) (kf : ¬ x < y → W p l e R s m args below meth c H locs cells slots Q (F0 m (pc + 3) ls rest)) : W p l e R s m args below meth c H locs cells slots Q (F0 m pc ls (.int y :: .int x :: rest)) := lv_icmp_lt S.1 S.2.1 hdg ht kt kf
theorem br_ge (S : CallFix p m c cc nL s args Ts own) {x y : Int32} {off : Int} {tgt : Nat} (hdg : decode cc pc = .ok (.if_icmp .ge off, 3)) (ht : (pc : Int) + off = (tgt : Int))
    (kt : ¬ x < y → W p l e R s m args below meth c H locs cells slots Q (F0 m tgt ls rest)) (kf : x < y → W p l e R s m args below meth c H locs cells slots Q (F0 m (pc + 3) ls rest)) : W p l e R s m args below meth c H locs cells slots Q (F0 m pc ls (.int y :: .int x :: rest)) := lv_icmp_ge S.1 S.2.1 hdg ht (fun h => kt (Int32.not_lt.mpr h)) (fun h => kf (Int32.not_le.mp h))
theorem br_gt (S : CallFix p m c cc nL s args Ts own) {x y : Int32} {off : Int} {tgt : Nat} (hdg : decode cc pc = .ok (.if_icmp .gt off, 3)) (ht : (pc : Int) + off = (tgt : Int))
    (kt : y < x → W p l e R s m args below meth c H locs cells slots Q (F0 m tgt ls rest)) (kf : ¬ y < x → W p l e R s m args below meth c H locs cells slots Q (F0 m (pc + 3) ls rest)) : W p l e R s m args below meth c H locs cells slots Q (F0 m pc ls (.int y :: .int x :: rest)) := lv_icmp_gt S.1 S.2.1 hdg ht kt kf
theorem br_le (S : CallFix p m c cc nL s args Ts own) {x y : Int32} {off : Int} {tgt : Nat} (hdg : decode cc pc = .ok (.if_icmp .le off, 3)) (ht : (pc : Int) + off = (tgt : Int))
    (kt : ¬ y < x → W p l e R s m args below meth c H locs cells slots Q (F0 m tgt ls rest)) (kf : y < x → W p l e R s m args below meth c H locs cells slots Q (F0 m (pc + 3) ls rest)) : W p l e R s m args below meth c H locs cells slots Q (F0 m pc ls (.int y :: .int x :: rest)) := lv_icmp_le S.1 S.2.1 hdg ht (fun h => kt (Int32.not_lt.mpr h)) (fun h => kf (Int32.not_le.mp h))
theorem bz_eq (S : CallFix p m c cc nL s args Ts own) {x : Int32} {off : Int} {tgt : Nat} (hdg : decode cc pc = .ok (.ifCond .eq off, 3)) (ht : (pc : Int) + off = (tgt : Int))
    (kt : x = 0 → W p l e R s m args below meth c H locs cells slots Q (F0 m tgt ls rest)) (kf : ¬ x = 0 → W p l e R s m args below meth c H locs cells slots Q (F0 m (pc + 3) ls rest)) : W p l e R s m args below meth c H locs cells slots Q (F0 m pc ls (.int x :: rest)) := lv_if_eq S.1 S.2.1 hdg ht kt kf
theorem bz_ne (S : CallFix p m c cc nL s args Ts own) {x : Int32} {off : Int} {tgt : Nat} (hdg : decode cc pc = .ok (.ifCond .ne off, 3)) (ht : (pc : Int) + off = (tgt : Int))
    (kt : ¬ x = 0 → W p l e R s m args below meth c H locs cells slots Q (F0 m tgt ls rest)) (kf : x = 0 → W p l e R s m args below meth c H locs cells slots Q (F0 m (pc + 3) ls rest)) : W p l e R s m args below meth c H locs cells slots Q (F0 m pc ls (.int x :: rest)) := lv_if_ne S.1 S.2.1 hdg ht kt kf
theorem bz_lt (S : CallFix p m c cc nL s args Ts own) {x : Int32} {off : Int} {tgt : Nat} (hdg : decode cc pc = .ok (.ifCond .lt off, 3)) (ht : (pc : Int) + off = (tgt : Int))
    (kt : x < 0 → W p l e R s m args below meth c H locs cells slots Q (F0 m tgt ls rest)) (kf : ¬ x < 0 → W p l e R s m args below meth c H locs cells slots Q (F0 m (pc + 3) ls rest)) : W p l e R s m args below meth c H locs cells slots Q (F0 m pc ls (.int x :: rest)) := lv_if_lt S.1 S.2.1 hdg ht kt kf
theorem bz_ge (S : CallFix p m c cc nL s args Ts own) {x : Int32} {off : Int} {tgt : Nat} (hdg : decode cc pc = .ok (.ifCond .ge off, 3)) (ht : (pc : Int) + off = (tgt : Int))
    (kt : ¬ x < 0 → W p l e R s m args below meth c H locs cells slots Q (F0 m tgt ls rest)) (kf : x < 0 → W p l e R s m args below meth c H locs cells slots Q (F0 m (pc + 3) ls rest)) : W p l e R s m args below meth c H locs cells slots Q (F0 m pc ls (.int x :: rest)) := lv_if_ge S.1 S.2.1 hdg ht (fun h => kt (Int32.not_lt.mpr h)) (fun h => kf (Int32.not_le.mp h))
theorem bz_gt (S : CallFix p m c cc nL s args Ts own) {x : Int32} {off : Int} {tgt : Nat} (hdg : decode cc pc = .ok (.ifCond .gt off, 3)) (ht : (pc : Int) + off = (tgt : Int))
    (kt : 0 < x → W p l e R s m args below meth c H locs cells slots Q (F0 m tgt ls rest)) (kf : ¬ 0 < x → W p l e R s m args below meth c H locs cells slots Q (F0 m (pc + 3) ls rest)) : W p l e R s m args below meth c H locs cells slots Q (F0 m pc ls (.int x :: rest)) := lv_if_gt S.1 S.2.1 hdg ht kt kf
theorem bz_le (S : CallFix p m c cc nL s args Ts own) {x : Int32} {off : Int} {tgt : Nat} (hdg : decode cc pc = .ok (.ifCond .le off, 3)) (ht : (pc : Int) + off = (tgt : Int))
    (kt : ¬ 0 < x → W p l e R s m args below meth c H locs cells slots Q (F0 m tgt ls rest)) (kf : 0 < x → W p l e R s m args below meth c H locs cells slots Q (F0 m (pc + 3) ls rest)) : W p l e R s m args below meth c H locs cells slots Q (F0 m pc ls (.int x :: rest)) := lv_if_le S.1 S.2.1 hdg ht (fun h => kt (Int32.not_lt.mpr h)) (fun h => kf (Int32.not_le.mp h))
end BX
/-! contracts: a method that returns an int / nothing, over the world w0, which becomes w1; nothing else changes, nothing is made -/
def MPre (D : va_G) (tys : List (ClassId × FieldType)) (w0 : va_W) (sz : Nat) (U : State) : Prop := U.heap.size = sz ∧ va_P D vwCl w0 U.heap ∧ va_K D vwCl tys U ∧ va_D (fun _ => True) w0
def MI (l : Launch) (y : MethodName) (wsl : List Cond) (rm : Room) (D : va_G) (tys : List (ClassId × FieldType)) (As : List Value) (w0 : va_W) (r : Int32) (w1 : va_W) : Prop :=
  ∀ sz : Nat, Met l y wsl rm (va_Pc As (MPre D tys w0 sz)) (va_Qi (fun (r' : Int32) (_ : Unit) => r' = r) (fun _ t => va_P D vwCl w1 t.heap ∧ va_D (va_A w0 sz) w1) (va_A w0 sz)) 0 0 (va_A w0 sz)
def MV (l : Launch) (y : MethodName) (wsl : List Cond) (rm : Room) (D : va_G) (tys : List (ClassId × FieldType)) (As : List Value) (w0 : va_W) (w1 : va_W) : Prop :=
  ∀ sz : Nat, Met l y wsl rm (va_Pc As (MPre D tys w0 sz)) (va_Qv (fun (_ : Unit) => True) (fun _ t => va_P D vwCl w1 t.heap ∧ va_D (va_A w0 sz) w1) (va_A w0 sz)) 0 0 (va_A w0 sz)
theorem MPre.blind {D : va_G} {tys : List (ClassId × FieldType)} {w0 : va_W} {sz : Nat} {As : List Value} : FrameBlind (va_Pc As (MPre D tys w0 sz)) := fun a U g mk q => by
  obtain ⟨q0, q1, qP, qK, qD⟩ := q
  exact ⟨q0, q1, qP, va_K.moved (u := U) (U := U.calling g mk a) (Vm.Alike.refl U.vm) qK, qD⟩
/-- from a walk of the body to the contract: int -/
theorem MI.of {l : Launch} {y : MethodName} {wsl ws' : List Cond} {rm : Room} {D : va_G} {tys : List (ClassId × FieldType)} {As : List Value} {w0 w1 : va_W} {r : Int32} {cc : ByteArray} {maxL : Nat} {ty : FieldType}
    (hy : plainName y.cls = true) (hws : wsl = Cond.code y cc maxL (some ty) :: ws') (hn : narrow ty (.int r) = .int r) (hrm : rm.cells = 0 ∧ rm.slots = 0) (hla : (lg_sl As).length ≤ maxL)
    (body : ∀ (p : Program) (e : Env) (s : State) (m : MethodId) (args : Array Value) (below : List Frame) (meth : Method) (c : Code) (A : Nat → Prop) (Q : State → Prop), CallFix p m c cc maxL s args wsl y.cls → va_K D vwCl tys s →
      (∀ {H : Heap} {locs : List Loc} {ls : Array Slot} {pc : Nat} {v : Int32} {w : va_W}, Wd D A s.heap w H locs → decode cc pc = .ok (.ireturn, 1) → v = r → w = w1 → W p l e rm s m args below meth c H locs 0 0 Q (F0 m pc ls [.int v])) →
      ∀ ls : Array Slot, lv_has ls maxL (lv_args 0 As) → Wd D A s.heap w0 s.heap [] → W p l e rm s m args below meth c s.heap [] 0 0 Q (F0 m 0 ls [])) : MI l y wsl rm D tys As w0 r w1 := by
  intro sz
  refine Met.ofW (cc := cc) (maxL := maxL) (ret := some ty) hy hws ?_
  intro p e s m args below meth c s₁ B hml hv
  obtain ⟨rfl, hsz, hP, hK, hD0⟩ := hv
  subst hsz
  have hlocks := B.notSynchronized
  have hroom : (headSpec wsl rm).room = rm := rfl
  rw [hroom, lg_entry_eq]
  refine body p e s m _ below meth c (va_A w0 s.heap.size) _ ⟨B.exec, B.bytes, hml, findClass_of_methodNamed B.named, atoms_spec (ws := wsl) B.pre⟩ hK ?_ _ (lv_entry As hla) ⟨hP, hD0.self, va_S.rf, fun q h => Or.inr h⟩
  intro H locs ls pc v w hw hdg hvr hww
  subst hvr; subst hww
  exact W.zret (v := v) (ty := ty) B.exec B.bytes B.returns hn (fun t ht hW => ⟨⟨v, (), rfl, rfl, by rw [ht]; exact hw.1, hw.2.1⟩, hw.2.2.1.F ht⟩) hw.2.2.1.2.2 hdg
theorem MV.of {l : Launch} {y : MethodName} {wsl ws' : List Cond} {rm : Room} {D : va_G} {tys : List (ClassId × FieldType)} {As : List Value} {w0 w1 : va_W} {cc : ByteArray} {maxL : Nat}
    (hy : plainName y.cls = true) (hws : wsl = Cond.code y cc maxL none :: ws') (hrm : rm.cells = 0 ∧ rm.slots = 0) (hla : (lg_sl As).length ≤ maxL)
    (body : ∀ (p : Program) (e : Env) (s : State) (m : MethodId) (args : Array Value) (below : List Frame) (meth : Method) (c : Code) (A : Nat → Prop) (Q : State → Prop), CallFix p m c cc maxL s args wsl y.cls → va_K D vwCl tys s →
      (∀ {H : Heap} {locs : List Loc} {ls : Array Slot} {pc : Nat} {w : va_W}, Wd D A s.heap w H locs → decode cc pc = .ok (.return_, 1) → w = w1 → W p l e rm s m args below meth c H locs 0 0 Q (F0 m pc ls [])) →
      ∀ ls : Array Slot, lv_has ls maxL (lv_args 0 As) → Wd D A s.heap w0 s.heap [] → W p l e rm s m args below meth c s.heap [] 0 0 Q (F0 m 0 ls [])) : MV l y wsl rm D tys As w0 w1 := by
  intro sz
  refine Met.ofW (cc := cc) (maxL := maxL) (ret := none) hy hws ?_
  intro p e s m args below meth c s₁ B hml hv
  obtain ⟨rfl, hsz, hP, hK, hD0⟩ := hv
  subst hsz
  have hlocks := B.notSynchronized
  have hroom : (headSpec wsl rm).room = rm := rfl
  rw [hroom, lg_entry_eq]
  refine body p e s m _ below meth c (va_A w0 s.heap.size) _ ⟨B.exec, B.bytes, hml, findClass_of_methodNamed B.named, atoms_spec (ws := wsl) B.pre⟩ hK ?_ _ (lv_entry As hla) ⟨hP, hD0.self, va_S.rf, fun q h => Or.inr h⟩
  intro H locs ls pc w hw hdg hww
  subst hww
  exact W.vret B.exec B.bytes B.returns (fun t ht hW => ⟨⟨(), rfl, trivial, by rw [ht]; exact hw.1, hw.2.1⟩, hw.2.2.1.F ht⟩) hw.2.2.1.2.2 hdg
section BC
variable {p : Program} {l : Launch} {e : Env} {R : Room} {s : State} {m : MethodId} {args : Array Value} {below : List Frame} {meth : Method} {c : Code} {H : Heap} {locs : List Loc} {cells slots : Nat} {Q : State → Prop}
variable {cc : ByteArray} {nL pc : Nat} {ls : Array Slot} {rest : List Value} {Ts : List Cond} {own : String} {D : va_G} {A : Nat → Prop} {H0 : Heap} {ws ws' : va_W} {tys : List (ClassId × FieldType)}
variable {y : MethodName} {bytes : ByteArray} {maxL n index : Nat} {ret : Option FieldType} {wsl : List Cond} {rm : Room} {C : String} {b : Nat} {As : List Value} {st : List Value}
theorem Wd.cov (hw : Wd D A H0 ws H locs) : ∀ q, va_A ws H.size q → A q := fun q h => by
  rcases h with ⟨k, e, hk⟩ | h
  · exact hw.2.1.2 k _ hk
  · exact hw.2.2.2 q (Nat.le_trans hw.2.2.1.1 h)
/-- x.m(..) over the whole world, an int back -/
theorem bc_vi (S : CallFix p m c cc nL s args Ts own) (hK : va_K D vwCl tys s) (hw : Wd D A H0 ws H locs) {r : Int32} (hM : MI l y wsl rm D tys (.ref b :: As) ws r ws') (cw : CallW R s args own C index y bytes maxL ret wsl rm 0 0 n) {q0 ci : Nat} {T : u_T} {N : Nat} {fs : List Value} (he : ws[q0]? = some (b, .inr (ci, fs))) (hc : vwCl[ci]? = some (C, T, N)) (hn : As.length = n) (hl : ls.size = nL) (hst : st = As.reverse ++ .ref b :: rest) (hr : (rest.map fun v => v.category).sum ≤ 8) (hcl : cells ≤ R.cells) (hsl : slots ≤ R.slots) (hdg : decode cc pc = .ok (.invokevirtual index, 3))
    (kk : ∀ (H1 : Heap) (locs1 : List Loc), Wd D A H0 ws' H1 locs1 → W p l e R s m args below meth c H1 locs1 cells slots Q (F0 m (pc + 3) ls (.int r :: rest))) : W p l e R s m args below meth c H locs cells slots Q (F0 m pc ls st) := by
  have hF := hw.cov
  refine va_calli (va_runV (As := As) (rest := rest) S (hM H.size) cw ⟨MPre.blind, va_recv hK hw.1 hc he, fun U hU hW => ⟨rfl, by rw [hU], by rw [hU]; exact hw.1, va_K.moved hW.alike hK, hw.2.1.weaken (fun _ _ _ _ => trivial)⟩⟩ rfl hn hl hst (lv_room hr) hdg ⟨hcl, hsl⟩) hw.2.2.1 (fun q _ h => hF q h) hF (fun r' u t H1 locs1 ht hvm hp hB hz1 hk1 hS => ?_)
  subst hp
  rw [ht] at hB
  exact kk H1 locs1 ⟨hB.1, hB.2.weaken (fun _ _ _ h => hF _ h), hS, hw.2.2.2⟩
theorem bc_vv (S : CallFix p m c cc nL s args Ts own) (hK : va_K D vwCl tys s) (hw : Wd D A H0 ws H locs) (hM : MV l y wsl rm D tys (.ref b :: As) ws ws') (cw : CallW R s args own C index y bytes maxL ret wsl rm 0 0 n) {q0 ci : Nat} {T : u_T} {N : Nat} {fs : List Value} (he : ws[q0]? = some (b, .inr (ci, fs))) (hc : vwCl[ci]? = some (C, T, N)) (hn : As.length = n) (hl : ls.size = nL) (hst : st = As.reverse ++ .ref b :: rest) (hr : (rest.map fun v => v.category).sum ≤ 8) (hcl : cells ≤ R.cells) (hsl : slots ≤ R.slots) (hdg : decode cc pc = .ok (.invokevirtual index, 3))
    (kk : ∀ (H1 : Heap) (locs1 : List Loc), Wd D A H0 ws' H1 locs1 → W p l e R s m args below meth c H1 locs1 cells slots Q (F0 m (pc + 3) ls rest)) : W p l e R s m args below meth c H locs cells slots Q (F0 m pc ls st) := by
  have hF := hw.cov
  refine va_callv (va_runV (As := As) (rest := rest) S (hM H.size) cw ⟨MPre.blind, va_recv hK hw.1 hc he, fun U hU hW => ⟨rfl, by rw [hU], by rw [hU]; exact hw.1, va_K.moved hW.alike hK, hw.2.1.weaken (fun _ _ _ _ => trivial)⟩⟩ rfl hn hl hst (lv_room hr) hdg ⟨hcl, hsl⟩) hw.2.2.1 (fun q _ h => hF q h) hF (fun u t H1 locs1 ht hvm hp hB hz1 hk1 hS => ?_)
  rw [ht] at hB
  exact kk H1 locs1 ⟨hB.1, hB.2.weaken (fun _ _ _ h => hF _ h), hS, hw.2.2.2⟩
theorem va_A.nil {sz q : Nat} (h : va_A [] sz q) : sz ≤ q := by
  rcases h with ⟨k, e, hk⟩ | h
  · simp at hk
  · exact h
/-- a static method of ints, an int back -/
theorem bc_si (S : CallFix p m c cc nL s args Ts own) (hK : va_K D vwCl tys s) (hw : Wd D A H0 ws H locs) {r : Int32} (hM : MI l y wsl rm D tys As [] r []) (cw : CallB R s args own index y bytes maxL ret wsl rm 0 0 n ∧ (Cond.static y).before args s = true) (hn : As.length = n) (hl : ls.size = nL) (hst : st = As.reverse ++ rest) (hr : (rest.map fun v => v.category).sum ≤ 8) (hcl : cells ≤ R.cells) (hsl : slots ≤ R.slots) (hdg : decode cc pc = .ok (.invokestatic index, 3))
    (kk : ∀ (H1 : Heap) (locs1 : List Loc), Wd D A H0 ws H1 locs1 → W p l e R s m args below meth c H1 locs1 cells slots Q (F0 m (pc + 3) ls (.int r :: rest))) : W p l e R s m args below meth c H locs cells slots Q (F0 m pc ls st) := by
  have hF : ∀ q, va_A [] H.size q → A q := fun q h => hw.2.2.2 q (Nat.le_trans hw.2.2.1.1 (va_A.nil h))
  refine va_calli (va_runS (As := As) (rest := rest) S (hM H.size) cw ⟨MPre.blind, fun U hU hW => ⟨rfl, by rw [hU], (fun k q h => by simp at h), va_K.moved hW.alike hK, ⟨fun i j p q h => by simp at h, fun k q h => by simp at h⟩⟩⟩ rfl hn hl hst (lv_room hr) hdg ⟨hcl, hsl⟩) hw.2.2.1 (fun q _ h => hF q h) hF (fun r' u t H1 locs1 ht hvm hp hB hz1 hk1 hS => ?_)
  subst hp
  exact kk H1 locs1 ⟨hw.1.kept (fun k q hq => hk1 q.1 (hw.1 k q hq).lt (fun h => absurd (va_A.nil h) (Nat.not_le.mpr (hw.1 k q hq).lt))), hw.2.1, hS, hw.2.2.2⟩
theorem bc_sv (S : CallFix p m c cc nL s args Ts own) (hK : va_K D vwCl tys s) (hw : Wd D A H0 ws H locs) (hM : MV l y wsl rm D tys As [] []) (cw : CallB R s args own index y bytes maxL ret wsl rm 0 0 n ∧ (Cond.static y).before args s = true) (hn : As.length = n) (hl : ls.size = nL) (hst : st = As.reverse ++ rest) (hr : (rest.map fun v => v.category).sum ≤ 8) (hcl : cells ≤ R.cells) (hsl : slots ≤ R.slots) (hdg : decode cc pc = .ok (.invokestatic index, 3))
    (kk : ∀ (H1 : Heap) (locs1 : List Loc), Wd D A H0 ws H1 locs1 → W p l e R s m args below meth c H1 locs1 cells slots Q (F0 m (pc + 3) ls rest)) : W p l e R s m args below meth c H locs cells slots Q (F0 m pc ls st) := by
  have hF : ∀ q, va_A [] H.size q → A q := fun q h => hw.2.2.2 q (Nat.le_trans hw.2.2.1.1 (va_A.nil h))
  refine va_callv (va_runS (As := As) (rest := rest) S (hM H.size) cw ⟨MPre.blind, fun U hU hW => ⟨rfl, by rw [hU], (fun k q h => by simp at h), va_K.moved hW.alike hK, ⟨fun i j p q h => by simp at h, fun k q h => by simp at h⟩⟩⟩ rfl hn hl hst (lv_room hr) hdg ⟨hcl, hsl⟩) hw.2.2.1 (fun q _ h => hF q h) hF (fun u t H1 locs1 ht hvm hp hB hz1 hk1 hS => ?_)
  exact kk H1 locs1 ⟨hw.1.kept (fun k q hq => hk1 q.1 (hw.1 k q hq).lt (fun h => absurd (va_A.nil h) (Nat.not_le.mpr (hw.1 k q hq).lt))), hw.2.1, hS, hw.2.2.2⟩
end BC
/-! the object of the class, and that of the reference, over one state σ -/
abbrev tyZ (cZ cI : ClassId) : List (ClassId × FieldType) := [(cZ, .boolean), (cI, .int)]
end
section
def wX (cZ cI : ClassId) (a : Nat → Nat) (σ : sC) : va_W :=
  [(a 0, .inr (0, [.ref (a 1), .ref (a 2), .ref (a 3), .ref (a 4), .ref (a 5), .ref (a 6), .ref (a 7), .ref (a 8), .ref (a 9), .ref (a 10), .ref (a 11), .ref (a 12), .ref (a 13), .ref (a 14), .ref (a 15), .ref (a 16), .int (σ 16 0), .int (σ 17 0)])),
   (a 1, .inl (cZ, 4, .inl (σ 0))),
   (a 2, .inl (cZ, 16, .inl (σ 1))),
   (a 3, .inl (cZ, 8, .inl (σ 2))),
   (a 4, .inl (cI, 8, .inl (σ 3))),
   (a 5, .inl (cI, 3, .inl (σ 4))),
   (a 6, .inl (cZ, 3, .inl (σ 5))),
   (a 7, .inl (cI, 3, .inl (σ 6))),
   (a 8, .inl (cI, 3, .inl (σ 7))),
   (a 9, .inl (cI, 3, .inl (σ 8))),
   (a 10, .inl (cI, 12, .inl (σ 9))),
   (a 11, .inl (cI, 12, .inl (σ 10))),
   (a 12, .inl (cI, 12, .inl (σ 11))),
   (a 13, .inl (cI, 12, .inl (σ 12))),
   (a 14, .inl (cI, 12, .inl (σ 13))),
   (a 15, .inl (cI, 12, .inl (σ 14))),
   (a 16, .inl (cZ, 12, .inl (σ 15)))]
def flip (x : Int32) : Int32 := if x = 0 then 1 else 0
theorem flip_0 (x : Int32) : flip x = 0 ↔ ¬ x = 0 := by
  unfold flip
  by_cases h : x = 0
  · simp [h]
  · simp [h]
def pm (j : Nat) : Nat := if j < 12 then 4 * (j % 3) + j / 3 else j
theorem pm_at {r g : Nat} (hr : r < 4) (hg : g < 3) : pm (3 * r + g) = 4 * g + r := by
  unfold pm
  rw [if_pos (by omega)]
  omega
theorem pm_iff {r g : Nat} (hr : r < 4) (hg : g < 3) (j : Nat) : j = 3 * r + g ↔ pm j = 4 * g + r := by
  unfold pm
  constructor
  · intro h
    subst h
    rw [if_pos (by omega)]
    omega
  · intro h
    by_cases hj : j < 12
    · rw [if_pos hj] at h
      omega
    · rw [if_neg hj] at h
      omega
def wM (cZ cI : ClassId) (a : Nat → Nat) (th : Int32) (σ : sC) : va_W :=
  [(a 0, .inr (1, [.int th, .ref (a 1), .ref (a 2), .ref (a 3), .ref (a 4), .ref (a 5), .ref (a 6), .ref (a 7), .ref (a 8), .ref (a 9), .ref (a 10), .ref (a 11), .ref (a 12), .ref (a 13), .ref (a 14), .ref (a 15), .ref (a 16), .int (σ 16 0), .int (σ 17 0)])),
   (a 1, .inl (cZ, 4, .inl (fun j => flip (σ 0 j)))),
   (a 2, .inl (cI, 12, .inl (fun j => σ 9 (pm j)))),
   (a 3, .inl (cI, 8, .inl (σ 3))),
   (a 4, .inl (cZ, 8, .inl (fun j => flip (σ 2 j)))),
   (a 5, .inl (cZ, 16, .inl (fun j => flip (σ 1 j)))),
   (a 6, .inl (cI, 3, .inl (σ 4))),
   (a 7, .inl (cZ, 3, .inl (fun j => flip (σ 5 j)))),
   (a 8, .inl (cI, 3, .inl (σ 6))),
   (a 9, .inl (cI, 12, .inl (fun j => σ 10 (pm j)))),
   (a 10, .inl (cI, 12, .inl (fun j => σ 11 (pm j)))),
   (a 11, .inl (cI, 12, .inl (fun j => σ 12 (pm j)))),
   (a 12, .inl (cI, 12, .inl (fun j => σ 13 (pm j)))),
   (a 13, .inl (cZ, 12, .inl (fun j => σ 15 (pm j)))),
   (a 14, .inl (cI, 12, .inl (fun j => σ 14 (pm j)))),
   (a 15, .inl (cI, 3, .inl (σ 7))),
   (a 16, .inl (cI, 3, .inl (σ 8)))]
theorem wX_s0 (cZ cI : ClassId) (a : Nat → Nat) (σ : sC) (i : Nat) (x : Int32) : (wX cZ cI a σ).set 1 (a 1, .inl (cZ, 4, .inl (upd (σ 0) i x))) = wX cZ cI a (up σ 0 i x) := rfl
theorem wX_s1 (cZ cI : ClassId) (a : Nat → Nat) (σ : sC) (i : Nat) (x : Int32) : (wX cZ cI a σ).set 2 (a 2, .inl (cZ, 16, .inl (upd (σ 1) i x))) = wX cZ cI a (up σ 1 i x) := rfl
theorem wX_s2 (cZ cI : ClassId) (a : Nat → Nat) (σ : sC) (i : Nat) (x : Int32) : (wX cZ cI a σ).set 3 (a 3, .inl (cZ, 8, .inl (upd (σ 2) i x))) = wX cZ cI a (up σ 2 i x) := rfl
theorem wX_s3 (cZ cI : ClassId) (a : Nat → Nat) (σ : sC) (i : Nat) (x : Int32) : (wX cZ cI a σ).set 4 (a 4, .inl (cI, 8, .inl (upd (σ 3) i x))) = wX cZ cI a (up σ 3 i x) := rfl
theorem wX_s4 (cZ cI : ClassId) (a : Nat → Nat) (σ : sC) (i : Nat) (x : Int32) : (wX cZ cI a σ).set 5 (a 5, .inl (cI, 3, .inl (upd (σ 4) i x))) = wX cZ cI a (up σ 4 i x) := rfl
theorem wX_s5 (cZ cI : ClassId) (a : Nat → Nat) (σ : sC) (i : Nat) (x : Int32) : (wX cZ cI a σ).set 6 (a 6, .inl (cZ, 3, .inl (upd (σ 5) i x))) = wX cZ cI a (up σ 5 i x) := rfl
theorem wX_s6 (cZ cI : ClassId) (a : Nat → Nat) (σ : sC) (i : Nat) (x : Int32) : (wX cZ cI a σ).set 7 (a 7, .inl (cI, 3, .inl (upd (σ 6) i x))) = wX cZ cI a (up σ 6 i x) := rfl
theorem wX_s7 (cZ cI : ClassId) (a : Nat → Nat) (σ : sC) (i : Nat) (x : Int32) : (wX cZ cI a σ).set 8 (a 8, .inl (cI, 3, .inl (upd (σ 7) i x))) = wX cZ cI a (up σ 7 i x) := rfl
theorem wX_s8 (cZ cI : ClassId) (a : Nat → Nat) (σ : sC) (i : Nat) (x : Int32) : (wX cZ cI a σ).set 9 (a 9, .inl (cI, 3, .inl (upd (σ 8) i x))) = wX cZ cI a (up σ 8 i x) := rfl
theorem wX_s9 (cZ cI : ClassId) (a : Nat → Nat) (σ : sC) (i : Nat) (x : Int32) : (wX cZ cI a σ).set 10 (a 10, .inl (cI, 12, .inl (upd (σ 9) i x))) = wX cZ cI a (up σ 9 i x) := rfl
theorem wX_s10 (cZ cI : ClassId) (a : Nat → Nat) (σ : sC) (i : Nat) (x : Int32) : (wX cZ cI a σ).set 11 (a 11, .inl (cI, 12, .inl (upd (σ 10) i x))) = wX cZ cI a (up σ 10 i x) := rfl
theorem wX_s11 (cZ cI : ClassId) (a : Nat → Nat) (σ : sC) (i : Nat) (x : Int32) : (wX cZ cI a σ).set 12 (a 12, .inl (cI, 12, .inl (upd (σ 11) i x))) = wX cZ cI a (up σ 11 i x) := rfl
theorem wX_s12 (cZ cI : ClassId) (a : Nat → Nat) (σ : sC) (i : Nat) (x : Int32) : (wX cZ cI a σ).set 13 (a 13, .inl (cI, 12, .inl (upd (σ 12) i x))) = wX cZ cI a (up σ 12 i x) := rfl
theorem wX_s13 (cZ cI : ClassId) (a : Nat → Nat) (σ : sC) (i : Nat) (x : Int32) : (wX cZ cI a σ).set 14 (a 14, .inl (cI, 12, .inl (upd (σ 13) i x))) = wX cZ cI a (up σ 13 i x) := rfl
theorem wX_s14 (cZ cI : ClassId) (a : Nat → Nat) (σ : sC) (i : Nat) (x : Int32) : (wX cZ cI a σ).set 15 (a 15, .inl (cI, 12, .inl (upd (σ 14) i x))) = wX cZ cI a (up σ 14 i x) := rfl
theorem wX_s15 (cZ cI : ClassId) (a : Nat → Nat) (σ : sC) (i : Nat) (x : Int32) : (wX cZ cI a σ).set 16 (a 16, .inl (cZ, 12, .inl (upd (σ 15) i x))) = wX cZ cI a (up σ 15 i x) := rfl
theorem wX_s16 (cZ cI : ClassId) (a : Nat → Nat) (σ : sC) (x : Int32) : (wX cZ cI a σ).set 0 (a 0, .inr (0, [.ref (a 1), .ref (a 2), .ref (a 3), .ref (a 4), .ref (a 5), .ref (a 6), .ref (a 7), .ref (a 8), .ref (a 9), .ref (a 10), .ref (a 11), .ref (a 12), .ref (a 13), .ref (a 14), .ref (a 15), .ref (a 16), .int (σ 16 0), .int (σ 17 0)].set 16 (.int x))) = wX cZ cI a (up σ 16 0 x) := rfl
theorem wX_s17 (cZ cI : ClassId) (a : Nat → Nat) (σ : sC) (x : Int32) : (wX cZ cI a σ).set 0 (a 0, .inr (0, [.ref (a 1), .ref (a 2), .ref (a 3), .ref (a 4), .ref (a 5), .ref (a 6), .ref (a 7), .ref (a 8), .ref (a 9), .ref (a 10), .ref (a 11), .ref (a 12), .ref (a 13), .ref (a 14), .ref (a 15), .ref (a 16), .int (σ 16 0), .int (σ 17 0)].set 17 (.int x))) = wX cZ cI a (up σ 17 0 x) := rfl
theorem wM_th (cZ cI : ClassId) (a : Nat → Nat) (th : Int32) (σ : sC) (x : Int32) : (wM cZ cI a th σ).set 0 (a 0, .inr (1, [.int th, .ref (a 1), .ref (a 2), .ref (a 3), .ref (a 4), .ref (a 5), .ref (a 6), .ref (a 7), .ref (a 8), .ref (a 9), .ref (a 10), .ref (a 11), .ref (a 12), .ref (a 13), .ref (a 14), .ref (a 15), .ref (a 16), .int (σ 16 0), .int (σ 17 0)].set 0 (.int x))) = wM cZ cI a x σ := rfl
theorem wM_rep (cZ cI : ClassId) (a : Nat → Nat) (th : Int32) (σ : sC) (x : Int32) : (wM cZ cI a th σ).set 0 (a 0, .inr (1, [.int th, .ref (a 1), .ref (a 2), .ref (a 3), .ref (a 4), .ref (a 5), .ref (a 6), .ref (a 7), .ref (a 8), .ref (a 9), .ref (a 10), .ref (a 11), .ref (a 12), .ref (a 13), .ref (a 14), .ref (a 15), .ref (a 16), .int (σ 16 0), .int (σ 17 0)].set 17 (.int x))) = wM cZ cI a th (up σ 16 0 x) := rfl
theorem wM_time (cZ cI : ClassId) (a : Nat → Nat) (th : Int32) (σ : sC) (x : Int32) : (wM cZ cI a th σ).set 0 (a 0, .inr (1, [.int th, .ref (a 1), .ref (a 2), .ref (a 3), .ref (a 4), .ref (a 5), .ref (a 6), .ref (a 7), .ref (a 8), .ref (a 9), .ref (a 10), .ref (a 11), .ref (a 12), .ref (a 13), .ref (a 14), .ref (a 15), .ref (a 16), .int (σ 16 0), .int (σ 17 0)].set 18 (.int x))) = wM cZ cI a th (up σ 17 0 x) := rfl
theorem upd_pm (f : Nat → Int32) {r g : Nat} (hr : r < 4) (hg : g < 3) (x : Int32) : upd (fun j => f (pm j)) (3 * r + g) x = fun j => upd f (4 * g + r) x (pm j) := by
  funext j
  unfold upd
  by_cases h : j = 3 * r + g
  · rw [if_pos h, if_pos ((pm_iff hr hg j).mp h)]
  · rw [if_neg h, if_neg (fun q => h ((pm_iff hr hg j).mpr q))]
theorem upd_flip (f : Nat → Int32) (i : Nat) {x y : Int32} (h : flip y = x) : upd (fun j => flip (f j)) i x = fun j => flip (upd f i y j) := by
  funext j
  unfold upd
  by_cases hj : j = i
  · rw [if_pos hj, if_pos hj, h]
  · rw [if_neg hj, if_neg hj]
theorem wM_s1 (cZ cI : ClassId) (a : Nat → Nat) (th : Int32) (σ : sC) (i : Nat) {x y : Int32} (h : flip y = x) : (wM cZ cI a th σ).set 1 (a 1, .inl (cZ, 4, .inl (upd (fun j => flip (σ 0 j)) i x))) = wM cZ cI a th (up σ 0 i y) := by
  rw [upd_flip _ _ h]
  rfl
theorem wM_s2 (cZ cI : ClassId) (a : Nat → Nat) (th : Int32) (σ : sC) {r g : Nat} (hr : r < 4) (hg : g < 3) (x : Int32) : (wM cZ cI a th σ).set 2 (a 2, .inl (cI, 12, .inl (upd (fun j => σ 9 (pm j)) (3 * r + g) x))) = wM cZ cI a th (up σ 9 (4 * g + r) x) := by
  rw [upd_pm _ hr hg]
  rfl
theorem wM_s3 (cZ cI : ClassId) (a : Nat → Nat) (th : Int32) (σ : sC) (i : Nat) (x : Int32) : (wM cZ cI a th σ).set 3 (a 3, .inl (cI, 8, .inl (upd (σ 3) i x))) = wM cZ cI a th (up σ 3 i x) := rfl
theorem wM_s4 (cZ cI : ClassId) (a : Nat → Nat) (th : Int32) (σ : sC) (i : Nat) {x y : Int32} (h : flip y = x) : (wM cZ cI a th σ).set 4 (a 4, .inl (cZ, 8, .inl (upd (fun j => flip (σ 2 j)) i x))) = wM cZ cI a th (up σ 2 i y) := by
  rw [upd_flip _ _ h]
  rfl
theorem wM_s5 (cZ cI : ClassId) (a : Nat → Nat) (th : Int32) (σ : sC) (i : Nat) {x y : Int32} (h : flip y = x) : (wM cZ cI a th σ).set 5 (a 5, .inl (cZ, 16, .inl (upd (fun j => flip (σ 1 j)) i x))) = wM cZ cI a th (up σ 1 i y) := by
  rw [upd_flip _ _ h]
  rfl
theorem wM_s6 (cZ cI : ClassId) (a : Nat → Nat) (th : Int32) (σ : sC) (i : Nat) (x : Int32) : (wM cZ cI a th σ).set 6 (a 6, .inl (cI, 3, .inl (upd (σ 4) i x))) = wM cZ cI a th (up σ 4 i x) := rfl
theorem wM_s7 (cZ cI : ClassId) (a : Nat → Nat) (th : Int32) (σ : sC) (i : Nat) {x y : Int32} (h : flip y = x) : (wM cZ cI a th σ).set 7 (a 7, .inl (cZ, 3, .inl (upd (fun j => flip (σ 5 j)) i x))) = wM cZ cI a th (up σ 5 i y) := by
  rw [upd_flip _ _ h]
  rfl
theorem wM_s8 (cZ cI : ClassId) (a : Nat → Nat) (th : Int32) (σ : sC) (i : Nat) (x : Int32) : (wM cZ cI a th σ).set 8 (a 8, .inl (cI, 3, .inl (upd (σ 6) i x))) = wM cZ cI a th (up σ 6 i x) := rfl
theorem wM_s9 (cZ cI : ClassId) (a : Nat → Nat) (th : Int32) (σ : sC) {r g : Nat} (hr : r < 4) (hg : g < 3) (x : Int32) : (wM cZ cI a th σ).set 9 (a 9, .inl (cI, 12, .inl (upd (fun j => σ 10 (pm j)) (3 * r + g) x))) = wM cZ cI a th (up σ 10 (4 * g + r) x) := by
  rw [upd_pm _ hr hg]
  rfl
theorem wM_s10 (cZ cI : ClassId) (a : Nat → Nat) (th : Int32) (σ : sC) {r g : Nat} (hr : r < 4) (hg : g < 3) (x : Int32) : (wM cZ cI a th σ).set 10 (a 10, .inl (cI, 12, .inl (upd (fun j => σ 11 (pm j)) (3 * r + g) x))) = wM cZ cI a th (up σ 11 (4 * g + r) x) := by
  rw [upd_pm _ hr hg]
  rfl
theorem wM_s11 (cZ cI : ClassId) (a : Nat → Nat) (th : Int32) (σ : sC) {r g : Nat} (hr : r < 4) (hg : g < 3) (x : Int32) : (wM cZ cI a th σ).set 11 (a 11, .inl (cI, 12, .inl (upd (fun j => σ 12 (pm j)) (3 * r + g) x))) = wM cZ cI a th (up σ 12 (4 * g + r) x) := by
  rw [upd_pm _ hr hg]
  rfl
theorem wM_s12 (cZ cI : ClassId) (a : Nat → Nat) (th : Int32) (σ : sC) {r g : Nat} (hr : r < 4) (hg : g < 3) (x : Int32) : (wM cZ cI a th σ).set 12 (a 12, .inl (cI, 12, .inl (upd (fun j => σ 13 (pm j)) (3 * r + g) x))) = wM cZ cI a th (up σ 13 (4 * g + r) x) := by
  rw [upd_pm _ hr hg]
  rfl
theorem wM_s13 (cZ cI : ClassId) (a : Nat → Nat) (th : Int32) (σ : sC) {r g : Nat} (hr : r < 4) (hg : g < 3) (x : Int32) : (wM cZ cI a th σ).set 13 (a 13, .inl (cZ, 12, .inl (upd (fun j => σ 15 (pm j)) (3 * r + g) x))) = wM cZ cI a th (up σ 15 (4 * g + r) x) := by
  rw [upd_pm _ hr hg]
  rfl
theorem wM_s14 (cZ cI : ClassId) (a : Nat → Nat) (th : Int32) (σ : sC) {r g : Nat} (hr : r < 4) (hg : g < 3) (x : Int32) : (wM cZ cI a th σ).set 14 (a 14, .inl (cI, 12, .inl (upd (fun j => σ 14 (pm j)) (3 * r + g) x))) = wM cZ cI a th (up σ 14 (4 * g + r) x) := by
  rw [upd_pm _ hr hg]
  rfl
theorem wM_s15 (cZ cI : ClassId) (a : Nat → Nat) (th : Int32) (σ : sC) (i : Nat) (x : Int32) : (wM cZ cI a th σ).set 15 (a 15, .inl (cI, 3, .inl (upd (σ 7) i x))) = wM cZ cI a th (up σ 7 i x) := rfl
theorem wM_s16 (cZ cI : ClassId) (a : Nat → Nat) (th : Int32) (σ : sC) (i : Nat) (x : Int32) : (wM cZ cI a th σ).set 16 (a 16, .inl (cI, 3, .inl (upd (σ 8) i x))) = wM cZ cI a th (up σ 8 i x) := rfl
end
section
/-! ===== what the methods do, over one state σ ===== -/
def itF {α : Type} (f : Nat → α → α) (x : α) : Nat → α
  | 0 => x
  | n + 1 => f n (itF f x n)
def low1 (σ : sC) (r k : Nat) (x : Int32) : Int32 := if σ 2 (2 * r + k) = 0 then x - σ 3 (2 * r + k) else x
def lowM (x : Int32) : Int32 := if x < 1 then 1 else x
def lowP (σ : sC) (r g : Nat) : Int32 := lowM (itF (low1 σ r) (σ 9 (4 * g + r)) 2)
def skewF (σ : sC) (own : Int32) (g : Nat) : Int32 := σ 4 g * (256 - own) / 256
def waitF (σ : sC) (own : Int32) (g : Nat) : Int32 := 3 * σ 4 g + skewF σ own g
def rest2 (σ : sC) (r g : Nat) (h : Int32) : sC := up (up σ 10 (4 * g + r) 1) 12 (4 * g + r) h
def restF (σ : sC) (r g : Nat) (h : Int32) : sC := up (rest2 σ r g h) 11 (4 * g + r) (waitF (rest2 σ r g h) (lowP (rest2 σ r g h) r g) g)
def copy1 (σ : sC) (t f g : Nat) : sC := up σ 13 (4 * g + t) (σ 13 (4 * g + t) + (σ 13 (4 * g + f) - σ 13 (4 * g + t)))
def copy2 (σ : sC) (t g : Nat) : sC := if σ 15 (4 * g + t) = 0 then σ else up (up σ 15 (4 * g + t) 0) 16 0 ((up σ 15 (4 * g + t) 0) 16 0 + 1)
def copyF (σ : sC) (t f g : Nat) : sC :=
  if 0 < σ 13 (4 * g + f) - σ 13 (4 * g + t) then
    (if 10 < σ 13 (4 * g + f) - σ 13 (4 * g + t) then
      (if σ 15 (4 * g + t) = 0 then up σ 15 (4 * g + t) 1 else copy2 (copy1 σ t f g) t g)
    else copy2 (copy1 σ t f g) t g)
  else σ
def recvM (σ : sC) (r g s : Nat) (num : Int32) : sC :=
  if lowP σ r g < num then copyF (restF σ r g 0) r s g
  else if num = lowP σ r g then (if nI r < nI s then copyF (restF σ r g 0) r s g else σ) else σ
def waitB (σ : sC) (r g : Nat) (h own : Int32) : sC := up (up σ 12 (4 * g + r) h) 11 (4 * g + r) (waitF (up σ 12 (4 * g + r) h) own g)
def recvB (σ : sC) (r g s : Nat) (num : Int32) : sC :=
  if num = 0 then copyF (up σ 11 (4 * g + r) (skewF σ (lowP σ r g) g + 1)) r s g
  else if σ 5 g = 0 then copyF (waitB σ r g 0 (lowP σ r g)) r s g
  else if num < lowP σ r g then
    (if σ 12 (4 * g + r) < σ 6 g then copyF (waitB σ r g (σ 12 (4 * g + r) + 1) (lowP σ r g)) r s g else σ)
  else copyF (waitB σ r g 0 (lowP σ r g)) r s g
def advS (s g : Nat) (num : Int32) (r : Nat) (σ : sC) : sC :=
  if nI r = nI s then σ else if σ 1 (4 * s + r) = 0 then σ
  else if σ 10 (4 * g + r) = 2 then recvM σ r g s num
  else if σ 10 (4 * g + r) = 1 then recvB σ r g s num else σ
def advF (σ : sC) (s g : Nat) (num : Int32) : sC := itF (advS s g num) (up σ 8 g (σ 8 g + 1)) 4
def tick1 (σ : sC) (r g : Nat) : sC := up σ 11 (4 * g + r) (σ 11 (4 * g + r) - 1)
def sendF (σ : sC) (r g : Nat) : sC := up (advF σ r g (lowP σ r g)) 11 (4 * g + r) ((advF σ r g (lowP σ r g)) 4 g)
def turnM (g r : Nat) (σ : sC) : sC :=
  if σ 10 (4 * g + r) = 2 then (if (tick1 σ r g) 11 (4 * g + r) = 0 then sendF (tick1 σ r g) r g else tick1 σ r g) else σ
def riseF (σ : sC) (r g : Nat) : sC := up (up σ 10 (4 * g + r) 2) 14 (4 * g + r) ((up σ 10 (4 * g + r) 2) 14 (4 * g + r) + 1)
def turnB (g r : Nat) (σ : sC) : sC :=
  if σ 10 (4 * g + r) = 1 then (if (tick1 σ r g) 11 (4 * g + r) = 0 then sendF (riseF (tick1 σ r g) r g) r g else tick1 σ r g) else σ
def memS (σ : sC) (role : Int32) (g r : Nat) (x : Int32) : Int32 := if σ 10 (4 * g + r) = role then x + ((1 : Int32) <<< (nI r &&& 31)) else x
def memW (σ : sC) (role : Int32) (g : Nat) : Int32 := itF (memS σ role g) 0 4
def gapF (σ : sC) (g : Nat) : sC := if memW σ 2 g = 0 then up σ 7 g (σ 7 g + 1) else σ
def runM (σ : sC) (g : Nat) : sC := itF (turnM g) σ 4
def runB (σ : sC) (g : Nat) : sC := itF (turnB g) σ 4
def groupT (g : Nat) (σ : sC) : sC := gapF (runB (runM σ g) g) g
def tickT (_ : Nat) (σ : sC) : sC := itF groupT σ 3
def tickF (σ : sC) (n : Nat) : sC := up (itF tickT σ n) 17 0 ((itF tickT σ n) 17 0 + nI n)
def beginF (σ : sC) (r g : Nat) : sC := up (restF σ r g 0) 15 (4 * g + r) 0
def goodJ (σ : sC) (g i j : Nat) : Prop := σ 10 (4 * g + i) = 2 ∧ σ 10 (4 * g + j) = 2 ∧ ¬ σ 1 (4 * i + j) = 0
def hasJp (σ : sC) (g : Nat) : Prop := ∃ i j : Nat, i < j ∧ j < 4 ∧ goodJ σ g i j
noncomputable def hasJ (σ : sC) (g : Nat) : Int32 := @ite Int32 (hasJp σ g) (Classical.propDecidable _) 1 0
theorem hasJ_1 {σ : sC} {g : Nat} (h : hasJp σ g) : hasJ σ g = 1 := by unfold hasJ; exact if_pos h
theorem hasJ_0 {σ : sC} {g : Nat} (h : ¬ hasJp σ g) : hasJ σ g = 0 := by unfold hasJ; exact if_neg h
theorem nar_z {x : Int32} (h : x = 0 ∨ x = 1) : narrow .boolean (.int x) = .int x := by rcases h with h | h <;> subst h <;> rfl
theorem hasJ_z (σ : sC) (g : Nat) : hasJ σ g = 0 ∨ hasJ σ g = 1 := by
  by_cases h : hasJp σ g
  · exact Or.inr (hasJ_1 h)
  · exact Or.inl (hasJ_0 h)
def setP2 (σ : sC) (r g : Nat) (v : Int32) : sC :=
  if v = 0 then up (up σ 9 (4 * g + r) v) 10 (4 * g + r) 0
  else if (up σ 9 (4 * g + r) v) 0 r = 0 then up σ 9 (4 * g + r) v
  else if (up σ 9 (4 * g + r) v) 10 (4 * g + r) = 0 then beginF (up σ 9 (4 * g + r) v) r g else up σ 9 (4 * g + r) v
def setP1 (σ : sC) (r g : Nat) (v : Int32) : sC := if v = 0 then (if σ 10 (4 * g + r) = 2 then advF σ r g 0 else σ) else σ
def setPF (σ : sC) (r g : Nat) (v : Int32) : sC := setP2 (setP1 σ r g v) r g v
def dieS (r g : Nat) (σ : sC) : sC := up σ 10 (4 * g + r) 0
def dieG (σ : sC) (r n : Nat) : sC := itF (dieS r) (up σ 0 r 0) n
def dieC (σ : sC) (r : Nat) (g : Nat) (x : Int32) : Int32 := if (dieG σ r g) 10 (4 * g + r) = 2 then x + 1 else x
def dieN (σ : sC) (r n : Nat) : Int32 := itF (dieC σ r) 0 n
def liveS (r g : Nat) (σ : sC) : sC := if 0 < σ 9 (4 * g + r) then beginF σ r g else σ
def liveG (σ : sC) (r n : Nat) : sC := itF (liveS r) (up σ 0 r 1) n
def liveC (σ : sC) (r : Nat) (g : Nat) (x : Int32) : Int32 := if 0 < (liveG σ r g) 9 (4 * g + r) then x + 1 else x
def liveN (σ : sC) (r n : Nat) : Int32 := itF (liveC σ r) 0 n
def serveS (g : Nat) (k : Int32) (r : Nat) (σ : sC) : sC := if σ 10 (4 * g + r) = 2 then up σ 13 (4 * g + r) (σ 13 (4 * g + r) + k) else σ
def serveG (σ : sC) (g : Nat) (k : Int32) (n : Nat) : sC := itF (serveS g k) σ n
def serveC (σ : sC) (g : Nat) (k : Int32) (r : Nat) (x : Int32) : Int32 := if (serveG σ g k r) 10 (4 * g + r) = 2 then x + 1 else x
def serveN (σ : sC) (g : Nat) (k : Int32) (n : Nat) : Int32 := itF (serveC σ g k) 0 n
def prioF (σ : sC) (r g : Nat) : Int32 := if σ 10 (4 * g + r) = 0 then 0 else lowP σ r g
noncomputable def setlF (σ : sC) (g : Nat) : Int32 := if memW σ 2 g = 0 then (if memW σ 1 g = 0 then 1 else 0) else (if hasJ σ g = 0 then 1 else 0)
theorem setlF_z (σ : sC) (g : Nat) : setlF σ g = 0 ∨ setlF σ g = 1 := by
  unfold setlF
  split
  · split
    · exact Or.inr rfl
    · exact Or.inl rfl
  · split
    · exact Or.inr rfl
    · exact Or.inl rfl
end
section
theorem pl_x {r g : Nat} (hr : r < 4) (hg : g < 3) : nI g * 4 + nI r = nI (4 * g + r) := (by decide +kernel : ∀ r, r < 4 → ∀ g, g < 3 → nI g * 4 + nI r = nI (4 * g + r)) r hr g hg
theorem pl_k {r k : Nat} (hr : r < 4) (hk : k < 2) : nI r * 2 + nI k = nI (2 * r + k) := (by decide +kernel : ∀ r, r < 4 → ∀ k, k < 2 → nI r * 2 + nI k = nI (2 * r + k)) r hr k hk
theorem pl_j {r q : Nat} (hr : r < 4) (hq : q < 4) : nI r * 4 + nI q = nI (4 * r + q) := (by decide +kernel : ∀ r, r < 4 → ∀ q, q < 4 → nI r * 4 + nI q = nI (4 * r + q)) r hr q hq
theorem lt_nI {i n : Nat} (h : i < n) (hn : n < 100) : nI i < nI n := nI_lt h (by omega)
theorem nlt_nI {n : Nat} (hn : n < 100) : ¬ nI n < nI n := nI_nlt (Nat.le_refl n) (by omega)

set_option maxHeartbeats 4000000 in
set_option maxRecDepth 100000 in
theorem kX0_placeOf (l : Launch) (D : va_G) (tys : List (ClassId × FieldType)) {r g : Nat} (hr : r < 4) (hg : g < 3) : MI l yX0_placeOf wsX0_placeOf ({ frames := 0, cells := 0, slots := 0, locals := 0 } : Room) D tys [.int (nI r), .int (nI g)] [] (nI (4 * g + r)) [] := by
  refine MI.of (cc := cX0_placeOf) (maxL := 2) (ty := .int) (by decide) rfl (rfl) ⟨rfl, rfl⟩ (Nat.le_of_ble_eq_true rfl) ?_
  intro p e s m args below meth c A Q S hK hret ls hl hw
  replace hl : lv_has ls 2 [(0, .int (nI r)), (1, .int (nI g))] := hl
  replace S : CallFix p m c cX0_placeOf 2 s args wsX0_placeOf RX0 := S
  refine lv_iload_n S.1 S.2.1 dX0_placeOf_0 rfl (lv_at hl 1 rfl) ?_
  refine lv_iconst (v := 4) S.1 S.2.1 dX0_placeOf_1 (by decide) ?_
  refine lv_imul S.1 S.2.1 dX0_placeOf_2 ?_
  refine lv_iload_n S.1 S.2.1 dX0_placeOf_3 rfl (lv_at hl 0 rfl) ?_
  refine lv_iadd S.1 S.2.1 dX0_placeOf_4 ?_
  refine bx_top (y := nI (4 * g + r)) (pl_x hr hg) ?_
  exact hret hw dX0_placeOf_5 (rfl) rfl

set_option maxHeartbeats 4000000 in
set_option maxRecDepth 100000 in
theorem kX0_linkOf (l : Launch) (D : va_G) (tys : List (ClassId × FieldType)) {r k : Nat} (hr : r < 4) (hk : k < 2) : MI l yX0_linkOf wsX0_linkOf ({ frames := 0, cells := 0, slots := 0, locals := 0 } : Room) D tys [.int (nI r), .int (nI k)] [] (nI (2 * r + k)) [] := by
  refine MI.of (cc := cX0_linkOf) (maxL := 2) (ty := .int) (by decide) rfl (rfl) ⟨rfl, rfl⟩ (Nat.le_of_ble_eq_true rfl) ?_
  intro p e s m args below meth c A Q S hK hret ls hl hw
  replace hl : lv_has ls 2 [(0, .int (nI r)), (1, .int (nI k))] := hl
  replace S : CallFix p m c cX0_linkOf 2 s args wsX0_linkOf RX0 := S
  refine lv_iload_n S.1 S.2.1 dX0_linkOf_0 rfl (lv_at hl 0 rfl) ?_
  refine lv_iconst (v := 2) S.1 S.2.1 dX0_linkOf_1 (by decide) ?_
  refine lv_imul S.1 S.2.1 dX0_linkOf_2 ?_
  refine lv_iload_n S.1 S.2.1 dX0_linkOf_3 rfl (lv_at hl 1 rfl) ?_
  refine lv_iadd S.1 S.2.1 dX0_linkOf_4 ?_
  refine bx_top (y := nI (2 * r + k)) (pl_k hr hk) ?_
  exact hret hw dX0_linkOf_5 (rfl) rfl

theorem inX0_skewOf : ∀ w ∈ u_ws RX0 TX0 18, w ∈ wsX0_skewOf := fun _ h => List.mem_cons_of_mem _ (List.mem_append_right _ h)
theorem flX0_skewOf_23 : Cond.fieldLink RX0 23 "StandbyPair" "periods" "[I" ∈ wsX0_skewOf := by decide +kernel
set_option maxHeartbeats 4000000 in
set_option maxRecDepth 100000 in
theorem kX0_skewOf (l : Launch) (D : va_G) (cZ cI : ClassId) (a : Nat → Nat) (σ : sC) (own : Int32) {g : Nat} (hg : g < 3) : MI l yX0_skewOf wsX0_skewOf ({ frames := 0, cells := 0, slots := 0, locals := 0 } : Room) D (tyZ cZ cI) [.ref (a 0), .int own, .int (nI g)] (wX cZ cI a σ) (skewF σ own g) (wX cZ cI a σ) := by
  refine MI.of (cc := cX0_skewOf) (maxL := 3) (ty := .int) (by decide) rfl (rfl) ⟨rfl, rfl⟩ (Nat.le_of_ble_eq_true rfl) ?_
  intro p e s m args below meth c A Q S hK hret ls hl hw
  replace hl : lv_has ls 3 [(0, .ref (a 0)), (1, .int own), (2, .int (nI g))] := hl
  replace S : CallFix p m c cX0_skewOf 3 s args wsX0_skewOf RX0 := S
  have hin := inX0_skewOf
  refine lv_aload_n S.1 S.2.1 dX0_skewOf_0 rfl (lv_at hl 0 rfl) ?_
  refine bx_get S hK hin hw.1 0 rfl rfl 4 (by decide) flX0_skewOf_23 rfl dX0_skewOf_1 ?_
  refine lv_iload_n S.1 S.2.1 dX0_skewOf_4 rfl (lv_at hl 2 rfl) ?_
  refine bx_iald (v := σ 4 g) S hK hw.1 5 1 rfl rfl (by omega) (by decide) rfl dX0_skewOf_5 ?_
  refine lv_sipush (v := 256) S.1 S.2.1 dX0_skewOf_6 (by decide) ?_
  refine lv_iload_n S.1 S.2.1 dX0_skewOf_9 rfl (lv_at hl 1 rfl) ?_
  refine lv_isub S.1 S.2.1 dX0_skewOf_10 ?_
  refine lv_imul S.1 S.2.1 dX0_skewOf_11 ?_
  refine lv_sipush (v := 256) S.1 S.2.1 dX0_skewOf_12 (by decide) ?_
  refine lv_idiv S.1 S.2.1 dX0_skewOf_15 (by decide) ?_
  exact hret hw dX0_skewOf_16 (rfl) (congrArg (wX cZ cI a) (rfl))

theorem inX0_waitOf : ∀ w ∈ u_ws RX0 TX0 18, w ∈ wsX0_waitOf := fun _ h => List.mem_cons_of_mem _ (List.mem_append_right _ h)
theorem flX0_waitOf_23 : Cond.fieldLink RX0 23 "StandbyPair" "periods" "[I" ∈ wsX0_waitOf := by decide +kernel
set_option maxHeartbeats 4000000 in
set_option maxRecDepth 100000 in
theorem kX0_waitOf (l : Launch) (D : va_G) (cZ cI : ClassId) (a : Nat → Nat) (σ : sC) (own : Int32) {g : Nat} (hg : g < 3) : MI l yX0_waitOf wsX0_waitOf ({ frames := 1, cells := 0, slots := 0, locals := 22 } : Room) D (tyZ cZ cI) [.ref (a 0), .int own, .int (nI g)] (wX cZ cI a σ) (waitF σ own g) (wX cZ cI a σ) := by
  refine MI.of (cc := cX0_waitOf) (maxL := 3) (ty := .int) (by decide) rfl (rfl) ⟨rfl, rfl⟩ (Nat.le_of_ble_eq_true rfl) ?_
  intro p e s m args below meth c A Q S hK hret ls hl hw
  replace hl : lv_has ls 3 [(0, .ref (a 0)), (1, .int own), (2, .int (nI g))] := hl
  replace S : CallFix p m c cX0_waitOf 3 s args wsX0_waitOf RX0 := S
  have hin := inX0_waitOf
  refine lv_iconst (v := 3) S.1 S.2.1 dX0_waitOf_0 (by decide) ?_
  refine lv_aload_n S.1 S.2.1 dX0_waitOf_1 rfl (lv_at hl 0 rfl) ?_
  refine bx_get S hK hin hw.1 0 rfl rfl 4 (by decide) flX0_waitOf_23 rfl dX0_waitOf_2 ?_
  refine lv_iload_n S.1 S.2.1 dX0_waitOf_5 rfl (lv_at hl 2 rfl) ?_
  refine bx_iald (v := σ 4 g) S hK hw.1 5 1 rfl rfl (by omega) (by decide) rfl dX0_waitOf_6 ?_
  refine lv_imul S.1 S.2.1 dX0_waitOf_7 ?_
  refine lv_aload_n S.1 S.2.1 dX0_waitOf_8 rfl (lv_at hl 0 rfl) ?_
  refine lv_iload_n S.1 S.2.1 dX0_waitOf_9 rfl (lv_at hl 1 rfl) ?_
  refine lv_iload_n S.1 S.2.1 dX0_waitOf_10 rfl (lv_at hl 2 rfl) ?_
  refine bc_vi (As := [.int own, .int (nI g)]) (rest := [.int (3 * (σ 4 g))]) S hK hw (kX0_skewOf l D cZ cI a σ own (g := g) (by omega)) (cwV 2 S.2.2.2.2 gX0_waitOf_X0_skewOf rfl rfl rfl (by decide +kernel) ⟨Nat.le_of_ble_eq_true rfl, Nat.le_of_ble_eq_true rfl⟩) (q0 := 0) rfl rfl rfl hl.1 rfl (Nat.le_of_ble_eq_true rfl) (Nat.zero_le _) (Nat.zero_le _) dX0_waitOf_11 (fun H locs hw => ?_)
  refine lv_iadd S.1 S.2.1 dX0_waitOf_14 ?_
  exact hret hw dX0_waitOf_15 (rfl) (congrArg (wX cZ cI a) (rfl))

theorem inX0_loweredPriority : ∀ w ∈ u_ws RX0 TX0 18, w ∈ wsX0_loweredPriority := fun _ h => List.mem_cons_of_mem _ (List.mem_append_right _ h)
theorem flX0_loweredPriority_38 : Cond.fieldLink RX0 38 "StandbyPair" "basePriorities" "[I" ∈ wsX0_loweredPriority := by decide +kernel
theorem flX0_loweredPriority_16 : Cond.fieldLink RX0 16 "StandbyPair" "linkUp" "[Z" ∈ wsX0_loweredPriority := by decide +kernel
theorem flX0_loweredPriority_19 : Cond.fieldLink RX0 19 "StandbyPair" "decrements" "[I" ∈ wsX0_loweredPriority := by decide +kernel
set_option maxHeartbeats 4000000 in
set_option maxRecDepth 100000 in
theorem kX0_loweredPriority (l : Launch) (D : va_G) (cZ cI : ClassId) (a : Nat → Nat) (σ : sC) {r g : Nat} (hr : r < 4) (hg : g < 3) : MI l yX0_loweredPriority wsX0_loweredPriority ({ frames := 1, cells := 0, slots := 0, locals := 21 } : Room) D (tyZ cZ cI) [.ref (a 0), .int (nI r), .int (nI g)] (wX cZ cI a σ) (lowP σ r g) (wX cZ cI a σ) := by
  refine MI.of (cc := cX0_loweredPriority) (maxL := 6) (ty := .int) (by decide) rfl (rfl) ⟨rfl, rfl⟩ (Nat.le_of_ble_eq_true rfl) ?_
  intro p e s m args below meth c A Q S hK hret ls hl hw
  replace hl : lv_has ls 6 [(0, .ref (a 0)), (1, .int (nI r)), (2, .int (nI g))] := hl
  replace S : CallFix p m c cX0_loweredPriority 6 s args wsX0_loweredPriority RX0 := S
  have hin := inX0_loweredPriority
  have mx1 : Cond.methodLink RX0 150 Lib.Math.max.name ∈ wsX0_loweredPriority := by decide +kernel
  have mx2 : Cond.static Lib.Math.max.name ∈ wsX0_loweredPriority := by decide +kernel
  have mx3 : Cond.initialized "java/lang/Math" ∈ wsX0_loweredPriority := by decide +kernel
  have mx4 : Cond.code Lib.Math.max.name Lib.Math.max.code 2 (some .int) ∈ wsX0_loweredPriority := by decide +kernel
  refine lv_aload_n S.1 S.2.1 dX0_loweredPriority_0 rfl (lv_at hl 0 rfl) ?_
  refine bx_get S hK hin hw.1 0 rfl rfl 9 (by decide) flX0_loweredPriority_38 rfl dX0_loweredPriority_1 ?_
  refine lv_iload_n S.1 S.2.1 dX0_loweredPriority_4 rfl (lv_at hl 1 rfl) ?_
  refine lv_iload_n S.1 S.2.1 dX0_loweredPriority_5 rfl (lv_at hl 2 rfl) ?_
  refine bc_si (As := [.int (nI r), .int (nI g)]) (rest := [.ref (a 10)]) S hK hw (kX0_placeOf l D _ (r := r) (g := g) (by omega) (by omega)) (va_cwS 2 S.2.2.2.2 gX0_loweredPriority_X0_placeOf rfl rfl rfl (by decide +kernel) ⟨Nat.le_of_ble_eq_true rfl, Nat.le_of_ble_eq_true rfl⟩) rfl hl.1 rfl (Nat.le_of_ble_eq_true rfl) (Nat.zero_le _) (Nat.zero_le _) dX0_loweredPriority_6 (fun H locs hw => ?_)
  refine bx_iald (v := σ 9 (4 * g + r)) S hK hw.1 10 1 rfl rfl (by omega) (by decide) rfl dX0_loweredPriority_9 ?_
  refine lv_istore_n (lv' := [(3, .int (σ 9 (4 * g + r))), (0, .ref (a 0)), (1, .int (nI r)), (2, .int (nI g))]) S.1 S.2.1 dX0_loweredPriority_10 rfl hl (by decide) rfl (fun ls hl => ?_)
  refine lv_iconst (v := nI 0) S.1 S.2.1 dX0_loweredPriority_11 (by decide) ?_
  refine lv_istore (lv' := [(4, .int (nI 0)), (3, .int (σ 9 (4 * g + r))), (0, .ref (a 0)), (1, .int (nI r)), (2, .int (nI g))]) S.1 S.2.1 dX0_loweredPriority_12 hl (by decide) rfl (fun ls hl => ?_)
  have L14 : ∀ (n i14 : Nat), i14 + n = 2 → ∀ (H : Heap) (locs : List Loc), Wd D A s.heap (wX cZ cI a σ) H locs → ∀ ls : Array Slot, lv_has ls 6 [(0, .ref (a 0)), (1, .int (nI r)), (2, .int (nI g)), (3, .int (itF (low1 σ r) (σ 9 (4 * g + r)) i14)), (4, .int (nI i14))] → W p l e ({ frames := 1, cells := 0, slots := 0, locals := 21 } : Room) s m args below meth c H locs 0 0 Q (F0 m 14 ls []) := by
    intro n
    induction n with
    | zero =>
      intro i14 hi H locs hw ls hl
      obtain rfl : i14 = 2 := by omega
      refine lv_iload S.1 S.2.1 dX0_loweredPriority_14 (lv_at hl 4 rfl) ?_
      refine lv_iconst (v := nI 2) S.1 S.2.1 dX0_loweredPriority_16 (by decide) ?_
      refine br_ge (tgt := 54) S dX0_loweredPriority_17 (by decide) (fun c17 => ?_) (fun c17 => ?_)
      · refine lv_iload_n S.1 S.2.1 dX0_loweredPriority_54 rfl (lv_at hl 3 rfl) ?_
        refine lv_iconst (v := 1) S.1 S.2.1 dX0_loweredPriority_55 (by decide) ?_
        refine va_mmax S.1 S.2.1 (S.2.2.1.trans hl.1.symm) S.2.2.2.1 (S.2.2.2.2 _ mx1) (S.2.2.2.2 _ mx2) (S.2.2.2.2 _ mx3) (S.2.2.2.2 _ mx4) (by decide) (by decide) (Nat.zero_le _) (Nat.zero_le _) dX0_loweredPriority_56 ?_
        exact hret hw dX0_loweredPriority_59 (rfl) (congrArg (wX cZ cI a) (rfl))
      · exact absurd c17 (nlt_nI (by decide))
    | succ n ih_14 =>
      intro i14 hi H locs hw ls hl
      have hi14 : i14 < 2 := by omega
      refine lv_iload S.1 S.2.1 dX0_loweredPriority_14 (lv_at hl 4 rfl) ?_
      refine lv_iconst (v := nI 2) S.1 S.2.1 dX0_loweredPriority_16 (by decide) ?_
      refine br_ge (tgt := 54) S dX0_loweredPriority_17 (by decide) (fun c17 => ?_) (fun c17 => ?_)
      · exact absurd c17 (not_not_intro (lt_nI hi14 (by decide)))
      · refine lv_iload_n S.1 S.2.1 dX0_loweredPriority_20 rfl (lv_at hl 1 rfl) ?_
        refine lv_iload S.1 S.2.1 dX0_loweredPriority_21 (lv_at hl 4 rfl) ?_
        refine bc_si (As := [.int (nI r), .int (nI i14)]) (rest := []) S hK hw (kX0_linkOf l D _ (r := r) (k := i14) (by omega) (by omega)) (va_cwS 2 S.2.2.2.2 gX0_loweredPriority_X0_linkOf rfl rfl rfl (by decide +kernel) ⟨Nat.le_of_ble_eq_true rfl, Nat.le_of_ble_eq_true rfl⟩) rfl hl.1 rfl (Nat.le_of_ble_eq_true rfl) (Nat.zero_le _) (Nat.zero_le _) dX0_loweredPriority_23 (fun H locs hw => ?_)
        refine lv_istore (lv' := [(5, .int (nI (2 * r + i14))), (0, .ref (a 0)), (1, .int (nI r)), (2, .int (nI g)), (3, .int (itF (low1 σ r) (σ 9 (4 * g + r)) i14)), (4, .int (nI i14))]) S.1 S.2.1 dX0_loweredPriority_26 hl (by decide) rfl (fun ls hl => ?_)
        refine lv_aload_n S.1 S.2.1 dX0_loweredPriority_28 rfl (lv_at hl 1 rfl) ?_
        refine bx_get S hK hin hw.1 0 rfl rfl 2 (by decide) flX0_loweredPriority_16 rfl dX0_loweredPriority_29 ?_
        refine lv_iload S.1 S.2.1 dX0_loweredPriority_32 (lv_at hl 0 rfl) ?_
        refine bx_zald (v := σ 2 (2 * r + i14)) S hK hw.1 3 0 rfl rfl (by omega) (by decide) rfl dX0_loweredPriority_34 ?_
        refine bz_ne (tgt := 48) S dX0_loweredPriority_35 (by decide) (fun c35 => ?_) (fun c35 => ?_)
        · refine lv_iinc (v := nI (i14 + 1)) (lv' := [(4, .int (nI (i14 + 1))), (5, .int (nI (2 * r + i14))), (0, .ref (a 0)), (1, .int (nI r)), (2, .int (nI g)), (3, .int (itF (low1 σ r) (σ 9 (4 * g + r)) i14))]) S.1 S.2.1 dX0_loweredPriority_48 hl (k := 5) rfl (nI_1 i14) (by decide) rfl (fun ls hl => ?_)
          refine lv_goto (tgt := 14) S.1 S.2.1 dX0_loweredPriority_51 (by decide) ?_
          have ea : itF (low1 σ r) (σ 9 (4 * g + r)) (i14 + 1) = itF (low1 σ r) (σ 9 (4 * g + r)) i14 := by simp only [itF, low1, eq_true c17, eq_false c35, ↓reduceIte]
          exact ih_14 (i14 + 1) (by omega) _ _ hw _ (by rw [ea]; exact lv_sub hl [2, 3, 4, 5, 0] rfl)
        · refine lv_iload_n S.1 S.2.1 dX0_loweredPriority_38 rfl (lv_at hl 4 rfl) ?_
          refine lv_aload_n S.1 S.2.1 dX0_loweredPriority_39 rfl (lv_at hl 1 rfl) ?_
          refine bx_get S hK hin hw.1 0 rfl rfl 3 (by decide) flX0_loweredPriority_19 rfl dX0_loweredPriority_40 ?_
          refine lv_iload S.1 S.2.1 dX0_loweredPriority_43 (lv_at hl 0 rfl) ?_
          refine bx_iald (v := σ 3 (2 * r + i14)) S hK hw.1 4 1 rfl rfl (by omega) (by decide) rfl dX0_loweredPriority_45 ?_
          refine lv_isub S.1 S.2.1 dX0_loweredPriority_46 ?_
          refine lv_istore_n (lv' := [(3, .int ((itF (low1 σ r) (σ 9 (4 * g + r)) i14) - (σ 3 (2 * r + i14)))), (5, .int (nI (2 * r + i14))), (0, .ref (a 0)), (1, .int (nI r)), (2, .int (nI g)), (4, .int (nI i14))]) S.1 S.2.1 dX0_loweredPriority_47 rfl hl (by decide) rfl (fun ls hl => ?_)
          refine lv_iinc (v := nI (i14 + 1)) (lv' := [(4, .int (nI (i14 + 1))), (3, .int ((itF (low1 σ r) (σ 9 (4 * g + r)) i14) - (σ 3 (2 * r + i14)))), (5, .int (nI (2 * r + i14))), (0, .ref (a 0)), (1, .int (nI r)), (2, .int (nI g))]) S.1 S.2.1 dX0_loweredPriority_48 hl (k := 5) rfl (nI_1 i14) (by decide) rfl (fun ls hl => ?_)
          refine lv_goto (tgt := 14) S.1 S.2.1 dX0_loweredPriority_51 (by decide) ?_
          have ea : itF (low1 σ r) (σ 9 (4 * g + r)) (i14 + 1) = (itF (low1 σ r) (σ 9 (4 * g + r)) i14) - (σ 3 (2 * r + i14)) := by simp only [itF, low1, eq_true c17, eq_true c35, ↓reduceIte]
          exact ih_14 (i14 + 1) (by omega) _ _ hw _ (by rw [ea]; exact lv_sub hl [3, 4, 5, 1, 0] rfl)
  exact L14 (2 - 0) 0 (by omega) _ _ hw _ (lv_sub hl [2, 3, 4, 1, 0] rfl)
end
section
theorem inX0_becomeBackup : ∀ w ∈ u_ws RX0 TX0 18, w ∈ wsX0_becomeBackup := fun _ h => List.mem_cons_of_mem _ (List.mem_append_right _ h)
theorem flX0_becomeBackup_41 : Cond.fieldLink RX0 41 "StandbyPair" "roles" "[I" ∈ wsX0_becomeBackup := by decide +kernel
theorem flX0_becomeBackup_47 : Cond.fieldLink RX0 47 "StandbyPair" "heard" "[I" ∈ wsX0_becomeBackup := by decide +kernel
theorem flX0_becomeBackup_44 : Cond.fieldLink RX0 44 "StandbyPair" "timers" "[I" ∈ wsX0_becomeBackup := by decide +kernel
set_option maxHeartbeats 4000000 in
set_option maxRecDepth 100000 in
theorem kX0_becomeBackup (l : Launch) (D : va_G) (cZ cI : ClassId) (a : Nat → Nat) (σ : sC) {r g : Nat} (hr : r < 4) (hg : g < 3) : MV l yX0_becomeBackup wsX0_becomeBackup ({ frames := 2, cells := 0, slots := 0, locals := 46 } : Room) D (tyZ cZ cI) [.ref (a 0), .int (nI r), .int (nI g)] (wX cZ cI a σ) (wX cZ cI a (restF σ r g 0)) := by
  refine MV.of (cc := cX0_becomeBackup) (maxL := 4) (by decide) rfl ⟨rfl, rfl⟩ (Nat.le_of_ble_eq_true rfl) ?_
  intro p e s m args below meth c A Q S hK hret ls hl hw
  replace hl : lv_has ls 4 [(0, .ref (a 0)), (1, .int (nI r)), (2, .int (nI g))] := hl
  replace S : CallFix p m c cX0_becomeBackup 4 s args wsX0_becomeBackup RX0 := S
  have hin := inX0_becomeBackup
  refine lv_iload_n S.1 S.2.1 dX0_becomeBackup_0 rfl (lv_at hl 1 rfl) ?_
  refine lv_iload_n S.1 S.2.1 dX0_becomeBackup_1 rfl (lv_at hl 2 rfl) ?_
  refine bc_si (As := [.int (nI r), .int (nI g)]) (rest := []) S hK hw (kX0_placeOf l D _ (r := r) (g := g) (by omega) (by omega)) (va_cwS 2 S.2.2.2.2 gX0_becomeBackup_X0_placeOf rfl rfl rfl (by decide +kernel) ⟨Nat.le_of_ble_eq_true rfl, Nat.le_of_ble_eq_true rfl⟩) rfl hl.1 rfl (Nat.le_of_ble_eq_true rfl) (Nat.zero_le _) (Nat.zero_le _) dX0_becomeBackup_2 (fun H locs hw => ?_)
  refine lv_istore_n (lv' := [(3, .int (nI (4 * g + r))), (0, .ref (a 0)), (1, .int (nI r)), (2, .int (nI g))]) S.1 S.2.1 dX0_becomeBackup_5 rfl hl (by decide) rfl (fun ls hl => ?_)
  refine lv_aload_n S.1 S.2.1 dX0_becomeBackup_6 rfl (lv_at hl 1 rfl) ?_
  refine bx_get S hK hin hw.1 0 rfl rfl 10 (by decide) flX0_becomeBackup_41 rfl dX0_becomeBackup_7 ?_
  refine lv_iload_n S.1 S.2.1 dX0_becomeBackup_10 rfl (lv_at hl 0 rfl) ?_
  refine lv_iconst (v := 1) S.1 S.2.1 dX0_becomeBackup_11 (by decide) ?_
  refine bx_iast S hK hw 11 1 rfl rfl (by omega) (by decide) (wX_s10 cZ cI a σ (4 * g + r) 1) dX0_becomeBackup_12 (fun H locs hw => ?_)
  refine lv_aload_n S.1 S.2.1 dX0_becomeBackup_13 rfl (lv_at hl 1 rfl) ?_
  refine bx_get S hK hin hw.1 0 rfl rfl 12 (by decide) flX0_becomeBackup_47 rfl dX0_becomeBackup_14 ?_
  refine lv_iload_n S.1 S.2.1 dX0_becomeBackup_17 rfl (lv_at hl 0 rfl) ?_
  refine lv_iconst (v := 0) S.1 S.2.1 dX0_becomeBackup_18 (by decide) ?_
  refine bx_iast S hK hw 13 1 rfl rfl (by omega) (by decide) (wX_s12 cZ cI a (up σ 10 (4 * g + r) 1) (4 * g + r) 0) dX0_becomeBackup_19 (fun H locs hw => ?_)
  refine lv_aload_n S.1 S.2.1 dX0_becomeBackup_20 rfl (lv_at hl 1 rfl) ?_
  refine bx_get S hK hin hw.1 0 rfl rfl 11 (by decide) flX0_becomeBackup_44 rfl dX0_becomeBackup_21 ?_
  refine lv_iload_n S.1 S.2.1 dX0_becomeBackup_24 rfl (lv_at hl 0 rfl) ?_
  refine lv_aload_n S.1 S.2.1 dX0_becomeBackup_25 rfl (lv_at hl 1 rfl) ?_
  refine lv_aload_n S.1 S.2.1 dX0_becomeBackup_26 rfl (lv_at hl 1 rfl) ?_
  refine lv_iload_n S.1 S.2.1 dX0_becomeBackup_27 rfl (lv_at hl 2 rfl) ?_
  refine lv_iload_n S.1 S.2.1 dX0_becomeBackup_28 rfl (lv_at hl 3 rfl) ?_
  refine bc_vi (As := [.int (nI r), .int (nI g)]) (rest := [.ref (a 0), .int (nI (4 * g + r)), .ref (a 12)]) S hK hw (kX0_loweredPriority l D cZ cI a (up (up σ 10 (4 * g + r) 1) 12 (4 * g + r) 0) (r := r) (g := g) (by omega) (by omega)) (cwV 2 S.2.2.2.2 gX0_becomeBackup_X0_loweredPriority rfl rfl rfl (by decide +kernel) ⟨Nat.le_of_ble_eq_true rfl, Nat.le_of_ble_eq_true rfl⟩) (q0 := 0) rfl rfl rfl hl.1 rfl (Nat.le_of_ble_eq_true rfl) (Nat.zero_le _) (Nat.zero_le _) dX0_becomeBackup_29 (fun H locs hw => ?_)
  refine lv_iload_n S.1 S.2.1 dX0_becomeBackup_32 rfl (lv_at hl 3 rfl) ?_
  refine bc_vi (As := [.int (lowP (up (up σ 10 (4 * g + r) 1) 12 (4 * g + r) 0) r g), .int (nI g)]) (rest := [.int (nI (4 * g + r)), .ref (a 12)]) S hK hw (kX0_waitOf l D cZ cI a (up (up σ 10 (4 * g + r) 1) 12 (4 * g + r) 0) (lowP (up (up σ 10 (4 * g + r) 1) 12 (4 * g + r) 0) r g) (g := g) (by omega)) (cwV 2 S.2.2.2.2 gX0_becomeBackup_X0_waitOf rfl rfl rfl (by decide +kernel) ⟨Nat.le_of_ble_eq_true rfl, Nat.le_of_ble_eq_true rfl⟩) (q0 := 0) rfl rfl rfl hl.1 rfl (Nat.le_of_ble_eq_true rfl) (Nat.zero_le _) (Nat.zero_le _) dX0_becomeBackup_33 (fun H locs hw => ?_)
  refine bx_iast S hK hw 12 1 rfl rfl (by omega) (by decide) (wX_s11 cZ cI a (up (up σ 10 (4 * g + r) 1) 12 (4 * g + r) 0) (4 * g + r) (waitF (up (up σ 10 (4 * g + r) 1) 12 (4 * g + r) 0) (lowP (up (up σ 10 (4 * g + r) 1) 12 (4 * g + r) 0) r g) g)) dX0_becomeBackup_36 (fun H locs hw => ?_)
  exact hret hw dX0_becomeBackup_37 (congrArg (wX cZ cI a) (rfl))

theorem inX0_beginPart : ∀ w ∈ u_ws RX0 TX0 18, w ∈ wsX0_beginPart := fun _ h => List.mem_cons_of_mem _ (List.mem_append_right _ h)
theorem flX0_beginPart_56 : Cond.fieldLink RX0 56 "StandbyPair" "repairAsked" "[Z" ∈ wsX0_beginPart := by decide +kernel
set_option maxHeartbeats 4000000 in
set_option maxRecDepth 100000 in
theorem kX0_beginPart (l : Launch) (D : va_G) (cZ cI : ClassId) (a : Nat → Nat) (σ : sC) {r g : Nat} (hr : r < 4) (hg : g < 3) : MV l yX0_beginPart wsX0_beginPart ({ frames := 3, cells := 0, slots := 0, locals := 69 } : Room) D (tyZ cZ cI) [.ref (a 0), .int (nI r), .int (nI g)] (wX cZ cI a σ) (wX cZ cI a (beginF σ r g)) := by
  refine MV.of (cc := cX0_beginPart) (maxL := 3) (by decide) rfl ⟨rfl, rfl⟩ (Nat.le_of_ble_eq_true rfl) ?_
  intro p e s m args below meth c A Q S hK hret ls hl hw
  replace hl : lv_has ls 3 [(0, .ref (a 0)), (1, .int (nI r)), (2, .int (nI g))] := hl
  replace S : CallFix p m c cX0_beginPart 3 s args wsX0_beginPart RX0 := S
  have hin := inX0_beginPart
  refine lv_aload_n S.1 S.2.1 dX0_beginPart_0 rfl (lv_at hl 0 rfl) ?_
  refine lv_iload_n S.1 S.2.1 dX0_beginPart_1 rfl (lv_at hl 1 rfl) ?_
  refine lv_iload_n S.1 S.2.1 dX0_beginPart_2 rfl (lv_at hl 2 rfl) ?_
  refine bc_vv (As := [.int (nI r), .int (nI g)]) (rest := []) S hK hw (kX0_becomeBackup l D cZ cI a σ (r := r) (g := g) (by omega) (by omega)) (cwV 2 S.2.2.2.2 gX0_beginPart_X0_becomeBackup rfl rfl rfl (by decide +kernel) ⟨Nat.le_of_ble_eq_true rfl, Nat.le_of_ble_eq_true rfl⟩) (q0 := 0) rfl rfl rfl hl.1 rfl (Nat.le_of_ble_eq_true rfl) (Nat.zero_le _) (Nat.zero_le _) dX0_beginPart_3 (fun H locs hw => ?_)
  refine lv_aload_n S.1 S.2.1 dX0_beginPart_6 rfl (lv_at hl 0 rfl) ?_
  refine bx_get S hK hin hw.1 0 rfl rfl 15 (by decide) flX0_beginPart_56 rfl dX0_beginPart_7 ?_
  refine lv_iload_n S.1 S.2.1 dX0_beginPart_10 rfl (lv_at hl 1 rfl) ?_
  refine lv_iload_n S.1 S.2.1 dX0_beginPart_11 rfl (lv_at hl 2 rfl) ?_
  refine bc_si (As := [.int (nI r), .int (nI g)]) (rest := [.ref (a 16)]) S hK hw (kX0_placeOf l D _ (r := r) (g := g) (by omega) (by omega)) (va_cwS 2 S.2.2.2.2 gX0_beginPart_X0_placeOf rfl rfl rfl (by decide +kernel) ⟨Nat.le_of_ble_eq_true rfl, Nat.le_of_ble_eq_true rfl⟩) rfl hl.1 rfl (Nat.le_of_ble_eq_true rfl) (Nat.zero_le _) (Nat.zero_le _) dX0_beginPart_12 (fun H locs hw => ?_)
  refine lv_iconst (v := 0) S.1 S.2.1 dX0_beginPart_15 (by decide) ?_
  refine bx_zast S hK hw 16 0 rfl rfl (by omega) (by decide) (by decide) (wX_s15 cZ cI a (restF σ r g 0) (4 * g + r) 0) dX0_beginPart_16 (fun H locs hw => ?_)
  exact hret hw dX0_beginPart_17 (congrArg (wX cZ cI a) (rfl))

theorem inX0_copyServed : ∀ w ∈ u_ws RX0 TX0 18, w ∈ wsX0_copyServed := fun _ h => List.mem_cons_of_mem _ (List.mem_append_right _ h)
theorem flX0_copyServed_50 : Cond.fieldLink RX0 50 "StandbyPair" "served" "[I" ∈ wsX0_copyServed := by decide +kernel
theorem flX0_copyServed_56 : Cond.fieldLink RX0 56 "StandbyPair" "repairAsked" "[Z" ∈ wsX0_copyServed := by decide +kernel
theorem flX0_copyServed_127 : Cond.fieldLink RX0 127 "StandbyPair" "bulkRepairs" "I" ∈ wsX0_copyServed := by decide +kernel
set_option maxHeartbeats 4000000 in
set_option maxRecDepth 100000 in
theorem kX0_copyServed (l : Launch) (D : va_G) (cZ cI : ClassId) (a : Nat → Nat) (σ : sC) {t g f : Nat} (ht : t < 4) (hg : g < 3) (hf : f < 4) : MV l yX0_copyServed wsX0_copyServed ({ frames := 1, cells := 0, slots := 0, locals := 21 } : Room) D (tyZ cZ cI) [.ref (a 0), .int (nI t), .int (nI g), .int (nI f)] (wX cZ cI a σ) (wX cZ cI a (copyF σ t f g)) := by
  refine MV.of (cc := cX0_copyServed) (maxL := 6) (by decide) rfl ⟨rfl, rfl⟩ (Nat.le_of_ble_eq_true rfl) ?_
  intro p e s m args below meth c A Q S hK hret ls hl hw
  replace hl : lv_has ls 6 [(0, .ref (a 0)), (1, .int (nI t)), (2, .int (nI g)), (3, .int (nI f))] := hl
  replace S : CallFix p m c cX0_copyServed 6 s args wsX0_copyServed RX0 := S
  have hin := inX0_copyServed
  refine lv_iload_n S.1 S.2.1 dX0_copyServed_0 rfl (lv_at hl 1 rfl) ?_
  refine lv_iload_n S.1 S.2.1 dX0_copyServed_1 rfl (lv_at hl 2 rfl) ?_
  refine bc_si (As := [.int (nI t), .int (nI g)]) (rest := []) S hK hw (kX0_placeOf l D _ (r := t) (g := g) (by omega) (by omega)) (va_cwS 2 S.2.2.2.2 gX0_copyServed_X0_placeOf rfl rfl rfl (by decide +kernel) ⟨Nat.le_of_ble_eq_true rfl, Nat.le_of_ble_eq_true rfl⟩) rfl hl.1 rfl (Nat.le_of_ble_eq_true rfl) (Nat.zero_le _) (Nat.zero_le _) dX0_copyServed_2 (fun H locs hw => ?_)
  refine lv_istore (lv' := [(4, .int (nI (4 * g + t))), (0, .ref (a 0)), (1, .int (nI t)), (2, .int (nI g)), (3, .int (nI f))]) S.1 S.2.1 dX0_copyServed_5 hl (by decide) rfl (fun ls hl => ?_)
  refine lv_aload_n S.1 S.2.1 dX0_copyServed_7 rfl (lv_at hl 1 rfl) ?_
  refine bx_get S hK hin hw.1 0 rfl rfl 13 (by decide) flX0_copyServed_50 rfl dX0_copyServed_8 ?_
  refine lv_iload_n S.1 S.2.1 dX0_copyServed_11 rfl (lv_at hl 4 rfl) ?_
  refine lv_iload_n S.1 S.2.1 dX0_copyServed_12 rfl (lv_at hl 3 rfl) ?_
  refine bc_si (As := [.int (nI f), .int (nI g)]) (rest := [.ref (a 14)]) S hK hw (kX0_placeOf l D _ (r := f) (g := g) (by omega) (by omega)) (va_cwS 2 S.2.2.2.2 gX0_copyServed_X0_placeOf rfl rfl rfl (by decide +kernel) ⟨Nat.le_of_ble_eq_true rfl, Nat.le_of_ble_eq_true rfl⟩) rfl hl.1 rfl (Nat.le_of_ble_eq_true rfl) (Nat.zero_le _) (Nat.zero_le _) dX0_copyServed_13 (fun H locs hw => ?_)
  refine bx_iald (v := σ 13 (4 * g + f)) S hK hw.1 14 1 rfl rfl (by omega) (by decide) rfl dX0_copyServed_16 ?_
  refine lv_aload_n S.1 S.2.1 dX0_copyServed_17 rfl (lv_at hl 1 rfl) ?_
  refine bx_get S hK hin hw.1 0 rfl rfl 13 (by decide) flX0_copyServed_50 rfl dX0_copyServed_18 ?_
  refine lv_iload S.1 S.2.1 dX0_copyServed_21 (lv_at hl 0 rfl) ?_
  refine bx_iald (v := σ 13 (4 * g + t)) S hK hw.1 14 1 rfl rfl (by omega) (by decide) rfl dX0_copyServed_23 ?_
  refine lv_isub S.1 S.2.1 dX0_copyServed_24 ?_
  refine lv_istore (lv' := [(5, .int ((σ 13 (4 * g + f)) - (σ 13 (4 * g + t)))), (4, .int (nI (4 * g + t))), (0, .ref (a 0)), (1, .int (nI t)), (2, .int (nI g)), (3, .int (nI f))]) S.1 S.2.1 dX0_copyServed_25 hl (by decide) rfl (fun ls hl => ?_)
  have J59 : ∀ (H : Heap) (locs : List Loc), Wd D A s.heap (wX cZ cI a σ) H locs → (copyF σ t f g = copy2 (copy1 σ t f g) t g) → ∀ ls : Array Slot, lv_has ls 6 [(0, .ref (a 0)), (1, .int (nI t)), (2, .int (nI g)), (3, .int (nI f)), (4, .int (nI (4 * g + t))), (5, .int ((σ 13 (4 * g + f)) - (σ 13 (4 * g + t))))] → W p l e ({ frames := 1, cells := 0, slots := 0, locals := 21 } : Room) s m args below meth c H locs 0 0 Q (F0 m 59 ls []) := by
    intro H locs hw hj ls hl
    refine lv_aload_n S.1 S.2.1 dX0_copyServed_59 rfl (lv_at hl 0 rfl) ?_
    refine bx_get S hK hin hw.1 0 rfl rfl 13 (by decide) flX0_copyServed_50 rfl dX0_copyServed_60 ?_
    refine lv_iload S.1 S.2.1 dX0_copyServed_63 (lv_at hl 4 rfl) ?_
    refine lv_dup2_11 S.1 S.2.1 dX0_copyServed_65 rfl rfl ?_
    refine bx_iald (v := σ 13 (4 * g + t)) S hK hw.1 14 1 rfl rfl (by omega) (by decide) rfl dX0_copyServed_66 ?_
    refine lv_iload S.1 S.2.1 dX0_copyServed_67 (lv_at hl 5 rfl) ?_
    refine lv_iadd S.1 S.2.1 dX0_copyServed_69 ?_
    refine bx_iast S hK hw 14 1 rfl rfl (by omega) (by decide) (wX_s13 cZ cI a σ (4 * g + t) ((σ 13 (4 * g + t)) + ((σ 13 (4 * g + f)) - (σ 13 (4 * g + t))))) dX0_copyServed_70 (fun H locs hw => ?_)
    refine lv_aload_n S.1 S.2.1 dX0_copyServed_71 rfl (lv_at hl 0 rfl) ?_
    refine bx_get S hK hin hw.1 0 rfl rfl 15 (by decide) flX0_copyServed_56 rfl dX0_copyServed_72 ?_
    refine lv_iload S.1 S.2.1 dX0_copyServed_75 (lv_at hl 4 rfl) ?_
    refine bx_zald (v := (up σ 13 (4 * g + t) ((σ 13 (4 * g + t)) + ((σ 13 (4 * g + f)) - (σ 13 (4 * g + t))))) 15 (4 * g + t)) S hK hw.1 16 0 rfl rfl (by omega) (by decide) rfl dX0_copyServed_77 ?_
    refine bz_eq (tgt := 99) S dX0_copyServed_78 (by decide) (fun c78 => ?_) (fun c78 => ?_)
    · exact hret hw dX0_copyServed_99 (congrArg (wX cZ cI a) (by rw [hj]; simp only [copy2, copy1, eq_true c78, ↓reduceIte]))
    · refine lv_aload_n S.1 S.2.1 dX0_copyServed_81 rfl (lv_at hl 0 rfl) ?_
      refine bx_get S hK hin hw.1 0 rfl rfl 15 (by decide) flX0_copyServed_56 rfl dX0_copyServed_82 ?_
      refine lv_iload S.1 S.2.1 dX0_copyServed_85 (lv_at hl 4 rfl) ?_
      refine lv_iconst (v := 0) S.1 S.2.1 dX0_copyServed_87 (by decide) ?_
      refine bx_zast S hK hw 16 0 rfl rfl (by omega) (by decide) (by decide) (wX_s15 cZ cI a (up σ 13 (4 * g + t) ((σ 13 (4 * g + t)) + ((σ 13 (4 * g + f)) - (σ 13 (4 * g + t))))) (4 * g + t) 0) dX0_copyServed_88 (fun H locs hw => ?_)
      refine lv_aload_n S.1 S.2.1 dX0_copyServed_89 rfl (lv_at hl 0 rfl) ?_
      refine lv_dup S.1 S.2.1 dX0_copyServed_90 rfl ?_
      refine bx_get S hK hin hw.1 0 rfl rfl 16 (by decide) flX0_copyServed_127 rfl dX0_copyServed_91 ?_
      refine lv_iconst (v := 1) S.1 S.2.1 dX0_copyServed_94 (by decide) ?_
      refine lv_iadd S.1 S.2.1 dX0_copyServed_95 ?_
      refine bx_put S hK hin tyX0 tyX0_ok nmX0 hw 0 rfl rfl 16 (by decide) flX0_copyServed_127 rfl (by decide +kernel) (Nat.le_of_ble_eq_true rfl) (wX_s16 cZ cI a (up (up σ 13 (4 * g + t) ((σ 13 (4 * g + t)) + ((σ 13 (4 * g + f)) - (σ 13 (4 * g + t))))) 15 (4 * g + t) 0) (((up (up σ 13 (4 * g + t) ((σ 13 (4 * g + t)) + ((σ 13 (4 * g + f)) - (σ 13 (4 * g + t))))) 15 (4 * g + t) 0) 16 0) + 1)) dX0_copyServed_96 (fun H locs hw => ?_)
      exact hret hw dX0_copyServed_99 (congrArg (wX cZ cI a) (by rw [hj]; simp only [copy2, copy1, eq_false c78, ↓reduceIte]))
  refine lv_iload S.1 S.2.1 dX0_copyServed_27 (lv_at hl 0 rfl) ?_
  refine bz_gt (tgt := 33) S dX0_copyServed_29 (by decide) (fun c29 => ?_) (fun c29 => ?_)
  · refine lv_iload S.1 S.2.1 dX0_copyServed_33 (lv_at hl 0 rfl) ?_
    refine lv_bipush (v := 10) S.1 S.2.1 dX0_copyServed_35 (by decide) ?_
    refine br_le (tgt := 59) S dX0_copyServed_37 (by decide) (fun c37 => ?_) (fun c37 => ?_)
    · exact J59 _ _ hw (by simp only [copyF, eq_true c29, eq_false c37, ↓reduceIte]) _ (lv_sub hl [2, 3, 4, 5, 1, 0] rfl)
    · refine lv_aload_n S.1 S.2.1 dX0_copyServed_40 rfl (lv_at hl 2 rfl) ?_
      refine bx_get S hK hin hw.1 0 rfl rfl 15 (by decide) flX0_copyServed_56 rfl dX0_copyServed_41 ?_
      refine lv_iload S.1 S.2.1 dX0_copyServed_44 (lv_at hl 1 rfl) ?_
      refine bx_zald (v := σ 15 (4 * g + t)) S hK hw.1 16 0 rfl rfl (by omega) (by decide) rfl dX0_copyServed_46 ?_
      refine bz_ne (tgt := 59) S dX0_copyServed_47 (by decide) (fun c47 => ?_) (fun c47 => ?_)
      · exact J59 _ _ hw (by simp only [copyF, eq_true c29, eq_true c37, eq_false c47, ↓reduceIte]) _ (lv_sub hl [2, 3, 4, 5, 1, 0] rfl)
      · refine lv_aload_n S.1 S.2.1 dX0_copyServed_50 rfl (lv_at hl 2 rfl) ?_
        refine bx_get S hK hin hw.1 0 rfl rfl 15 (by decide) flX0_copyServed_56 rfl dX0_copyServed_51 ?_
        refine lv_iload S.1 S.2.1 dX0_copyServed_54 (lv_at hl 1 rfl) ?_
        refine lv_iconst (v := 1) S.1 S.2.1 dX0_copyServed_56 (by decide) ?_
        refine bx_zast S hK hw 16 0 rfl rfl (by omega) (by decide) (by decide) (wX_s15 cZ cI a σ (4 * g + t) 1) dX0_copyServed_57 (fun H locs hw => ?_)
        exact hret hw dX0_copyServed_58 (congrArg (wX cZ cI a) (by simp only [copyF, eq_true c29, eq_true c37, eq_true c47, ↓reduceIte]))
  · exact hret hw dX0_copyServed_32 (congrArg (wX cZ cI a) (by simp only [copyF, eq_false c29, ↓reduceIte]))

theorem inX0_receiveAsMaster : ∀ w ∈ u_ws RX0 TX0 18, w ∈ wsX0_receiveAsMaster := fun _ h => List.mem_cons_of_mem _ (List.mem_append_right _ h)
set_option maxHeartbeats 4000000 in
set_option maxRecDepth 100000 in
theorem kX0_receiveAsMaster (l : Launch) (D : va_G) (cZ cI : ClassId) (a : Nat → Nat) (σ : sC) {r g q : Nat} (num : Int32) (hr : r < 4) (hg : g < 3) (hq : q < 4) : MV l yX0_receiveAsMaster wsX0_receiveAsMaster ({ frames := 3, cells := 0, slots := 0, locals := 69 } : Room) D (tyZ cZ cI) [.ref (a 0), .int (nI r), .int (nI g), .int (nI q), .int num] (wX cZ cI a σ) (wX cZ cI a (recvM σ r g q num)) := by
  refine MV.of (cc := cX0_receiveAsMaster) (maxL := 6) (by decide) rfl ⟨rfl, rfl⟩ (Nat.le_of_ble_eq_true rfl) ?_
  intro p e s m args below meth c A Q S hK hret ls hl hw
  replace hl : lv_has ls 6 [(0, .ref (a 0)), (1, .int (nI r)), (2, .int (nI g)), (3, .int (nI q)), (4, .int num)] := hl
  replace S : CallFix p m c cX0_receiveAsMaster 6 s args wsX0_receiveAsMaster RX0 := S
  have hin := inX0_receiveAsMaster
  refine lv_aload_n S.1 S.2.1 dX0_receiveAsMaster_0 rfl (lv_at hl 0 rfl) ?_
  refine lv_iload_n S.1 S.2.1 dX0_receiveAsMaster_1 rfl (lv_at hl 1 rfl) ?_
  refine lv_iload_n S.1 S.2.1 dX0_receiveAsMaster_2 rfl (lv_at hl 2 rfl) ?_
  refine bc_vi (As := [.int (nI r), .int (nI g)]) (rest := []) S hK hw (kX0_loweredPriority l D cZ cI a σ (r := r) (g := g) (by omega) (by omega)) (cwV 2 S.2.2.2.2 gX0_receiveAsMaster_X0_loweredPriority rfl rfl rfl (by decide +kernel) ⟨Nat.le_of_ble_eq_true rfl, Nat.le_of_ble_eq_true rfl⟩) (q0 := 0) rfl rfl rfl hl.1 rfl (Nat.le_of_ble_eq_true rfl) (Nat.zero_le _) (Nat.zero_le _) dX0_receiveAsMaster_3 (fun H locs hw => ?_)
  refine lv_istore (lv' := [(5, .int (lowP σ r g)), (0, .ref (a 0)), (1, .int (nI r)), (2, .int (nI g)), (3, .int (nI q)), (4, .int num)]) S.1 S.2.1 dX0_receiveAsMaster_6 hl (by decide) rfl (fun ls hl => ?_)
  refine lv_iload S.1 S.2.1 dX0_receiveAsMaster_8 (lv_at hl 5 rfl) ?_
  refine lv_iload S.1 S.2.1 dX0_receiveAsMaster_10 (lv_at hl 0 rfl) ?_
  refine br_gt (tgt := 27) S dX0_receiveAsMaster_12 (by decide) (fun c12 => ?_) (fun c12 => ?_)
  · refine lv_aload_n S.1 S.2.1 dX0_receiveAsMaster_27 rfl (lv_at hl 1 rfl) ?_
    refine lv_iload_n S.1 S.2.1 dX0_receiveAsMaster_28 rfl (lv_at hl 2 rfl) ?_
    refine lv_iload_n S.1 S.2.1 dX0_receiveAsMaster_29 rfl (lv_at hl 3 rfl) ?_
    refine bc_vv (As := [.int (nI r), .int (nI g)]) (rest := []) S hK hw (kX0_becomeBackup l D cZ cI a σ (r := r) (g := g) (by omega) (by omega)) (cwV 2 S.2.2.2.2 gX0_receiveAsMaster_X0_becomeBackup rfl rfl rfl (by decide +kernel) ⟨Nat.le_of_ble_eq_true rfl, Nat.le_of_ble_eq_true rfl⟩) (q0 := 0) rfl rfl rfl hl.1 rfl (Nat.le_of_ble_eq_true rfl) (Nat.zero_le _) (Nat.zero_le _) dX0_receiveAsMaster_30 (fun H locs hw => ?_)
    refine lv_aload_n S.1 S.2.1 dX0_receiveAsMaster_33 rfl (lv_at hl 1 rfl) ?_
    refine lv_iload_n S.1 S.2.1 dX0_receiveAsMaster_34 rfl (lv_at hl 2 rfl) ?_
    refine lv_iload_n S.1 S.2.1 dX0_receiveAsMaster_35 rfl (lv_at hl 3 rfl) ?_
    refine lv_iload_n S.1 S.2.1 dX0_receiveAsMaster_36 rfl (lv_at hl 4 rfl) ?_
    refine bc_vv (As := [.int (nI r), .int (nI g), .int (nI q)]) (rest := []) S hK hw (kX0_copyServed l D cZ cI a (restF σ r g 0) (t := r) (g := g) (f := q) (by omega) (by omega) (by omega)) (cwV 3 S.2.2.2.2 gX0_receiveAsMaster_X0_copyServed rfl rfl rfl (by decide +kernel) ⟨Nat.le_of_ble_eq_true rfl, Nat.le_of_ble_eq_true rfl⟩) (q0 := 0) rfl rfl rfl hl.1 rfl (Nat.le_of_ble_eq_true rfl) (Nat.zero_le _) (Nat.zero_le _) dX0_receiveAsMaster_37 (fun H locs hw => ?_)
    exact hret hw dX0_receiveAsMaster_40 (congrArg (wX cZ cI a) (by simp only [recvM, eq_true c12, ↓reduceIte]))
  · refine lv_iload S.1 S.2.1 dX0_receiveAsMaster_15 (lv_at hl 5 rfl) ?_
    refine lv_iload S.1 S.2.1 dX0_receiveAsMaster_17 (lv_at hl 0 rfl) ?_
    refine br_ne (tgt := 40) S dX0_receiveAsMaster_19 (by decide) (fun c19 => ?_) (fun c19 => ?_)
    · exact hret hw dX0_receiveAsMaster_40 (congrArg (wX cZ cI a) (by simp only [recvM, eq_false c12, eq_false c19, ↓reduceIte]))
    · refine lv_iload_n S.1 S.2.1 dX0_receiveAsMaster_22 rfl (lv_at hl 4 rfl) ?_
      refine lv_iload_n S.1 S.2.1 dX0_receiveAsMaster_23 rfl (lv_at hl 2 rfl) ?_
      refine br_le (tgt := 40) S dX0_receiveAsMaster_24 (by decide) (fun c24 => ?_) (fun c24 => ?_)
      · exact hret hw dX0_receiveAsMaster_40 (congrArg (wX cZ cI a) (by simp only [recvM, eq_false c12, eq_true c19, eq_false c24, ↓reduceIte]))
      · refine lv_aload_n S.1 S.2.1 dX0_receiveAsMaster_27 rfl (lv_at hl 1 rfl) ?_
        refine lv_iload_n S.1 S.2.1 dX0_receiveAsMaster_28 rfl (lv_at hl 2 rfl) ?_
        refine lv_iload_n S.1 S.2.1 dX0_receiveAsMaster_29 rfl (lv_at hl 3 rfl) ?_
        refine bc_vv (As := [.int (nI r), .int (nI g)]) (rest := []) S hK hw (kX0_becomeBackup l D cZ cI a σ (r := r) (g := g) (by omega) (by omega)) (cwV 2 S.2.2.2.2 gX0_receiveAsMaster_X0_becomeBackup rfl rfl rfl (by decide +kernel) ⟨Nat.le_of_ble_eq_true rfl, Nat.le_of_ble_eq_true rfl⟩) (q0 := 0) rfl rfl rfl hl.1 rfl (Nat.le_of_ble_eq_true rfl) (Nat.zero_le _) (Nat.zero_le _) dX0_receiveAsMaster_30 (fun H locs hw => ?_)
        refine lv_aload_n S.1 S.2.1 dX0_receiveAsMaster_33 rfl (lv_at hl 1 rfl) ?_
        refine lv_iload_n S.1 S.2.1 dX0_receiveAsMaster_34 rfl (lv_at hl 2 rfl) ?_
        refine lv_iload_n S.1 S.2.1 dX0_receiveAsMaster_35 rfl (lv_at hl 3 rfl) ?_
        refine lv_iload_n S.1 S.2.1 dX0_receiveAsMaster_36 rfl (lv_at hl 4 rfl) ?_
        refine bc_vv (As := [.int (nI r), .int (nI g), .int (nI q)]) (rest := []) S hK hw (kX0_copyServed l D cZ cI a (restF σ r g 0) (t := r) (g := g) (f := q) (by omega) (by omega) (by omega)) (cwV 3 S.2.2.2.2 gX0_receiveAsMaster_X0_copyServed rfl rfl rfl (by decide +kernel) ⟨Nat.le_of_ble_eq_true rfl, Nat.le_of_ble_eq_true rfl⟩) (q0 := 0) rfl rfl rfl hl.1 rfl (Nat.le_of_ble_eq_true rfl) (Nat.zero_le _) (Nat.zero_le _) dX0_receiveAsMaster_37 (fun H locs hw => ?_)
        exact hret hw dX0_receiveAsMaster_40 (congrArg (wX cZ cI a) (by simp only [recvM, eq_false c12, eq_true c19, eq_true c24, ↓reduceIte]))

theorem inX0_receiveAsBackup : ∀ w ∈ u_ws RX0 TX0 18, w ∈ wsX0_receiveAsBackup := fun _ h => List.mem_cons_of_mem _ (List.mem_append_right _ h)
theorem flX0_receiveAsBackup_26 : Cond.fieldLink RX0 26 "StandbyPair" "preempting" "[Z" ∈ wsX0_receiveAsBackup := by decide +kernel
theorem flX0_receiveAsBackup_47 : Cond.fieldLink RX0 47 "StandbyPair" "heard" "[I" ∈ wsX0_receiveAsBackup := by decide +kernel
theorem flX0_receiveAsBackup_44 : Cond.fieldLink RX0 44 "StandbyPair" "timers" "[I" ∈ wsX0_receiveAsBackup := by decide +kernel
theorem flX0_receiveAsBackup_29 : Cond.fieldLink RX0 29 "StandbyPair" "delays" "[I" ∈ wsX0_receiveAsBackup := by decide +kernel
set_option maxHeartbeats 4000000 in
set_option maxRecDepth 100000 in
theorem kX0_receiveAsBackup (l : Launch) (D : va_G) (cZ cI : ClassId) (a : Nat → Nat) (σ : sC) {r g q : Nat} (num : Int32) (hr : r < 4) (hg : g < 3) (hq : q < 4) : MV l yX0_receiveAsBackup wsX0_receiveAsBackup ({ frames := 2, cells := 0, slots := 0, locals := 46 } : Room) D (tyZ cZ cI) [.ref (a 0), .int (nI r), .int (nI g), .int (nI q), .int num] (wX cZ cI a σ) (wX cZ cI a (recvB σ r g q num)) := by
  refine MV.of (cc := cX0_receiveAsBackup) (maxL := 7) (by decide) rfl ⟨rfl, rfl⟩ (Nat.le_of_ble_eq_true rfl) ?_
  intro p e s m args below meth c A Q S hK hret ls hl hw
  replace hl : lv_has ls 7 [(0, .ref (a 0)), (1, .int (nI r)), (2, .int (nI g)), (3, .int (nI q)), (4, .int num)] := hl
  replace S : CallFix p m c cX0_receiveAsBackup 7 s args wsX0_receiveAsBackup RX0 := S
  have hin := inX0_receiveAsBackup
  refine lv_iload_n S.1 S.2.1 dX0_receiveAsBackup_0 rfl (lv_at hl 1 rfl) ?_
  refine lv_iload_n S.1 S.2.1 dX0_receiveAsBackup_1 rfl (lv_at hl 2 rfl) ?_
  refine bc_si (As := [.int (nI r), .int (nI g)]) (rest := []) S hK hw (kX0_placeOf l D _ (r := r) (g := g) (by omega) (by omega)) (va_cwS 2 S.2.2.2.2 gX0_receiveAsBackup_X0_placeOf rfl rfl rfl (by decide +kernel) ⟨Nat.le_of_ble_eq_true rfl, Nat.le_of_ble_eq_true rfl⟩) rfl hl.1 rfl (Nat.le_of_ble_eq_true rfl) (Nat.zero_le _) (Nat.zero_le _) dX0_receiveAsBackup_2 (fun H locs hw => ?_)
  refine lv_istore (lv' := [(5, .int (nI (4 * g + r))), (0, .ref (a 0)), (1, .int (nI r)), (2, .int (nI g)), (3, .int (nI q)), (4, .int num)]) S.1 S.2.1 dX0_receiveAsBackup_5 hl (by decide) rfl (fun ls hl => ?_)
  refine lv_aload_n S.1 S.2.1 dX0_receiveAsBackup_7 rfl (lv_at hl 1 rfl) ?_
  refine lv_iload_n S.1 S.2.1 dX0_receiveAsBackup_8 rfl (lv_at hl 2 rfl) ?_
  refine lv_iload_n S.1 S.2.1 dX0_receiveAsBackup_9 rfl (lv_at hl 3 rfl) ?_
  refine bc_vi (As := [.int (nI r), .int (nI g)]) (rest := []) S hK hw (kX0_loweredPriority l D cZ cI a σ (r := r) (g := g) (by omega) (by omega)) (cwV 2 S.2.2.2.2 gX0_receiveAsBackup_X0_loweredPriority rfl rfl rfl (by decide +kernel) ⟨Nat.le_of_ble_eq_true rfl, Nat.le_of_ble_eq_true rfl⟩) (q0 := 0) rfl rfl rfl hl.1 rfl (Nat.le_of_ble_eq_true rfl) (Nat.zero_le _) (Nat.zero_le _) dX0_receiveAsBackup_10 (fun H locs hw => ?_)
  refine lv_istore (lv' := [(6, .int (lowP σ r g)), (5, .int (nI (4 * g + r))), (0, .ref (a 0)), (1, .int (nI r)), (2, .int (nI g)), (3, .int (nI q)), (4, .int num)]) S.1 S.2.1 dX0_receiveAsBackup_13 hl (by decide) rfl (fun ls hl => ?_)
  have J122 : ∀ (σj : sC) (H : Heap) (locs : List Loc), Wd D A s.heap (wX cZ cI a σj) H locs → (recvB σ r g q num = copyF σj r q g) → ∀ ls : Array Slot, lv_has ls 7 [(0, .ref (a 0)), (1, .int (nI r)), (2, .int (nI g)), (3, .int (nI q))] → W p l e ({ frames := 2, cells := 0, slots := 0, locals := 46 } : Room) s m args below meth c H locs 0 0 Q (F0 m 122 ls []) := by
    intro σj H locs hw hj ls hl
    refine lv_aload_n S.1 S.2.1 dX0_receiveAsBackup_122 rfl (lv_at hl 0 rfl) ?_
    refine lv_iload_n S.1 S.2.1 dX0_receiveAsBackup_123 rfl (lv_at hl 1 rfl) ?_
    refine lv_iload_n S.1 S.2.1 dX0_receiveAsBackup_124 rfl (lv_at hl 2 rfl) ?_
    refine lv_iload_n S.1 S.2.1 dX0_receiveAsBackup_125 rfl (lv_at hl 3 rfl) ?_
    refine bc_vv (As := [.int (nI r), .int (nI g), .int (nI q)]) (rest := []) S hK hw (kX0_copyServed l D cZ cI a σj (t := r) (g := g) (f := q) (by omega) (by omega) (by omega)) (cwV 3 S.2.2.2.2 gX0_receiveAsBackup_X0_copyServed rfl rfl rfl (by decide +kernel) ⟨Nat.le_of_ble_eq_true rfl, Nat.le_of_ble_eq_true rfl⟩) (q0 := 0) rfl rfl rfl hl.1 rfl (Nat.le_of_ble_eq_true rfl) (Nat.zero_le _) (Nat.zero_le _) dX0_receiveAsBackup_126 (fun H locs hw => ?_)
    exact hret hw dX0_receiveAsBackup_129 (congrArg (wX cZ cI a) (hj.symm))
  refine lv_iload S.1 S.2.1 dX0_receiveAsBackup_15 (lv_at hl 6 rfl) ?_
  refine bz_ne (tgt := 39) S dX0_receiveAsBackup_17 (by decide) (fun c17 => ?_) (fun c17 => ?_)
  · refine lv_aload_n S.1 S.2.1 dX0_receiveAsBackup_39 rfl (lv_at hl 2 rfl) ?_
    refine bx_get S hK hin hw.1 0 rfl rfl 5 (by decide) flX0_receiveAsBackup_26 rfl dX0_receiveAsBackup_40 ?_
    refine lv_iload_n S.1 S.2.1 dX0_receiveAsBackup_43 rfl (lv_at hl 4 rfl) ?_
    refine bx_zald (v := σ 5 g) S hK hw.1 6 0 rfl rfl (by omega) (by decide) rfl dX0_receiveAsBackup_44 ?_
    refine bz_eq (tgt := 100) S dX0_receiveAsBackup_45 (by decide) (fun c45 => ?_) (fun c45 => ?_)
    · refine lv_aload_n S.1 S.2.1 dX0_receiveAsBackup_100 rfl (lv_at hl 2 rfl) ?_
      refine bx_get S hK hin hw.1 0 rfl rfl 12 (by decide) flX0_receiveAsBackup_47 rfl dX0_receiveAsBackup_101 ?_
      refine lv_iload S.1 S.2.1 dX0_receiveAsBackup_104 (lv_at hl 1 rfl) ?_
      refine lv_iconst (v := 0) S.1 S.2.1 dX0_receiveAsBackup_106 (by decide) ?_
      refine bx_iast S hK hw 13 1 rfl rfl (by omega) (by decide) (wX_s12 cZ cI a σ (4 * g + r) 0) dX0_receiveAsBackup_107 (fun H locs hw => ?_)
      refine lv_aload_n S.1 S.2.1 dX0_receiveAsBackup_108 rfl (lv_at hl 2 rfl) ?_
      refine bx_get S hK hin hw.1 0 rfl rfl 11 (by decide) flX0_receiveAsBackup_44 rfl dX0_receiveAsBackup_109 ?_
      refine lv_iload S.1 S.2.1 dX0_receiveAsBackup_112 (lv_at hl 1 rfl) ?_
      refine lv_aload_n S.1 S.2.1 dX0_receiveAsBackup_114 rfl (lv_at hl 2 rfl) ?_
      refine lv_iload S.1 S.2.1 dX0_receiveAsBackup_115 (lv_at hl 0 rfl) ?_
      refine lv_iload_n S.1 S.2.1 dX0_receiveAsBackup_117 rfl (lv_at hl 4 rfl) ?_
      refine bc_vi (As := [.int (lowP σ r g), .int (nI g)]) (rest := [.int (nI (4 * g + r)), .ref (a 12)]) S hK hw (kX0_waitOf l D cZ cI a (up σ 12 (4 * g + r) 0) (lowP σ r g) (g := g) (by omega)) (cwV 2 S.2.2.2.2 gX0_receiveAsBackup_X0_waitOf rfl rfl rfl (by decide +kernel) ⟨Nat.le_of_ble_eq_true rfl, Nat.le_of_ble_eq_true rfl⟩) (q0 := 0) rfl rfl rfl hl.1 rfl (Nat.le_of_ble_eq_true rfl) (Nat.zero_le _) (Nat.zero_le _) dX0_receiveAsBackup_118 (fun H locs hw => ?_)
      refine bx_iast S hK hw 12 1 rfl rfl (by omega) (by decide) (wX_s11 cZ cI a (up σ 12 (4 * g + r) 0) (4 * g + r) (waitF (up σ 12 (4 * g + r) 0) (lowP σ r g) g)) dX0_receiveAsBackup_121 (fun H locs hw => ?_)
      exact J122 _ _ _ hw (by simp only [recvB, waitB, eq_false c17, eq_true c45, ↓reduceIte]) _ (lv_sub hl [2, 3, 4, 5] rfl)
    · refine lv_iload S.1 S.2.1 dX0_receiveAsBackup_48 (lv_at hl 0 rfl) ?_
      refine lv_iload S.1 S.2.1 dX0_receiveAsBackup_50 (lv_at hl 6 rfl) ?_
      refine br_le (tgt := 100) S dX0_receiveAsBackup_52 (by decide) (fun c52 => ?_) (fun c52 => ?_)
      · refine lv_aload_n S.1 S.2.1 dX0_receiveAsBackup_100 rfl (lv_at hl 2 rfl) ?_
        refine bx_get S hK hin hw.1 0 rfl rfl 12 (by decide) flX0_receiveAsBackup_47 rfl dX0_receiveAsBackup_101 ?_
        refine lv_iload S.1 S.2.1 dX0_receiveAsBackup_104 (lv_at hl 1 rfl) ?_
        refine lv_iconst (v := 0) S.1 S.2.1 dX0_receiveAsBackup_106 (by decide) ?_
        refine bx_iast S hK hw 13 1 rfl rfl (by omega) (by decide) (wX_s12 cZ cI a σ (4 * g + r) 0) dX0_receiveAsBackup_107 (fun H locs hw => ?_)
        refine lv_aload_n S.1 S.2.1 dX0_receiveAsBackup_108 rfl (lv_at hl 2 rfl) ?_
        refine bx_get S hK hin hw.1 0 rfl rfl 11 (by decide) flX0_receiveAsBackup_44 rfl dX0_receiveAsBackup_109 ?_
        refine lv_iload S.1 S.2.1 dX0_receiveAsBackup_112 (lv_at hl 1 rfl) ?_
        refine lv_aload_n S.1 S.2.1 dX0_receiveAsBackup_114 rfl (lv_at hl 2 rfl) ?_
        refine lv_iload S.1 S.2.1 dX0_receiveAsBackup_115 (lv_at hl 0 rfl) ?_
        refine lv_iload_n S.1 S.2.1 dX0_receiveAsBackup_117 rfl (lv_at hl 4 rfl) ?_
        refine bc_vi (As := [.int (lowP σ r g), .int (nI g)]) (rest := [.int (nI (4 * g + r)), .ref (a 12)]) S hK hw (kX0_waitOf l D cZ cI a (up σ 12 (4 * g + r) 0) (lowP σ r g) (g := g) (by omega)) (cwV 2 S.2.2.2.2 gX0_receiveAsBackup_X0_waitOf rfl rfl rfl (by decide +kernel) ⟨Nat.le_of_ble_eq_true rfl, Nat.le_of_ble_eq_true rfl⟩) (q0 := 0) rfl rfl rfl hl.1 rfl (Nat.le_of_ble_eq_true rfl) (Nat.zero_le _) (Nat.zero_le _) dX0_receiveAsBackup_118 (fun H locs hw => ?_)
        refine bx_iast S hK hw 12 1 rfl rfl (by omega) (by decide) (wX_s11 cZ cI a (up σ 12 (4 * g + r) 0) (4 * g + r) (waitF (up σ 12 (4 * g + r) 0) (lowP σ r g) g)) dX0_receiveAsBackup_121 (fun H locs hw => ?_)
        exact J122 _ _ _ hw (by simp only [recvB, waitB, eq_false c17, eq_false c45, eq_false c52, ↓reduceIte]) _ (lv_sub hl [2, 3, 4, 5] rfl)
      · refine lv_aload_n S.1 S.2.1 dX0_receiveAsBackup_55 rfl (lv_at hl 2 rfl) ?_
        refine bx_get S hK hin hw.1 0 rfl rfl 12 (by decide) flX0_receiveAsBackup_47 rfl dX0_receiveAsBackup_56 ?_
        refine lv_iload S.1 S.2.1 dX0_receiveAsBackup_59 (lv_at hl 1 rfl) ?_
        refine bx_iald (v := σ 12 (4 * g + r)) S hK hw.1 13 1 rfl rfl (by omega) (by decide) rfl dX0_receiveAsBackup_61 ?_
        refine lv_aload_n S.1 S.2.1 dX0_receiveAsBackup_62 rfl (lv_at hl 2 rfl) ?_
        refine bx_get S hK hin hw.1 0 rfl rfl 6 (by decide) flX0_receiveAsBackup_29 rfl dX0_receiveAsBackup_63 ?_
        refine lv_iload_n S.1 S.2.1 dX0_receiveAsBackup_66 rfl (lv_at hl 4 rfl) ?_
        refine bx_iald (v := σ 6 g) S hK hw.1 7 1 rfl rfl (by omega) (by decide) rfl dX0_receiveAsBackup_67 ?_
        refine br_lt (tgt := 72) S dX0_receiveAsBackup_68 (by decide) (fun c68 => ?_) (fun c68 => ?_)
        · refine lv_aload_n S.1 S.2.1 dX0_receiveAsBackup_72 rfl (lv_at hl 2 rfl) ?_
          refine bx_get S hK hin hw.1 0 rfl rfl 12 (by decide) flX0_receiveAsBackup_47 rfl dX0_receiveAsBackup_73 ?_
          refine lv_iload S.1 S.2.1 dX0_receiveAsBackup_76 (lv_at hl 1 rfl) ?_
          refine lv_dup2_11 S.1 S.2.1 dX0_receiveAsBackup_78 rfl rfl ?_
          refine bx_iald (v := σ 12 (4 * g + r)) S hK hw.1 13 1 rfl rfl (by omega) (by decide) rfl dX0_receiveAsBackup_79 ?_
          refine lv_iconst (v := 1) S.1 S.2.1 dX0_receiveAsBackup_80 (by decide) ?_
          refine lv_iadd S.1 S.2.1 dX0_receiveAsBackup_81 ?_
          refine bx_iast S hK hw 13 1 rfl rfl (by omega) (by decide) (wX_s12 cZ cI a σ (4 * g + r) ((σ 12 (4 * g + r)) + 1)) dX0_receiveAsBackup_82 (fun H locs hw => ?_)
          refine lv_aload_n S.1 S.2.1 dX0_receiveAsBackup_83 rfl (lv_at hl 2 rfl) ?_
          refine bx_get S hK hin hw.1 0 rfl rfl 11 (by decide) flX0_receiveAsBackup_44 rfl dX0_receiveAsBackup_84 ?_
          refine lv_iload S.1 S.2.1 dX0_receiveAsBackup_87 (lv_at hl 1 rfl) ?_
          refine lv_aload_n S.1 S.2.1 dX0_receiveAsBackup_89 rfl (lv_at hl 2 rfl) ?_
          refine lv_iload S.1 S.2.1 dX0_receiveAsBackup_90 (lv_at hl 0 rfl) ?_
          refine lv_iload_n S.1 S.2.1 dX0_receiveAsBackup_92 rfl (lv_at hl 4 rfl) ?_
          refine bc_vi (As := [.int (lowP σ r g), .int (nI g)]) (rest := [.int (nI (4 * g + r)), .ref (a 12)]) S hK hw (kX0_waitOf l D cZ cI a (up σ 12 (4 * g + r) ((σ 12 (4 * g + r)) + 1)) (lowP σ r g) (g := g) (by omega)) (cwV 2 S.2.2.2.2 gX0_receiveAsBackup_X0_waitOf rfl rfl rfl (by decide +kernel) ⟨Nat.le_of_ble_eq_true rfl, Nat.le_of_ble_eq_true rfl⟩) (q0 := 0) rfl rfl rfl hl.1 rfl (Nat.le_of_ble_eq_true rfl) (Nat.zero_le _) (Nat.zero_le _) dX0_receiveAsBackup_93 (fun H locs hw => ?_)
          refine bx_iast S hK hw 12 1 rfl rfl (by omega) (by decide) (wX_s11 cZ cI a (up σ 12 (4 * g + r) ((σ 12 (4 * g + r)) + 1)) (4 * g + r) (waitF (up σ 12 (4 * g + r) ((σ 12 (4 * g + r)) + 1)) (lowP σ r g) g)) dX0_receiveAsBackup_96 (fun H locs hw => ?_)
          refine lv_goto (tgt := 122) S.1 S.2.1 dX0_receiveAsBackup_97 (by decide) ?_
          exact J122 _ _ _ hw (by simp only [recvB, waitB, eq_false c17, eq_false c45, eq_true c52, eq_true c68, ↓reduceIte]) _ (lv_sub hl [2, 3, 4, 5] rfl)
        · exact hret hw dX0_receiveAsBackup_71 (congrArg (wX cZ cI a) (by simp only [recvB, eq_false c17, eq_false c45, eq_true c52, eq_false c68, ↓reduceIte]))
  · refine lv_aload_n S.1 S.2.1 dX0_receiveAsBackup_20 rfl (lv_at hl 2 rfl) ?_
    refine bx_get S hK hin hw.1 0 rfl rfl 11 (by decide) flX0_receiveAsBackup_44 rfl dX0_receiveAsBackup_21 ?_
    refine lv_iload S.1 S.2.1 dX0_receiveAsBackup_24 (lv_at hl 1 rfl) ?_
    refine lv_aload_n S.1 S.2.1 dX0_receiveAsBackup_26 rfl (lv_at hl 2 rfl) ?_
    refine lv_iload S.1 S.2.1 dX0_receiveAsBackup_27 (lv_at hl 0 rfl) ?_
    refine lv_iload_n S.1 S.2.1 dX0_receiveAsBackup_29 rfl (lv_at hl 4 rfl) ?_
    refine bc_vi (As := [.int (lowP σ r g), .int (nI g)]) (rest := [.int (nI (4 * g + r)), .ref (a 12)]) S hK hw (kX0_skewOf l D cZ cI a σ (lowP σ r g) (g := g) (by omega)) (cwV 2 S.2.2.2.2 gX0_receiveAsBackup_X0_skewOf rfl rfl rfl (by decide +kernel) ⟨Nat.le_of_ble_eq_true rfl, Nat.le_of_ble_eq_true rfl⟩) (q0 := 0) rfl rfl rfl hl.1 rfl (Nat.le_of_ble_eq_true rfl) (Nat.zero_le _) (Nat.zero_le _) dX0_receiveAsBackup_30 (fun H locs hw => ?_)
    refine lv_iconst (v := 1) S.1 S.2.1 dX0_receiveAsBackup_33 (by decide) ?_
    refine lv_iadd S.1 S.2.1 dX0_receiveAsBackup_34 ?_
    refine bx_iast S hK hw 12 1 rfl rfl (by omega) (by decide) (wX_s11 cZ cI a σ (4 * g + r) ((skewF σ (lowP σ r g) g) + 1)) dX0_receiveAsBackup_35 (fun H locs hw => ?_)
    refine lv_goto (tgt := 122) S.1 S.2.1 dX0_receiveAsBackup_36 (by decide) ?_
    exact J122 _ _ _ hw (by simp only [recvB, waitB, eq_true c17, ↓reduceIte]) _ (lv_sub hl [2, 3, 4, 5] rfl)

theorem inX0_advertise : ∀ w ∈ u_ws RX0 TX0 18, w ∈ wsX0_advertise := fun _ h => List.mem_cons_of_mem _ (List.mem_append_right _ h)
theorem flX0_advertise_35 : Cond.fieldLink RX0 35 "StandbyPair" "advertisements" "[I" ∈ wsX0_advertise := by decide +kernel
theorem flX0_advertise_13 : Cond.fieldLink RX0 13 "StandbyPair" "joinedPairs" "[Z" ∈ wsX0_advertise := by decide +kernel
theorem flX0_advertise_41 : Cond.fieldLink RX0 41 "StandbyPair" "roles" "[I" ∈ wsX0_advertise := by decide +kernel
set_option maxHeartbeats 4000000 in
set_option maxRecDepth 100000 in
theorem kX0_advertise (l : Launch) (D : va_G) (cZ cI : ClassId) (a : Nat → Nat) (σ : sC) {q g : Nat} (num : Int32) (hq : q < 4) (hg : g < 3) : MV l yX0_advertise wsX0_advertise ({ frames := 4, cells := 0, slots := 0, locals := 94 } : Room) D (tyZ cZ cI) [.ref (a 0), .int (nI q), .int (nI g), .int num] (wX cZ cI a σ) (wX cZ cI a (advF σ q g num)) := by
  refine MV.of (cc := cX0_advertise) (maxL := 6) (by decide) rfl ⟨rfl, rfl⟩ (Nat.le_of_ble_eq_true rfl) ?_
  intro p e s m args below meth c A Q S hK hret ls hl hw
  replace hl : lv_has ls 6 [(0, .ref (a 0)), (1, .int (nI q)), (2, .int (nI g)), (3, .int num)] := hl
  replace S : CallFix p m c cX0_advertise 6 s args wsX0_advertise RX0 := S
  have hin := inX0_advertise
  refine lv_aload_n S.1 S.2.1 dX0_advertise_0 rfl (lv_at hl 0 rfl) ?_
  refine bx_get S hK hin hw.1 0 rfl rfl 8 (by decide) flX0_advertise_35 rfl dX0_advertise_1 ?_
  refine lv_iload_n S.1 S.2.1 dX0_advertise_4 rfl (lv_at hl 2 rfl) ?_
  refine lv_dup2_11 S.1 S.2.1 dX0_advertise_5 rfl rfl ?_
  refine bx_iald (v := σ 8 g) S hK hw.1 9 1 rfl rfl (by omega) (by decide) rfl dX0_advertise_6 ?_
  refine lv_iconst (v := 1) S.1 S.2.1 dX0_advertise_7 (by decide) ?_
  refine lv_iadd S.1 S.2.1 dX0_advertise_8 ?_
  refine bx_iast S hK hw 9 1 rfl rfl (by omega) (by decide) (wX_s8 cZ cI a σ g ((σ 8 g) + 1)) dX0_advertise_9 (fun H locs hw => ?_)
  refine lv_iconst (v := nI 0) S.1 S.2.1 dX0_advertise_10 (by decide) ?_
  refine lv_istore (lv' := [(4, .int (nI 0)), (0, .ref (a 0)), (1, .int (nI q)), (2, .int (nI g)), (3, .int num)]) S.1 S.2.1 dX0_advertise_11 hl (by decide) rfl (fun ls hl => ?_)
  have L13 : ∀ (n i13 : Nat), i13 + n = 4 → ∀ (H : Heap) (locs : List Loc), Wd D A s.heap (wX cZ cI a (itF (advS q g num) (up σ 8 g ((σ 8 g) + 1)) i13)) H locs → ∀ ls : Array Slot, lv_has ls 6 [(0, .ref (a 0)), (1, .int (nI q)), (2, .int (nI g)), (3, .int num), (4, .int (nI i13))] → W p l e ({ frames := 4, cells := 0, slots := 0, locals := 94 } : Room) s m args below meth c H locs 0 0 Q (F0 m 13 ls []) := by
    intro n
    induction n with
    | zero =>
      intro i13 hi H locs hw ls hl
      obtain rfl : i13 = 4 := by omega
      refine lv_iload S.1 S.2.1 dX0_advertise_13 (lv_at hl 4 rfl) ?_
      refine lv_iconst (v := nI 4) S.1 S.2.1 dX0_advertise_15 (by decide) ?_
      refine br_ge (tgt := 91) S dX0_advertise_16 (by decide) (fun c16 => ?_) (fun c16 => ?_)
      · exact hret hw dX0_advertise_91 (congrArg (wX cZ cI a) (rfl))
      · exact absurd c16 (nlt_nI (by decide))
    | succ n ih_13 =>
      intro i13 hi H locs hw ls hl
      have hi13 : i13 < 4 := by omega
      refine lv_iload S.1 S.2.1 dX0_advertise_13 (lv_at hl 4 rfl) ?_
      refine lv_iconst (v := nI 4) S.1 S.2.1 dX0_advertise_15 (by decide) ?_
      refine br_ge (tgt := 91) S dX0_advertise_16 (by decide) (fun c16 => ?_) (fun c16 => ?_)
      · exact absurd c16 (not_not_intro (lt_nI hi13 (by decide)))
      · refine lv_iload S.1 S.2.1 dX0_advertise_19 (lv_at hl 4 rfl) ?_
        refine lv_iload_n S.1 S.2.1 dX0_advertise_21 rfl (lv_at hl 1 rfl) ?_
        refine br_eq (tgt := 85) S dX0_advertise_22 (by decide) (fun c22 => ?_) (fun c22 => ?_)
        · refine lv_iinc (v := nI (i13 + 1)) (lv' := [(4, .int (nI (i13 + 1))), (0, .ref (a 0)), (1, .int (nI q)), (2, .int (nI g)), (3, .int num)]) S.1 S.2.1 dX0_advertise_85 hl (k := 4) rfl (nI_1 i13) (by decide) rfl (fun ls hl => ?_)
          refine lv_goto (tgt := 13) S.1 S.2.1 dX0_advertise_88 (by decide) ?_
          exact ih_13 (i13 + 1) (by omega) _ _ (Wd.cast (congrArg (wX cZ cI a) (by simp only [itF, advS, eq_true c16, eq_true c22, ↓reduceIte])) hw) _ (lv_sub hl [1, 2, 3, 4, 0] rfl)
        · refine lv_aload_n S.1 S.2.1 dX0_advertise_25 rfl (lv_at hl 0 rfl) ?_
          refine bx_get S hK hin hw.1 0 rfl rfl 1 (by decide) flX0_advertise_13 rfl dX0_advertise_26 ?_
          refine lv_iload_n S.1 S.2.1 dX0_advertise_29 rfl (lv_at hl 1 rfl) ?_
          refine lv_iconst (v := 4) S.1 S.2.1 dX0_advertise_30 (by decide) ?_
          refine lv_imul S.1 S.2.1 dX0_advertise_31 ?_
          refine lv_iload S.1 S.2.1 dX0_advertise_32 (lv_at hl 4 rfl) ?_
          refine lv_iadd S.1 S.2.1 dX0_advertise_34 ?_
          refine bx_top (y := nI (4 * q + i13)) (pl_j (by omega) (by omega)) ?_
          refine bx_zald (v := (itF (advS q g num) (up σ 8 g ((σ 8 g) + 1)) i13) 1 (4 * q + i13)) S hK hw.1 2 0 rfl rfl (by omega) (by decide) rfl dX0_advertise_35 ?_
          refine bz_eq (tgt := 85) S dX0_advertise_36 (by decide) (fun c36 => ?_) (fun c36 => ?_)
          · refine lv_iinc (v := nI (i13 + 1)) (lv' := [(4, .int (nI (i13 + 1))), (0, .ref (a 0)), (1, .int (nI q)), (2, .int (nI g)), (3, .int num)]) S.1 S.2.1 dX0_advertise_85 hl (k := 4) rfl (nI_1 i13) (by decide) rfl (fun ls hl => ?_)
            refine lv_goto (tgt := 13) S.1 S.2.1 dX0_advertise_88 (by decide) ?_
            exact ih_13 (i13 + 1) (by omega) _ _ (Wd.cast (congrArg (wX cZ cI a) (by simp only [itF, advS, eq_true c16, eq_false c22, eq_true c36, ↓reduceIte])) hw) _ (lv_sub hl [1, 2, 3, 4, 0] rfl)
          · refine lv_aload_n S.1 S.2.1 dX0_advertise_39 rfl (lv_at hl 0 rfl) ?_
            refine bx_get S hK hin hw.1 0 rfl rfl 10 (by decide) flX0_advertise_41 rfl dX0_advertise_40 ?_
            refine lv_iload S.1 S.2.1 dX0_advertise_43 (lv_at hl 4 rfl) ?_
            refine lv_iload_n S.1 S.2.1 dX0_advertise_45 rfl (lv_at hl 2 rfl) ?_
            refine bc_si (As := [.int (nI i13), .int (nI g)]) (rest := [.ref (a 11)]) S hK hw (kX0_placeOf l D _ (r := i13) (g := g) (by omega) (by omega)) (va_cwS 2 S.2.2.2.2 gX0_advertise_X0_placeOf rfl rfl rfl (by decide +kernel) ⟨Nat.le_of_ble_eq_true rfl, Nat.le_of_ble_eq_true rfl⟩) rfl hl.1 rfl (Nat.le_of_ble_eq_true rfl) (Nat.zero_le _) (Nat.zero_le _) dX0_advertise_46 (fun H locs hw => ?_)
            refine bx_iald (v := (itF (advS q g num) (up σ 8 g ((σ 8 g) + 1)) i13) 10 (4 * g + i13)) S hK hw.1 11 1 rfl rfl (by omega) (by decide) rfl dX0_advertise_49 ?_
            refine lv_istore (lv' := [(5, .int ((itF (advS q g num) (up σ 8 g ((σ 8 g) + 1)) i13) 10 (4 * g + i13))), (0, .ref (a 0)), (1, .int (nI q)), (2, .int (nI g)), (3, .int num), (4, .int (nI i13))]) S.1 S.2.1 dX0_advertise_50 hl (by decide) rfl (fun ls hl => ?_)
            refine lv_iload S.1 S.2.1 dX0_advertise_52 (lv_at hl 0 rfl) ?_
            refine lv_iconst (v := 2) S.1 S.2.1 dX0_advertise_54 (by decide) ?_
            refine br_ne (tgt := 70) S dX0_advertise_55 (by decide) (fun c55 => ?_) (fun c55 => ?_)
            · refine lv_iload S.1 S.2.1 dX0_advertise_70 (lv_at hl 0 rfl) ?_
              refine lv_iconst (v := 1) S.1 S.2.1 dX0_advertise_72 (by decide) ?_
              refine br_ne (tgt := 85) S dX0_advertise_73 (by decide) (fun c73 => ?_) (fun c73 => ?_)
              · refine lv_iinc (v := nI (i13 + 1)) (lv' := [(4, .int (nI (i13 + 1))), (5, .int ((itF (advS q g num) (up σ 8 g ((σ 8 g) + 1)) i13) 10 (4 * g + i13))), (0, .ref (a 0)), (1, .int (nI q)), (2, .int (nI g)), (3, .int num)]) S.1 S.2.1 dX0_advertise_85 hl (k := 5) rfl (nI_1 i13) (by decide) rfl (fun ls hl => ?_)
                refine lv_goto (tgt := 13) S.1 S.2.1 dX0_advertise_88 (by decide) ?_
                exact ih_13 (i13 + 1) (by omega) _ _ (Wd.cast (congrArg (wX cZ cI a) (by simp only [itF, advS, eq_true c16, eq_false c22, eq_false c36, eq_false c55, eq_false c73, ↓reduceIte])) hw) _ (lv_sub hl [2, 3, 4, 5, 0] rfl)
              · refine lv_aload_n S.1 S.2.1 dX0_advertise_76 rfl (lv_at hl 1 rfl) ?_
                refine lv_iload S.1 S.2.1 dX0_advertise_77 (lv_at hl 5 rfl) ?_
                refine lv_iload_n S.1 S.2.1 dX0_advertise_79 rfl (lv_at hl 3 rfl) ?_
                refine lv_iload_n S.1 S.2.1 dX0_advertise_80 rfl (lv_at hl 2 rfl) ?_
                refine lv_iload_n S.1 S.2.1 dX0_advertise_81 rfl (lv_at hl 4 rfl) ?_
                refine bc_vv (As := [.int (nI i13), .int (nI g), .int (nI q), .int num]) (rest := []) S hK hw (kX0_receiveAsBackup l D cZ cI a (itF (advS q g num) (up σ 8 g ((σ 8 g) + 1)) i13) (r := i13) (g := g) (q := q) num (by omega) (by omega) (by omega)) (cwV 4 S.2.2.2.2 gX0_advertise_X0_receiveAsBackup rfl rfl rfl (by decide +kernel) ⟨Nat.le_of_ble_eq_true rfl, Nat.le_of_ble_eq_true rfl⟩) (q0 := 0) rfl rfl rfl hl.1 rfl (Nat.le_of_ble_eq_true rfl) (Nat.zero_le _) (Nat.zero_le _) dX0_advertise_82 (fun H locs hw => ?_)
                refine lv_iinc (v := nI (i13 + 1)) (lv' := [(4, .int (nI (i13 + 1))), (5, .int ((itF (advS q g num) (up σ 8 g ((σ 8 g) + 1)) i13) 10 (4 * g + i13))), (0, .ref (a 0)), (1, .int (nI q)), (2, .int (nI g)), (3, .int num)]) S.1 S.2.1 dX0_advertise_85 hl (k := 5) rfl (nI_1 i13) (by decide) rfl (fun ls hl => ?_)
                refine lv_goto (tgt := 13) S.1 S.2.1 dX0_advertise_88 (by decide) ?_
                exact ih_13 (i13 + 1) (by omega) _ _ (Wd.cast (congrArg (wX cZ cI a) (by simp only [itF, advS, eq_true c16, eq_false c22, eq_false c36, eq_false c55, eq_true c73, ↓reduceIte])) hw) _ (lv_sub hl [2, 3, 4, 5, 0] rfl)
            · refine lv_aload_n S.1 S.2.1 dX0_advertise_58 rfl (lv_at hl 1 rfl) ?_
              refine lv_iload S.1 S.2.1 dX0_advertise_59 (lv_at hl 5 rfl) ?_
              refine lv_iload_n S.1 S.2.1 dX0_advertise_61 rfl (lv_at hl 3 rfl) ?_
              refine lv_iload_n S.1 S.2.1 dX0_advertise_62 rfl (lv_at hl 2 rfl) ?_
              refine lv_iload_n S.1 S.2.1 dX0_advertise_63 rfl (lv_at hl 4 rfl) ?_
              refine bc_vv (As := [.int (nI i13), .int (nI g), .int (nI q), .int num]) (rest := []) S hK hw (kX0_receiveAsMaster l D cZ cI a (itF (advS q g num) (up σ 8 g ((σ 8 g) + 1)) i13) (r := i13) (g := g) (q := q) num (by omega) (by omega) (by omega)) (cwV 4 S.2.2.2.2 gX0_advertise_X0_receiveAsMaster rfl rfl rfl (by decide +kernel) ⟨Nat.le_of_ble_eq_true rfl, Nat.le_of_ble_eq_true rfl⟩) (q0 := 0) rfl rfl rfl hl.1 rfl (Nat.le_of_ble_eq_true rfl) (Nat.zero_le _) (Nat.zero_le _) dX0_advertise_64 (fun H locs hw => ?_)
              refine lv_goto (tgt := 85) S.1 S.2.1 dX0_advertise_67 (by decide) ?_
              refine lv_iinc (v := nI (i13 + 1)) (lv' := [(4, .int (nI (i13 + 1))), (5, .int ((itF (advS q g num) (up σ 8 g ((σ 8 g) + 1)) i13) 10 (4 * g + i13))), (0, .ref (a 0)), (1, .int (nI q)), (2, .int (nI g)), (3, .int num)]) S.1 S.2.1 dX0_advertise_85 hl (k := 5) rfl (nI_1 i13) (by decide) rfl (fun ls hl => ?_)
              refine lv_goto (tgt := 13) S.1 S.2.1 dX0_advertise_88 (by decide) ?_
              exact ih_13 (i13 + 1) (by omega) _ _ (Wd.cast (congrArg (wX cZ cI a) (by simp only [itF, advS, eq_true c16, eq_false c22, eq_false c36, eq_true c55, ↓reduceIte])) hw) _ (lv_sub hl [2, 3, 4, 5, 0] rfl)
  exact L13 (4 - 0) 0 (by omega) _ _ hw _ (lv_sub hl [1, 2, 3, 4, 0] rfl)

theorem inX0_runMasters : ∀ w ∈ u_ws RX0 TX0 18, w ∈ wsX0_runMasters := fun _ h => List.mem_cons_of_mem _ (List.mem_append_right _ h)
theorem flX0_runMasters_41 : Cond.fieldLink RX0 41 "StandbyPair" "roles" "[I" ∈ wsX0_runMasters := by decide +kernel
theorem flX0_runMasters_44 : Cond.fieldLink RX0 44 "StandbyPair" "timers" "[I" ∈ wsX0_runMasters := by decide +kernel
theorem flX0_runMasters_23 : Cond.fieldLink RX0 23 "StandbyPair" "periods" "[I" ∈ wsX0_runMasters := by decide +kernel
set_option maxHeartbeats 4000000 in
set_option maxRecDepth 100000 in
theorem kX0_runMasters (l : Launch) (D : va_G) (cZ cI : ClassId) (a : Nat → Nat) (σ : sC) {g : Nat} (hg : g < 3) : MV l yX0_runMasters wsX0_runMasters ({ frames := 5, cells := 0, slots := 0, locals := 119 } : Room) D (tyZ cZ cI) [.ref (a 0), .int (nI g)] (wX cZ cI a σ) (wX cZ cI a (runM σ g)) := by
  refine MV.of (cc := cX0_runMasters) (maxL := 4) (by decide) rfl ⟨rfl, rfl⟩ (Nat.le_of_ble_eq_true rfl) ?_
  intro p e s m args below meth c A Q S hK hret ls hl hw
  replace hl : lv_has ls 4 [(0, .ref (a 0)), (1, .int (nI g))] := hl
  replace S : CallFix p m c cX0_runMasters 4 s args wsX0_runMasters RX0 := S
  have hin := inX0_runMasters
  refine lv_iconst (v := nI 0) S.1 S.2.1 dX0_runMasters_0 (by decide) ?_
  refine lv_istore_n (lv' := [(2, .int (nI 0)), (0, .ref (a 0)), (1, .int (nI g))]) S.1 S.2.1 dX0_runMasters_1 rfl hl (by decide) rfl (fun ls hl => ?_)
  have L2 : ∀ (n i2 : Nat), i2 + n = 4 → ∀ (H : Heap) (locs : List Loc), Wd D A s.heap (wX cZ cI a (itF (turnM g) σ i2)) H locs → ∀ ls : Array Slot, lv_has ls 4 [(0, .ref (a 0)), (1, .int (nI g)), (2, .int (nI i2))] → W p l e ({ frames := 5, cells := 0, slots := 0, locals := 119 } : Room) s m args below meth c H locs 0 0 Q (F0 m 2 ls []) := by
    intro n
    induction n with
    | zero =>
      intro i2 hi H locs hw ls hl
      obtain rfl : i2 = 4 := by omega
      refine lv_iload_n S.1 S.2.1 dX0_runMasters_2 rfl (lv_at hl 2 rfl) ?_
      refine lv_iconst (v := nI 4) S.1 S.2.1 dX0_runMasters_3 (by decide) ?_
      refine br_ge (tgt := 72) S dX0_runMasters_4 (by decide) (fun c4 => ?_) (fun c4 => ?_)
      · exact hret hw dX0_runMasters_72 (congrArg (wX cZ cI a) (rfl))
      · exact absurd c4 (nlt_nI (by decide))
    | succ n ih_2 =>
      intro i2 hi H locs hw ls hl
      have hi2 : i2 < 4 := by omega
      refine lv_iload_n S.1 S.2.1 dX0_runMasters_2 rfl (lv_at hl 2 rfl) ?_
      refine lv_iconst (v := nI 4) S.1 S.2.1 dX0_runMasters_3 (by decide) ?_
      refine br_ge (tgt := 72) S dX0_runMasters_4 (by decide) (fun c4 => ?_) (fun c4 => ?_)
      · exact absurd c4 (not_not_intro (lt_nI hi2 (by decide)))
      · refine lv_iload_n S.1 S.2.1 dX0_runMasters_7 rfl (lv_at hl 2 rfl) ?_
        refine lv_iload_n S.1 S.2.1 dX0_runMasters_8 rfl (lv_at hl 1 rfl) ?_
        refine bc_si (As := [.int (nI i2), .int (nI g)]) (rest := []) S hK hw (kX0_placeOf l D _ (r := i2) (g := g) (by omega) (by omega)) (va_cwS 2 S.2.2.2.2 gX0_runMasters_X0_placeOf rfl rfl rfl (by decide +kernel) ⟨Nat.le_of_ble_eq_true rfl, Nat.le_of_ble_eq_true rfl⟩) rfl hl.1 rfl (Nat.le_of_ble_eq_true rfl) (Nat.zero_le _) (Nat.zero_le _) dX0_runMasters_9 (fun H locs hw => ?_)
        refine lv_istore_n (lv' := [(3, .int (nI (4 * g + i2))), (0, .ref (a 0)), (1, .int (nI g)), (2, .int (nI i2))]) S.1 S.2.1 dX0_runMasters_12 rfl hl (by decide) rfl (fun ls hl => ?_)
        refine lv_aload_n S.1 S.2.1 dX0_runMasters_13 rfl (lv_at hl 1 rfl) ?_
        refine bx_get S hK hin hw.1 0 rfl rfl 10 (by decide) flX0_runMasters_41 rfl dX0_runMasters_14 ?_
        refine lv_iload_n S.1 S.2.1 dX0_runMasters_17 rfl (lv_at hl 0 rfl) ?_
        refine bx_iald (v := (itF (turnM g) σ i2) 10 (4 * g + i2)) S hK hw.1 11 1 rfl rfl (by omega) (by decide) rfl dX0_runMasters_18 ?_
        refine lv_iconst (v := 2) S.1 S.2.1 dX0_runMasters_19 (by decide) ?_
        refine br_ne (tgt := 66) S dX0_runMasters_20 (by decide) (fun c20 => ?_) (fun c20 => ?_)
        · refine lv_iinc (v := nI (i2 + 1)) (lv' := [(2, .int (nI (i2 + 1))), (3, .int (nI (4 * g + i2))), (0, .ref (a 0)), (1, .int (nI g))]) S.1 S.2.1 dX0_runMasters_66 hl (k := 3) rfl (nI_1 i2) (by decide) rfl (fun ls hl => ?_)
          refine lv_goto (tgt := 2) S.1 S.2.1 dX0_runMasters_69 (by decide) ?_
          exact ih_2 (i2 + 1) (by omega) _ _ (Wd.cast (congrArg (wX cZ cI a) (by simp only [itF, turnM, tick1, sendF, eq_true c4, eq_false c20, ↓reduceIte])) hw) _ (lv_sub hl [2, 3, 0] rfl)
        · refine lv_aload_n S.1 S.2.1 dX0_runMasters_23 rfl (lv_at hl 1 rfl) ?_
          refine bx_get S hK hin hw.1 0 rfl rfl 11 (by decide) flX0_runMasters_44 rfl dX0_runMasters_24 ?_
          refine lv_iload_n S.1 S.2.1 dX0_runMasters_27 rfl (lv_at hl 0 rfl) ?_
          refine lv_dup2_11 S.1 S.2.1 dX0_runMasters_28 rfl rfl ?_
          refine bx_iald (v := (itF (turnM g) σ i2) 11 (4 * g + i2)) S hK hw.1 12 1 rfl rfl (by omega) (by decide) rfl dX0_runMasters_29 ?_
          refine lv_iconst (v := 1) S.1 S.2.1 dX0_runMasters_30 (by decide) ?_
          refine lv_isub S.1 S.2.1 dX0_runMasters_31 ?_
          refine bx_iast S hK hw 12 1 rfl rfl (by omega) (by decide) (wX_s11 cZ cI a (itF (turnM g) σ i2) (4 * g + i2) (((itF (turnM g) σ i2) 11 (4 * g + i2)) - 1)) dX0_runMasters_32 (fun H locs hw => ?_)
          refine lv_aload_n S.1 S.2.1 dX0_runMasters_33 rfl (lv_at hl 1 rfl) ?_
          refine bx_get S hK hin hw.1 0 rfl rfl 11 (by decide) flX0_runMasters_44 rfl dX0_runMasters_34 ?_
          refine lv_iload_n S.1 S.2.1 dX0_runMasters_37 rfl (lv_at hl 0 rfl) ?_
          refine bx_iald (v := (up (itF (turnM g) σ i2) 11 (4 * g + i2) (((itF (turnM g) σ i2) 11 (4 * g + i2)) - 1)) 11 (4 * g + i2)) S hK hw.1 12 1 rfl rfl (by omega) (by decide) rfl dX0_runMasters_38 ?_
          refine bz_ne (tgt := 66) S dX0_runMasters_39 (by decide) (fun c39 => ?_) (fun c39 => ?_)
          · refine lv_iinc (v := nI (i2 + 1)) (lv' := [(2, .int (nI (i2 + 1))), (3, .int (nI (4 * g + i2))), (0, .ref (a 0)), (1, .int (nI g))]) S.1 S.2.1 dX0_runMasters_66 hl (k := 3) rfl (nI_1 i2) (by decide) rfl (fun ls hl => ?_)
            refine lv_goto (tgt := 2) S.1 S.2.1 dX0_runMasters_69 (by decide) ?_
            exact ih_2 (i2 + 1) (by omega) _ _ (Wd.cast (congrArg (wX cZ cI a) (by simp only [itF, turnM, tick1, sendF, eq_true c4, eq_true c20, eq_false c39, ↓reduceIte])) hw) _ (lv_sub hl [2, 3, 0] rfl)
          · refine lv_aload_n S.1 S.2.1 dX0_runMasters_42 rfl (lv_at hl 1 rfl) ?_
            refine lv_iload_n S.1 S.2.1 dX0_runMasters_43 rfl (lv_at hl 3 rfl) ?_
            refine lv_iload_n S.1 S.2.1 dX0_runMasters_44 rfl (lv_at hl 2 rfl) ?_
            refine lv_aload_n S.1 S.2.1 dX0_runMasters_45 rfl (lv_at hl 1 rfl) ?_
            refine lv_iload_n S.1 S.2.1 dX0_runMasters_46 rfl (lv_at hl 3 rfl) ?_
            refine lv_iload_n S.1 S.2.1 dX0_runMasters_47 rfl (lv_at hl 2 rfl) ?_
            refine bc_vi (As := [.int (nI i2), .int (nI g)]) (rest := [.int (nI g), .int (nI i2), .ref (a 0)]) S hK hw (kX0_loweredPriority l D cZ cI a (up (itF (turnM g) σ i2) 11 (4 * g + i2) (((itF (turnM g) σ i2) 11 (4 * g + i2)) - 1)) (r := i2) (g := g) (by omega) (by omega)) (cwV 2 S.2.2.2.2 gX0_runMasters_X0_loweredPriority rfl rfl rfl (by decide +kernel) ⟨Nat.le_of_ble_eq_true rfl, Nat.le_of_ble_eq_true rfl⟩) (q0 := 0) rfl rfl rfl hl.1 rfl (Nat.le_of_ble_eq_true rfl) (Nat.zero_le _) (Nat.zero_le _) dX0_runMasters_48 (fun H locs hw => ?_)
            refine bc_vv (As := [.int (nI i2), .int (nI g), .int (lowP (up (itF (turnM g) σ i2) 11 (4 * g + i2) (((itF (turnM g) σ i2) 11 (4 * g + i2)) - 1)) i2 g)]) (rest := []) S hK hw (kX0_advertise l D cZ cI a (up (itF (turnM g) σ i2) 11 (4 * g + i2) (((itF (turnM g) σ i2) 11 (4 * g + i2)) - 1)) (q := i2) (g := g) (lowP (up (itF (turnM g) σ i2) 11 (4 * g + i2) (((itF (turnM g) σ i2) 11 (4 * g + i2)) - 1)) i2 g) (by omega) (by omega)) (cwV 3 S.2.2.2.2 gX0_runMasters_X0_advertise rfl rfl rfl (by decide +kernel) ⟨Nat.le_of_ble_eq_true rfl, Nat.le_of_ble_eq_true rfl⟩) (q0 := 0) rfl rfl rfl hl.1 rfl (Nat.le_of_ble_eq_true rfl) (Nat.zero_le _) (Nat.zero_le _) dX0_runMasters_51 (fun H locs hw => ?_)
            refine lv_aload_n S.1 S.2.1 dX0_runMasters_54 rfl (lv_at hl 1 rfl) ?_
            refine bx_get S hK hin hw.1 0 rfl rfl 11 (by decide) flX0_runMasters_44 rfl dX0_runMasters_55 ?_
            refine lv_iload_n S.1 S.2.1 dX0_runMasters_58 rfl (lv_at hl 0 rfl) ?_
            refine lv_aload_n S.1 S.2.1 dX0_runMasters_59 rfl (lv_at hl 1 rfl) ?_
            refine bx_get S hK hin hw.1 0 rfl rfl 4 (by decide) flX0_runMasters_23 rfl dX0_runMasters_60 ?_
            refine lv_iload_n S.1 S.2.1 dX0_runMasters_63 rfl (lv_at hl 2 rfl) ?_
            refine bx_iald (v := (advF (up (itF (turnM g) σ i2) 11 (4 * g + i2) (((itF (turnM g) σ i2) 11 (4 * g + i2)) - 1)) i2 g (lowP (up (itF (turnM g) σ i2) 11 (4 * g + i2) (((itF (turnM g) σ i2) 11 (4 * g + i2)) - 1)) i2 g)) 4 g) S hK hw.1 5 1 rfl rfl (by omega) (by decide) rfl dX0_runMasters_64 ?_
            refine bx_iast S hK hw 12 1 rfl rfl (by omega) (by decide) (wX_s11 cZ cI a (advF (up (itF (turnM g) σ i2) 11 (4 * g + i2) (((itF (turnM g) σ i2) 11 (4 * g + i2)) - 1)) i2 g (lowP (up (itF (turnM g) σ i2) 11 (4 * g + i2) (((itF (turnM g) σ i2) 11 (4 * g + i2)) - 1)) i2 g)) (4 * g + i2) ((advF (up (itF (turnM g) σ i2) 11 (4 * g + i2) (((itF (turnM g) σ i2) 11 (4 * g + i2)) - 1)) i2 g (lowP (up (itF (turnM g) σ i2) 11 (4 * g + i2) (((itF (turnM g) σ i2) 11 (4 * g + i2)) - 1)) i2 g)) 4 g)) dX0_runMasters_65 (fun H locs hw => ?_)
            refine lv_iinc (v := nI (i2 + 1)) (lv' := [(2, .int (nI (i2 + 1))), (3, .int (nI (4 * g + i2))), (0, .ref (a 0)), (1, .int (nI g))]) S.1 S.2.1 dX0_runMasters_66 hl (k := 3) rfl (nI_1 i2) (by decide) rfl (fun ls hl => ?_)
            refine lv_goto (tgt := 2) S.1 S.2.1 dX0_runMasters_69 (by decide) ?_
            exact ih_2 (i2 + 1) (by omega) _ _ (Wd.cast (congrArg (wX cZ cI a) (by simp only [itF, turnM, tick1, sendF, eq_true c4, eq_true c20, eq_true c39, ↓reduceIte])) hw) _ (lv_sub hl [2, 3, 0] rfl)
  exact L2 (4 - 0) 0 (by omega) _ _ hw _ (lv_sub hl [1, 2, 0] rfl)

theorem inX0_runBackups : ∀ w ∈ u_ws RX0 TX0 18, w ∈ wsX0_runBackups := fun _ h => List.mem_cons_of_mem _ (List.mem_append_right _ h)
theorem flX0_runBackups_41 : Cond.fieldLink RX0 41 "StandbyPair" "roles" "[I" ∈ wsX0_runBackups := by decide +kernel
theorem flX0_runBackups_44 : Cond.fieldLink RX0 44 "StandbyPair" "timers" "[I" ∈ wsX0_runBackups := by decide +kernel
theorem flX0_runBackups_53 : Cond.fieldLink RX0 53 "StandbyPair" "promotions" "[I" ∈ wsX0_runBackups := by decide +kernel
theorem flX0_runBackups_23 : Cond.fieldLink RX0 23 "StandbyPair" "periods" "[I" ∈ wsX0_runBackups := by decide +kernel
set_option maxHeartbeats 4000000 in
set_option maxRecDepth 100000 in
theorem kX0_runBackups (l : Launch) (D : va_G) (cZ cI : ClassId) (a : Nat → Nat) (σ : sC) {g : Nat} (hg : g < 3) : MV l yX0_runBackups wsX0_runBackups ({ frames := 5, cells := 0, slots := 0, locals := 119 } : Room) D (tyZ cZ cI) [.ref (a 0), .int (nI g)] (wX cZ cI a σ) (wX cZ cI a (runB σ g)) := by
  refine MV.of (cc := cX0_runBackups) (maxL := 4) (by decide) rfl ⟨rfl, rfl⟩ (Nat.le_of_ble_eq_true rfl) ?_
  intro p e s m args below meth c A Q S hK hret ls hl hw
  replace hl : lv_has ls 4 [(0, .ref (a 0)), (1, .int (nI g))] := hl
  replace S : CallFix p m c cX0_runBackups 4 s args wsX0_runBackups RX0 := S
  have hin := inX0_runBackups
  refine lv_iconst (v := nI 0) S.1 S.2.1 dX0_runBackups_0 (by decide) ?_
  refine lv_istore_n (lv' := [(2, .int (nI 0)), (0, .ref (a 0)), (1, .int (nI g))]) S.1 S.2.1 dX0_runBackups_1 rfl hl (by decide) rfl (fun ls hl => ?_)
  have L2 : ∀ (n i2 : Nat), i2 + n = 4 → ∀ (H : Heap) (locs : List Loc), Wd D A s.heap (wX cZ cI a (itF (turnB g) σ i2)) H locs → ∀ ls : Array Slot, lv_has ls 4 [(0, .ref (a 0)), (1, .int (nI g)), (2, .int (nI i2))] → W p l e ({ frames := 5, cells := 0, slots := 0, locals := 119 } : Room) s m args below meth c H locs 0 0 Q (F0 m 2 ls []) := by
    intro n
    induction n with
    | zero =>
      intro i2 hi H locs hw ls hl
      obtain rfl : i2 = 4 := by omega
      refine lv_iload_n S.1 S.2.1 dX0_runBackups_2 rfl (lv_at hl 2 rfl) ?_
      refine lv_iconst (v := nI 4) S.1 S.2.1 dX0_runBackups_3 (by decide) ?_
      refine br_ge (tgt := 89) S dX0_runBackups_4 (by decide) (fun c4 => ?_) (fun c4 => ?_)
      · exact hret hw dX0_runBackups_89 (congrArg (wX cZ cI a) (rfl))
      · exact absurd c4 (nlt_nI (by decide))
    | succ n ih_2 =>
      intro i2 hi H locs hw ls hl
      have hi2 : i2 < 4 := by omega
      refine lv_iload_n S.1 S.2.1 dX0_runBackups_2 rfl (lv_at hl 2 rfl) ?_
      refine lv_iconst (v := nI 4) S.1 S.2.1 dX0_runBackups_3 (by decide) ?_
      refine br_ge (tgt := 89) S dX0_runBackups_4 (by decide) (fun c4 => ?_) (fun c4 => ?_)
      · exact absurd c4 (not_not_intro (lt_nI hi2 (by decide)))
      · refine lv_iload_n S.1 S.2.1 dX0_runBackups_7 rfl (lv_at hl 2 rfl) ?_
        refine lv_iload_n S.1 S.2.1 dX0_runBackups_8 rfl (lv_at hl 1 rfl) ?_
        refine bc_si (As := [.int (nI i2), .int (nI g)]) (rest := []) S hK hw (kX0_placeOf l D _ (r := i2) (g := g) (by omega) (by omega)) (va_cwS 2 S.2.2.2.2 gX0_runBackups_X0_placeOf rfl rfl rfl (by decide +kernel) ⟨Nat.le_of_ble_eq_true rfl, Nat.le_of_ble_eq_true rfl⟩) rfl hl.1 rfl (Nat.le_of_ble_eq_true rfl) (Nat.zero_le _) (Nat.zero_le _) dX0_runBackups_9 (fun H locs hw => ?_)
        refine lv_istore_n (lv' := [(3, .int (nI (4 * g + i2))), (0, .ref (a 0)), (1, .int (nI g)), (2, .int (nI i2))]) S.1 S.2.1 dX0_runBackups_12 rfl hl (by decide) rfl (fun ls hl => ?_)
        refine lv_aload_n S.1 S.2.1 dX0_runBackups_13 rfl (lv_at hl 1 rfl) ?_
        refine bx_get S hK hin hw.1 0 rfl rfl 10 (by decide) flX0_runBackups_41 rfl dX0_runBackups_14 ?_
        refine lv_iload_n S.1 S.2.1 dX0_runBackups_17 rfl (lv_at hl 0 rfl) ?_
        refine bx_iald (v := (itF (turnB g) σ i2) 10 (4 * g + i2)) S hK hw.1 11 1 rfl rfl (by omega) (by decide) rfl dX0_runBackups_18 ?_
        refine lv_iconst (v := 1) S.1 S.2.1 dX0_runBackups_19 (by decide) ?_
        refine br_ne (tgt := 83) S dX0_runBackups_20 (by decide) (fun c20 => ?_) (fun c20 => ?_)
        · refine lv_iinc (v := nI (i2 + 1)) (lv' := [(2, .int (nI (i2 + 1))), (3, .int (nI (4 * g + i2))), (0, .ref (a 0)), (1, .int (nI g))]) S.1 S.2.1 dX0_runBackups_83 hl (k := 3) rfl (nI_1 i2) (by decide) rfl (fun ls hl => ?_)
          refine lv_goto (tgt := 2) S.1 S.2.1 dX0_runBackups_86 (by decide) ?_
          exact ih_2 (i2 + 1) (by omega) _ _ (Wd.cast (congrArg (wX cZ cI a) (by simp only [itF, turnB, tick1, sendF, riseF, eq_true c4, eq_false c20, ↓reduceIte])) hw) _ (lv_sub hl [2, 3, 0] rfl)
        · refine lv_aload_n S.1 S.2.1 dX0_runBackups_23 rfl (lv_at hl 1 rfl) ?_
          refine bx_get S hK hin hw.1 0 rfl rfl 11 (by decide) flX0_runBackups_44 rfl dX0_runBackups_24 ?_
          refine lv_iload_n S.1 S.2.1 dX0_runBackups_27 rfl (lv_at hl 0 rfl) ?_
          refine lv_dup2_11 S.1 S.2.1 dX0_runBackups_28 rfl rfl ?_
          refine bx_iald (v := (itF (turnB g) σ i2) 11 (4 * g + i2)) S hK hw.1 12 1 rfl rfl (by omega) (by decide) rfl dX0_runBackups_29 ?_
          refine lv_iconst (v := 1) S.1 S.2.1 dX0_runBackups_30 (by decide) ?_
          refine lv_isub S.1 S.2.1 dX0_runBackups_31 ?_
          refine bx_iast S hK hw 12 1 rfl rfl (by omega) (by decide) (wX_s11 cZ cI a (itF (turnB g) σ i2) (4 * g + i2) (((itF (turnB g) σ i2) 11 (4 * g + i2)) - 1)) dX0_runBackups_32 (fun H locs hw => ?_)
          refine lv_aload_n S.1 S.2.1 dX0_runBackups_33 rfl (lv_at hl 1 rfl) ?_
          refine bx_get S hK hin hw.1 0 rfl rfl 11 (by decide) flX0_runBackups_44 rfl dX0_runBackups_34 ?_
          refine lv_iload_n S.1 S.2.1 dX0_runBackups_37 rfl (lv_at hl 0 rfl) ?_
          refine bx_iald (v := (up (itF (turnB g) σ i2) 11 (4 * g + i2) (((itF (turnB g) σ i2) 11 (4 * g + i2)) - 1)) 11 (4 * g + i2)) S hK hw.1 12 1 rfl rfl (by omega) (by decide) rfl dX0_runBackups_38 ?_
          refine bz_ne (tgt := 83) S dX0_runBackups_39 (by decide) (fun c39 => ?_) (fun c39 => ?_)
          · refine lv_iinc (v := nI (i2 + 1)) (lv' := [(2, .int (nI (i2 + 1))), (3, .int (nI (4 * g + i2))), (0, .ref (a 0)), (1, .int (nI g))]) S.1 S.2.1 dX0_runBackups_83 hl (k := 3) rfl (nI_1 i2) (by decide) rfl (fun ls hl => ?_)
            refine lv_goto (tgt := 2) S.1 S.2.1 dX0_runBackups_86 (by decide) ?_
            exact ih_2 (i2 + 1) (by omega) _ _ (Wd.cast (congrArg (wX cZ cI a) (by simp only [itF, turnB, tick1, sendF, riseF, eq_true c4, eq_true c20, eq_false c39, ↓reduceIte])) hw) _ (lv_sub hl [2, 3, 0] rfl)
          · refine lv_aload_n S.1 S.2.1 dX0_runBackups_42 rfl (lv_at hl 1 rfl) ?_
            refine bx_get S hK hin hw.1 0 rfl rfl 10 (by decide) flX0_runBackups_41 rfl dX0_runBackups_43 ?_
            refine lv_iload_n S.1 S.2.1 dX0_runBackups_46 rfl (lv_at hl 0 rfl) ?_
            refine lv_iconst (v := 2) S.1 S.2.1 dX0_runBackups_47 (by decide) ?_
            refine bx_iast S hK hw 11 1 rfl rfl (by omega) (by decide) (wX_s10 cZ cI a (up (itF (turnB g) σ i2) 11 (4 * g + i2) (((itF (turnB g) σ i2) 11 (4 * g + i2)) - 1)) (4 * g + i2) 2) dX0_runBackups_48 (fun H locs hw => ?_)
            refine lv_aload_n S.1 S.2.1 dX0_runBackups_49 rfl (lv_at hl 1 rfl) ?_
            refine bx_get S hK hin hw.1 0 rfl rfl 14 (by decide) flX0_runBackups_53 rfl dX0_runBackups_50 ?_
            refine lv_iload_n S.1 S.2.1 dX0_runBackups_53 rfl (lv_at hl 0 rfl) ?_
            refine lv_dup2_11 S.1 S.2.1 dX0_runBackups_54 rfl rfl ?_
            refine bx_iald (v := (up (up (itF (turnB g) σ i2) 11 (4 * g + i2) (((itF (turnB g) σ i2) 11 (4 * g + i2)) - 1)) 10 (4 * g + i2) 2) 14 (4 * g + i2)) S hK hw.1 15 1 rfl rfl (by omega) (by decide) rfl dX0_runBackups_55 ?_
            refine lv_iconst (v := 1) S.1 S.2.1 dX0_runBackups_56 (by decide) ?_
            refine lv_iadd S.1 S.2.1 dX0_runBackups_57 ?_
            refine bx_iast S hK hw 15 1 rfl rfl (by omega) (by decide) (wX_s14 cZ cI a (up (up (itF (turnB g) σ i2) 11 (4 * g + i2) (((itF (turnB g) σ i2) 11 (4 * g + i2)) - 1)) 10 (4 * g + i2) 2) (4 * g + i2) (((up (up (itF (turnB g) σ i2) 11 (4 * g + i2) (((itF (turnB g) σ i2) 11 (4 * g + i2)) - 1)) 10 (4 * g + i2) 2) 14 (4 * g + i2)) + 1)) dX0_runBackups_58 (fun H locs hw => ?_)
            refine lv_aload_n S.1 S.2.1 dX0_runBackups_59 rfl (lv_at hl 1 rfl) ?_
            refine lv_iload_n S.1 S.2.1 dX0_runBackups_60 rfl (lv_at hl 3 rfl) ?_
            refine lv_iload_n S.1 S.2.1 dX0_runBackups_61 rfl (lv_at hl 2 rfl) ?_
            refine lv_aload_n S.1 S.2.1 dX0_runBackups_62 rfl (lv_at hl 1 rfl) ?_
            refine lv_iload_n S.1 S.2.1 dX0_runBackups_63 rfl (lv_at hl 3 rfl) ?_
            refine lv_iload_n S.1 S.2.1 dX0_runBackups_64 rfl (lv_at hl 2 rfl) ?_
            refine bc_vi (As := [.int (nI i2), .int (nI g)]) (rest := [.int (nI g), .int (nI i2), .ref (a 0)]) S hK hw (kX0_loweredPriority l D cZ cI a (up (up (up (itF (turnB g) σ i2) 11 (4 * g + i2) (((itF (turnB g) σ i2) 11 (4 * g + i2)) - 1)) 10 (4 * g + i2) 2) 14 (4 * g + i2) (((up (up (itF (turnB g) σ i2) 11 (4 * g + i2) (((itF (turnB g) σ i2) 11 (4 * g + i2)) - 1)) 10 (4 * g + i2) 2) 14 (4 * g + i2)) + 1)) (r := i2) (g := g) (by omega) (by omega)) (cwV 2 S.2.2.2.2 gX0_runBackups_X0_loweredPriority rfl rfl rfl (by decide +kernel) ⟨Nat.le_of_ble_eq_true rfl, Nat.le_of_ble_eq_true rfl⟩) (q0 := 0) rfl rfl rfl hl.1 rfl (Nat.le_of_ble_eq_true rfl) (Nat.zero_le _) (Nat.zero_le _) dX0_runBackups_65 (fun H locs hw => ?_)
            refine bc_vv (As := [.int (nI i2), .int (nI g), .int (lowP (up (up (up (itF (turnB g) σ i2) 11 (4 * g + i2) (((itF (turnB g) σ i2) 11 (4 * g + i2)) - 1)) 10 (4 * g + i2) 2) 14 (4 * g + i2) (((up (up (itF (turnB g) σ i2) 11 (4 * g + i2) (((itF (turnB g) σ i2) 11 (4 * g + i2)) - 1)) 10 (4 * g + i2) 2) 14 (4 * g + i2)) + 1)) i2 g)]) (rest := []) S hK hw (kX0_advertise l D cZ cI a (up (up (up (itF (turnB g) σ i2) 11 (4 * g + i2) (((itF (turnB g) σ i2) 11 (4 * g + i2)) - 1)) 10 (4 * g + i2) 2) 14 (4 * g + i2) (((up (up (itF (turnB g) σ i2) 11 (4 * g + i2) (((itF (turnB g) σ i2) 11 (4 * g + i2)) - 1)) 10 (4 * g + i2) 2) 14 (4 * g + i2)) + 1)) (q := i2) (g := g) (lowP (up (up (up (itF (turnB g) σ i2) 11 (4 * g + i2) (((itF (turnB g) σ i2) 11 (4 * g + i2)) - 1)) 10 (4 * g + i2) 2) 14 (4 * g + i2) (((up (up (itF (turnB g) σ i2) 11 (4 * g + i2) (((itF (turnB g) σ i2) 11 (4 * g + i2)) - 1)) 10 (4 * g + i2) 2) 14 (4 * g + i2)) + 1)) i2 g) (by omega) (by omega)) (cwV 3 S.2.2.2.2 gX0_runBackups_X0_advertise rfl rfl rfl (by decide +kernel) ⟨Nat.le_of_ble_eq_true rfl, Nat.le_of_ble_eq_true rfl⟩) (q0 := 0) rfl rfl rfl hl.1 rfl (Nat.le_of_ble_eq_true rfl) (Nat.zero_le _) (Nat.zero_le _) dX0_runBackups_68 (fun H locs hw => ?_)
            refine lv_aload_n S.1 S.2.1 dX0_runBackups_71 rfl (lv_at hl 1 rfl) ?_
            refine bx_get S hK hin hw.1 0 rfl rfl 11 (by decide) flX0_runBackups_44 rfl dX0_runBackups_72 ?_
            refine lv_iload_n S.1 S.2.1 dX0_runBackups_75 rfl (lv_at hl 0 rfl) ?_
            refine lv_aload_n S.1 S.2.1 dX0_runBackups_76 rfl (lv_at hl 1 rfl) ?_
            refine bx_get S hK hin hw.1 0 rfl rfl 4 (by decide) flX0_runBackups_23 rfl dX0_runBackups_77 ?_
            refine lv_iload_n S.1 S.2.1 dX0_runBackups_80 rfl (lv_at hl 2 rfl) ?_
            refine bx_iald (v := (advF (up (up (up (itF (turnB g) σ i2) 11 (4 * g + i2) (((itF (turnB g) σ i2) 11 (4 * g + i2)) - 1)) 10 (4 * g + i2) 2) 14 (4 * g + i2) (((up (up (itF (turnB g) σ i2) 11 (4 * g + i2) (((itF (turnB g) σ i2) 11 (4 * g + i2)) - 1)) 10 (4 * g + i2) 2) 14 (4 * g + i2)) + 1)) i2 g (lowP (up (up (up (itF (turnB g) σ i2) 11 (4 * g + i2) (((itF (turnB g) σ i2) 11 (4 * g + i2)) - 1)) 10 (4 * g + i2) 2) 14 (4 * g + i2) (((up (up (itF (turnB g) σ i2) 11 (4 * g + i2) (((itF (turnB g) σ i2) 11 (4 * g + i2)) - 1)) 10 (4 * g + i2) 2) 14 (4 * g + i2)) + 1)) i2 g)) 4 g) S hK hw.1 5 1 rfl rfl (by omega) (by decide) rfl dX0_runBackups_81 ?_
            refine bx_iast S hK hw 12 1 rfl rfl (by omega) (by decide) (wX_s11 cZ cI a (advF (up (up (up (itF (turnB g) σ i2) 11 (4 * g + i2) (((itF (turnB g) σ i2) 11 (4 * g + i2)) - 1)) 10 (4 * g + i2) 2) 14 (4 * g + i2) (((up (up (itF (turnB g) σ i2) 11 (4 * g + i2) (((itF (turnB g) σ i2) 11 (4 * g + i2)) - 1)) 10 (4 * g + i2) 2) 14 (4 * g + i2)) + 1)) i2 g (lowP (up (up (up (itF (turnB g) σ i2) 11 (4 * g + i2) (((itF (turnB g) σ i2) 11 (4 * g + i2)) - 1)) 10 (4 * g + i2) 2) 14 (4 * g + i2) (((up (up (itF (turnB g) σ i2) 11 (4 * g + i2) (((itF (turnB g) σ i2) 11 (4 * g + i2)) - 1)) 10 (4 * g + i2) 2) 14 (4 * g + i2)) + 1)) i2 g)) (4 * g + i2) ((advF (up (up (up (itF (turnB g) σ i2) 11 (4 * g + i2) (((itF (turnB g) σ i2) 11 (4 * g + i2)) - 1)) 10 (4 * g + i2) 2) 14 (4 * g + i2) (((up (up (itF (turnB g) σ i2) 11 (4 * g + i2) (((itF (turnB g) σ i2) 11 (4 * g + i2)) - 1)) 10 (4 * g + i2) 2) 14 (4 * g + i2)) + 1)) i2 g (lowP (up (up (up (itF (turnB g) σ i2) 11 (4 * g + i2) (((itF (turnB g) σ i2) 11 (4 * g + i2)) - 1)) 10 (4 * g + i2) 2) 14 (4 * g + i2) (((up (up (itF (turnB g) σ i2) 11 (4 * g + i2) (((itF (turnB g) σ i2) 11 (4 * g + i2)) - 1)) 10 (4 * g + i2) 2) 14 (4 * g + i2)) + 1)) i2 g)) 4 g)) dX0_runBackups_82 (fun H locs hw => ?_)
            refine lv_iinc (v := nI (i2 + 1)) (lv' := [(2, .int (nI (i2 + 1))), (3, .int (nI (4 * g + i2))), (0, .ref (a 0)), (1, .int (nI g))]) S.1 S.2.1 dX0_runBackups_83 hl (k := 3) rfl (nI_1 i2) (by decide) rfl (fun ls hl => ?_)
            refine lv_goto (tgt := 2) S.1 S.2.1 dX0_runBackups_86 (by decide) ?_
            exact ih_2 (i2 + 1) (by omega) _ _ (Wd.cast (congrArg (wX cZ cI a) (by simp only [itF, turnB, tick1, sendF, riseF, eq_true c4, eq_true c20, eq_true c39, ↓reduceIte])) hw) _ (lv_sub hl [2, 3, 0] rfl)
  exact L2 (4 - 0) 0 (by omega) _ _ hw _ (lv_sub hl [1, 2, 0] rfl)

theorem inX0_membersWith : ∀ w ∈ u_ws RX0 TX0 18, w ∈ wsX0_membersWith := fun _ h => List.mem_cons_of_mem _ (List.mem_append_right _ h)
theorem flX0_membersWith_41 : Cond.fieldLink RX0 41 "StandbyPair" "roles" "[I" ∈ wsX0_membersWith := by decide +kernel
set_option maxHeartbeats 4000000 in
set_option maxRecDepth 100000 in
theorem kX0_membersWith (l : Launch) (D : va_G) (cZ cI : ClassId) (a : Nat → Nat) (σ : sC) (role : Int32) {g : Nat} (hg : g < 3) : MI l yX0_membersWith wsX0_membersWith ({ frames := 1, cells := 0, slots := 0, locals := 21 } : Room) D (tyZ cZ cI) [.ref (a 0), .int role, .int (nI g)] (wX cZ cI a σ) (memW σ role g) (wX cZ cI a σ) := by
  refine MI.of (cc := cX0_membersWith) (maxL := 5) (ty := .int) (by decide) rfl (rfl) ⟨rfl, rfl⟩ (Nat.le_of_ble_eq_true rfl) ?_
  intro p e s m args below meth c A Q S hK hret ls hl hw
  replace hl : lv_has ls 5 [(0, .ref (a 0)), (1, .int role), (2, .int (nI g))] := hl
  replace S : CallFix p m c cX0_membersWith 5 s args wsX0_membersWith RX0 := S
  have hin := inX0_membersWith
  refine lv_iconst (v := 0) S.1 S.2.1 dX0_membersWith_0 (by decide) ?_
  refine lv_istore_n (lv' := [(3, .int 0), (0, .ref (a 0)), (1, .int role), (2, .int (nI g))]) S.1 S.2.1 dX0_membersWith_1 rfl hl (by decide) rfl (fun ls hl => ?_)
  refine lv_iconst (v := nI 0) S.1 S.2.1 dX0_membersWith_2 (by decide) ?_
  refine lv_istore (lv' := [(4, .int (nI 0)), (3, .int 0), (0, .ref (a 0)), (1, .int role), (2, .int (nI g))]) S.1 S.2.1 dX0_membersWith_3 hl (by decide) rfl (fun ls hl => ?_)
  have L5 : ∀ (n i5 : Nat), i5 + n = 4 → ∀ (H : Heap) (locs : List Loc), Wd D A s.heap (wX cZ cI a σ) H locs → ∀ ls : Array Slot, lv_has ls 5 [(0, .ref (a 0)), (1, .int role), (2, .int (nI g)), (3, .int (itF (memS σ role g) 0 i5)), (4, .int (nI i5))] → W p l e ({ frames := 1, cells := 0, slots := 0, locals := 21 } : Room) s m args below meth c H locs 0 0 Q (F0 m 5 ls []) := by
    intro n
    induction n with
    | zero =>
      intro i5 hi H locs hw ls hl
      obtain rfl : i5 = 4 := by omega
      refine lv_iload S.1 S.2.1 dX0_membersWith_5 (lv_at hl 4 rfl) ?_
      refine lv_iconst (v := nI 4) S.1 S.2.1 dX0_membersWith_7 (by decide) ?_
      refine br_ge (tgt := 39) S dX0_membersWith_8 (by decide) (fun c8 => ?_) (fun c8 => ?_)
      · refine lv_iload_n S.1 S.2.1 dX0_membersWith_39 rfl (lv_at hl 3 rfl) ?_
        exact hret hw dX0_membersWith_40 (rfl) (congrArg (wX cZ cI a) (rfl))
      · exact absurd c8 (nlt_nI (by decide))
    | succ n ih_5 =>
      intro i5 hi H locs hw ls hl
      have hi5 : i5 < 4 := by omega
      refine lv_iload S.1 S.2.1 dX0_membersWith_5 (lv_at hl 4 rfl) ?_
      refine lv_iconst (v := nI 4) S.1 S.2.1 dX0_membersWith_7 (by decide) ?_
      refine br_ge (tgt := 39) S dX0_membersWith_8 (by decide) (fun c8 => ?_) (fun c8 => ?_)
      · exact absurd c8 (not_not_intro (lt_nI hi5 (by decide)))
      · refine lv_aload_n S.1 S.2.1 dX0_membersWith_11 rfl (lv_at hl 0 rfl) ?_
        refine bx_get S hK hin hw.1 0 rfl rfl 10 (by decide) flX0_membersWith_41 rfl dX0_membersWith_12 ?_
        refine lv_iload S.1 S.2.1 dX0_membersWith_15 (lv_at hl 4 rfl) ?_
        refine lv_iload_n S.1 S.2.1 dX0_membersWith_17 rfl (lv_at hl 2 rfl) ?_
        refine bc_si (As := [.int (nI i5), .int (nI g)]) (rest := [.ref (a 11)]) S hK hw (kX0_placeOf l D _ (r := i5) (g := g) (by omega) (by omega)) (va_cwS 2 S.2.2.2.2 gX0_membersWith_X0_placeOf rfl rfl rfl (by decide +kernel) ⟨Nat.le_of_ble_eq_true rfl, Nat.le_of_ble_eq_true rfl⟩) rfl hl.1 rfl (Nat.le_of_ble_eq_true rfl) (Nat.zero_le _) (Nat.zero_le _) dX0_membersWith_18 (fun H locs hw => ?_)
        refine bx_iald (v := σ 10 (4 * g + i5)) S hK hw.1 11 1 rfl rfl (by omega) (by decide) rfl dX0_membersWith_21 ?_
        refine lv_iload_n S.1 S.2.1 dX0_membersWith_22 rfl (lv_at hl 1 rfl) ?_
        refine br_ne (tgt := 33) S dX0_membersWith_23 (by decide) (fun c23 => ?_) (fun c23 => ?_)
        · refine lv_iinc (v := nI (i5 + 1)) (lv' := [(4, .int (nI (i5 + 1))), (0, .ref (a 0)), (1, .int role), (2, .int (nI g)), (3, .int (itF (memS σ role g) 0 i5))]) S.1 S.2.1 dX0_membersWith_33 hl (k := 4) rfl (nI_1 i5) (by decide) rfl (fun ls hl => ?_)
          refine lv_goto (tgt := 5) S.1 S.2.1 dX0_membersWith_36 (by decide) ?_
          have ea : itF (memS σ role g) 0 (i5 + 1) = itF (memS σ role g) 0 i5 := by simp only [itF, memS, eq_true c8, eq_false c23, ↓reduceIte]
          exact ih_5 (i5 + 1) (by omega) _ _ hw _ (by rw [ea]; exact lv_sub hl [1, 2, 3, 4, 0] rfl)
        · refine lv_iload_n S.1 S.2.1 dX0_membersWith_26 rfl (lv_at hl 3 rfl) ?_
          refine lv_iconst (v := (1 : Int32)) S.1 S.2.1 dX0_membersWith_27 (by decide) ?_
          refine lv_iload S.1 S.2.1 dX0_membersWith_28 (lv_at hl 4 rfl) ?_
          refine lv_ishl S.1 S.2.1 dX0_membersWith_30 ?_
          refine lv_iadd S.1 S.2.1 dX0_membersWith_31 ?_
          refine lv_istore_n (lv' := [(3, .int ((itF (memS σ role g) 0 i5) + ((1 : Int32) <<< ((nI i5) &&& 31)))), (0, .ref (a 0)), (1, .int role), (2, .int (nI g)), (4, .int (nI i5))]) S.1 S.2.1 dX0_membersWith_32 rfl hl (by decide) rfl (fun ls hl => ?_)
          refine lv_iinc (v := nI (i5 + 1)) (lv' := [(4, .int (nI (i5 + 1))), (3, .int ((itF (memS σ role g) 0 i5) + ((1 : Int32) <<< ((nI i5) &&& 31)))), (0, .ref (a 0)), (1, .int role), (2, .int (nI g))]) S.1 S.2.1 dX0_membersWith_33 hl (k := 4) rfl (nI_1 i5) (by decide) rfl (fun ls hl => ?_)
          refine lv_goto (tgt := 5) S.1 S.2.1 dX0_membersWith_36 (by decide) ?_
          have ea : itF (memS σ role g) 0 (i5 + 1) = (itF (memS σ role g) 0 i5) + ((1 : Int32) <<< ((nI i5) &&& 31)) := by simp only [itF, memS, eq_true c8, eq_true c23, ↓reduceIte]
          exact ih_5 (i5 + 1) (by omega) _ _ hw _ (by rw [ea]; exact lv_sub hl [2, 3, 4, 1, 0] rfl)
  exact L5 (4 - 0) 0 (by omega) _ _ hw _ (lv_sub hl [2, 3, 4, 1, 0] rfl)

theorem inX0_noteGap : ∀ w ∈ u_ws RX0 TX0 18, w ∈ wsX0_noteGap := fun _ h => List.mem_cons_of_mem _ (List.mem_append_right _ h)
theorem flX0_noteGap_32 : Cond.fieldLink RX0 32 "StandbyPair" "gapTicks" "[I" ∈ wsX0_noteGap := by decide +kernel
set_option maxHeartbeats 4000000 in
set_option maxRecDepth 100000 in
theorem kX0_noteGap (l : Launch) (D : va_G) (cZ cI : ClassId) (a : Nat → Nat) (σ : sC) {g : Nat} (hg : g < 3) : MV l yX0_noteGap wsX0_noteGap ({ frames := 2, cells := 0, slots := 0, locals := 45 } : Room) D (tyZ cZ cI) [.ref (a 0), .int (nI g)] (wX cZ cI a σ) (wX cZ cI a (gapF σ g)) := by
  refine MV.of (cc := cX0_noteGap) (maxL := 2) (by decide) rfl ⟨rfl, rfl⟩ (Nat.le_of_ble_eq_true rfl) ?_
  intro p e s m args below meth c A Q S hK hret ls hl hw
  replace hl : lv_has ls 2 [(0, .ref (a 0)), (1, .int (nI g))] := hl
  replace S : CallFix p m c cX0_noteGap 2 s args wsX0_noteGap RX0 := S
  have hin := inX0_noteGap
  refine lv_aload_n S.1 S.2.1 dX0_noteGap_0 rfl (lv_at hl 0 rfl) ?_
  refine lv_iconst (v := 2) S.1 S.2.1 dX0_noteGap_1 (by decide) ?_
  refine lv_iload_n S.1 S.2.1 dX0_noteGap_2 rfl (lv_at hl 1 rfl) ?_
  refine bc_vi (As := [.int 2, .int (nI g)]) (rest := []) S hK hw (kX0_membersWith l D cZ cI a σ 2 (g := g) (by omega)) (cwV 2 S.2.2.2.2 gX0_noteGap_X0_membersWith rfl rfl rfl (by decide +kernel) ⟨Nat.le_of_ble_eq_true rfl, Nat.le_of_ble_eq_true rfl⟩) (q0 := 0) rfl rfl rfl hl.1 rfl (Nat.le_of_ble_eq_true rfl) (Nat.zero_le _) (Nat.zero_le _) dX0_noteGap_3 (fun H locs hw => ?_)
  refine bz_ne (tgt := 19) S dX0_noteGap_6 (by decide) (fun c6 => ?_) (fun c6 => ?_)
  · exact hret hw dX0_noteGap_19 (congrArg (wX cZ cI a) (by simp only [gapF, eq_false c6, ↓reduceIte]))
  · refine lv_aload_n S.1 S.2.1 dX0_noteGap_9 rfl (lv_at hl 0 rfl) ?_
    refine bx_get S hK hin hw.1 0 rfl rfl 7 (by decide) flX0_noteGap_32 rfl dX0_noteGap_10 ?_
    refine lv_iload_n S.1 S.2.1 dX0_noteGap_13 rfl (lv_at hl 1 rfl) ?_
    refine lv_dup2_11 S.1 S.2.1 dX0_noteGap_14 rfl rfl ?_
    refine bx_iald (v := σ 7 g) S hK hw.1 8 1 rfl rfl (by omega) (by decide) rfl dX0_noteGap_15 ?_
    refine lv_iconst (v := 1) S.1 S.2.1 dX0_noteGap_16 (by decide) ?_
    refine lv_iadd S.1 S.2.1 dX0_noteGap_17 ?_
    refine bx_iast S hK hw 8 1 rfl rfl (by omega) (by decide) (wX_s7 cZ cI a σ g ((σ 7 g) + 1)) dX0_noteGap_18 (fun H locs hw => ?_)
    exact hret hw dX0_noteGap_19 (congrArg (wX cZ cI a) (by simp only [gapF, eq_true c6, ↓reduceIte]))
end
section
set_option maxHeartbeats 4000000 in
set_option maxRecDepth 100000 in
theorem kX0_checkRouter (l : Launch) (D : va_G) (tys : List (ClassId × FieldType)) {r : Nat} (h : r < 4) : MV l yX0_checkRouter wsX0_checkRouter ({ frames := 0, cells := 0, slots := 0, locals := 0 } : Room) D tys [.int (nI r)] [] [] := by
  refine MV.of (cc := cX0_checkRouter) (maxL := 1) (by decide) rfl ⟨rfl, rfl⟩ (Nat.le_of_ble_eq_true rfl) ?_
  intro p e s m args below meth c A Q S hK hret ls hl hw
  replace hl : lv_has ls 1 [(0, .int (nI r))] := hl
  replace S : CallFix p m c cX0_checkRouter 1 s args wsX0_checkRouter RX0 := S
  refine lv_iload_n S.1 S.2.1 dX0_checkRouter_0 rfl (lv_at hl 0 rfl) ?_
  refine bz_lt (tgt := 9) S dX0_checkRouter_1 (by decide) (fun c1 => ?_) (fun c1 => ?_)
  · exact absurd c1 (nI_pos (by omega))
  · refine lv_iload_n S.1 S.2.1 dX0_checkRouter_4 rfl (lv_at hl 0 rfl) ?_
    refine lv_iconst (v := nI 4) S.1 S.2.1 dX0_checkRouter_5 (by decide) ?_
    refine br_lt (tgt := 19) S dX0_checkRouter_6 (by decide) (fun c6 => ?_) (fun c6 => ?_)
    · exact hret hw dX0_checkRouter_19 rfl
    · exact absurd c6 (not_not_intro (lt_nI h (by decide)))

set_option maxHeartbeats 4000000 in
set_option maxRecDepth 100000 in
theorem kX0_checkGroup (l : Launch) (D : va_G) (tys : List (ClassId × FieldType)) {g : Nat} (h : g < 3) : MV l yX0_checkGroup wsX0_checkGroup ({ frames := 0, cells := 0, slots := 0, locals := 0 } : Room) D tys [.int (nI g)] [] [] := by
  refine MV.of (cc := cX0_checkGroup) (maxL := 1) (by decide) rfl ⟨rfl, rfl⟩ (Nat.le_of_ble_eq_true rfl) ?_
  intro p e s m args below meth c A Q S hK hret ls hl hw
  replace hl : lv_has ls 1 [(0, .int (nI g))] := hl
  replace S : CallFix p m c cX0_checkGroup 1 s args wsX0_checkGroup RX0 := S
  refine lv_iload_n S.1 S.2.1 dX0_checkGroup_0 rfl (lv_at hl 0 rfl) ?_
  refine bz_lt (tgt := 9) S dX0_checkGroup_1 (by decide) (fun c1 => ?_) (fun c1 => ?_)
  · exact absurd c1 (nI_pos (by omega))
  · refine lv_iload_n S.1 S.2.1 dX0_checkGroup_4 rfl (lv_at hl 0 rfl) ?_
    refine lv_iconst (v := nI 3) S.1 S.2.1 dX0_checkGroup_5 (by decide) ?_
    refine br_lt (tgt := 19) S dX0_checkGroup_6 (by decide) (fun c6 => ?_) (fun c6 => ?_)
    · exact hret hw dX0_checkGroup_19 rfl
    · exact absurd c6 (not_not_intro (lt_nI h (by decide)))

set_option maxHeartbeats 4000000 in
set_option maxRecDepth 100000 in
theorem kX0_checkLink (l : Launch) (D : va_G) (tys : List (ClassId × FieldType)) {k : Nat} (h : k < 2) : MV l yX0_checkLink wsX0_checkLink ({ frames := 0, cells := 0, slots := 0, locals := 0 } : Room) D tys [.int (nI k)] [] [] := by
  refine MV.of (cc := cX0_checkLink) (maxL := 1) (by decide) rfl ⟨rfl, rfl⟩ (Nat.le_of_ble_eq_true rfl) ?_
  intro p e s m args below meth c A Q S hK hret ls hl hw
  replace hl : lv_has ls 1 [(0, .int (nI k))] := hl
  replace S : CallFix p m c cX0_checkLink 1 s args wsX0_checkLink RX0 := S
  refine lv_iload_n S.1 S.2.1 dX0_checkLink_0 rfl (lv_at hl 0 rfl) ?_
  refine bz_lt (tgt := 9) S dX0_checkLink_1 (by decide) (fun c1 => ?_) (fun c1 => ?_)
  · exact absurd c1 (nI_pos (by omega))
  · refine lv_iload_n S.1 S.2.1 dX0_checkLink_4 rfl (lv_at hl 0 rfl) ?_
    refine lv_iconst (v := nI 2) S.1 S.2.1 dX0_checkLink_5 (by decide) ?_
    refine br_lt (tgt := 19) S dX0_checkLink_6 (by decide) (fun c6 => ?_) (fun c6 => ?_)
    · exact hret hw dX0_checkLink_19 rfl
    · exact absurd c6 (not_not_intro (lt_nI h (by decide)))

set_option maxHeartbeats 4000000 in
set_option maxRecDepth 100000 in
theorem kX0_checkRange (l : Launch) (D : va_G) (tys : List (ClassId × FieldType)) (v lo hi : Int32) (h1 : ¬ v < lo) (h2 : ¬ hi < v) : MV l yX0_checkRange wsX0_checkRange ({ frames := 0, cells := 0, slots := 0, locals := 0 } : Room) D tys [.int v, .int lo, .int hi] [] [] := by
  refine MV.of (cc := cX0_checkRange) (maxL := 3) (by decide) rfl ⟨rfl, rfl⟩ (Nat.le_of_ble_eq_true rfl) ?_
  intro p e s m args below meth c A Q S hK hret ls hl hw
  replace hl : lv_has ls 3 [(0, .int v), (1, .int lo), (2, .int hi)] := hl
  replace S : CallFix p m c cX0_checkRange 3 s args wsX0_checkRange RX0 := S
  refine lv_iload_n S.1 S.2.1 dX0_checkRange_0 rfl (lv_at hl 0 rfl) ?_
  refine lv_iload_n S.1 S.2.1 dX0_checkRange_1 rfl (lv_at hl 1 rfl) ?_
  refine br_lt (tgt := 10) S dX0_checkRange_2 (by decide) (fun c2 => ?_) (fun c2 => ?_)
  · exact absurd c2 h1
  · refine lv_iload_n S.1 S.2.1 dX0_checkRange_5 rfl (lv_at hl 0 rfl) ?_
    refine lv_iload_n S.1 S.2.1 dX0_checkRange_6 rfl (lv_at hl 2 rfl) ?_
    refine br_le (tgt := 20) S dX0_checkRange_7 (by decide) (fun c7 => ?_) (fun c7 => ?_)
    · exact hret hw dX0_checkRange_20 rfl
    · exact absurd c7 h2

theorem inX0_hasJoinedMasters : ∀ w ∈ u_ws RX0 TX0 18, w ∈ wsX0_hasJoinedMasters := fun _ h => List.mem_cons_of_mem _ (List.mem_append_right _ h)
theorem flX0_hasJoinedMasters_41 : Cond.fieldLink RX0 41 "StandbyPair" "roles" "[I" ∈ wsX0_hasJoinedMasters := by decide +kernel
theorem flX0_hasJoinedMasters_13 : Cond.fieldLink RX0 13 "StandbyPair" "joinedPairs" "[Z" ∈ wsX0_hasJoinedMasters := by decide +kernel
set_option maxHeartbeats 4000000 in
set_option maxRecDepth 100000 in
theorem kX0_hasJoinedMasters (l : Launch) (D : va_G) (cZ cI : ClassId) (a : Nat → Nat) (σ : sC) {g : Nat} (hg : g < 3) : MI l yX0_hasJoinedMasters wsX0_hasJoinedMasters ({ frames := 1, cells := 0, slots := 0, locals := 21 } : Room) D (tyZ cZ cI) [.ref (a 0), .int (nI g)] (wX cZ cI a σ) (hasJ σ g) (wX cZ cI a σ) := by
  refine MI.of (cc := cX0_hasJoinedMasters) (maxL := 4) (ty := .boolean) (by decide) rfl (nar_z (hasJ_z σ g)) ⟨rfl, rfl⟩ (Nat.le_of_ble_eq_true rfl) ?_
  intro p e s m args below meth c A Q S hK hret ls hl hw
  replace hl : lv_has ls 4 [(0, .ref (a 0)), (1, .int (nI g))] := hl
  replace S : CallFix p m c cX0_hasJoinedMasters 4 s args wsX0_hasJoinedMasters RX0 := S
  have hin := inX0_hasJoinedMasters
  refine lv_iconst (v := nI 0) S.1 S.2.1 dX0_hasJoinedMasters_0 (by decide) ?_
  refine lv_istore_n (lv' := [(2, .int (nI 0)), (0, .ref (a 0)), (1, .int (nI g))]) S.1 S.2.1 dX0_hasJoinedMasters_1 rfl hl (by decide) rfl (fun ls hl => ?_)
  have L2 : ∀ (n i2 : Nat), i2 + n = 4 → (∀ i j : Nat, i < i2 → i < j → j < 4 → ¬ goodJ σ g i j) → ∀ (H : Heap) (locs : List Loc), Wd D A s.heap (wX cZ cI a σ) H locs → ∀ ls : Array Slot, lv_has ls 4 [(0, .ref (a 0)), (1, .int (nI g)), (2, .int (nI i2))] → W p l e ({ frames := 1, cells := 0, slots := 0, locals := 21 } : Room) s m args below meth c H locs 0 0 Q (F0 m 2 ls []) := by
    intro n
    induction n with
    | zero =>
      intro i2 hi hinv2 H locs hw ls hl
      obtain rfl : i2 = 4 := by omega
      refine lv_iload_n S.1 S.2.1 dX0_hasJoinedMasters_2 rfl (lv_at hl 2 rfl) ?_
      refine lv_iconst (v := nI 4) S.1 S.2.1 dX0_hasJoinedMasters_3 (by decide) ?_
      refine br_ge (tgt := 71) S dX0_hasJoinedMasters_4 (by decide) (fun c4 => ?_) (fun c4 => ?_)
      · refine lv_iconst (v := 0) S.1 S.2.1 dX0_hasJoinedMasters_71 (by decide) ?_
        exact hret hw dX0_hasJoinedMasters_72 ((hasJ_0 (fun h => by obtain ⟨i, j, h1, h2, h3⟩ := h; exact hinv2 i j (by omega) h1 h2 h3)).symm) (congrArg (wX cZ cI a) (rfl))
      · exact absurd c4 (nlt_nI (by decide))
    | succ n ih_2 =>
      intro i2 hi hinv2 H locs hw ls hl
      have hi2 : i2 < 4 := by omega
      refine lv_iload_n S.1 S.2.1 dX0_hasJoinedMasters_2 rfl (lv_at hl 2 rfl) ?_
      refine lv_iconst (v := nI 4) S.1 S.2.1 dX0_hasJoinedMasters_3 (by decide) ?_
      refine br_ge (tgt := 71) S dX0_hasJoinedMasters_4 (by decide) (fun c4 => ?_) (fun c4 => ?_)
      · exact absurd c4 (not_not_intro (lt_nI hi2 (by decide)))
      · refine lv_iload_n S.1 S.2.1 dX0_hasJoinedMasters_7 rfl (lv_at hl 2 rfl) ?_
        refine lv_iconst (v := 1) S.1 S.2.1 dX0_hasJoinedMasters_8 (by decide) ?_
        refine lv_iadd S.1 S.2.1 dX0_hasJoinedMasters_9 ?_
        refine bx_top (y := nI (i2 + 1)) (nI_1 i2) ?_
        refine lv_istore_n (lv' := [(3, .int (nI (i2 + 1))), (0, .ref (a 0)), (1, .int (nI g)), (2, .int (nI i2))]) S.1 S.2.1 dX0_hasJoinedMasters_10 rfl hl (by decide) rfl (fun ls hl => ?_)
        have L11 : ∀ (n i11 : Nat), i11 + n = 4 → (i2 < i11 ∧ ∀ j : Nat, i2 < j → j < i11 → ¬ goodJ σ g i2 j) → ∀ (H : Heap) (locs : List Loc), Wd D A s.heap (wX cZ cI a σ) H locs → ∀ ls : Array Slot, lv_has ls 4 [(0, .ref (a 0)), (1, .int (nI g)), (2, .int (nI i2)), (3, .int (nI i11))] → W p l e ({ frames := 1, cells := 0, slots := 0, locals := 21 } : Room) s m args below meth c H locs 0 0 Q (F0 m 11 ls []) := by
          intro n
          induction n with
          | zero =>
            intro i11 hi hinv11 H locs hw ls hl
            obtain rfl : i11 = 4 := by omega
            refine lv_iload_n S.1 S.2.1 dX0_hasJoinedMasters_11 rfl (lv_at hl 3 rfl) ?_
            refine lv_iconst (v := nI 4) S.1 S.2.1 dX0_hasJoinedMasters_12 (by decide) ?_
            refine br_ge (tgt := 65) S dX0_hasJoinedMasters_13 (by decide) (fun c13 => ?_) (fun c13 => ?_)
            · refine lv_iinc (v := nI (i2 + 1)) (lv' := [(2, .int (nI (i2 + 1))), (0, .ref (a 0)), (1, .int (nI g)), (3, .int (nI 4))]) S.1 S.2.1 dX0_hasJoinedMasters_65 hl (k := 2) rfl (nI_1 i2) (by decide) rfl (fun ls hl => ?_)
              refine lv_goto (tgt := 2) S.1 S.2.1 dX0_hasJoinedMasters_68 (by decide) ?_
              exact ih_2 (i2 + 1) (by omega) (fun i j h1 h2 h3 h => (Nat.lt_or_ge i i2).elim (fun q => hinv2 i j q h2 h3 h) (fun q => by have e : i = i2 := (by omega); subst e; exact hinv11.2 j h2 h3 h)) _ _ hw _ (lv_sub hl [1, 2, 0] rfl)
            · exact absurd c13 (nlt_nI (by decide))
          | succ n ih_11 =>
            intro i11 hi hinv11 H locs hw ls hl
            have hi11 : i11 < 4 := by omega
            refine lv_iload_n S.1 S.2.1 dX0_hasJoinedMasters_11 rfl (lv_at hl 3 rfl) ?_
            refine lv_iconst (v := nI 4) S.1 S.2.1 dX0_hasJoinedMasters_12 (by decide) ?_
            refine br_ge (tgt := 65) S dX0_hasJoinedMasters_13 (by decide) (fun c13 => ?_) (fun c13 => ?_)
            · exact absurd c13 (not_not_intro (lt_nI hi11 (by decide)))
            · refine lv_aload_n S.1 S.2.1 dX0_hasJoinedMasters_16 rfl (lv_at hl 0 rfl) ?_
              refine bx_get S hK hin hw.1 0 rfl rfl 10 (by decide) flX0_hasJoinedMasters_41 rfl dX0_hasJoinedMasters_17 ?_
              refine lv_iload_n S.1 S.2.1 dX0_hasJoinedMasters_20 rfl (lv_at hl 2 rfl) ?_
              refine lv_iload_n S.1 S.2.1 dX0_hasJoinedMasters_21 rfl (lv_at hl 1 rfl) ?_
              refine bc_si (As := [.int (nI i2), .int (nI g)]) (rest := [.ref (a 11)]) S hK hw (kX0_placeOf l D _ (r := i2) (g := g) (by omega) (by omega)) (va_cwS 2 S.2.2.2.2 gX0_hasJoinedMasters_X0_placeOf rfl rfl rfl (by decide +kernel) ⟨Nat.le_of_ble_eq_true rfl, Nat.le_of_ble_eq_true rfl⟩) rfl hl.1 rfl (Nat.le_of_ble_eq_true rfl) (Nat.zero_le _) (Nat.zero_le _) dX0_hasJoinedMasters_22 (fun H locs hw => ?_)
              refine bx_iald (v := σ 10 (4 * g + i2)) S hK hw.1 11 1 rfl rfl (by omega) (by decide) rfl dX0_hasJoinedMasters_25 ?_
              refine lv_iconst (v := 2) S.1 S.2.1 dX0_hasJoinedMasters_26 (by decide) ?_
              refine br_ne (tgt := 59) S dX0_hasJoinedMasters_27 (by decide) (fun c27 => ?_) (fun c27 => ?_)
              · refine lv_iinc (v := nI (i11 + 1)) (lv' := [(3, .int (nI (i11 + 1))), (0, .ref (a 0)), (1, .int (nI g)), (2, .int (nI i2))]) S.1 S.2.1 dX0_hasJoinedMasters_59 hl (k := 3) rfl (nI_1 i11) (by decide) rfl (fun ls hl => ?_)
                refine lv_goto (tgt := 11) S.1 S.2.1 dX0_hasJoinedMasters_62 (by decide) ?_
                exact ih_11 (i11 + 1) (by omega) (⟨by omega, fun j h1 h2 h => (Nat.lt_or_ge j i11).elim (fun q => hinv11.2 j h1 q h) (fun q => by have e : j = i11 := (by omega); subst e; exact absurd h.1 c27)⟩) _ _ hw _ (lv_sub hl [1, 2, 3, 0] rfl)
              · refine lv_aload_n S.1 S.2.1 dX0_hasJoinedMasters_30 rfl (lv_at hl 0 rfl) ?_
                refine bx_get S hK hin hw.1 0 rfl rfl 10 (by decide) flX0_hasJoinedMasters_41 rfl dX0_hasJoinedMasters_31 ?_
                refine lv_iload_n S.1 S.2.1 dX0_hasJoinedMasters_34 rfl (lv_at hl 3 rfl) ?_
                refine lv_iload_n S.1 S.2.1 dX0_hasJoinedMasters_35 rfl (lv_at hl 1 rfl) ?_
                refine bc_si (As := [.int (nI i11), .int (nI g)]) (rest := [.ref (a 11)]) S hK hw (kX0_placeOf l D _ (r := i11) (g := g) (by omega) (by omega)) (va_cwS 2 S.2.2.2.2 gX0_hasJoinedMasters_X0_placeOf rfl rfl rfl (by decide +kernel) ⟨Nat.le_of_ble_eq_true rfl, Nat.le_of_ble_eq_true rfl⟩) rfl hl.1 rfl (Nat.le_of_ble_eq_true rfl) (Nat.zero_le _) (Nat.zero_le _) dX0_hasJoinedMasters_36 (fun H locs hw => ?_)
                refine bx_iald (v := σ 10 (4 * g + i11)) S hK hw.1 11 1 rfl rfl (by omega) (by decide) rfl dX0_hasJoinedMasters_39 ?_
                refine lv_iconst (v := 2) S.1 S.2.1 dX0_hasJoinedMasters_40 (by decide) ?_
                refine br_ne (tgt := 59) S dX0_hasJoinedMasters_41 (by decide) (fun c41 => ?_) (fun c41 => ?_)
                · refine lv_iinc (v := nI (i11 + 1)) (lv' := [(3, .int (nI (i11 + 1))), (0, .ref (a 0)), (1, .int (nI g)), (2, .int (nI i2))]) S.1 S.2.1 dX0_hasJoinedMasters_59 hl (k := 3) rfl (nI_1 i11) (by decide) rfl (fun ls hl => ?_)
                  refine lv_goto (tgt := 11) S.1 S.2.1 dX0_hasJoinedMasters_62 (by decide) ?_
                  exact ih_11 (i11 + 1) (by omega) (⟨by omega, fun j h1 h2 h => (Nat.lt_or_ge j i11).elim (fun q => hinv11.2 j h1 q h) (fun q => by have e : j = i11 := (by omega); subst e; exact absurd h.2.1 c41)⟩) _ _ hw _ (lv_sub hl [1, 2, 3, 0] rfl)
                · refine lv_aload_n S.1 S.2.1 dX0_hasJoinedMasters_44 rfl (lv_at hl 0 rfl) ?_
                  refine bx_get S hK hin hw.1 0 rfl rfl 1 (by decide) flX0_hasJoinedMasters_13 rfl dX0_hasJoinedMasters_45 ?_
                  refine lv_iload_n S.1 S.2.1 dX0_hasJoinedMasters_48 rfl (lv_at hl 2 rfl) ?_
                  refine lv_iconst (v := 4) S.1 S.2.1 dX0_hasJoinedMasters_49 (by decide) ?_
                  refine lv_imul S.1 S.2.1 dX0_hasJoinedMasters_50 ?_
                  refine lv_iload_n S.1 S.2.1 dX0_hasJoinedMasters_51 rfl (lv_at hl 3 rfl) ?_
                  refine lv_iadd S.1 S.2.1 dX0_hasJoinedMasters_52 ?_
                  refine bx_top (y := nI (4 * i2 + i11)) (pl_j (by omega) (by omega)) ?_
                  refine bx_zald (v := σ 1 (4 * i2 + i11)) S hK hw.1 2 0 rfl rfl (by omega) (by decide) rfl dX0_hasJoinedMasters_53 ?_
                  refine bz_eq (tgt := 59) S dX0_hasJoinedMasters_54 (by decide) (fun c54 => ?_) (fun c54 => ?_)
                  · refine lv_iinc (v := nI (i11 + 1)) (lv' := [(3, .int (nI (i11 + 1))), (0, .ref (a 0)), (1, .int (nI g)), (2, .int (nI i2))]) S.1 S.2.1 dX0_hasJoinedMasters_59 hl (k := 3) rfl (nI_1 i11) (by decide) rfl (fun ls hl => ?_)
                    refine lv_goto (tgt := 11) S.1 S.2.1 dX0_hasJoinedMasters_62 (by decide) ?_
                    exact ih_11 (i11 + 1) (by omega) (⟨by omega, fun j h1 h2 h => (Nat.lt_or_ge j i11).elim (fun q => hinv11.2 j h1 q h) (fun q => by have e : j = i11 := (by omega); subst e; exact absurd c54 h.2.2)⟩) _ _ hw _ (lv_sub hl [1, 2, 3, 0] rfl)
                  · refine lv_iconst (v := 1) S.1 S.2.1 dX0_hasJoinedMasters_57 (by decide) ?_
                    exact hret hw dX0_hasJoinedMasters_58 ((hasJ_1 ⟨i2, i11, hinv11.1, hi11, c27, c41, c54⟩).symm) (congrArg (wX cZ cI a) (rfl))
        exact L11 (4 - (i2 + 1)) (i2 + 1) (by omega) (⟨by omega, fun j h1 h2 => absurd h1 (by omega)⟩) _ _ hw _ (lv_sub hl [1, 2, 3, 0] rfl)
  exact L2 (4 - 0) 0 (by omega) (fun i j h => absurd h (Nat.not_lt_zero i)) _ _ hw _ (lv_sub hl [1, 2, 0] rfl)

theorem inX0_setPriority : ∀ w ∈ u_ws RX0 TX0 18, w ∈ wsX0_setPriority := fun _ h => List.mem_cons_of_mem _ (List.mem_append_left _ (List.mem_append_right _ h))
theorem flX0_setPriority_38 : Cond.fieldLink RX0 38 "StandbyPair" "basePriorities" "[I" ∈ wsX0_setPriority := by decide +kernel
theorem flX0_setPriority_9 : Cond.fieldLink RX0 9 "StandbyPair" "alive" "[Z" ∈ wsX0_setPriority := by decide +kernel
theorem flX0_setPriority_41 : Cond.fieldLink RX0 41 "StandbyPair" "roles" "[I" ∈ wsX0_setPriority := by decide +kernel
set_option maxHeartbeats 4000000 in
set_option maxRecDepth 100000 in
theorem kX0_setPriority (l : Launch) (D : va_G) (cZ cI : ClassId) (a : Nat → Nat) (σ : sC) {r g : Nat} (v : Int32) (hr : r < 4) (hg : g < 3) (h1 : ¬ v < 0) (h2 : ¬ 254 < v) : MI l yX0_setPriority wsX0_setPriority ({ frames := 5, cells := 0, slots := 0, locals := 119 } : Room) D (tyZ cZ cI) [.ref (a 0), .int (nI r), .int (nI g), .int v] (wX cZ cI a σ) (σ 9 (4 * g + r)) (wX cZ cI a (setPF σ r g v)) := by
  refine MI.of (cc := cX0_setPriority) (maxL := 6) (ty := .int) (by decide) rfl (rfl) ⟨rfl, rfl⟩ (Nat.le_of_ble_eq_true rfl) ?_
  intro p e s m args below meth c A Q S hK hret ls hl hw
  replace hl : lv_has ls 6 [(0, .ref (a 0)), (1, .int (nI r)), (2, .int (nI g)), (3, .int v)] := hl
  replace S : CallFix p m c cX0_setPriority 6 s args wsX0_setPriority RX0 := S
  have hin := inX0_setPriority
  refine lv_iload_n S.1 S.2.1 dX0_setPriority_0 rfl (lv_at hl 1 rfl) ?_
  refine bc_sv (As := [.int (nI r)]) (rest := []) S hK hw (kX0_checkRouter l D _ (r := r) (by omega)) (va_cwS 1 S.2.2.2.2 gX0_setPriority_X0_checkRouter rfl rfl rfl (by decide +kernel) ⟨Nat.le_of_ble_eq_true rfl, Nat.le_of_ble_eq_true rfl⟩) rfl hl.1 rfl (Nat.le_of_ble_eq_true rfl) (Nat.zero_le _) (Nat.zero_le _) dX0_setPriority_1 (fun H locs hw => ?_)
  refine lv_iload_n S.1 S.2.1 dX0_setPriority_4 rfl (lv_at hl 2 rfl) ?_
  refine bc_sv (As := [.int (nI g)]) (rest := []) S hK hw (kX0_checkGroup l D _ (g := g) (by omega)) (va_cwS 1 S.2.2.2.2 gX0_setPriority_X0_checkGroup rfl rfl rfl (by decide +kernel) ⟨Nat.le_of_ble_eq_true rfl, Nat.le_of_ble_eq_true rfl⟩) rfl hl.1 rfl (Nat.le_of_ble_eq_true rfl) (Nat.zero_le _) (Nat.zero_le _) dX0_setPriority_5 (fun H locs hw => ?_)
  refine lv_iload_n S.1 S.2.1 dX0_setPriority_8 rfl (lv_at hl 3 rfl) ?_
  refine lv_iconst (v := 0) S.1 S.2.1 dX0_setPriority_9 (by decide) ?_
  refine lv_sipush (v := 254) S.1 S.2.1 dX0_setPriority_10 (by decide) ?_
  refine bc_sv (As := [.int v, .int 0, .int 254]) (rest := []) S hK hw (kX0_checkRange l D _ v 0 254 h1 h2) (va_cwS 3 S.2.2.2.2 gX0_setPriority_X0_checkRange rfl rfl rfl (by decide +kernel) ⟨Nat.le_of_ble_eq_true rfl, Nat.le_of_ble_eq_true rfl⟩) rfl hl.1 rfl (Nat.le_of_ble_eq_true rfl) (Nat.zero_le _) (Nat.zero_le _) dX0_setPriority_13 (fun H locs hw => ?_)
  refine lv_iload_n S.1 S.2.1 dX0_setPriority_16 rfl (lv_at hl 1 rfl) ?_
  refine lv_iload_n S.1 S.2.1 dX0_setPriority_17 rfl (lv_at hl 2 rfl) ?_
  refine bc_si (As := [.int (nI r), .int (nI g)]) (rest := []) S hK hw (kX0_placeOf l D _ (r := r) (g := g) (by omega) (by omega)) (va_cwS 2 S.2.2.2.2 gX0_setPriority_X0_placeOf rfl rfl rfl (by decide +kernel) ⟨Nat.le_of_ble_eq_true rfl, Nat.le_of_ble_eq_true rfl⟩) rfl hl.1 rfl (Nat.le_of_ble_eq_true rfl) (Nat.zero_le _) (Nat.zero_le _) dX0_setPriority_18 (fun H locs hw => ?_)
  refine lv_istore (lv' := [(4, .int (nI (4 * g + r))), (0, .ref (a 0)), (1, .int (nI r)), (2, .int (nI g)), (3, .int v)]) S.1 S.2.1 dX0_setPriority_21 hl (by decide) rfl (fun ls hl => ?_)
  refine lv_aload_n S.1 S.2.1 dX0_setPriority_23 rfl (lv_at hl 1 rfl) ?_
  refine bx_get S hK hin hw.1 0 rfl rfl 9 (by decide) flX0_setPriority_38 rfl dX0_setPriority_24 ?_
  refine lv_iload S.1 S.2.1 dX0_setPriority_27 (lv_at hl 0 rfl) ?_
  refine bx_iald (v := σ 9 (4 * g + r)) S hK hw.1 10 1 rfl rfl (by omega) (by decide) rfl dX0_setPriority_29 ?_
  refine lv_istore (lv' := [(5, .int (σ 9 (4 * g + r))), (4, .int (nI (4 * g + r))), (0, .ref (a 0)), (1, .int (nI r)), (2, .int (nI g)), (3, .int v)]) S.1 S.2.1 dX0_setPriority_30 hl (by decide) rfl (fun ls hl => ?_)
  have J54 : ∀ (σj : sC) (H : Heap) (locs : List Loc), Wd D A s.heap (wX cZ cI a σj) H locs → (setPF σ r g v = setP2 σj r g v) → ∀ ls : Array Slot, lv_has ls 6 [(0, .ref (a 0)), (1, .int (nI r)), (2, .int (nI g)), (3, .int v), (4, .int (nI (4 * g + r))), (5, .int (σ 9 (4 * g + r)))] → W p l e ({ frames := 5, cells := 0, slots := 0, locals := 119 } : Room) s m args below meth c H locs 0 0 Q (F0 m 54 ls []) := by
    intro σj H locs hw hj ls hl
    refine lv_aload_n S.1 S.2.1 dX0_setPriority_54 rfl (lv_at hl 0 rfl) ?_
    refine bx_get S hK hin hw.1 0 rfl rfl 9 (by decide) flX0_setPriority_38 rfl dX0_setPriority_55 ?_
    refine lv_iload S.1 S.2.1 dX0_setPriority_58 (lv_at hl 4 rfl) ?_
    refine lv_iload_n S.1 S.2.1 dX0_setPriority_60 rfl (lv_at hl 3 rfl) ?_
    refine bx_iast S hK hw 10 1 rfl rfl (by omega) (by decide) (wX_s9 cZ cI a σj (4 * g + r) v) dX0_setPriority_61 (fun H locs hw => ?_)
    refine lv_iload_n S.1 S.2.1 dX0_setPriority_62 rfl (lv_at hl 3 rfl) ?_
    refine bz_ne (tgt := 77) S dX0_setPriority_63 (by decide) (fun c63 => ?_) (fun c63 => ?_)
    · refine lv_aload_n S.1 S.2.1 dX0_setPriority_77 rfl (lv_at hl 0 rfl) ?_
      refine bx_get S hK hin hw.1 0 rfl rfl 0 (by decide) flX0_setPriority_9 rfl dX0_setPriority_78 ?_
      refine lv_iload_n S.1 S.2.1 dX0_setPriority_81 rfl (lv_at hl 1 rfl) ?_
      refine bx_zald (v := (up σj 9 (4 * g + r) v) 0 r) S hK hw.1 1 0 rfl rfl (by omega) (by decide) rfl dX0_setPriority_82 ?_
      refine bz_eq (tgt := 102) S dX0_setPriority_83 (by decide) (fun c83 => ?_) (fun c83 => ?_)
      · refine lv_iload S.1 S.2.1 dX0_setPriority_102 (lv_at hl 5 rfl) ?_
        exact hret hw dX0_setPriority_104 (rfl) (congrArg (wX cZ cI a) (by rw [hj]; simp only [setP2, eq_false c63, eq_true c83, ↓reduceIte]))
      · refine lv_aload_n S.1 S.2.1 dX0_setPriority_86 rfl (lv_at hl 0 rfl) ?_
        refine bx_get S hK hin hw.1 0 rfl rfl 10 (by decide) flX0_setPriority_41 rfl dX0_setPriority_87 ?_
        refine lv_iload S.1 S.2.1 dX0_setPriority_90 (lv_at hl 4 rfl) ?_
        refine bx_iald (v := (up σj 9 (4 * g + r) v) 10 (4 * g + r)) S hK hw.1 11 1 rfl rfl (by omega) (by decide) rfl dX0_setPriority_92 ?_
        refine bz_ne (tgt := 102) S dX0_setPriority_93 (by decide) (fun c93 => ?_) (fun c93 => ?_)
        · refine lv_iload S.1 S.2.1 dX0_setPriority_102 (lv_at hl 5 rfl) ?_
          exact hret hw dX0_setPriority_104 (rfl) (congrArg (wX cZ cI a) (by rw [hj]; simp only [setP2, eq_false c63, eq_false c83, eq_false c93, ↓reduceIte]))
        · refine lv_aload_n S.1 S.2.1 dX0_setPriority_96 rfl (lv_at hl 0 rfl) ?_
          refine lv_iload_n S.1 S.2.1 dX0_setPriority_97 rfl (lv_at hl 1 rfl) ?_
          refine lv_iload_n S.1 S.2.1 dX0_setPriority_98 rfl (lv_at hl 2 rfl) ?_
          refine bc_vv (As := [.int (nI r), .int (nI g)]) (rest := []) S hK hw (kX0_beginPart l D cZ cI a (up σj 9 (4 * g + r) v) (r := r) (g := g) (by omega) (by omega)) (cwV 2 S.2.2.2.2 gX0_setPriority_X0_beginPart rfl rfl rfl (by decide +kernel) ⟨Nat.le_of_ble_eq_true rfl, Nat.le_of_ble_eq_true rfl⟩) (q0 := 0) rfl rfl rfl hl.1 rfl (Nat.le_of_ble_eq_true rfl) (Nat.zero_le _) (Nat.zero_le _) dX0_setPriority_99 (fun H locs hw => ?_)
          refine lv_iload S.1 S.2.1 dX0_setPriority_102 (lv_at hl 5 rfl) ?_
          exact hret hw dX0_setPriority_104 (rfl) (congrArg (wX cZ cI a) (by rw [hj]; simp only [setP2, eq_false c63, eq_false c83, eq_true c93, ↓reduceIte]))
    · refine lv_aload_n S.1 S.2.1 dX0_setPriority_66 rfl (lv_at hl 0 rfl) ?_
      refine bx_get S hK hin hw.1 0 rfl rfl 10 (by decide) flX0_setPriority_41 rfl dX0_setPriority_67 ?_
      refine lv_iload S.1 S.2.1 dX0_setPriority_70 (lv_at hl 4 rfl) ?_
      refine lv_iconst (v := 0) S.1 S.2.1 dX0_setPriority_72 (by decide) ?_
      refine bx_iast S hK hw 11 1 rfl rfl (by omega) (by decide) (wX_s10 cZ cI a (up σj 9 (4 * g + r) v) (4 * g + r) 0) dX0_setPriority_73 (fun H locs hw => ?_)
      refine lv_goto (tgt := 102) S.1 S.2.1 dX0_setPriority_74 (by decide) ?_
      refine lv_iload S.1 S.2.1 dX0_setPriority_102 (lv_at hl 5 rfl) ?_
      exact hret hw dX0_setPriority_104 (rfl) (congrArg (wX cZ cI a) (by rw [hj]; simp only [setP2, eq_true c63, ↓reduceIte]))
  refine lv_iload_n S.1 S.2.1 dX0_setPriority_32 rfl (lv_at hl 5 rfl) ?_
  refine bz_ne (tgt := 54) S dX0_setPriority_33 (by decide) (fun c33 => ?_) (fun c33 => ?_)
  · exact J54 _ _ _ hw (by simp only [setPF, setP1, eq_false c33, ↓reduceIte]) _ (lv_sub hl [2, 3, 4, 5, 1, 0] rfl)
  · refine lv_aload_n S.1 S.2.1 dX0_setPriority_36 rfl (lv_at hl 2 rfl) ?_
    refine bx_get S hK hin hw.1 0 rfl rfl 10 (by decide) flX0_setPriority_41 rfl dX0_setPriority_37 ?_
    refine lv_iload S.1 S.2.1 dX0_setPriority_40 (lv_at hl 1 rfl) ?_
    refine bx_iald (v := σ 10 (4 * g + r)) S hK hw.1 11 1 rfl rfl (by omega) (by decide) rfl dX0_setPriority_42 ?_
    refine lv_iconst (v := 2) S.1 S.2.1 dX0_setPriority_43 (by decide) ?_
    refine br_ne (tgt := 54) S dX0_setPriority_44 (by decide) (fun c44 => ?_) (fun c44 => ?_)
    · exact J54 _ _ _ hw (by simp only [setPF, setP1, eq_true c33, eq_false c44, ↓reduceIte]) _ (lv_sub hl [2, 3, 4, 5, 1, 0] rfl)
    · refine lv_aload_n S.1 S.2.1 dX0_setPriority_47 rfl (lv_at hl 2 rfl) ?_
      refine lv_iload_n S.1 S.2.1 dX0_setPriority_48 rfl (lv_at hl 3 rfl) ?_
      refine lv_iload_n S.1 S.2.1 dX0_setPriority_49 rfl (lv_at hl 4 rfl) ?_
      refine lv_iconst (v := 0) S.1 S.2.1 dX0_setPriority_50 (by decide) ?_
      refine bc_vv (As := [.int (nI r), .int (nI g), .int 0]) (rest := []) S hK hw (kX0_advertise l D cZ cI a σ (q := r) (g := g) 0 (by omega) (by omega)) (cwV 3 S.2.2.2.2 gX0_setPriority_X0_advertise rfl rfl rfl (by decide +kernel) ⟨Nat.le_of_ble_eq_true rfl, Nat.le_of_ble_eq_true rfl⟩) (q0 := 0) rfl rfl rfl hl.1 rfl (Nat.le_of_ble_eq_true rfl) (Nat.zero_le _) (Nat.zero_le _) dX0_setPriority_51 (fun H locs hw => ?_)
      exact J54 _ _ _ hw (by simp only [setPF, setP1, eq_true c33, eq_true c44, ↓reduceIte]) _ (lv_sub hl [2, 3, 4, 5, 1, 0] rfl)

theorem inX0_track : ∀ w ∈ u_ws RX0 TX0 18, w ∈ wsX0_track := fun _ h => List.mem_cons_of_mem _ (List.mem_append_left _ (List.mem_append_right _ h))
theorem flX0_track_19 : Cond.fieldLink RX0 19 "StandbyPair" "decrements" "[I" ∈ wsX0_track := by decide +kernel
set_option maxHeartbeats 4000000 in
set_option maxRecDepth 100000 in
theorem kX0_track (l : Launch) (D : va_G) (cZ cI : ClassId) (a : Nat → Nat) (σ : sC) {r k : Nat} (v : Int32) (hr : r < 4) (hk : k < 2) (h1 : ¬ v < 0) (h2 : ¬ 100 < v) : MI l yX0_track wsX0_track ({ frames := 1, cells := 0, slots := 0, locals := 22 } : Room) D (tyZ cZ cI) [.ref (a 0), .int (nI r), .int (nI k), .int v] (wX cZ cI a σ) (σ 3 (2 * r + k)) (wX cZ cI a (up σ 3 (2 * r + k) v)) := by
  refine MI.of (cc := cX0_track) (maxL := 6) (ty := .int) (by decide) rfl (rfl) ⟨rfl, rfl⟩ (Nat.le_of_ble_eq_true rfl) ?_
  intro p e s m args below meth c A Q S hK hret ls hl hw
  replace hl : lv_has ls 6 [(0, .ref (a 0)), (1, .int (nI r)), (2, .int (nI k)), (3, .int v)] := hl
  replace S : CallFix p m c cX0_track 6 s args wsX0_track RX0 := S
  have hin := inX0_track
  refine lv_iload_n S.1 S.2.1 dX0_track_0 rfl (lv_at hl 1 rfl) ?_
  refine bc_sv (As := [.int (nI r)]) (rest := []) S hK hw (kX0_checkRouter l D _ (r := r) (by omega)) (va_cwS 1 S.2.2.2.2 gX0_track_X0_checkRouter rfl rfl rfl (by decide +kernel) ⟨Nat.le_of_ble_eq_true rfl, Nat.le_of_ble_eq_true rfl⟩) rfl hl.1 rfl (Nat.le_of_ble_eq_true rfl) (Nat.zero_le _) (Nat.zero_le _) dX0_track_1 (fun H locs hw => ?_)
  refine lv_iload_n S.1 S.2.1 dX0_track_4 rfl (lv_at hl 2 rfl) ?_
  refine bc_sv (As := [.int (nI k)]) (rest := []) S hK hw (kX0_checkLink l D _ (k := k) (by omega)) (va_cwS 1 S.2.2.2.2 gX0_track_X0_checkLink rfl rfl rfl (by decide +kernel) ⟨Nat.le_of_ble_eq_true rfl, Nat.le_of_ble_eq_true rfl⟩) rfl hl.1 rfl (Nat.le_of_ble_eq_true rfl) (Nat.zero_le _) (Nat.zero_le _) dX0_track_5 (fun H locs hw => ?_)
  refine lv_iload_n S.1 S.2.1 dX0_track_8 rfl (lv_at hl 3 rfl) ?_
  refine lv_iconst (v := 0) S.1 S.2.1 dX0_track_9 (by decide) ?_
  refine lv_bipush (v := 100) S.1 S.2.1 dX0_track_10 (by decide) ?_
  refine bc_sv (As := [.int v, .int 0, .int 100]) (rest := []) S hK hw (kX0_checkRange l D _ v 0 100 h1 h2) (va_cwS 3 S.2.2.2.2 gX0_track_X0_checkRange rfl rfl rfl (by decide +kernel) ⟨Nat.le_of_ble_eq_true rfl, Nat.le_of_ble_eq_true rfl⟩) rfl hl.1 rfl (Nat.le_of_ble_eq_true rfl) (Nat.zero_le _) (Nat.zero_le _) dX0_track_12 (fun H locs hw => ?_)
  refine lv_iload_n S.1 S.2.1 dX0_track_15 rfl (lv_at hl 1 rfl) ?_
  refine lv_iload_n S.1 S.2.1 dX0_track_16 rfl (lv_at hl 2 rfl) ?_
  refine bc_si (As := [.int (nI r), .int (nI k)]) (rest := []) S hK hw (kX0_linkOf l D _ (r := r) (k := k) (by omega) (by omega)) (va_cwS 2 S.2.2.2.2 gX0_track_X0_linkOf rfl rfl rfl (by decide +kernel) ⟨Nat.le_of_ble_eq_true rfl, Nat.le_of_ble_eq_true rfl⟩) rfl hl.1 rfl (Nat.le_of_ble_eq_true rfl) (Nat.zero_le _) (Nat.zero_le _) dX0_track_17 (fun H locs hw => ?_)
  refine lv_istore (lv' := [(4, .int (nI (2 * r + k))), (0, .ref (a 0)), (1, .int (nI r)), (2, .int (nI k)), (3, .int v)]) S.1 S.2.1 dX0_track_20 hl (by decide) rfl (fun ls hl => ?_)
  refine lv_aload_n S.1 S.2.1 dX0_track_22 rfl (lv_at hl 1 rfl) ?_
  refine bx_get S hK hin hw.1 0 rfl rfl 3 (by decide) flX0_track_19 rfl dX0_track_23 ?_
  refine lv_iload S.1 S.2.1 dX0_track_26 (lv_at hl 0 rfl) ?_
  refine bx_iald (v := σ 3 (2 * r + k)) S hK hw.1 4 1 rfl rfl (by omega) (by decide) rfl dX0_track_28 ?_
  refine lv_istore (lv' := [(5, .int (σ 3 (2 * r + k))), (4, .int (nI (2 * r + k))), (0, .ref (a 0)), (1, .int (nI r)), (2, .int (nI k)), (3, .int v)]) S.1 S.2.1 dX0_track_29 hl (by decide) rfl (fun ls hl => ?_)
  refine lv_aload_n S.1 S.2.1 dX0_track_31 rfl (lv_at hl 2 rfl) ?_
  refine bx_get S hK hin hw.1 0 rfl rfl 3 (by decide) flX0_track_19 rfl dX0_track_32 ?_
  refine lv_iload S.1 S.2.1 dX0_track_35 (lv_at hl 1 rfl) ?_
  refine lv_iload_n S.1 S.2.1 dX0_track_37 rfl (lv_at hl 5 rfl) ?_
  refine bx_iast S hK hw 4 1 rfl rfl (by omega) (by decide) (wX_s3 cZ cI a σ (2 * r + k) v) dX0_track_38 (fun H locs hw => ?_)
  refine lv_iload S.1 S.2.1 dX0_track_39 (lv_at hl 0 rfl) ?_
  exact hret hw dX0_track_41 (rfl) (congrArg (wX cZ cI a) (rfl))

theorem inX0_setLink : ∀ w ∈ u_ws RX0 TX0 18, w ∈ wsX0_setLink := fun _ h => List.mem_cons_of_mem _ (List.mem_append_left _ (List.mem_append_right _ h))
theorem flX0_setLink_16 : Cond.fieldLink RX0 16 "StandbyPair" "linkUp" "[Z" ∈ wsX0_setLink := by decide +kernel
set_option maxHeartbeats 4000000 in
set_option maxRecDepth 100000 in
theorem kX0_setLink (l : Launch) (D : va_G) (cZ cI : ClassId) (a : Nat → Nat) (σ : sC) {r k : Nat} (b : Int32) (hr : r < 4) (hk : k < 2) (hb : vp_nar .boolean b = b) (hz : narrow .boolean (.int (σ 2 (2 * r + k))) = .int (σ 2 (2 * r + k))) : MI l yX0_setLink wsX0_setLink ({ frames := 1, cells := 0, slots := 0, locals := 21 } : Room) D (tyZ cZ cI) [.ref (a 0), .int (nI r), .int (nI k), .int b] (wX cZ cI a σ) (σ 2 (2 * r + k)) (wX cZ cI a (up σ 2 (2 * r + k) b)) := by
  refine MI.of (cc := cX0_setLink) (maxL := 6) (ty := .boolean) (by decide) rfl (hz) ⟨rfl, rfl⟩ (Nat.le_of_ble_eq_true rfl) ?_
  intro p e s m args below meth c A Q S hK hret ls hl hw
  replace hl : lv_has ls 6 [(0, .ref (a 0)), (1, .int (nI r)), (2, .int (nI k)), (3, .int b)] := hl
  replace S : CallFix p m c cX0_setLink 6 s args wsX0_setLink RX0 := S
  have hin := inX0_setLink
  refine lv_iload_n S.1 S.2.1 dX0_setLink_0 rfl (lv_at hl 1 rfl) ?_
  refine bc_sv (As := [.int (nI r)]) (rest := []) S hK hw (kX0_checkRouter l D _ (r := r) (by omega)) (va_cwS 1 S.2.2.2.2 gX0_setLink_X0_checkRouter rfl rfl rfl (by decide +kernel) ⟨Nat.le_of_ble_eq_true rfl, Nat.le_of_ble_eq_true rfl⟩) rfl hl.1 rfl (Nat.le_of_ble_eq_true rfl) (Nat.zero_le _) (Nat.zero_le _) dX0_setLink_1 (fun H locs hw => ?_)
  refine lv_iload_n S.1 S.2.1 dX0_setLink_4 rfl (lv_at hl 2 rfl) ?_
  refine bc_sv (As := [.int (nI k)]) (rest := []) S hK hw (kX0_checkLink l D _ (k := k) (by omega)) (va_cwS 1 S.2.2.2.2 gX0_setLink_X0_checkLink rfl rfl rfl (by decide +kernel) ⟨Nat.le_of_ble_eq_true rfl, Nat.le_of_ble_eq_true rfl⟩) rfl hl.1 rfl (Nat.le_of_ble_eq_true rfl) (Nat.zero_le _) (Nat.zero_le _) dX0_setLink_5 (fun H locs hw => ?_)
  refine lv_iload_n S.1 S.2.1 dX0_setLink_8 rfl (lv_at hl 1 rfl) ?_
  refine lv_iload_n S.1 S.2.1 dX0_setLink_9 rfl (lv_at hl 2 rfl) ?_
  refine bc_si (As := [.int (nI r), .int (nI k)]) (rest := []) S hK hw (kX0_linkOf l D _ (r := r) (k := k) (by omega) (by omega)) (va_cwS 2 S.2.2.2.2 gX0_setLink_X0_linkOf rfl rfl rfl (by decide +kernel) ⟨Nat.le_of_ble_eq_true rfl, Nat.le_of_ble_eq_true rfl⟩) rfl hl.1 rfl (Nat.le_of_ble_eq_true rfl) (Nat.zero_le _) (Nat.zero_le _) dX0_setLink_10 (fun H locs hw => ?_)
  refine lv_istore (lv' := [(4, .int (nI (2 * r + k))), (0, .ref (a 0)), (1, .int (nI r)), (2, .int (nI k)), (3, .int b)]) S.1 S.2.1 dX0_setLink_13 hl (by decide) rfl (fun ls hl => ?_)
  refine lv_aload_n S.1 S.2.1 dX0_setLink_15 rfl (lv_at hl 1 rfl) ?_
  refine bx_get S hK hin hw.1 0 rfl rfl 2 (by decide) flX0_setLink_16 rfl dX0_setLink_16 ?_
  refine lv_iload S.1 S.2.1 dX0_setLink_19 (lv_at hl 0 rfl) ?_
  refine bx_zald (v := σ 2 (2 * r + k)) S hK hw.1 3 0 rfl rfl (by omega) (by decide) rfl dX0_setLink_21 ?_
  refine lv_istore (lv' := [(5, .int (σ 2 (2 * r + k))), (4, .int (nI (2 * r + k))), (0, .ref (a 0)), (1, .int (nI r)), (2, .int (nI k)), (3, .int b)]) S.1 S.2.1 dX0_setLink_22 hl (by decide) rfl (fun ls hl => ?_)
  refine lv_aload_n S.1 S.2.1 dX0_setLink_24 rfl (lv_at hl 2 rfl) ?_
  refine bx_get S hK hin hw.1 0 rfl rfl 2 (by decide) flX0_setLink_16 rfl dX0_setLink_25 ?_
  refine lv_iload S.1 S.2.1 dX0_setLink_28 (lv_at hl 1 rfl) ?_
  refine lv_iload_n S.1 S.2.1 dX0_setLink_30 rfl (lv_at hl 5 rfl) ?_
  refine bx_zast S hK hw 3 0 rfl rfl (by omega) (by decide) hb (wX_s2 cZ cI a σ (2 * r + k) b) dX0_setLink_31 (fun H locs hw => ?_)
  refine lv_iload S.1 S.2.1 dX0_setLink_32 (lv_at hl 0 rfl) ?_
  exact hret hw dX0_setLink_34 (rfl) (congrArg (wX cZ cI a) (rfl))

theorem inX0_setPeriod : ∀ w ∈ u_ws RX0 TX0 18, w ∈ wsX0_setPeriod := fun _ h => List.mem_cons_of_mem _ (List.mem_append_left _ (List.mem_append_right _ h))
theorem flX0_setPeriod_23 : Cond.fieldLink RX0 23 "StandbyPair" "periods" "[I" ∈ wsX0_setPeriod := by decide +kernel
set_option maxHeartbeats 4000000 in
set_option maxRecDepth 100000 in
theorem kX0_setPeriod (l : Launch) (D : va_G) (cZ cI : ClassId) (a : Nat → Nat) (σ : sC) {g : Nat} (v : Int32) (hg : g < 3) (h1 : ¬ v < 1) (h2 : ¬ 10 < v) : MI l yX0_setPeriod wsX0_setPeriod ({ frames := 1, cells := 0, slots := 0, locals := 22 } : Room) D (tyZ cZ cI) [.ref (a 0), .int (nI g), .int v] (wX cZ cI a σ) (σ 4 g) (wX cZ cI a (up σ 4 g v)) := by
  refine MI.of (cc := cX0_setPeriod) (maxL := 4) (ty := .int) (by decide) rfl (rfl) ⟨rfl, rfl⟩ (Nat.le_of_ble_eq_true rfl) ?_
  intro p e s m args below meth c A Q S hK hret ls hl hw
  replace hl : lv_has ls 4 [(0, .ref (a 0)), (1, .int (nI g)), (2, .int v)] := hl
  replace S : CallFix p m c cX0_setPeriod 4 s args wsX0_setPeriod RX0 := S
  have hin := inX0_setPeriod
  refine lv_iload_n S.1 S.2.1 dX0_setPeriod_0 rfl (lv_at hl 1 rfl) ?_
  refine bc_sv (As := [.int (nI g)]) (rest := []) S hK hw (kX0_checkGroup l D _ (g := g) (by omega)) (va_cwS 1 S.2.2.2.2 gX0_setPeriod_X0_checkGroup rfl rfl rfl (by decide +kernel) ⟨Nat.le_of_ble_eq_true rfl, Nat.le_of_ble_eq_true rfl⟩) rfl hl.1 rfl (Nat.le_of_ble_eq_true rfl) (Nat.zero_le _) (Nat.zero_le _) dX0_setPeriod_1 (fun H locs hw => ?_)
  refine lv_iload_n S.1 S.2.1 dX0_setPeriod_4 rfl (lv_at hl 2 rfl) ?_
  refine lv_iconst (v := 1) S.1 S.2.1 dX0_setPeriod_5 (by decide) ?_
  refine lv_bipush (v := 10) S.1 S.2.1 dX0_setPeriod_6 (by decide) ?_
  refine bc_sv (As := [.int v, .int 1, .int 10]) (rest := []) S hK hw (kX0_checkRange l D _ v 1 10 h1 h2) (va_cwS 3 S.2.2.2.2 gX0_setPeriod_X0_checkRange rfl rfl rfl (by decide +kernel) ⟨Nat.le_of_ble_eq_true rfl, Nat.le_of_ble_eq_true rfl⟩) rfl hl.1 rfl (Nat.le_of_ble_eq_true rfl) (Nat.zero_le _) (Nat.zero_le _) dX0_setPeriod_8 (fun H locs hw => ?_)
  refine lv_aload_n S.1 S.2.1 dX0_setPeriod_11 rfl (lv_at hl 0 rfl) ?_
  refine bx_get S hK hin hw.1 0 rfl rfl 4 (by decide) flX0_setPeriod_23 rfl dX0_setPeriod_12 ?_
  refine lv_iload_n S.1 S.2.1 dX0_setPeriod_15 rfl (lv_at hl 1 rfl) ?_
  refine bx_iald (v := σ 4 g) S hK hw.1 5 1 rfl rfl (by omega) (by decide) rfl dX0_setPeriod_16 ?_
  refine lv_istore_n (lv' := [(3, .int (σ 4 g)), (0, .ref (a 0)), (1, .int (nI g)), (2, .int v)]) S.1 S.2.1 dX0_setPeriod_17 rfl hl (by decide) rfl (fun ls hl => ?_)
  refine lv_aload_n S.1 S.2.1 dX0_setPeriod_18 rfl (lv_at hl 1 rfl) ?_
  refine bx_get S hK hin hw.1 0 rfl rfl 4 (by decide) flX0_setPeriod_23 rfl dX0_setPeriod_19 ?_
  refine lv_iload_n S.1 S.2.1 dX0_setPeriod_22 rfl (lv_at hl 2 rfl) ?_
  refine lv_iload_n S.1 S.2.1 dX0_setPeriod_23 rfl (lv_at hl 3 rfl) ?_
  refine bx_iast S hK hw 5 1 rfl rfl (by omega) (by decide) (wX_s4 cZ cI a σ g v) dX0_setPeriod_24 (fun H locs hw => ?_)
  refine lv_iload_n S.1 S.2.1 dX0_setPeriod_25 rfl (lv_at hl 0 rfl) ?_
  exact hret hw dX0_setPeriod_26 (rfl) (congrArg (wX cZ cI a) (rfl))

theorem inX0_setPreemption : ∀ w ∈ u_ws RX0 TX0 18, w ∈ wsX0_setPreemption := fun _ h => List.mem_cons_of_mem _ (List.mem_append_left _ (List.mem_append_right _ h))
theorem flX0_setPreemption_26 : Cond.fieldLink RX0 26 "StandbyPair" "preempting" "[Z" ∈ wsX0_setPreemption := by decide +kernel
theorem flX0_setPreemption_29 : Cond.fieldLink RX0 29 "StandbyPair" "delays" "[I" ∈ wsX0_setPreemption := by decide +kernel
set_option maxHeartbeats 4000000 in
set_option maxRecDepth 100000 in
theorem kX0_setPreemption (l : Launch) (D : va_G) (cZ cI : ClassId) (a : Nat → Nat) (σ : sC) {g : Nat} (b v : Int32) (hg : g < 3) (hb : vp_nar .boolean b = b) (h1 : ¬ v < 0) (h2 : ¬ 10 < v) : MV l yX0_setPreemption wsX0_setPreemption ({ frames := 1, cells := 0, slots := 0, locals := 22 } : Room) D (tyZ cZ cI) [.ref (a 0), .int (nI g), .int b, .int v] (wX cZ cI a σ) (wX cZ cI a (up (up σ 5 g b) 6 g v)) := by
  refine MV.of (cc := cX0_setPreemption) (maxL := 4) (by decide) rfl ⟨rfl, rfl⟩ (Nat.le_of_ble_eq_true rfl) ?_
  intro p e s m args below meth c A Q S hK hret ls hl hw
  replace hl : lv_has ls 4 [(0, .ref (a 0)), (1, .int (nI g)), (2, .int b), (3, .int v)] := hl
  replace S : CallFix p m c cX0_setPreemption 4 s args wsX0_setPreemption RX0 := S
  have hin := inX0_setPreemption
  refine lv_iload_n S.1 S.2.1 dX0_setPreemption_0 rfl (lv_at hl 1 rfl) ?_
  refine bc_sv (As := [.int (nI g)]) (rest := []) S hK hw (kX0_checkGroup l D _ (g := g) (by omega)) (va_cwS 1 S.2.2.2.2 gX0_setPreemption_X0_checkGroup rfl rfl rfl (by decide +kernel) ⟨Nat.le_of_ble_eq_true rfl, Nat.le_of_ble_eq_true rfl⟩) rfl hl.1 rfl (Nat.le_of_ble_eq_true rfl) (Nat.zero_le _) (Nat.zero_le _) dX0_setPreemption_1 (fun H locs hw => ?_)
  refine lv_iload_n S.1 S.2.1 dX0_setPreemption_4 rfl (lv_at hl 3 rfl) ?_
  refine lv_iconst (v := 0) S.1 S.2.1 dX0_setPreemption_5 (by decide) ?_
  refine lv_bipush (v := 10) S.1 S.2.1 dX0_setPreemption_6 (by decide) ?_
  refine bc_sv (As := [.int v, .int 0, .int 10]) (rest := []) S hK hw (kX0_checkRange l D _ v 0 10 h1 h2) (va_cwS 3 S.2.2.2.2 gX0_setPreemption_X0_checkRange rfl rfl rfl (by decide +kernel) ⟨Nat.le_of_ble_eq_true rfl, Nat.le_of_ble_eq_true rfl⟩) rfl hl.1 rfl (Nat.le_of_ble_eq_true rfl) (Nat.zero_le _) (Nat.zero_le _) dX0_setPreemption_8 (fun H locs hw => ?_)
  refine lv_aload_n S.1 S.2.1 dX0_setPreemption_11 rfl (lv_at hl 0 rfl) ?_
  refine bx_get S hK hin hw.1 0 rfl rfl 5 (by decide) flX0_setPreemption_26 rfl dX0_setPreemption_12 ?_
  refine lv_iload_n S.1 S.2.1 dX0_setPreemption_15 rfl (lv_at hl 1 rfl) ?_
  refine lv_iload_n S.1 S.2.1 dX0_setPreemption_16 rfl (lv_at hl 2 rfl) ?_
  refine bx_zast S hK hw 6 0 rfl rfl (by omega) (by decide) hb (wX_s5 cZ cI a σ g b) dX0_setPreemption_17 (fun H locs hw => ?_)
  refine lv_aload_n S.1 S.2.1 dX0_setPreemption_18 rfl (lv_at hl 0 rfl) ?_
  refine bx_get S hK hin hw.1 0 rfl rfl 6 (by decide) flX0_setPreemption_29 rfl dX0_setPreemption_19 ?_
  refine lv_iload_n S.1 S.2.1 dX0_setPreemption_22 rfl (lv_at hl 1 rfl) ?_
  refine lv_iload_n S.1 S.2.1 dX0_setPreemption_23 rfl (lv_at hl 3 rfl) ?_
  refine bx_iast S hK hw 7 1 rfl rfl (by omega) (by decide) (wX_s6 cZ cI a (up σ 5 g b) g v) dX0_setPreemption_24 (fun H locs hw => ?_)
  exact hret hw dX0_setPreemption_25 (congrArg (wX cZ cI a) (rfl))

theorem inX0_join : ∀ w ∈ u_ws RX0 TX0 18, w ∈ wsX0_join := fun _ h => List.mem_cons_of_mem _ (List.mem_append_left _ (List.mem_append_right _ h))
theorem flX0_join_13 : Cond.fieldLink RX0 13 "StandbyPair" "joinedPairs" "[Z" ∈ wsX0_join := by decide +kernel
set_option maxHeartbeats 4000000 in
set_option maxRecDepth 100000 in
theorem kX0_join (l : Launch) (D : va_G) (cZ cI : ClassId) (a : Nat → Nat) (σ : sC) {i j : Nat} (b : Int32) (hi : i < 4) (hj : j < 4) (hne : ¬ nI i = nI j) (hb : vp_nar .boolean b = b) (hz : narrow .boolean (.int (σ 1 (4 * i + j))) = .int (σ 1 (4 * i + j))) : MI l yX0_join wsX0_join ({ frames := 1, cells := 0, slots := 0, locals := 20 } : Room) D (tyZ cZ cI) [.ref (a 0), .int (nI i), .int (nI j), .int b] (wX cZ cI a σ) (σ 1 (4 * i + j)) (wX cZ cI a (up (up σ 1 (4 * i + j) b) 1 (4 * j + i) b)) := by
  refine MI.of (cc := cX0_join) (maxL := 5) (ty := .boolean) (by decide) rfl (hz) ⟨rfl, rfl⟩ (Nat.le_of_ble_eq_true rfl) ?_
  intro p e s m args below meth c A Q S hK hret ls hl hw
  replace hl : lv_has ls 5 [(0, .ref (a 0)), (1, .int (nI i)), (2, .int (nI j)), (3, .int b)] := hl
  replace S : CallFix p m c cX0_join 5 s args wsX0_join RX0 := S
  have hin := inX0_join
  refine lv_iload_n S.1 S.2.1 dX0_join_0 rfl (lv_at hl 1 rfl) ?_
  refine bc_sv (As := [.int (nI i)]) (rest := []) S hK hw (kX0_checkRouter l D _ (r := i) (by omega)) (va_cwS 1 S.2.2.2.2 gX0_join_X0_checkRouter rfl rfl rfl (by decide +kernel) ⟨Nat.le_of_ble_eq_true rfl, Nat.le_of_ble_eq_true rfl⟩) rfl hl.1 rfl (Nat.le_of_ble_eq_true rfl) (Nat.zero_le _) (Nat.zero_le _) dX0_join_1 (fun H locs hw => ?_)
  refine lv_iload_n S.1 S.2.1 dX0_join_4 rfl (lv_at hl 2 rfl) ?_
  refine bc_sv (As := [.int (nI j)]) (rest := []) S hK hw (kX0_checkRouter l D _ (r := j) (by omega)) (va_cwS 1 S.2.2.2.2 gX0_join_X0_checkRouter rfl rfl rfl (by decide +kernel) ⟨Nat.le_of_ble_eq_true rfl, Nat.le_of_ble_eq_true rfl⟩) rfl hl.1 rfl (Nat.le_of_ble_eq_true rfl) (Nat.zero_le _) (Nat.zero_le _) dX0_join_5 (fun H locs hw => ?_)
  refine lv_iload_n S.1 S.2.1 dX0_join_8 rfl (lv_at hl 1 rfl) ?_
  refine lv_iload_n S.1 S.2.1 dX0_join_9 rfl (lv_at hl 2 rfl) ?_
  refine br_ne (tgt := 23) S dX0_join_10 (by decide) (fun c10 => ?_) (fun c10 => ?_)
  · refine lv_aload_n S.1 S.2.1 dX0_join_23 rfl (lv_at hl 0 rfl) ?_
    refine bx_get S hK hin hw.1 0 rfl rfl 1 (by decide) flX0_join_13 rfl dX0_join_24 ?_
    refine lv_iload_n S.1 S.2.1 dX0_join_27 rfl (lv_at hl 1 rfl) ?_
    refine lv_iconst (v := 4) S.1 S.2.1 dX0_join_28 (by decide) ?_
    refine lv_imul S.1 S.2.1 dX0_join_29 ?_
    refine lv_iload_n S.1 S.2.1 dX0_join_30 rfl (lv_at hl 2 rfl) ?_
    refine lv_iadd S.1 S.2.1 dX0_join_31 ?_
    refine bx_top (y := nI (4 * i + j)) (pl_j (by omega) (by omega)) ?_
    refine bx_zald (v := σ 1 (4 * i + j)) S hK hw.1 2 0 rfl rfl (by omega) (by decide) rfl dX0_join_32 ?_
    refine lv_istore (lv' := [(4, .int (σ 1 (4 * i + j))), (0, .ref (a 0)), (1, .int (nI i)), (2, .int (nI j)), (3, .int b)]) S.1 S.2.1 dX0_join_33 hl (by decide) rfl (fun ls hl => ?_)
    refine lv_aload_n S.1 S.2.1 dX0_join_35 rfl (lv_at hl 1 rfl) ?_
    refine bx_get S hK hin hw.1 0 rfl rfl 1 (by decide) flX0_join_13 rfl dX0_join_36 ?_
    refine lv_iload_n S.1 S.2.1 dX0_join_39 rfl (lv_at hl 2 rfl) ?_
    refine lv_iconst (v := 4) S.1 S.2.1 dX0_join_40 (by decide) ?_
    refine lv_imul S.1 S.2.1 dX0_join_41 ?_
    refine lv_iload_n S.1 S.2.1 dX0_join_42 rfl (lv_at hl 3 rfl) ?_
    refine lv_iadd S.1 S.2.1 dX0_join_43 ?_
    refine bx_top (y := nI (4 * i + j)) (pl_j (by omega) (by omega)) ?_
    refine lv_iload_n S.1 S.2.1 dX0_join_44 rfl (lv_at hl 4 rfl) ?_
    refine bx_zast S hK hw 2 0 rfl rfl (by omega) (by decide) hb (wX_s1 cZ cI a σ (4 * i + j) b) dX0_join_45 (fun H locs hw => ?_)
    refine lv_aload_n S.1 S.2.1 dX0_join_46 rfl (lv_at hl 1 rfl) ?_
    refine bx_get S hK hin hw.1 0 rfl rfl 1 (by decide) flX0_join_13 rfl dX0_join_47 ?_
    refine lv_iload_n S.1 S.2.1 dX0_join_50 rfl (lv_at hl 3 rfl) ?_
    refine lv_iconst (v := 4) S.1 S.2.1 dX0_join_51 (by decide) ?_
    refine lv_imul S.1 S.2.1 dX0_join_52 ?_
    refine lv_iload_n S.1 S.2.1 dX0_join_53 rfl (lv_at hl 2 rfl) ?_
    refine lv_iadd S.1 S.2.1 dX0_join_54 ?_
    refine bx_top (y := nI (4 * j + i)) (pl_j (by omega) (by omega)) ?_
    refine lv_iload_n S.1 S.2.1 dX0_join_55 rfl (lv_at hl 4 rfl) ?_
    refine bx_zast S hK hw 2 0 rfl rfl (by omega) (by decide) hb (wX_s1 cZ cI a (up σ 1 (4 * i + j) b) (4 * j + i) b) dX0_join_56 (fun H locs hw => ?_)
    refine lv_iload S.1 S.2.1 dX0_join_57 (lv_at hl 0 rfl) ?_
    exact hret hw dX0_join_59 (rfl) (congrArg (wX cZ cI a) (rfl))
  · exact absurd c10 hne

theorem inX0_die : ∀ w ∈ u_ws RX0 TX0 18, w ∈ wsX0_die := fun _ h => List.mem_cons_of_mem _ (List.mem_append_left _ (List.mem_append_left _ (List.mem_append_right _ h)))
theorem flX0_die_9 : Cond.fieldLink RX0 9 "StandbyPair" "alive" "[Z" ∈ wsX0_die := by decide +kernel
theorem flX0_die_41 : Cond.fieldLink RX0 41 "StandbyPair" "roles" "[I" ∈ wsX0_die := by decide +kernel
set_option maxHeartbeats 4000000 in
set_option maxRecDepth 100000 in
theorem kX0_die (l : Launch) (D : va_G) (cZ cI : ClassId) (a : Nat → Nat) (σ : sC) {r : Nat} (hr : r < 4) (ha : ¬ σ 0 r = 0) : MI l yX0_die wsX0_die ({ frames := 1, cells := 0, slots := 0, locals := 21 } : Room) D (tyZ cZ cI) [.ref (a 0), .int (nI r)] (wX cZ cI a σ) (dieN σ r 3) (wX cZ cI a (dieG σ r 3)) := by
  refine MI.of (cc := cX0_die) (maxL := 5) (ty := .int) (by decide) rfl (rfl) ⟨rfl, rfl⟩ (Nat.le_of_ble_eq_true rfl) ?_
  intro p e s m args below meth c A Q S hK hret ls hl hw
  replace hl : lv_has ls 5 [(0, .ref (a 0)), (1, .int (nI r))] := hl
  replace S : CallFix p m c cX0_die 5 s args wsX0_die RX0 := S
  have hin := inX0_die
  refine lv_iload_n S.1 S.2.1 dX0_die_0 rfl (lv_at hl 1 rfl) ?_
  refine bc_sv (As := [.int (nI r)]) (rest := []) S hK hw (kX0_checkRouter l D _ (r := r) (by omega)) (va_cwS 1 S.2.2.2.2 gX0_die_X0_checkRouter rfl rfl rfl (by decide +kernel) ⟨Nat.le_of_ble_eq_true rfl, Nat.le_of_ble_eq_true rfl⟩) rfl hl.1 rfl (Nat.le_of_ble_eq_true rfl) (Nat.zero_le _) (Nat.zero_le _) dX0_die_1 (fun H locs hw => ?_)
  refine lv_aload_n S.1 S.2.1 dX0_die_4 rfl (lv_at hl 0 rfl) ?_
  refine bx_get S hK hin hw.1 0 rfl rfl 0 (by decide) flX0_die_9 rfl dX0_die_5 ?_
  refine lv_iload_n S.1 S.2.1 dX0_die_8 rfl (lv_at hl 1 rfl) ?_
  refine bx_zald (v := σ 0 r) S hK hw.1 1 0 rfl rfl (by omega) (by decide) rfl dX0_die_9 ?_
  refine bz_ne (tgt := 23) S dX0_die_10 (by decide) (fun c10 => ?_) (fun c10 => ?_)
  · refine lv_aload_n S.1 S.2.1 dX0_die_23 rfl (lv_at hl 0 rfl) ?_
    refine bx_get S hK hin hw.1 0 rfl rfl 0 (by decide) flX0_die_9 rfl dX0_die_24 ?_
    refine lv_iload_n S.1 S.2.1 dX0_die_27 rfl (lv_at hl 1 rfl) ?_
    refine lv_iconst (v := 0) S.1 S.2.1 dX0_die_28 (by decide) ?_
    refine bx_zast S hK hw 1 0 rfl rfl (by omega) (by decide) (by decide) (wX_s0 cZ cI a σ r 0) dX0_die_29 (fun H locs hw => ?_)
    refine lv_iconst (v := 0) S.1 S.2.1 dX0_die_30 (by decide) ?_
    refine lv_istore_n (lv' := [(2, .int 0), (0, .ref (a 0)), (1, .int (nI r))]) S.1 S.2.1 dX0_die_31 rfl hl (by decide) rfl (fun ls hl => ?_)
    refine lv_iconst (v := nI 0) S.1 S.2.1 dX0_die_32 (by decide) ?_
    refine lv_istore_n (lv' := [(3, .int (nI 0)), (2, .int 0), (0, .ref (a 0)), (1, .int (nI r))]) S.1 S.2.1 dX0_die_33 rfl hl (by decide) rfl (fun ls hl => ?_)
    have L34 : ∀ (n i34 : Nat), i34 + n = 3 → ∀ (H : Heap) (locs : List Loc), Wd D A s.heap (wX cZ cI a (dieG σ r i34)) H locs → ∀ ls : Array Slot, lv_has ls 5 [(0, .ref (a 0)), (1, .int (nI r)), (2, .int (dieN σ r i34)), (3, .int (nI i34))] → W p l e ({ frames := 1, cells := 0, slots := 0, locals := 21 } : Room) s m args below meth c H locs 0 0 Q (F0 m 34 ls []) := by
      intro n
      induction n with
      | zero =>
        intro i34 hi H locs hw ls hl
        obtain rfl : i34 = 3 := by omega
        refine lv_iload_n S.1 S.2.1 dX0_die_34 rfl (lv_at hl 3 rfl) ?_
        refine lv_iconst (v := nI 3) S.1 S.2.1 dX0_die_35 (by decide) ?_
        refine br_ge (tgt := 74) S dX0_die_36 (by decide) (fun c36 => ?_) (fun c36 => ?_)
        · refine lv_iload_n S.1 S.2.1 dX0_die_74 rfl (lv_at hl 2 rfl) ?_
          exact hret hw dX0_die_75 (rfl) (congrArg (wX cZ cI a) (rfl))
        · exact absurd c36 (nlt_nI (by decide))
      | succ n ih_34 =>
        intro i34 hi H locs hw ls hl
        have hi34 : i34 < 3 := by omega
        refine lv_iload_n S.1 S.2.1 dX0_die_34 rfl (lv_at hl 3 rfl) ?_
        refine lv_iconst (v := nI 3) S.1 S.2.1 dX0_die_35 (by decide) ?_
        refine br_ge (tgt := 74) S dX0_die_36 (by decide) (fun c36 => ?_) (fun c36 => ?_)
        · exact absurd c36 (not_not_intro (lt_nI hi34 (by decide)))
        · refine lv_iload_n S.1 S.2.1 dX0_die_39 rfl (lv_at hl 1 rfl) ?_
          refine lv_iload_n S.1 S.2.1 dX0_die_40 rfl (lv_at hl 3 rfl) ?_
          refine bc_si (As := [.int (nI r), .int (nI i34)]) (rest := []) S hK hw (kX0_placeOf l D _ (r := r) (g := i34) (by omega) (by omega)) (va_cwS 2 S.2.2.2.2 gX0_die_X0_placeOf rfl rfl rfl (by decide +kernel) ⟨Nat.le_of_ble_eq_true rfl, Nat.le_of_ble_eq_true rfl⟩) rfl hl.1 rfl (Nat.le_of_ble_eq_true rfl) (Nat.zero_le _) (Nat.zero_le _) dX0_die_41 (fun H locs hw => ?_)
          refine lv_istore (lv' := [(4, .int (nI (4 * i34 + r))), (0, .ref (a 0)), (1, .int (nI r)), (2, .int (dieN σ r i34)), (3, .int (nI i34))]) S.1 S.2.1 dX0_die_44 hl (by decide) rfl (fun ls hl => ?_)
          refine lv_aload_n S.1 S.2.1 dX0_die_46 rfl (lv_at hl 1 rfl) ?_
          refine bx_get S hK hin hw.1 0 rfl rfl 10 (by decide) flX0_die_41 rfl dX0_die_47 ?_
          refine lv_iload S.1 S.2.1 dX0_die_50 (lv_at hl 0 rfl) ?_
          refine bx_iald (v := (dieG σ r i34) 10 (4 * i34 + r)) S hK hw.1 11 1 rfl rfl (by omega) (by decide) rfl dX0_die_52 ?_
          refine lv_iconst (v := 2) S.1 S.2.1 dX0_die_53 (by decide) ?_
          refine br_ne (tgt := 60) S dX0_die_54 (by decide) (fun c54 => ?_) (fun c54 => ?_)
          · refine lv_aload_n S.1 S.2.1 dX0_die_60 rfl (lv_at hl 1 rfl) ?_
            refine bx_get S hK hin hw.1 0 rfl rfl 10 (by decide) flX0_die_41 rfl dX0_die_61 ?_
            refine lv_iload S.1 S.2.1 dX0_die_64 (lv_at hl 0 rfl) ?_
            refine lv_iconst (v := 0) S.1 S.2.1 dX0_die_66 (by decide) ?_
            refine bx_iast S hK hw 11 1 rfl rfl (by omega) (by decide) (wX_s10 cZ cI a (dieG σ r i34) (4 * i34 + r) 0) dX0_die_67 (fun H locs hw => ?_)
            refine lv_iinc (v := nI (i34 + 1)) (lv' := [(3, .int (nI (i34 + 1))), (4, .int (nI (4 * i34 + r))), (0, .ref (a 0)), (1, .int (nI r)), (2, .int (dieN σ r i34))]) S.1 S.2.1 dX0_die_68 hl (k := 4) rfl (nI_1 i34) (by decide) rfl (fun ls hl => ?_)
            refine lv_goto (tgt := 34) S.1 S.2.1 dX0_die_71 (by decide) ?_
            have ea : dieN σ r (i34 + 1) = dieN σ r i34 := by simp only [dieN, itF, dieC, eq_false c10, eq_true c36, eq_false c54, ↓reduceIte]
            exact ih_34 (i34 + 1) (by omega) _ _ (Wd.cast (congrArg (wX cZ cI a) (by simp only [dieG, itF, dieS])) hw) _ (by rw [ea]; exact lv_sub hl [2, 3, 4, 0] rfl)
          · refine lv_iinc (v := (dieN σ r i34) + 1) (lv' := [(2, .int ((dieN σ r i34) + 1)), (4, .int (nI (4 * i34 + r))), (0, .ref (a 0)), (1, .int (nI r)), (3, .int (nI i34))]) S.1 S.2.1 dX0_die_57 hl (k := 3) rfl (rfl) (by decide) rfl (fun ls hl => ?_)
            refine lv_aload_n S.1 S.2.1 dX0_die_60 rfl (lv_at hl 2 rfl) ?_
            refine bx_get S hK hin hw.1 0 rfl rfl 10 (by decide) flX0_die_41 rfl dX0_die_61 ?_
            refine lv_iload S.1 S.2.1 dX0_die_64 (lv_at hl 1 rfl) ?_
            refine lv_iconst (v := 0) S.1 S.2.1 dX0_die_66 (by decide) ?_
            refine bx_iast S hK hw 11 1 rfl rfl (by omega) (by decide) (wX_s10 cZ cI a (dieG σ r i34) (4 * i34 + r) 0) dX0_die_67 (fun H locs hw => ?_)
            refine lv_iinc (v := nI (i34 + 1)) (lv' := [(3, .int (nI (i34 + 1))), (2, .int ((dieN σ r i34) + 1)), (4, .int (nI (4 * i34 + r))), (0, .ref (a 0)), (1, .int (nI r))]) S.1 S.2.1 dX0_die_68 hl (k := 4) rfl (nI_1 i34) (by decide) rfl (fun ls hl => ?_)
            refine lv_goto (tgt := 34) S.1 S.2.1 dX0_die_71 (by decide) ?_
            have ea : dieN σ r (i34 + 1) = (dieN σ r i34) + 1 := by simp only [dieN, itF, dieC, eq_false c10, eq_true c36, eq_true c54, ↓reduceIte]
            exact ih_34 (i34 + 1) (by omega) _ _ (Wd.cast (congrArg (wX cZ cI a) (by simp only [dieG, itF, dieS])) hw) _ (by rw [ea]; exact lv_sub hl [3, 4, 1, 0] rfl)
    exact L34 (3 - 0) 0 (by omega) _ _ hw _ (lv_sub hl [2, 3, 1, 0] rfl)
  · exact absurd c10 ha

theorem inX0_live : ∀ w ∈ u_ws RX0 TX0 18, w ∈ wsX0_live := fun _ h => List.mem_cons_of_mem _ (List.mem_append_left _ (List.mem_append_left _ (List.mem_append_right _ h)))
theorem flX0_live_9 : Cond.fieldLink RX0 9 "StandbyPair" "alive" "[Z" ∈ wsX0_live := by decide +kernel
theorem flX0_live_38 : Cond.fieldLink RX0 38 "StandbyPair" "basePriorities" "[I" ∈ wsX0_live := by decide +kernel
set_option maxHeartbeats 4000000 in
set_option maxRecDepth 100000 in
theorem kX0_live (l : Launch) (D : va_G) (cZ cI : ClassId) (a : Nat → Nat) (σ : sC) {r : Nat} (hr : r < 4) (ha : σ 0 r = 0) : MI l yX0_live wsX0_live ({ frames := 4, cells := 0, slots := 0, locals := 91 } : Room) D (tyZ cZ cI) [.ref (a 0), .int (nI r)] (wX cZ cI a σ) (liveN σ r 3) (wX cZ cI a (liveG σ r 3)) := by
  refine MI.of (cc := cX0_live) (maxL := 4) (ty := .int) (by decide) rfl (rfl) ⟨rfl, rfl⟩ (Nat.le_of_ble_eq_true rfl) ?_
  intro p e s m args below meth c A Q S hK hret ls hl hw
  replace hl : lv_has ls 4 [(0, .ref (a 0)), (1, .int (nI r))] := hl
  replace S : CallFix p m c cX0_live 4 s args wsX0_live RX0 := S
  have hin := inX0_live
  refine lv_iload_n S.1 S.2.1 dX0_live_0 rfl (lv_at hl 1 rfl) ?_
  refine bc_sv (As := [.int (nI r)]) (rest := []) S hK hw (kX0_checkRouter l D _ (r := r) (by omega)) (va_cwS 1 S.2.2.2.2 gX0_live_X0_checkRouter rfl rfl rfl (by decide +kernel) ⟨Nat.le_of_ble_eq_true rfl, Nat.le_of_ble_eq_true rfl⟩) rfl hl.1 rfl (Nat.le_of_ble_eq_true rfl) (Nat.zero_le _) (Nat.zero_le _) dX0_live_1 (fun H locs hw => ?_)
  refine lv_aload_n S.1 S.2.1 dX0_live_4 rfl (lv_at hl 0 rfl) ?_
  refine bx_get S hK hin hw.1 0 rfl rfl 0 (by decide) flX0_live_9 rfl dX0_live_5 ?_
  refine lv_iload_n S.1 S.2.1 dX0_live_8 rfl (lv_at hl 1 rfl) ?_
  refine bx_zald (v := σ 0 r) S hK hw.1 1 0 rfl rfl (by omega) (by decide) rfl dX0_live_9 ?_
  refine bz_eq (tgt := 23) S dX0_live_10 (by decide) (fun c10 => ?_) (fun c10 => ?_)
  · refine lv_aload_n S.1 S.2.1 dX0_live_23 rfl (lv_at hl 0 rfl) ?_
    refine bx_get S hK hin hw.1 0 rfl rfl 0 (by decide) flX0_live_9 rfl dX0_live_24 ?_
    refine lv_iload_n S.1 S.2.1 dX0_live_27 rfl (lv_at hl 1 rfl) ?_
    refine lv_iconst (v := 1) S.1 S.2.1 dX0_live_28 (by decide) ?_
    refine bx_zast S hK hw 1 0 rfl rfl (by omega) (by decide) (by decide) (wX_s0 cZ cI a σ r 1) dX0_live_29 (fun H locs hw => ?_)
    refine lv_iconst (v := 0) S.1 S.2.1 dX0_live_30 (by decide) ?_
    refine lv_istore_n (lv' := [(2, .int 0), (0, .ref (a 0)), (1, .int (nI r))]) S.1 S.2.1 dX0_live_31 rfl hl (by decide) rfl (fun ls hl => ?_)
    refine lv_iconst (v := nI 0) S.1 S.2.1 dX0_live_32 (by decide) ?_
    refine lv_istore_n (lv' := [(3, .int (nI 0)), (2, .int 0), (0, .ref (a 0)), (1, .int (nI r))]) S.1 S.2.1 dX0_live_33 rfl hl (by decide) rfl (fun ls hl => ?_)
    have L34 : ∀ (n i34 : Nat), i34 + n = 3 → ∀ (H : Heap) (locs : List Loc), Wd D A s.heap (wX cZ cI a (liveG σ r i34)) H locs → ∀ ls : Array Slot, lv_has ls 4 [(0, .ref (a 0)), (1, .int (nI r)), (2, .int (liveN σ r i34)), (3, .int (nI i34))] → W p l e ({ frames := 4, cells := 0, slots := 0, locals := 91 } : Room) s m args below meth c H locs 0 0 Q (F0 m 34 ls []) := by
      intro n
      induction n with
      | zero =>
        intro i34 hi H locs hw ls hl
        obtain rfl : i34 = 3 := by omega
        refine lv_iload_n S.1 S.2.1 dX0_live_34 rfl (lv_at hl 3 rfl) ?_
        refine lv_iconst (v := nI 3) S.1 S.2.1 dX0_live_35 (by decide) ?_
        refine br_ge (tgt := 67) S dX0_live_36 (by decide) (fun c36 => ?_) (fun c36 => ?_)
        · refine lv_iload_n S.1 S.2.1 dX0_live_67 rfl (lv_at hl 2 rfl) ?_
          exact hret hw dX0_live_68 (rfl) (congrArg (wX cZ cI a) (rfl))
        · exact absurd c36 (nlt_nI (by decide))
      | succ n ih_34 =>
        intro i34 hi H locs hw ls hl
        have hi34 : i34 < 3 := by omega
        refine lv_iload_n S.1 S.2.1 dX0_live_34 rfl (lv_at hl 3 rfl) ?_
        refine lv_iconst (v := nI 3) S.1 S.2.1 dX0_live_35 (by decide) ?_
        refine br_ge (tgt := 67) S dX0_live_36 (by decide) (fun c36 => ?_) (fun c36 => ?_)
        · exact absurd c36 (not_not_intro (lt_nI hi34 (by decide)))
        · refine lv_aload_n S.1 S.2.1 dX0_live_39 rfl (lv_at hl 0 rfl) ?_
          refine bx_get S hK hin hw.1 0 rfl rfl 9 (by decide) flX0_live_38 rfl dX0_live_40 ?_
          refine lv_iload_n S.1 S.2.1 dX0_live_43 rfl (lv_at hl 1 rfl) ?_
          refine lv_iload_n S.1 S.2.1 dX0_live_44 rfl (lv_at hl 3 rfl) ?_
          refine bc_si (As := [.int (nI r), .int (nI i34)]) (rest := [.ref (a 10)]) S hK hw (kX0_placeOf l D _ (r := r) (g := i34) (by omega) (by omega)) (va_cwS 2 S.2.2.2.2 gX0_live_X0_placeOf rfl rfl rfl (by decide +kernel) ⟨Nat.le_of_ble_eq_true rfl, Nat.le_of_ble_eq_true rfl⟩) rfl hl.1 rfl (Nat.le_of_ble_eq_true rfl) (Nat.zero_le _) (Nat.zero_le _) dX0_live_45 (fun H locs hw => ?_)
          refine bx_iald (v := (liveG σ r i34) 9 (4 * i34 + r)) S hK hw.1 10 1 rfl rfl (by omega) (by decide) rfl dX0_live_48 ?_
          refine bz_le (tgt := 61) S dX0_live_49 (by decide) (fun c49 => ?_) (fun c49 => ?_)
          · refine lv_iinc (v := nI (i34 + 1)) (lv' := [(3, .int (nI (i34 + 1))), (0, .ref (a 0)), (1, .int (nI r)), (2, .int (liveN σ r i34))]) S.1 S.2.1 dX0_live_61 hl (k := 3) rfl (nI_1 i34) (by decide) rfl (fun ls hl => ?_)
            refine lv_goto (tgt := 34) S.1 S.2.1 dX0_live_64 (by decide) ?_
            have ea : liveN σ r (i34 + 1) = liveN σ r i34 := by simp only [liveN, itF, liveC, eq_true c10, eq_true c36, eq_false c49, ↓reduceIte]
            exact ih_34 (i34 + 1) (by omega) _ _ (Wd.cast (congrArg (wX cZ cI a) (by rw [show liveG σ r (i34 + 1) = liveS r i34 (liveG σ r i34) from rfl]; simp only [liveS, eq_true c10, eq_true c36, eq_false c49, ↓reduceIte])) hw) _ (by rw [ea]; exact lv_sub hl [1, 2, 3, 0] rfl)
          · refine lv_aload_n S.1 S.2.1 dX0_live_52 rfl (lv_at hl 0 rfl) ?_
            refine lv_iload_n S.1 S.2.1 dX0_live_53 rfl (lv_at hl 1 rfl) ?_
            refine lv_iload_n S.1 S.2.1 dX0_live_54 rfl (lv_at hl 3 rfl) ?_
            refine bc_vv (As := [.int (nI r), .int (nI i34)]) (rest := []) S hK hw (kX0_beginPart l D cZ cI a (liveG σ r i34) (r := r) (g := i34) (by omega) (by omega)) (cwV 2 S.2.2.2.2 gX0_live_X0_beginPart rfl rfl rfl (by decide +kernel) ⟨Nat.le_of_ble_eq_true rfl, Nat.le_of_ble_eq_true rfl⟩) (q0 := 0) rfl rfl rfl hl.1 rfl (Nat.le_of_ble_eq_true rfl) (Nat.zero_le _) (Nat.zero_le _) dX0_live_55 (fun H locs hw => ?_)
            refine lv_iinc (v := (liveN σ r i34) + 1) (lv' := [(2, .int ((liveN σ r i34) + 1)), (0, .ref (a 0)), (1, .int (nI r)), (3, .int (nI i34))]) S.1 S.2.1 dX0_live_58 hl (k := 2) rfl (rfl) (by decide) rfl (fun ls hl => ?_)
            refine lv_iinc (v := nI (i34 + 1)) (lv' := [(3, .int (nI (i34 + 1))), (2, .int ((liveN σ r i34) + 1)), (0, .ref (a 0)), (1, .int (nI r))]) S.1 S.2.1 dX0_live_61 hl (k := 3) rfl (nI_1 i34) (by decide) rfl (fun ls hl => ?_)
            refine lv_goto (tgt := 34) S.1 S.2.1 dX0_live_64 (by decide) ?_
            have ea : liveN σ r (i34 + 1) = (liveN σ r i34) + 1 := by simp only [liveN, itF, liveC, eq_true c10, eq_true c36, eq_true c49, ↓reduceIte]
            exact ih_34 (i34 + 1) (by omega) _ _ (Wd.cast (congrArg (wX cZ cI a) (by rw [show liveG σ r (i34 + 1) = liveS r i34 (liveG σ r i34) from rfl]; simp only [liveS, eq_true c10, eq_true c36, eq_true c49, ↓reduceIte])) hw) _ (by rw [ea]; exact lv_sub hl [2, 3, 1, 0] rfl)
    exact L34 (3 - 0) 0 (by omega) _ _ hw _ (lv_sub hl [2, 3, 1, 0] rfl)
  · exact absurd c10 (not_not_intro ha)

theorem inX0_handOver : ∀ w ∈ u_ws RX0 TX0 18, w ∈ wsX0_handOver := fun _ h => List.mem_cons_of_mem _ (List.mem_append_left _ (List.mem_append_left _ (List.mem_append_right _ h)))
theorem flX0_handOver_41 : Cond.fieldLink RX0 41 "StandbyPair" "roles" "[I" ∈ wsX0_handOver := by decide +kernel
set_option maxHeartbeats 4000000 in
set_option maxRecDepth 100000 in
theorem kX0_handOver (l : Launch) (D : va_G) (cZ cI : ClassId) (a : Nat → Nat) (σ : sC) {r g : Nat} (hr : r < 4) (hg : g < 3) (hm : σ 10 (4 * g + r) = 2) : MV l yX0_handOver wsX0_handOver ({ frames := 5, cells := 0, slots := 0, locals := 119 } : Room) D (tyZ cZ cI) [.ref (a 0), .int (nI r), .int (nI g)] (wX cZ cI a σ) (wX cZ cI a (advF (restF σ r g 0) r g 0)) := by
  refine MV.of (cc := cX0_handOver) (maxL := 3) (by decide) rfl ⟨rfl, rfl⟩ (Nat.le_of_ble_eq_true rfl) ?_
  intro p e s m args below meth c A Q S hK hret ls hl hw
  replace hl : lv_has ls 3 [(0, .ref (a 0)), (1, .int (nI r)), (2, .int (nI g))] := hl
  replace S : CallFix p m c cX0_handOver 3 s args wsX0_handOver RX0 := S
  have hin := inX0_handOver
  refine lv_iload_n S.1 S.2.1 dX0_handOver_0 rfl (lv_at hl 1 rfl) ?_
  refine bc_sv (As := [.int (nI r)]) (rest := []) S hK hw (kX0_checkRouter l D _ (r := r) (by omega)) (va_cwS 1 S.2.2.2.2 gX0_handOver_X0_checkRouter rfl rfl rfl (by decide +kernel) ⟨Nat.le_of_ble_eq_true rfl, Nat.le_of_ble_eq_true rfl⟩) rfl hl.1 rfl (Nat.le_of_ble_eq_true rfl) (Nat.zero_le _) (Nat.zero_le _) dX0_handOver_1 (fun H locs hw => ?_)
  refine lv_iload_n S.1 S.2.1 dX0_handOver_4 rfl (lv_at hl 2 rfl) ?_
  refine bc_sv (As := [.int (nI g)]) (rest := []) S hK hw (kX0_checkGroup l D _ (g := g) (by omega)) (va_cwS 1 S.2.2.2.2 gX0_handOver_X0_checkGroup rfl rfl rfl (by decide +kernel) ⟨Nat.le_of_ble_eq_true rfl, Nat.le_of_ble_eq_true rfl⟩) rfl hl.1 rfl (Nat.le_of_ble_eq_true rfl) (Nat.zero_le _) (Nat.zero_le _) dX0_handOver_5 (fun H locs hw => ?_)
  refine lv_aload_n S.1 S.2.1 dX0_handOver_8 rfl (lv_at hl 0 rfl) ?_
  refine bx_get S hK hin hw.1 0 rfl rfl 10 (by decide) flX0_handOver_41 rfl dX0_handOver_9 ?_
  refine lv_iload_n S.1 S.2.1 dX0_handOver_12 rfl (lv_at hl 1 rfl) ?_
  refine lv_iload_n S.1 S.2.1 dX0_handOver_13 rfl (lv_at hl 2 rfl) ?_
  refine bc_si (As := [.int (nI r), .int (nI g)]) (rest := [.ref (a 11)]) S hK hw (kX0_placeOf l D _ (r := r) (g := g) (by omega) (by omega)) (va_cwS 2 S.2.2.2.2 gX0_handOver_X0_placeOf rfl rfl rfl (by decide +kernel) ⟨Nat.le_of_ble_eq_true rfl, Nat.le_of_ble_eq_true rfl⟩) rfl hl.1 rfl (Nat.le_of_ble_eq_true rfl) (Nat.zero_le _) (Nat.zero_le _) dX0_handOver_14 (fun H locs hw => ?_)
  refine bx_iald (v := σ 10 (4 * g + r)) S hK hw.1 11 1 rfl rfl (by omega) (by decide) rfl dX0_handOver_17 ?_
  refine lv_iconst (v := 2) S.1 S.2.1 dX0_handOver_18 (by decide) ?_
  refine br_eq (tgt := 32) S dX0_handOver_19 (by decide) (fun c19 => ?_) (fun c19 => ?_)
  · refine lv_aload_n S.1 S.2.1 dX0_handOver_32 rfl (lv_at hl 0 rfl) ?_
    refine lv_iload_n S.1 S.2.1 dX0_handOver_33 rfl (lv_at hl 1 rfl) ?_
    refine lv_iload_n S.1 S.2.1 dX0_handOver_34 rfl (lv_at hl 2 rfl) ?_
    refine bc_vv (As := [.int (nI r), .int (nI g)]) (rest := []) S hK hw (kX0_becomeBackup l D cZ cI a σ (r := r) (g := g) (by omega) (by omega)) (cwV 2 S.2.2.2.2 gX0_handOver_X0_becomeBackup rfl rfl rfl (by decide +kernel) ⟨Nat.le_of_ble_eq_true rfl, Nat.le_of_ble_eq_true rfl⟩) (q0 := 0) rfl rfl rfl hl.1 rfl (Nat.le_of_ble_eq_true rfl) (Nat.zero_le _) (Nat.zero_le _) dX0_handOver_35 (fun H locs hw => ?_)
    refine lv_aload_n S.1 S.2.1 dX0_handOver_38 rfl (lv_at hl 0 rfl) ?_
    refine lv_iload_n S.1 S.2.1 dX0_handOver_39 rfl (lv_at hl 1 rfl) ?_
    refine lv_iload_n S.1 S.2.1 dX0_handOver_40 rfl (lv_at hl 2 rfl) ?_
    refine lv_iconst (v := 0) S.1 S.2.1 dX0_handOver_41 (by decide) ?_
    refine bc_vv (As := [.int (nI r), .int (nI g), .int 0]) (rest := []) S hK hw (kX0_advertise l D cZ cI a (restF σ r g 0) (q := r) (g := g) 0 (by omega) (by omega)) (cwV 3 S.2.2.2.2 gX0_handOver_X0_advertise rfl rfl rfl (by decide +kernel) ⟨Nat.le_of_ble_eq_true rfl, Nat.le_of_ble_eq_true rfl⟩) (q0 := 0) rfl rfl rfl hl.1 rfl (Nat.le_of_ble_eq_true rfl) (Nat.zero_le _) (Nat.zero_le _) dX0_handOver_42 (fun H locs hw => ?_)
    exact hret hw dX0_handOver_45 (congrArg (wX cZ cI a) (rfl))
  · exact absurd c19 (not_not_intro hm)

theorem inX0_serve : ∀ w ∈ u_ws RX0 TX0 18, w ∈ wsX0_serve := fun _ h => List.mem_cons_of_mem _ (List.mem_append_left _ (List.mem_append_right _ h))
theorem flX0_serve_41 : Cond.fieldLink RX0 41 "StandbyPair" "roles" "[I" ∈ wsX0_serve := by decide +kernel
theorem flX0_serve_50 : Cond.fieldLink RX0 50 "StandbyPair" "served" "[I" ∈ wsX0_serve := by decide +kernel
set_option maxHeartbeats 4000000 in
set_option maxRecDepth 100000 in
theorem kX0_serve (l : Launch) (D : va_G) (cZ cI : ClassId) (a : Nat → Nat) (σ : sC) {g : Nat} (v : Int32) (hg : g < 3) (h1 : ¬ v < 1) (h2 : ¬ 100 < v) : MI l yX0_serve wsX0_serve ({ frames := 1, cells := 0, slots := 0, locals := 22 } : Room) D (tyZ cZ cI) [.ref (a 0), .int (nI g), .int v] (wX cZ cI a σ) (serveN σ g v 4) (wX cZ cI a (serveG σ g v 4)) := by
  refine MI.of (cc := cX0_serve) (maxL := 6) (ty := .int) (by decide) rfl (rfl) ⟨rfl, rfl⟩ (Nat.le_of_ble_eq_true rfl) ?_
  intro p e s m args below meth c A Q S hK hret ls hl hw
  replace hl : lv_has ls 6 [(0, .ref (a 0)), (1, .int (nI g)), (2, .int v)] := hl
  replace S : CallFix p m c cX0_serve 6 s args wsX0_serve RX0 := S
  have hin := inX0_serve
  refine lv_iload_n S.1 S.2.1 dX0_serve_0 rfl (lv_at hl 1 rfl) ?_
  refine bc_sv (As := [.int (nI g)]) (rest := []) S hK hw (kX0_checkGroup l D _ (g := g) (by omega)) (va_cwS 1 S.2.2.2.2 gX0_serve_X0_checkGroup rfl rfl rfl (by decide +kernel) ⟨Nat.le_of_ble_eq_true rfl, Nat.le_of_ble_eq_true rfl⟩) rfl hl.1 rfl (Nat.le_of_ble_eq_true rfl) (Nat.zero_le _) (Nat.zero_le _) dX0_serve_1 (fun H locs hw => ?_)
  refine lv_iload_n S.1 S.2.1 dX0_serve_4 rfl (lv_at hl 2 rfl) ?_
  refine lv_iconst (v := 1) S.1 S.2.1 dX0_serve_5 (by decide) ?_
  refine lv_bipush (v := 100) S.1 S.2.1 dX0_serve_6 (by decide) ?_
  refine bc_sv (As := [.int v, .int 1, .int 100]) (rest := []) S hK hw (kX0_checkRange l D _ v 1 100 h1 h2) (va_cwS 3 S.2.2.2.2 gX0_serve_X0_checkRange rfl rfl rfl (by decide +kernel) ⟨Nat.le_of_ble_eq_true rfl, Nat.le_of_ble_eq_true rfl⟩) rfl hl.1 rfl (Nat.le_of_ble_eq_true rfl) (Nat.zero_le _) (Nat.zero_le _) dX0_serve_8 (fun H locs hw => ?_)
  refine lv_iconst (v := 0) S.1 S.2.1 dX0_serve_11 (by decide) ?_
  refine lv_istore_n (lv' := [(3, .int 0), (0, .ref (a 0)), (1, .int (nI g)), (2, .int v)]) S.1 S.2.1 dX0_serve_12 rfl hl (by decide) rfl (fun ls hl => ?_)
  refine lv_iconst (v := nI 0) S.1 S.2.1 dX0_serve_13 (by decide) ?_
  refine lv_istore (lv' := [(4, .int (nI 0)), (3, .int 0), (0, .ref (a 0)), (1, .int (nI g)), (2, .int v)]) S.1 S.2.1 dX0_serve_14 hl (by decide) rfl (fun ls hl => ?_)
  have L16 : ∀ (n i16 : Nat), i16 + n = 4 → ∀ (H : Heap) (locs : List Loc), Wd D A s.heap (wX cZ cI a (serveG σ g v i16)) H locs → ∀ ls : Array Slot, lv_has ls 6 [(0, .ref (a 0)), (1, .int (nI g)), (2, .int v), (3, .int (serveN σ g v i16)), (4, .int (nI i16))] → W p l e ({ frames := 1, cells := 0, slots := 0, locals := 22 } : Room) s m args below meth c H locs 0 0 Q (F0 m 16 ls []) := by
    intro n
    induction n with
    | zero =>
      intro i16 hi H locs hw ls hl
      obtain rfl : i16 = 4 := by omega
      refine lv_iload S.1 S.2.1 dX0_serve_16 (lv_at hl 4 rfl) ?_
      refine lv_iconst (v := nI 4) S.1 S.2.1 dX0_serve_18 (by decide) ?_
      refine br_ge (tgt := 61) S dX0_serve_19 (by decide) (fun c19 => ?_) (fun c19 => ?_)
      · refine lv_iload_n S.1 S.2.1 dX0_serve_61 rfl (lv_at hl 3 rfl) ?_
        exact hret hw dX0_serve_62 (rfl) (congrArg (wX cZ cI a) (rfl))
      · exact absurd c19 (nlt_nI (by decide))
    | succ n ih_16 =>
      intro i16 hi H locs hw ls hl
      have hi16 : i16 < 4 := by omega
      refine lv_iload S.1 S.2.1 dX0_serve_16 (lv_at hl 4 rfl) ?_
      refine lv_iconst (v := nI 4) S.1 S.2.1 dX0_serve_18 (by decide) ?_
      refine br_ge (tgt := 61) S dX0_serve_19 (by decide) (fun c19 => ?_) (fun c19 => ?_)
      · exact absurd c19 (not_not_intro (lt_nI hi16 (by decide)))
      · refine lv_iload S.1 S.2.1 dX0_serve_22 (lv_at hl 4 rfl) ?_
        refine lv_iload_n S.1 S.2.1 dX0_serve_24 rfl (lv_at hl 1 rfl) ?_
        refine bc_si (As := [.int (nI i16), .int (nI g)]) (rest := []) S hK hw (kX0_placeOf l D _ (r := i16) (g := g) (by omega) (by omega)) (va_cwS 2 S.2.2.2.2 gX0_serve_X0_placeOf rfl rfl rfl (by decide +kernel) ⟨Nat.le_of_ble_eq_true rfl, Nat.le_of_ble_eq_true rfl⟩) rfl hl.1 rfl (Nat.le_of_ble_eq_true rfl) (Nat.zero_le _) (Nat.zero_le _) dX0_serve_25 (fun H locs hw => ?_)
        refine lv_istore (lv' := [(5, .int (nI (4 * g + i16))), (0, .ref (a 0)), (1, .int (nI g)), (2, .int v), (3, .int (serveN σ g v i16)), (4, .int (nI i16))]) S.1 S.2.1 dX0_serve_28 hl (by decide) rfl (fun ls hl => ?_)
        refine lv_aload_n S.1 S.2.1 dX0_serve_30 rfl (lv_at hl 1 rfl) ?_
        refine bx_get S hK hin hw.1 0 rfl rfl 10 (by decide) flX0_serve_41 rfl dX0_serve_31 ?_
        refine lv_iload S.1 S.2.1 dX0_serve_34 (lv_at hl 0 rfl) ?_
        refine bx_iald (v := (serveG σ g v i16) 10 (4 * g + i16)) S hK hw.1 11 1 rfl rfl (by omega) (by decide) rfl dX0_serve_36 ?_
        refine lv_iconst (v := 2) S.1 S.2.1 dX0_serve_37 (by decide) ?_
        refine br_ne (tgt := 55) S dX0_serve_38 (by decide) (fun c38 => ?_) (fun c38 => ?_)
        · refine lv_iinc (v := nI (i16 + 1)) (lv' := [(4, .int (nI (i16 + 1))), (5, .int (nI (4 * g + i16))), (0, .ref (a 0)), (1, .int (nI g)), (2, .int v), (3, .int (serveN σ g v i16))]) S.1 S.2.1 dX0_serve_55 hl (k := 5) rfl (nI_1 i16) (by decide) rfl (fun ls hl => ?_)
          refine lv_goto (tgt := 16) S.1 S.2.1 dX0_serve_58 (by decide) ?_
          have ea : serveN σ g v (i16 + 1) = serveN σ g v i16 := by simp only [serveN, itF, serveC, eq_true c19, eq_false c38, ↓reduceIte]
          exact ih_16 (i16 + 1) (by omega) _ _ (Wd.cast (congrArg (wX cZ cI a) (by rw [show serveG σ g v (i16 + 1) = serveS g v i16 (serveG σ g v i16) from rfl]; simp only [serveS, eq_true c19, eq_false c38, ↓reduceIte])) hw) _ (by rw [ea]; exact lv_sub hl [2, 3, 4, 5, 0] rfl)
        · refine lv_aload_n S.1 S.2.1 dX0_serve_41 rfl (lv_at hl 1 rfl) ?_
          refine bx_get S hK hin hw.1 0 rfl rfl 13 (by decide) flX0_serve_50 rfl dX0_serve_42 ?_
          refine lv_iload S.1 S.2.1 dX0_serve_45 (lv_at hl 0 rfl) ?_
          refine lv_dup2_11 S.1 S.2.1 dX0_serve_47 rfl rfl ?_
          refine bx_iald (v := (serveG σ g v i16) 13 (4 * g + i16)) S hK hw.1 14 1 rfl rfl (by omega) (by decide) rfl dX0_serve_48 ?_
          refine lv_iload_n S.1 S.2.1 dX0_serve_49 rfl (lv_at hl 3 rfl) ?_
          refine lv_iadd S.1 S.2.1 dX0_serve_50 ?_
          refine bx_iast S hK hw 14 1 rfl rfl (by omega) (by decide) (wX_s13 cZ cI a (serveG σ g v i16) (4 * g + i16) (((serveG σ g v i16) 13 (4 * g + i16)) + v)) dX0_serve_51 (fun H locs hw => ?_)
          refine lv_iinc (v := (serveN σ g v i16) + 1) (lv' := [(3, .int ((serveN σ g v i16) + 1)), (5, .int (nI (4 * g + i16))), (0, .ref (a 0)), (1, .int (nI g)), (2, .int v), (4, .int (nI i16))]) S.1 S.2.1 dX0_serve_52 hl (k := 4) rfl (rfl) (by decide) rfl (fun ls hl => ?_)
          refine lv_iinc (v := nI (i16 + 1)) (lv' := [(4, .int (nI (i16 + 1))), (3, .int ((serveN σ g v i16) + 1)), (5, .int (nI (4 * g + i16))), (0, .ref (a 0)), (1, .int (nI g)), (2, .int v)]) S.1 S.2.1 dX0_serve_55 hl (k := 5) rfl (nI_1 i16) (by decide) rfl (fun ls hl => ?_)
          refine lv_goto (tgt := 16) S.1 S.2.1 dX0_serve_58 (by decide) ?_
          have ea : serveN σ g v (i16 + 1) = (serveN σ g v i16) + 1 := by simp only [serveN, itF, serveC, eq_true c19, eq_true c38, ↓reduceIte]
          exact ih_16 (i16 + 1) (by omega) _ _ (Wd.cast (congrArg (wX cZ cI a) (by rw [show serveG σ g v (i16 + 1) = serveS g v i16 (serveG σ g v i16) from rfl]; simp only [serveS, eq_true c19, eq_true c38, ↓reduceIte])) hw) _ (by rw [ea]; exact lv_sub hl [3, 4, 5, 1, 0] rfl)
  exact L16 (4 - 0) 0 (by omega) _ _ hw _ (lv_sub hl [2, 3, 4, 1, 0] rfl)

theorem inX0_tick : ∀ w ∈ u_ws RX0 TX0 18, w ∈ wsX0_tick := fun _ h => List.mem_cons_of_mem _ (List.mem_append_left _ (List.mem_append_right _ h))
theorem flX0_tick_115 : Cond.fieldLink RX0 115 "StandbyPair" "time" "I" ∈ wsX0_tick := by decide +kernel
set_option maxHeartbeats 4000000 in
set_option maxRecDepth 100000 in
theorem kX0_tick (l : Launch) (D : va_G) (cZ cI : ClassId) (a : Nat → Nat) (σ : sC) {nt : Nat} (hn : nt < 100) (h1 : ¬ nI nt < 1) (h2 : ¬ 50 < nI nt) : MI l yX0_tick wsX0_tick ({ frames := 6, cells := 0, slots := 0, locals := 142 } : Room) D (tyZ cZ cI) [.ref (a 0), .int (nI nt)] (wX cZ cI a σ) ((tickF σ nt) 17 0) (wX cZ cI a (tickF σ nt)) := by
  refine MI.of (cc := cX0_tick) (maxL := 4) (ty := .int) (by decide) rfl (rfl) ⟨rfl, rfl⟩ (Nat.le_of_ble_eq_true rfl) ?_
  intro p e s m args below meth c A Q S hK hret ls hl hw
  replace hl : lv_has ls 4 [(0, .ref (a 0)), (1, .int (nI nt))] := hl
  replace S : CallFix p m c cX0_tick 4 s args wsX0_tick RX0 := S
  have hin := inX0_tick
  refine lv_iload_n S.1 S.2.1 dX0_tick_0 rfl (lv_at hl 1 rfl) ?_
  refine lv_iconst (v := 1) S.1 S.2.1 dX0_tick_1 (by decide) ?_
  refine lv_bipush (v := 50) S.1 S.2.1 dX0_tick_2 (by decide) ?_
  refine bc_sv (As := [.int (nI nt), .int 1, .int 50]) (rest := []) S hK hw (kX0_checkRange l D _ (nI nt) 1 50 h1 h2) (va_cwS 3 S.2.2.2.2 gX0_tick_X0_checkRange rfl rfl rfl (by decide +kernel) ⟨Nat.le_of_ble_eq_true rfl, Nat.le_of_ble_eq_true rfl⟩) rfl hl.1 rfl (Nat.le_of_ble_eq_true rfl) (Nat.zero_le _) (Nat.zero_le _) dX0_tick_4 (fun H locs hw => ?_)
  refine lv_iconst (v := nI 0) S.1 S.2.1 dX0_tick_7 (by decide) ?_
  refine lv_istore_n (lv' := [(2, .int (nI 0)), (0, .ref (a 0)), (1, .int (nI nt))]) S.1 S.2.1 dX0_tick_8 rfl hl (by decide) rfl (fun ls hl => ?_)
  have L9 : ∀ (n i9 : Nat), i9 + n = nt → ∀ (H : Heap) (locs : List Loc), Wd D A s.heap (wX cZ cI a (itF tickT σ i9)) H locs → ∀ ls : Array Slot, lv_has ls 4 [(0, .ref (a 0)), (1, .int (nI nt)), (2, .int (nI i9))] → W p l e ({ frames := 6, cells := 0, slots := 0, locals := 142 } : Room) s m args below meth c H locs 0 0 Q (F0 m 9 ls []) := by
    intro n
    induction n with
    | zero =>
      intro i9 hi H locs hw ls hl
      have e9 : nt = i9 := by omega
      subst e9
      refine lv_iload_n S.1 S.2.1 dX0_tick_9 rfl (lv_at hl 2 rfl) ?_
      refine lv_iload_n S.1 S.2.1 dX0_tick_10 rfl (lv_at hl 1 rfl) ?_
      refine br_ge (tgt := 48) S dX0_tick_11 (by decide) (fun c11 => ?_) (fun c11 => ?_)
      · refine lv_aload_n S.1 S.2.1 dX0_tick_48 rfl (lv_at hl 0 rfl) ?_
        refine lv_dup S.1 S.2.1 dX0_tick_49 rfl ?_
        refine bx_get S hK hin hw.1 0 rfl rfl 17 (by decide) flX0_tick_115 rfl dX0_tick_50 ?_
        refine lv_iload_n S.1 S.2.1 dX0_tick_53 rfl (lv_at hl 1 rfl) ?_
        refine lv_iadd S.1 S.2.1 dX0_tick_54 ?_
        refine bx_put S hK hin tyX0 tyX0_ok nmX0 hw 0 rfl rfl 17 (by decide) flX0_tick_115 rfl (by decide +kernel) (Nat.le_of_ble_eq_true rfl) (wX_s17 cZ cI a (itF tickT σ nt) (((itF tickT σ nt) 17 0) + (nI nt))) dX0_tick_55 (fun H locs hw => ?_)
        refine lv_aload_n S.1 S.2.1 dX0_tick_58 rfl (lv_at hl 0 rfl) ?_
        refine bx_get S hK hin hw.1 0 rfl rfl 17 (by decide) flX0_tick_115 rfl dX0_tick_59 ?_
        exact hret hw dX0_tick_62 (rfl) (congrArg (wX cZ cI a) (rfl))
      · exact absurd c11 (nlt_nI hn)
    | succ n ih_9 =>
      intro i9 hi H locs hw ls hl
      have hi9 : i9 < nt := by omega
      refine lv_iload_n S.1 S.2.1 dX0_tick_9 rfl (lv_at hl 2 rfl) ?_
      refine lv_iload_n S.1 S.2.1 dX0_tick_10 rfl (lv_at hl 1 rfl) ?_
      refine br_ge (tgt := 48) S dX0_tick_11 (by decide) (fun c11 => ?_) (fun c11 => ?_)
      · exact absurd c11 (not_not_intro (lt_nI hi9 hn))
      · refine lv_iconst (v := nI 0) S.1 S.2.1 dX0_tick_14 (by decide) ?_
        refine lv_istore_n (lv' := [(3, .int (nI 0)), (0, .ref (a 0)), (1, .int (nI nt)), (2, .int (nI i9))]) S.1 S.2.1 dX0_tick_15 rfl hl (by decide) rfl (fun ls hl => ?_)
        have L16 : ∀ (n i16 : Nat), i16 + n = 3 → ∀ (H : Heap) (locs : List Loc), Wd D A s.heap (wX cZ cI a (itF groupT (itF tickT σ i9) i16)) H locs → ∀ ls : Array Slot, lv_has ls 4 [(0, .ref (a 0)), (1, .int (nI nt)), (2, .int (nI i9)), (3, .int (nI i16))] → W p l e ({ frames := 6, cells := 0, slots := 0, locals := 142 } : Room) s m args below meth c H locs 0 0 Q (F0 m 16 ls []) := by
          intro n
          induction n with
          | zero =>
            intro i16 hi H locs hw ls hl
            obtain rfl : i16 = 3 := by omega
            refine lv_iload_n S.1 S.2.1 dX0_tick_16 rfl (lv_at hl 3 rfl) ?_
            refine lv_iconst (v := nI 3) S.1 S.2.1 dX0_tick_17 (by decide) ?_
            refine br_ge (tgt := 42) S dX0_tick_18 (by decide) (fun c18 => ?_) (fun c18 => ?_)
            · refine lv_iinc (v := nI (i9 + 1)) (lv' := [(2, .int (nI (i9 + 1))), (0, .ref (a 0)), (1, .int (nI nt)), (3, .int (nI 3))]) S.1 S.2.1 dX0_tick_42 hl (k := 2) rfl (nI_1 i9) (by decide) rfl (fun ls hl => ?_)
              refine lv_goto (tgt := 9) S.1 S.2.1 dX0_tick_45 (by decide) ?_
              exact ih_9 (i9 + 1) (by omega) _ _ (Wd.cast (congrArg (wX cZ cI a) (by simp only [itF, tickT])) hw) _ (lv_sub hl [1, 2, 0] rfl)
            · exact absurd c18 (nlt_nI (by decide))
          | succ n ih_16 =>
            intro i16 hi H locs hw ls hl
            have hi16 : i16 < 3 := by omega
            refine lv_iload_n S.1 S.2.1 dX0_tick_16 rfl (lv_at hl 3 rfl) ?_
            refine lv_iconst (v := nI 3) S.1 S.2.1 dX0_tick_17 (by decide) ?_
            refine br_ge (tgt := 42) S dX0_tick_18 (by decide) (fun c18 => ?_) (fun c18 => ?_)
            · exact absurd c18 (not_not_intro (lt_nI hi16 (by decide)))
            · refine lv_aload_n S.1 S.2.1 dX0_tick_21 rfl (lv_at hl 0 rfl) ?_
              refine lv_iload_n S.1 S.2.1 dX0_tick_22 rfl (lv_at hl 3 rfl) ?_
              refine bc_vv (As := [.int (nI i16)]) (rest := []) S hK hw (kX0_runMasters l D cZ cI a (itF groupT (itF tickT σ i9) i16) (g := i16) (by omega)) (cwV 1 S.2.2.2.2 gX0_tick_X0_runMasters rfl rfl rfl (by decide +kernel) ⟨Nat.le_of_ble_eq_true rfl, Nat.le_of_ble_eq_true rfl⟩) (q0 := 0) rfl rfl rfl hl.1 rfl (Nat.le_of_ble_eq_true rfl) (Nat.zero_le _) (Nat.zero_le _) dX0_tick_23 (fun H locs hw => ?_)
              refine lv_aload_n S.1 S.2.1 dX0_tick_26 rfl (lv_at hl 0 rfl) ?_
              refine lv_iload_n S.1 S.2.1 dX0_tick_27 rfl (lv_at hl 3 rfl) ?_
              refine bc_vv (As := [.int (nI i16)]) (rest := []) S hK hw (kX0_runBackups l D cZ cI a (runM (itF groupT (itF tickT σ i9) i16) i16) (g := i16) (by omega)) (cwV 1 S.2.2.2.2 gX0_tick_X0_runBackups rfl rfl rfl (by decide +kernel) ⟨Nat.le_of_ble_eq_true rfl, Nat.le_of_ble_eq_true rfl⟩) (q0 := 0) rfl rfl rfl hl.1 rfl (Nat.le_of_ble_eq_true rfl) (Nat.zero_le _) (Nat.zero_le _) dX0_tick_28 (fun H locs hw => ?_)
              refine lv_aload_n S.1 S.2.1 dX0_tick_31 rfl (lv_at hl 0 rfl) ?_
              refine lv_iload_n S.1 S.2.1 dX0_tick_32 rfl (lv_at hl 3 rfl) ?_
              refine bc_vv (As := [.int (nI i16)]) (rest := []) S hK hw (kX0_noteGap l D cZ cI a (runB (runM (itF groupT (itF tickT σ i9) i16) i16) i16) (g := i16) (by omega)) (cwV 1 S.2.2.2.2 gX0_tick_X0_noteGap rfl rfl rfl (by decide +kernel) ⟨Nat.le_of_ble_eq_true rfl, Nat.le_of_ble_eq_true rfl⟩) (q0 := 0) rfl rfl rfl hl.1 rfl (Nat.le_of_ble_eq_true rfl) (Nat.zero_le _) (Nat.zero_le _) dX0_tick_33 (fun H locs hw => ?_)
              refine lv_iinc (v := nI (i16 + 1)) (lv' := [(3, .int (nI (i16 + 1))), (0, .ref (a 0)), (1, .int (nI nt)), (2, .int (nI i9))]) S.1 S.2.1 dX0_tick_36 hl (k := 3) rfl (nI_1 i16) (by decide) rfl (fun ls hl => ?_)
              refine lv_goto (tgt := 16) S.1 S.2.1 dX0_tick_39 (by decide) ?_
              exact ih_16 (i16 + 1) (by omega) _ _ (Wd.cast (congrArg (wX cZ cI a) (by simp only [itF, groupT])) hw) _ (lv_sub hl [1, 2, 3, 0] rfl)
        exact L16 (3 - 0) 0 (by omega) _ _ (Wd.cast (congrArg (wX cZ cI a) (by simp only [itF])) hw) _ (lv_sub hl [1, 2, 3, 0] rfl)
  exact L9 (nt - 0) 0 (by omega) _ _ hw _ (lv_sub hl [1, 2, 0] rfl)

theorem inX0_state : ∀ w ∈ u_ws RX0 TX0 18, w ∈ wsX0_state := fun _ h => List.mem_cons_of_mem _ (List.mem_append_left _ (List.mem_append_right _ h))
theorem flX0_state_41 : Cond.fieldLink RX0 41 "StandbyPair" "roles" "[I" ∈ wsX0_state := by decide +kernel
set_option maxHeartbeats 4000000 in
set_option maxRecDepth 100000 in
theorem kX0_state (l : Launch) (D : va_G) (cZ cI : ClassId) (a : Nat → Nat) (σ : sC) {r g : Nat} (hr : r < 4) (hg : g < 3) : MI l yX0_state wsX0_state ({ frames := 1, cells := 0, slots := 0, locals := 21 } : Room) D (tyZ cZ cI) [.ref (a 0), .int (nI r), .int (nI g)] (wX cZ cI a σ) (σ 10 (4 * g + r)) (wX cZ cI a σ) := by
  refine MI.of (cc := cX0_state) (maxL := 3) (ty := .int) (by decide) rfl (rfl) ⟨rfl, rfl⟩ (Nat.le_of_ble_eq_true rfl) ?_
  intro p e s m args below meth c A Q S hK hret ls hl hw
  replace hl : lv_has ls 3 [(0, .ref (a 0)), (1, .int (nI r)), (2, .int (nI g))] := hl
  replace S : CallFix p m c cX0_state 3 s args wsX0_state RX0 := S
  have hin := inX0_state
  refine lv_iload_n S.1 S.2.1 dX0_state_0 rfl (lv_at hl 1 rfl) ?_
  refine bc_sv (As := [.int (nI r)]) (rest := []) S hK hw (kX0_checkRouter l D _ (r := r) (by omega)) (va_cwS 1 S.2.2.2.2 gX0_state_X0_checkRouter rfl rfl rfl (by decide +kernel) ⟨Nat.le_of_ble_eq_true rfl, Nat.le_of_ble_eq_true rfl⟩) rfl hl.1 rfl (Nat.le_of_ble_eq_true rfl) (Nat.zero_le _) (Nat.zero_le _) dX0_state_1 (fun H locs hw => ?_)
  refine lv_iload_n S.1 S.2.1 dX0_state_4 rfl (lv_at hl 2 rfl) ?_
  refine bc_sv (As := [.int (nI g)]) (rest := []) S hK hw (kX0_checkGroup l D _ (g := g) (by omega)) (va_cwS 1 S.2.2.2.2 gX0_state_X0_checkGroup rfl rfl rfl (by decide +kernel) ⟨Nat.le_of_ble_eq_true rfl, Nat.le_of_ble_eq_true rfl⟩) rfl hl.1 rfl (Nat.le_of_ble_eq_true rfl) (Nat.zero_le _) (Nat.zero_le _) dX0_state_5 (fun H locs hw => ?_)
  refine lv_aload_n S.1 S.2.1 dX0_state_8 rfl (lv_at hl 0 rfl) ?_
  refine bx_get S hK hin hw.1 0 rfl rfl 10 (by decide) flX0_state_41 rfl dX0_state_9 ?_
  refine lv_iload_n S.1 S.2.1 dX0_state_12 rfl (lv_at hl 1 rfl) ?_
  refine lv_iload_n S.1 S.2.1 dX0_state_13 rfl (lv_at hl 2 rfl) ?_
  refine bc_si (As := [.int (nI r), .int (nI g)]) (rest := [.ref (a 11)]) S hK hw (kX0_placeOf l D _ (r := r) (g := g) (by omega) (by omega)) (va_cwS 2 S.2.2.2.2 gX0_state_X0_placeOf rfl rfl rfl (by decide +kernel) ⟨Nat.le_of_ble_eq_true rfl, Nat.le_of_ble_eq_true rfl⟩) rfl hl.1 rfl (Nat.le_of_ble_eq_true rfl) (Nat.zero_le _) (Nat.zero_le _) dX0_state_14 (fun H locs hw => ?_)
  refine bx_iald (v := σ 10 (4 * g + r)) S hK hw.1 11 1 rfl rfl (by omega) (by decide) rfl dX0_state_17 ?_
  exact hret hw dX0_state_18 (rfl) (congrArg (wX cZ cI a) (rfl))

theorem inX0_changes : ∀ w ∈ u_ws RX0 TX0 18, w ∈ wsX0_changes := fun _ h => List.mem_cons_of_mem _ (List.mem_append_left _ (List.mem_append_right _ h))
theorem flX0_changes_53 : Cond.fieldLink RX0 53 "StandbyPair" "promotions" "[I" ∈ wsX0_changes := by decide +kernel
set_option maxHeartbeats 4000000 in
set_option maxRecDepth 100000 in
theorem kX0_changes (l : Launch) (D : va_G) (cZ cI : ClassId) (a : Nat → Nat) (σ : sC) {r g : Nat} (hr : r < 4) (hg : g < 3) : MI l yX0_changes wsX0_changes ({ frames := 1, cells := 0, slots := 0, locals := 21 } : Room) D (tyZ cZ cI) [.ref (a 0), .int (nI r), .int (nI g)] (wX cZ cI a σ) (σ 14 (4 * g + r)) (wX cZ cI a σ) := by
  refine MI.of (cc := cX0_changes) (maxL := 3) (ty := .int) (by decide) rfl (rfl) ⟨rfl, rfl⟩ (Nat.le_of_ble_eq_true rfl) ?_
  intro p e s m args below meth c A Q S hK hret ls hl hw
  replace hl : lv_has ls 3 [(0, .ref (a 0)), (1, .int (nI r)), (2, .int (nI g))] := hl
  replace S : CallFix p m c cX0_changes 3 s args wsX0_changes RX0 := S
  have hin := inX0_changes
  refine lv_iload_n S.1 S.2.1 dX0_changes_0 rfl (lv_at hl 1 rfl) ?_
  refine bc_sv (As := [.int (nI r)]) (rest := []) S hK hw (kX0_checkRouter l D _ (r := r) (by omega)) (va_cwS 1 S.2.2.2.2 gX0_changes_X0_checkRouter rfl rfl rfl (by decide +kernel) ⟨Nat.le_of_ble_eq_true rfl, Nat.le_of_ble_eq_true rfl⟩) rfl hl.1 rfl (Nat.le_of_ble_eq_true rfl) (Nat.zero_le _) (Nat.zero_le _) dX0_changes_1 (fun H locs hw => ?_)
  refine lv_iload_n S.1 S.2.1 dX0_changes_4 rfl (lv_at hl 2 rfl) ?_
  refine bc_sv (As := [.int (nI g)]) (rest := []) S hK hw (kX0_checkGroup l D _ (g := g) (by omega)) (va_cwS 1 S.2.2.2.2 gX0_changes_X0_checkGroup rfl rfl rfl (by decide +kernel) ⟨Nat.le_of_ble_eq_true rfl, Nat.le_of_ble_eq_true rfl⟩) rfl hl.1 rfl (Nat.le_of_ble_eq_true rfl) (Nat.zero_le _) (Nat.zero_le _) dX0_changes_5 (fun H locs hw => ?_)
  refine lv_aload_n S.1 S.2.1 dX0_changes_8 rfl (lv_at hl 0 rfl) ?_
  refine bx_get S hK hin hw.1 0 rfl rfl 14 (by decide) flX0_changes_53 rfl dX0_changes_9 ?_
  refine lv_iload_n S.1 S.2.1 dX0_changes_12 rfl (lv_at hl 1 rfl) ?_
  refine lv_iload_n S.1 S.2.1 dX0_changes_13 rfl (lv_at hl 2 rfl) ?_
  refine bc_si (As := [.int (nI r), .int (nI g)]) (rest := [.ref (a 15)]) S hK hw (kX0_placeOf l D _ (r := r) (g := g) (by omega) (by omega)) (va_cwS 2 S.2.2.2.2 gX0_changes_X0_placeOf rfl rfl rfl (by decide +kernel) ⟨Nat.le_of_ble_eq_true rfl, Nat.le_of_ble_eq_true rfl⟩) rfl hl.1 rfl (Nat.le_of_ble_eq_true rfl) (Nat.zero_le _) (Nat.zero_le _) dX0_changes_14 (fun H locs hw => ?_)
  refine bx_iald (v := σ 14 (4 * g + r)) S hK hw.1 15 1 rfl rfl (by omega) (by decide) rfl dX0_changes_17 ?_
  exact hret hw dX0_changes_18 (rfl) (congrArg (wX cZ cI a) (rfl))

theorem inX0_known : ∀ w ∈ u_ws RX0 TX0 18, w ∈ wsX0_known := fun _ h => List.mem_cons_of_mem _ (List.mem_append_left _ (List.mem_append_right _ h))
theorem flX0_known_50 : Cond.fieldLink RX0 50 "StandbyPair" "served" "[I" ∈ wsX0_known := by decide +kernel
set_option maxHeartbeats 4000000 in
set_option maxRecDepth 100000 in
theorem kX0_known (l : Launch) (D : va_G) (cZ cI : ClassId) (a : Nat → Nat) (σ : sC) {r g : Nat} (hr : r < 4) (hg : g < 3) : MI l yX0_known wsX0_known ({ frames := 1, cells := 0, slots := 0, locals := 21 } : Room) D (tyZ cZ cI) [.ref (a 0), .int (nI r), .int (nI g)] (wX cZ cI a σ) (σ 13 (4 * g + r)) (wX cZ cI a σ) := by
  refine MI.of (cc := cX0_known) (maxL := 3) (ty := .int) (by decide) rfl (rfl) ⟨rfl, rfl⟩ (Nat.le_of_ble_eq_true rfl) ?_
  intro p e s m args below meth c A Q S hK hret ls hl hw
  replace hl : lv_has ls 3 [(0, .ref (a 0)), (1, .int (nI r)), (2, .int (nI g))] := hl
  replace S : CallFix p m c cX0_known 3 s args wsX0_known RX0 := S
  have hin := inX0_known
  refine lv_iload_n S.1 S.2.1 dX0_known_0 rfl (lv_at hl 1 rfl) ?_
  refine bc_sv (As := [.int (nI r)]) (rest := []) S hK hw (kX0_checkRouter l D _ (r := r) (by omega)) (va_cwS 1 S.2.2.2.2 gX0_known_X0_checkRouter rfl rfl rfl (by decide +kernel) ⟨Nat.le_of_ble_eq_true rfl, Nat.le_of_ble_eq_true rfl⟩) rfl hl.1 rfl (Nat.le_of_ble_eq_true rfl) (Nat.zero_le _) (Nat.zero_le _) dX0_known_1 (fun H locs hw => ?_)
  refine lv_iload_n S.1 S.2.1 dX0_known_4 rfl (lv_at hl 2 rfl) ?_
  refine bc_sv (As := [.int (nI g)]) (rest := []) S hK hw (kX0_checkGroup l D _ (g := g) (by omega)) (va_cwS 1 S.2.2.2.2 gX0_known_X0_checkGroup rfl rfl rfl (by decide +kernel) ⟨Nat.le_of_ble_eq_true rfl, Nat.le_of_ble_eq_true rfl⟩) rfl hl.1 rfl (Nat.le_of_ble_eq_true rfl) (Nat.zero_le _) (Nat.zero_le _) dX0_known_5 (fun H locs hw => ?_)
  refine lv_aload_n S.1 S.2.1 dX0_known_8 rfl (lv_at hl 0 rfl) ?_
  refine bx_get S hK hin hw.1 0 rfl rfl 13 (by decide) flX0_known_50 rfl dX0_known_9 ?_
  refine lv_iload_n S.1 S.2.1 dX0_known_12 rfl (lv_at hl 1 rfl) ?_
  refine lv_iload_n S.1 S.2.1 dX0_known_13 rfl (lv_at hl 2 rfl) ?_
  refine bc_si (As := [.int (nI r), .int (nI g)]) (rest := [.ref (a 14)]) S hK hw (kX0_placeOf l D _ (r := r) (g := g) (by omega) (by omega)) (va_cwS 2 S.2.2.2.2 gX0_known_X0_placeOf rfl rfl rfl (by decide +kernel) ⟨Nat.le_of_ble_eq_true rfl, Nat.le_of_ble_eq_true rfl⟩) rfl hl.1 rfl (Nat.le_of_ble_eq_true rfl) (Nat.zero_le _) (Nat.zero_le _) dX0_known_14 (fun H locs hw => ?_)
  refine bx_iald (v := σ 13 (4 * g + r)) S hK hw.1 14 1 rfl rfl (by omega) (by decide) rfl dX0_known_17 ?_
  exact hret hw dX0_known_18 (rfl) (congrArg (wX cZ cI a) (rfl))

theorem inX0_priority : ∀ w ∈ u_ws RX0 TX0 18, w ∈ wsX0_priority := fun _ h => List.mem_cons_of_mem _ (List.mem_append_left _ (List.mem_append_right _ h))
theorem flX0_priority_41 : Cond.fieldLink RX0 41 "StandbyPair" "roles" "[I" ∈ wsX0_priority := by decide +kernel
set_option maxHeartbeats 4000000 in
set_option maxRecDepth 100000 in
theorem kX0_priority (l : Launch) (D : va_G) (cZ cI : ClassId) (a : Nat → Nat) (σ : sC) {r g : Nat} (hr : r < 4) (hg : g < 3) : MI l yX0_priority wsX0_priority ({ frames := 2, cells := 0, slots := 0, locals := 46 } : Room) D (tyZ cZ cI) [.ref (a 0), .int (nI r), .int (nI g)] (wX cZ cI a σ) (prioF σ r g) (wX cZ cI a σ) := by
  refine MI.of (cc := cX0_priority) (maxL := 3) (ty := .int) (by decide) rfl (rfl) ⟨rfl, rfl⟩ (Nat.le_of_ble_eq_true rfl) ?_
  intro p e s m args below meth c A Q S hK hret ls hl hw
  replace hl : lv_has ls 3 [(0, .ref (a 0)), (1, .int (nI r)), (2, .int (nI g))] := hl
  replace S : CallFix p m c cX0_priority 3 s args wsX0_priority RX0 := S
  have hin := inX0_priority
  refine lv_iload_n S.1 S.2.1 dX0_priority_0 rfl (lv_at hl 1 rfl) ?_
  refine bc_sv (As := [.int (nI r)]) (rest := []) S hK hw (kX0_checkRouter l D _ (r := r) (by omega)) (va_cwS 1 S.2.2.2.2 gX0_priority_X0_checkRouter rfl rfl rfl (by decide +kernel) ⟨Nat.le_of_ble_eq_true rfl, Nat.le_of_ble_eq_true rfl⟩) rfl hl.1 rfl (Nat.le_of_ble_eq_true rfl) (Nat.zero_le _) (Nat.zero_le _) dX0_priority_1 (fun H locs hw => ?_)
  refine lv_iload_n S.1 S.2.1 dX0_priority_4 rfl (lv_at hl 2 rfl) ?_
  refine bc_sv (As := [.int (nI g)]) (rest := []) S hK hw (kX0_checkGroup l D _ (g := g) (by omega)) (va_cwS 1 S.2.2.2.2 gX0_priority_X0_checkGroup rfl rfl rfl (by decide +kernel) ⟨Nat.le_of_ble_eq_true rfl, Nat.le_of_ble_eq_true rfl⟩) rfl hl.1 rfl (Nat.le_of_ble_eq_true rfl) (Nat.zero_le _) (Nat.zero_le _) dX0_priority_5 (fun H locs hw => ?_)
  refine lv_aload_n S.1 S.2.1 dX0_priority_8 rfl (lv_at hl 0 rfl) ?_
  refine bx_get S hK hin hw.1 0 rfl rfl 10 (by decide) flX0_priority_41 rfl dX0_priority_9 ?_
  refine lv_iload_n S.1 S.2.1 dX0_priority_12 rfl (lv_at hl 1 rfl) ?_
  refine lv_iload_n S.1 S.2.1 dX0_priority_13 rfl (lv_at hl 2 rfl) ?_
  refine bc_si (As := [.int (nI r), .int (nI g)]) (rest := [.ref (a 11)]) S hK hw (kX0_placeOf l D _ (r := r) (g := g) (by omega) (by omega)) (va_cwS 2 S.2.2.2.2 gX0_priority_X0_placeOf rfl rfl rfl (by decide +kernel) ⟨Nat.le_of_ble_eq_true rfl, Nat.le_of_ble_eq_true rfl⟩) rfl hl.1 rfl (Nat.le_of_ble_eq_true rfl) (Nat.zero_le _) (Nat.zero_le _) dX0_priority_14 (fun H locs hw => ?_)
  refine bx_iald (v := σ 10 (4 * g + r)) S hK hw.1 11 1 rfl rfl (by omega) (by decide) rfl dX0_priority_17 ?_
  refine bz_ne (tgt := 25) S dX0_priority_18 (by decide) (fun c18 => ?_) (fun c18 => ?_)
  · refine lv_aload_n S.1 S.2.1 dX0_priority_25 rfl (lv_at hl 0 rfl) ?_
    refine lv_iload_n S.1 S.2.1 dX0_priority_26 rfl (lv_at hl 1 rfl) ?_
    refine lv_iload_n S.1 S.2.1 dX0_priority_27 rfl (lv_at hl 2 rfl) ?_
    refine bc_vi (As := [.int (nI r), .int (nI g)]) (rest := []) S hK hw (kX0_loweredPriority l D cZ cI a σ (r := r) (g := g) (by omega) (by omega)) (cwV 2 S.2.2.2.2 gX0_priority_X0_loweredPriority rfl rfl rfl (by decide +kernel) ⟨Nat.le_of_ble_eq_true rfl, Nat.le_of_ble_eq_true rfl⟩) (q0 := 0) rfl rfl rfl hl.1 rfl (Nat.le_of_ble_eq_true rfl) (Nat.zero_le _) (Nat.zero_le _) dX0_priority_28 (fun H locs hw => ?_)
    exact hret hw dX0_priority_31 (by simp only [prioF, eq_false c18, ↓reduceIte]) (congrArg (wX cZ cI a) (rfl))
  · refine lv_iconst (v := 0) S.1 S.2.1 dX0_priority_21 (by decide) ?_
    refine lv_goto (tgt := 31) S.1 S.2.1 dX0_priority_22 (by decide) ?_
    exact hret hw dX0_priority_31 (by simp only [prioF, eq_true c18, ↓reduceIte]) (congrArg (wX cZ cI a) (rfl))

theorem inX0_timer : ∀ w ∈ u_ws RX0 TX0 18, w ∈ wsX0_timer := fun _ h => List.mem_cons_of_mem _ (List.mem_append_left _ (List.mem_append_left _ (List.mem_append_right _ h)))
theorem flX0_timer_41 : Cond.fieldLink RX0 41 "StandbyPair" "roles" "[I" ∈ wsX0_timer := by decide +kernel
theorem flX0_timer_44 : Cond.fieldLink RX0 44 "StandbyPair" "timers" "[I" ∈ wsX0_timer := by decide +kernel
set_option maxHeartbeats 4000000 in
set_option maxRecDepth 100000 in
theorem kX0_timer (l : Launch) (D : va_G) (cZ cI : ClassId) (a : Nat → Nat) (σ : sC) {r g : Nat} (hr : r < 4) (hg : g < 3) (ho : ¬ σ 10 (4 * g + r) = 0) : MI l yX0_timer wsX0_timer ({ frames := 1, cells := 0, slots := 0, locals := 21 } : Room) D (tyZ cZ cI) [.ref (a 0), .int (nI r), .int (nI g)] (wX cZ cI a σ) (σ 11 (4 * g + r)) (wX cZ cI a σ) := by
  refine MI.of (cc := cX0_timer) (maxL := 3) (ty := .int) (by decide) rfl (rfl) ⟨rfl, rfl⟩ (Nat.le_of_ble_eq_true rfl) ?_
  intro p e s m args below meth c A Q S hK hret ls hl hw
  replace hl : lv_has ls 3 [(0, .ref (a 0)), (1, .int (nI r)), (2, .int (nI g))] := hl
  replace S : CallFix p m c cX0_timer 3 s args wsX0_timer RX0 := S
  have hin := inX0_timer
  refine lv_iload_n S.1 S.2.1 dX0_timer_0 rfl (lv_at hl 1 rfl) ?_
  refine bc_sv (As := [.int (nI r)]) (rest := []) S hK hw (kX0_checkRouter l D _ (r := r) (by omega)) (va_cwS 1 S.2.2.2.2 gX0_timer_X0_checkRouter rfl rfl rfl (by decide +kernel) ⟨Nat.le_of_ble_eq_true rfl, Nat.le_of_ble_eq_true rfl⟩) rfl hl.1 rfl (Nat.le_of_ble_eq_true rfl) (Nat.zero_le _) (Nat.zero_le _) dX0_timer_1 (fun H locs hw => ?_)
  refine lv_iload_n S.1 S.2.1 dX0_timer_4 rfl (lv_at hl 2 rfl) ?_
  refine bc_sv (As := [.int (nI g)]) (rest := []) S hK hw (kX0_checkGroup l D _ (g := g) (by omega)) (va_cwS 1 S.2.2.2.2 gX0_timer_X0_checkGroup rfl rfl rfl (by decide +kernel) ⟨Nat.le_of_ble_eq_true rfl, Nat.le_of_ble_eq_true rfl⟩) rfl hl.1 rfl (Nat.le_of_ble_eq_true rfl) (Nat.zero_le _) (Nat.zero_le _) dX0_timer_5 (fun H locs hw => ?_)
  refine lv_aload_n S.1 S.2.1 dX0_timer_8 rfl (lv_at hl 0 rfl) ?_
  refine bx_get S hK hin hw.1 0 rfl rfl 10 (by decide) flX0_timer_41 rfl dX0_timer_9 ?_
  refine lv_iload_n S.1 S.2.1 dX0_timer_12 rfl (lv_at hl 1 rfl) ?_
  refine lv_iload_n S.1 S.2.1 dX0_timer_13 rfl (lv_at hl 2 rfl) ?_
  refine bc_si (As := [.int (nI r), .int (nI g)]) (rest := [.ref (a 11)]) S hK hw (kX0_placeOf l D _ (r := r) (g := g) (by omega) (by omega)) (va_cwS 2 S.2.2.2.2 gX0_timer_X0_placeOf rfl rfl rfl (by decide +kernel) ⟨Nat.le_of_ble_eq_true rfl, Nat.le_of_ble_eq_true rfl⟩) rfl hl.1 rfl (Nat.le_of_ble_eq_true rfl) (Nat.zero_le _) (Nat.zero_le _) dX0_timer_14 (fun H locs hw => ?_)
  refine bx_iald (v := σ 10 (4 * g + r)) S hK hw.1 11 1 rfl rfl (by omega) (by decide) rfl dX0_timer_17 ?_
  refine bz_ne (tgt := 31) S dX0_timer_18 (by decide) (fun c18 => ?_) (fun c18 => ?_)
  · refine lv_aload_n S.1 S.2.1 dX0_timer_31 rfl (lv_at hl 0 rfl) ?_
    refine bx_get S hK hin hw.1 0 rfl rfl 11 (by decide) flX0_timer_44 rfl dX0_timer_32 ?_
    refine lv_iload_n S.1 S.2.1 dX0_timer_35 rfl (lv_at hl 1 rfl) ?_
    refine lv_iload_n S.1 S.2.1 dX0_timer_36 rfl (lv_at hl 2 rfl) ?_
    refine bc_si (As := [.int (nI r), .int (nI g)]) (rest := [.ref (a 12)]) S hK hw (kX0_placeOf l D _ (r := r) (g := g) (by omega) (by omega)) (va_cwS 2 S.2.2.2.2 gX0_timer_X0_placeOf rfl rfl rfl (by decide +kernel) ⟨Nat.le_of_ble_eq_true rfl, Nat.le_of_ble_eq_true rfl⟩) rfl hl.1 rfl (Nat.le_of_ble_eq_true rfl) (Nat.zero_le _) (Nat.zero_le _) dX0_timer_37 (fun H locs hw => ?_)
    refine bx_iald (v := σ 11 (4 * g + r)) S hK hw.1 12 1 rfl rfl (by omega) (by decide) rfl dX0_timer_40 ?_
    exact hret hw dX0_timer_41 (rfl) (congrArg (wX cZ cI a) (rfl))
  · exact absurd c18 ho

theorem inX0_masters : ∀ w ∈ u_ws RX0 TX0 18, w ∈ wsX0_masters := fun _ h => List.mem_cons_of_mem _ (List.mem_append_left _ (List.mem_append_right _ h))
set_option maxHeartbeats 4000000 in
set_option maxRecDepth 100000 in
theorem kX0_masters (l : Launch) (D : va_G) (cZ cI : ClassId) (a : Nat → Nat) (σ : sC) {g : Nat} (hg : g < 3) : MI l yX0_masters wsX0_masters ({ frames := 2, cells := 0, slots := 0, locals := 45 } : Room) D (tyZ cZ cI) [.ref (a 0), .int (nI g)] (wX cZ cI a σ) (memW σ 2 g) (wX cZ cI a σ) := by
  refine MI.of (cc := cX0_masters) (maxL := 2) (ty := .int) (by decide) rfl (rfl) ⟨rfl, rfl⟩ (Nat.le_of_ble_eq_true rfl) ?_
  intro p e s m args below meth c A Q S hK hret ls hl hw
  replace hl : lv_has ls 2 [(0, .ref (a 0)), (1, .int (nI g))] := hl
  replace S : CallFix p m c cX0_masters 2 s args wsX0_masters RX0 := S
  have hin := inX0_masters
  refine lv_iload_n S.1 S.2.1 dX0_masters_0 rfl (lv_at hl 1 rfl) ?_
  refine bc_sv (As := [.int (nI g)]) (rest := []) S hK hw (kX0_checkGroup l D _ (g := g) (by omega)) (va_cwS 1 S.2.2.2.2 gX0_masters_X0_checkGroup rfl rfl rfl (by decide +kernel) ⟨Nat.le_of_ble_eq_true rfl, Nat.le_of_ble_eq_true rfl⟩) rfl hl.1 rfl (Nat.le_of_ble_eq_true rfl) (Nat.zero_le _) (Nat.zero_le _) dX0_masters_1 (fun H locs hw => ?_)
  refine lv_aload_n S.1 S.2.1 dX0_masters_4 rfl (lv_at hl 0 rfl) ?_
  refine lv_iconst (v := 2) S.1 S.2.1 dX0_masters_5 (by decide) ?_
  refine lv_iload_n S.1 S.2.1 dX0_masters_6 rfl (lv_at hl 1 rfl) ?_
  refine bc_vi (As := [.int 2, .int (nI g)]) (rest := []) S hK hw (kX0_membersWith l D cZ cI a σ 2 (g := g) (by omega)) (cwV 2 S.2.2.2.2 gX0_masters_X0_membersWith rfl rfl rfl (by decide +kernel) ⟨Nat.le_of_ble_eq_true rfl, Nat.le_of_ble_eq_true rfl⟩) (q0 := 0) rfl rfl rfl hl.1 rfl (Nat.le_of_ble_eq_true rfl) (Nat.zero_le _) (Nat.zero_le _) dX0_masters_7 (fun H locs hw => ?_)
  exact hret hw dX0_masters_10 (rfl) (congrArg (wX cZ cI a) (rfl))

theorem inX0_gaps : ∀ w ∈ u_ws RX0 TX0 18, w ∈ wsX0_gaps := fun _ h => List.mem_cons_of_mem _ (List.mem_append_left _ (List.mem_append_right _ h))
theorem flX0_gaps_32 : Cond.fieldLink RX0 32 "StandbyPair" "gapTicks" "[I" ∈ wsX0_gaps := by decide +kernel
set_option maxHeartbeats 4000000 in
set_option maxRecDepth 100000 in
theorem kX0_gaps (l : Launch) (D : va_G) (cZ cI : ClassId) (a : Nat → Nat) (σ : sC) {g : Nat} (hg : g < 3) : MI l yX0_gaps wsX0_gaps ({ frames := 1, cells := 0, slots := 0, locals := 20 } : Room) D (tyZ cZ cI) [.ref (a 0), .int (nI g)] (wX cZ cI a σ) (σ 7 g) (wX cZ cI a σ) := by
  refine MI.of (cc := cX0_gaps) (maxL := 2) (ty := .int) (by decide) rfl (rfl) ⟨rfl, rfl⟩ (Nat.le_of_ble_eq_true rfl) ?_
  intro p e s m args below meth c A Q S hK hret ls hl hw
  replace hl : lv_has ls 2 [(0, .ref (a 0)), (1, .int (nI g))] := hl
  replace S : CallFix p m c cX0_gaps 2 s args wsX0_gaps RX0 := S
  have hin := inX0_gaps
  refine lv_iload_n S.1 S.2.1 dX0_gaps_0 rfl (lv_at hl 1 rfl) ?_
  refine bc_sv (As := [.int (nI g)]) (rest := []) S hK hw (kX0_checkGroup l D _ (g := g) (by omega)) (va_cwS 1 S.2.2.2.2 gX0_gaps_X0_checkGroup rfl rfl rfl (by decide +kernel) ⟨Nat.le_of_ble_eq_true rfl, Nat.le_of_ble_eq_true rfl⟩) rfl hl.1 rfl (Nat.le_of_ble_eq_true rfl) (Nat.zero_le _) (Nat.zero_le _) dX0_gaps_1 (fun H locs hw => ?_)
  refine lv_aload_n S.1 S.2.1 dX0_gaps_4 rfl (lv_at hl 0 rfl) ?_
  refine bx_get S hK hin hw.1 0 rfl rfl 7 (by decide) flX0_gaps_32 rfl dX0_gaps_5 ?_
  refine lv_iload_n S.1 S.2.1 dX0_gaps_8 rfl (lv_at hl 1 rfl) ?_
  refine bx_iald (v := σ 7 g) S hK hw.1 8 1 rfl rfl (by omega) (by decide) rfl dX0_gaps_9 ?_
  exact hret hw dX0_gaps_10 (rfl) (congrArg (wX cZ cI a) (rfl))

theorem inX0_sent : ∀ w ∈ u_ws RX0 TX0 18, w ∈ wsX0_sent := fun _ h => List.mem_cons_of_mem _ (List.mem_append_left _ (List.mem_append_right _ h))
theorem flX0_sent_35 : Cond.fieldLink RX0 35 "StandbyPair" "advertisements" "[I" ∈ wsX0_sent := by decide +kernel
set_option maxHeartbeats 4000000 in
set_option maxRecDepth 100000 in
theorem kX0_sent (l : Launch) (D : va_G) (cZ cI : ClassId) (a : Nat → Nat) (σ : sC) {g : Nat} (hg : g < 3) : MI l yX0_sent wsX0_sent ({ frames := 1, cells := 0, slots := 0, locals := 20 } : Room) D (tyZ cZ cI) [.ref (a 0), .int (nI g)] (wX cZ cI a σ) (σ 8 g) (wX cZ cI a σ) := by
  refine MI.of (cc := cX0_sent) (maxL := 2) (ty := .int) (by decide) rfl (rfl) ⟨rfl, rfl⟩ (Nat.le_of_ble_eq_true rfl) ?_
  intro p e s m args below meth c A Q S hK hret ls hl hw
  replace hl : lv_has ls 2 [(0, .ref (a 0)), (1, .int (nI g))] := hl
  replace S : CallFix p m c cX0_sent 2 s args wsX0_sent RX0 := S
  have hin := inX0_sent
  refine lv_iload_n S.1 S.2.1 dX0_sent_0 rfl (lv_at hl 1 rfl) ?_
  refine bc_sv (As := [.int (nI g)]) (rest := []) S hK hw (kX0_checkGroup l D _ (g := g) (by omega)) (va_cwS 1 S.2.2.2.2 gX0_sent_X0_checkGroup rfl rfl rfl (by decide +kernel) ⟨Nat.le_of_ble_eq_true rfl, Nat.le_of_ble_eq_true rfl⟩) rfl hl.1 rfl (Nat.le_of_ble_eq_true rfl) (Nat.zero_le _) (Nat.zero_le _) dX0_sent_1 (fun H locs hw => ?_)
  refine lv_aload_n S.1 S.2.1 dX0_sent_4 rfl (lv_at hl 0 rfl) ?_
  refine bx_get S hK hin hw.1 0 rfl rfl 8 (by decide) flX0_sent_35 rfl dX0_sent_5 ?_
  refine lv_iload_n S.1 S.2.1 dX0_sent_8 rfl (lv_at hl 1 rfl) ?_
  refine bx_iald (v := σ 8 g) S hK hw.1 9 1 rfl rfl (by omega) (by decide) rfl dX0_sent_9 ?_
  exact hret hw dX0_sent_10 (rfl) (congrArg (wX cZ cI a) (rfl))

theorem inX0_repairs : ∀ w ∈ u_ws RX0 TX0 18, w ∈ wsX0_repairs := fun _ h => List.mem_cons_of_mem _ (List.mem_append_right _ h)
theorem flX0_repairs_127 : Cond.fieldLink RX0 127 "StandbyPair" "bulkRepairs" "I" ∈ wsX0_repairs := by decide +kernel
set_option maxHeartbeats 4000000 in
set_option maxRecDepth 100000 in
theorem kX0_repairs (l : Launch) (D : va_G) (cZ cI : ClassId) (a : Nat → Nat) (σ : sC)  : MI l yX0_repairs wsX0_repairs ({ frames := 0, cells := 0, slots := 0, locals := 0 } : Room) D (tyZ cZ cI) [.ref (a 0)] (wX cZ cI a σ) (σ 16 0) (wX cZ cI a σ) := by
  refine MI.of (cc := cX0_repairs) (maxL := 1) (ty := .int) (by decide) rfl (rfl) ⟨rfl, rfl⟩ (Nat.le_of_ble_eq_true rfl) ?_
  intro p e s m args below meth c A Q S hK hret ls hl hw
  replace hl : lv_has ls 1 [(0, .ref (a 0))] := hl
  replace S : CallFix p m c cX0_repairs 1 s args wsX0_repairs RX0 := S
  have hin := inX0_repairs
  refine lv_aload_n S.1 S.2.1 dX0_repairs_0 rfl (lv_at hl 0 rfl) ?_
  refine bx_get S hK hin hw.1 0 rfl rfl 16 (by decide) flX0_repairs_127 rfl dX0_repairs_1 ?_
  exact hret hw dX0_repairs_4 (rfl) (congrArg (wX cZ cI a) (rfl))

theorem inX0_isSettled : ∀ w ∈ u_ws RX0 TX0 18, w ∈ wsX0_isSettled := fun _ h => List.mem_cons_of_mem _ (List.mem_append_left _ (List.mem_append_right _ h))
set_option maxHeartbeats 4000000 in
set_option maxRecDepth 100000 in
theorem kX0_isSettled (l : Launch) (D : va_G) (cZ cI : ClassId) (a : Nat → Nat) (σ : sC) {g : Nat} (hg : g < 3) : MI l yX0_isSettled wsX0_isSettled ({ frames := 2, cells := 0, slots := 0, locals := 45 } : Room) D (tyZ cZ cI) [.ref (a 0), .int (nI g)] (wX cZ cI a σ) (setlF σ g) (wX cZ cI a σ) := by
  refine MI.of (cc := cX0_isSettled) (maxL := 2) (ty := .boolean) (by decide) rfl (nar_z (setlF_z σ g)) ⟨rfl, rfl⟩ (Nat.le_of_ble_eq_true rfl) ?_
  intro p e s m args below meth c A Q S hK hret ls hl hw
  replace hl : lv_has ls 2 [(0, .ref (a 0)), (1, .int (nI g))] := hl
  replace S : CallFix p m c cX0_isSettled 2 s args wsX0_isSettled RX0 := S
  have hin := inX0_isSettled
  refine lv_iload_n S.1 S.2.1 dX0_isSettled_0 rfl (lv_at hl 1 rfl) ?_
  refine bc_sv (As := [.int (nI g)]) (rest := []) S hK hw (kX0_checkGroup l D _ (g := g) (by omega)) (va_cwS 1 S.2.2.2.2 gX0_isSettled_X0_checkGroup rfl rfl rfl (by decide +kernel) ⟨Nat.le_of_ble_eq_true rfl, Nat.le_of_ble_eq_true rfl⟩) rfl hl.1 rfl (Nat.le_of_ble_eq_true rfl) (Nat.zero_le _) (Nat.zero_le _) dX0_isSettled_1 (fun H locs hw => ?_)
  refine lv_aload_n S.1 S.2.1 dX0_isSettled_4 rfl (lv_at hl 0 rfl) ?_
  refine lv_iconst (v := 2) S.1 S.2.1 dX0_isSettled_5 (by decide) ?_
  refine lv_iload_n S.1 S.2.1 dX0_isSettled_6 rfl (lv_at hl 1 rfl) ?_
  refine bc_vi (As := [.int 2, .int (nI g)]) (rest := []) S hK hw (kX0_membersWith l D cZ cI a σ 2 (g := g) (by omega)) (cwV 2 S.2.2.2.2 gX0_isSettled_X0_membersWith rfl rfl rfl (by decide +kernel) ⟨Nat.le_of_ble_eq_true rfl, Nat.le_of_ble_eq_true rfl⟩) (q0 := 0) rfl rfl rfl hl.1 rfl (Nat.le_of_ble_eq_true rfl) (Nat.zero_le _) (Nat.zero_le _) dX0_isSettled_7 (fun H locs hw => ?_)
  refine bz_ne (tgt := 28) S dX0_isSettled_10 (by decide) (fun c10 => ?_) (fun c10 => ?_)
  · refine lv_aload_n S.1 S.2.1 dX0_isSettled_28 rfl (lv_at hl 0 rfl) ?_
    refine lv_iload_n S.1 S.2.1 dX0_isSettled_29 rfl (lv_at hl 1 rfl) ?_
    refine bc_vi (As := [.int (nI g)]) (rest := []) S hK hw (kX0_hasJoinedMasters l D cZ cI a σ (g := g) (by omega)) (cwV 1 S.2.2.2.2 gX0_isSettled_X0_hasJoinedMasters rfl rfl rfl (by decide +kernel) ⟨Nat.le_of_ble_eq_true rfl, Nat.le_of_ble_eq_true rfl⟩) (q0 := 0) rfl rfl rfl hl.1 rfl (Nat.le_of_ble_eq_true rfl) (Nat.zero_le _) (Nat.zero_le _) dX0_isSettled_30 (fun H locs hw => ?_)
    refine bz_ne (tgt := 40) S dX0_isSettled_33 (by decide) (fun c33 => ?_) (fun c33 => ?_)
    · refine lv_iconst (v := 0) S.1 S.2.1 dX0_isSettled_40 (by decide) ?_
      exact hret hw dX0_isSettled_41 (by simp only [setlF, eq_false c10, eq_false c33, ↓reduceIte]) (congrArg (wX cZ cI a) (rfl))
    · refine lv_iconst (v := 1) S.1 S.2.1 dX0_isSettled_36 (by decide) ?_
      refine lv_goto (tgt := 41) S.1 S.2.1 dX0_isSettled_37 (by decide) ?_
      exact hret hw dX0_isSettled_41 (by simp only [setlF, eq_false c10, eq_true c33, ↓reduceIte]) (congrArg (wX cZ cI a) (rfl))
  · refine lv_aload_n S.1 S.2.1 dX0_isSettled_13 rfl (lv_at hl 0 rfl) ?_
    refine lv_iconst (v := 1) S.1 S.2.1 dX0_isSettled_14 (by decide) ?_
    refine lv_iload_n S.1 S.2.1 dX0_isSettled_15 rfl (lv_at hl 1 rfl) ?_
    refine bc_vi (As := [.int 1, .int (nI g)]) (rest := []) S hK hw (kX0_membersWith l D cZ cI a σ 1 (g := g) (by omega)) (cwV 2 S.2.2.2.2 gX0_isSettled_X0_membersWith rfl rfl rfl (by decide +kernel) ⟨Nat.le_of_ble_eq_true rfl, Nat.le_of_ble_eq_true rfl⟩) (q0 := 0) rfl rfl rfl hl.1 rfl (Nat.le_of_ble_eq_true rfl) (Nat.zero_le _) (Nat.zero_le _) dX0_isSettled_16 (fun H locs hw => ?_)
    refine bz_ne (tgt := 26) S dX0_isSettled_19 (by decide) (fun c19 => ?_) (fun c19 => ?_)
    · refine lv_iconst (v := 0) S.1 S.2.1 dX0_isSettled_26 (by decide) ?_
      exact hret hw dX0_isSettled_27 (by simp only [setlF, eq_true c10, eq_false c19, ↓reduceIte]) (congrArg (wX cZ cI a) (rfl))
    · refine lv_iconst (v := 1) S.1 S.2.1 dX0_isSettled_22 (by decide) ?_
      refine lv_goto (tgt := 27) S.1 S.2.1 dX0_isSettled_23 (by decide) ?_
      exact hret hw dX0_isSettled_27 (by simp only [setlF, eq_true c10, eq_true c19, ↓reduceIte]) (congrArg (wX cZ cI a) (rfl))
end
