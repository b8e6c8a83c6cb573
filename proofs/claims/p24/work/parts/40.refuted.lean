/-! ===== a start: the printed witness's, its script ninety nines; what the statement says there is false ===== -/
def nines : Array Value := (List.replicate 90 (Value.int 9)).toArray
def s9 : State := start1.aboutOf nines
theorem code_vm {y : MethodName} {bc : ByteArray} {n : Nat} {r : Option FieldType} {a : Array Value} {s s' : State} (h : s.vm = s'.vm) (hb : (Cond.code y bc n r).before a s = true) : (Cond.code y bc n r).before a s' = true := by
  have e : (Cond.code y bc n r).before a s' = (Cond.code y bc n r).before a s := by
    simp [Cond.before, Cond.holds, Cond.value, State.methodNamed?, h]
  rw [e]; exact hb
theorem s9_codes_1 : ∀ c ∈ tables_1_1.filter su_isCode, c.before start1.args0 s9 = true := by
  rw [start1.codes_are_1]
  exact List.forall_mem_cons.mpr ⟨code_vm rfl start1.code0, List.forall_mem_cons.mpr ⟨code_vm rfl start1.code1, List.forall_mem_cons.mpr ⟨code_vm rfl start1.code2, List.forall_mem_cons.mpr ⟨code_vm rfl start1.code3, List.forall_mem_cons.mpr ⟨code_vm rfl start1.code4, List.forall_mem_cons.mpr ⟨code_vm rfl start1.code5, List.forall_mem_cons.mpr ⟨code_vm rfl start1.code6, List.forall_mem_cons.mpr ⟨code_vm rfl start1.code7, List.forall_mem_cons.mpr ⟨code_vm rfl start1.code8, List.forall_mem_cons.mpr ⟨code_vm rfl start1.code9, List.forall_mem_cons.mpr ⟨code_vm rfl start1.code10, List.forall_mem_cons.mpr ⟨code_vm rfl start1.code11, List.forall_mem_cons.mpr ⟨code_vm rfl start1.code12, List.forall_mem_cons.mpr ⟨code_vm rfl start1.code13, List.forall_mem_cons.mpr ⟨code_vm rfl start1.code14, List.forall_mem_cons.mpr ⟨code_vm rfl start1.code15, List.forall_mem_cons.mpr ⟨code_vm rfl start1.code16, List.forall_mem_cons.mpr ⟨code_vm rfl start1.code17, List.forall_mem_cons.mpr ⟨code_vm rfl start1.code18, List.forall_mem_cons.mpr ⟨code_vm rfl start1.code19, List.forall_mem_cons.mpr ⟨code_vm rfl start1.code20, List.forall_mem_cons.mpr ⟨code_vm rfl start1.code21, List.forall_mem_cons.mpr ⟨code_vm rfl start1.code22, List.forall_mem_cons.mpr ⟨code_vm rfl start1.code23, List.forall_mem_cons.mpr ⟨code_vm rfl start1.code24, List.forall_mem_cons.mpr ⟨code_vm rfl start1.code25, List.forall_mem_cons.mpr ⟨code_vm rfl start1.code26, List.forall_mem_cons.mpr ⟨code_vm rfl start1.code27, List.forall_mem_cons.mpr ⟨code_vm rfl start1.code28, List.forall_mem_cons.mpr ⟨code_vm rfl start1.code29, List.forall_mem_cons.mpr ⟨code_vm rfl start1.code30, List.forall_mem_nil _⟩⟩⟩⟩⟩⟩⟩⟩⟩⟩⟩⟩⟩⟩⟩⟩⟩⟩⟩⟩⟩⟩⟩⟩⟩⟩⟩⟩⟩⟩⟩
theorem s9_codes_2 : ∀ c ∈ tables_1_2.filter su_isCode, c.before start1.args0 s9 = true := by
  rw [start1.codes_are_2]
  exact List.forall_mem_cons.mpr ⟨code_vm rfl start1.code31, List.forall_mem_cons.mpr ⟨code_vm rfl start1.code32, List.forall_mem_cons.mpr ⟨code_vm rfl start1.code33, List.forall_mem_cons.mpr ⟨code_vm rfl start1.code34, List.forall_mem_cons.mpr ⟨code_vm rfl start1.code35, List.forall_mem_cons.mpr ⟨code_vm rfl start1.code36, List.forall_mem_cons.mpr ⟨code_vm rfl start1.code37, List.forall_mem_cons.mpr ⟨code_vm rfl start1.code38, List.forall_mem_cons.mpr ⟨code_vm rfl start1.code39, List.forall_mem_cons.mpr ⟨code_vm rfl start1.code40, List.forall_mem_cons.mpr ⟨code_vm rfl start1.code41, List.forall_mem_cons.mpr ⟨code_vm rfl start1.code42, List.forall_mem_cons.mpr ⟨code_vm rfl start1.code43, List.forall_mem_cons.mpr ⟨code_vm rfl start1.code44, List.forall_mem_cons.mpr ⟨code_vm rfl start1.code45, List.forall_mem_cons.mpr ⟨code_vm rfl start1.code46, List.forall_mem_cons.mpr ⟨code_vm rfl start1.code47, List.forall_mem_cons.mpr ⟨code_vm rfl start1.code48, List.forall_mem_cons.mpr ⟨code_vm rfl start1.code49, List.forall_mem_cons.mpr ⟨code_vm rfl start1.code50, List.forall_mem_cons.mpr ⟨code_vm rfl start1.code51, List.forall_mem_cons.mpr ⟨code_vm rfl start1.code52, List.forall_mem_cons.mpr ⟨code_vm rfl start1.code53, List.forall_mem_cons.mpr ⟨code_vm rfl start1.code54, List.forall_mem_nil _⟩⟩⟩⟩⟩⟩⟩⟩⟩⟩⟩⟩⟩⟩⟩⟩⟩⟩⟩⟩⟩⟩⟩⟩
set_option maxRecDepth 16384 in
theorem s9_o1_1_0 : (tables_1_1.take 40).all (fun c => su_isCode c || c.before start1.args0 s9) = true := by decide +kernel
set_option maxRecDepth 16384 in
theorem s9_o1_1_1 : ((tables_1_1.drop 40).take 40).all (fun c => su_isCode c || c.before start1.args0 s9) = true := by decide +kernel
set_option maxRecDepth 16384 in
theorem s9_o1_1_2 : (((tables_1_1.drop 40).drop 40).take 40).all (fun c => su_isCode c || c.before start1.args0 s9) = true := by decide +kernel
set_option maxRecDepth 16384 in
theorem s9_o1_1_3 : ((((tables_1_1.drop 40).drop 40).drop 40).take 40).all (fun c => su_isCode c || c.before start1.args0 s9) = true := by decide +kernel
set_option maxRecDepth 16384 in
theorem s9_o1_1_4 : (((((tables_1_1.drop 40).drop 40).drop 40).drop 40).take 40).all (fun c => su_isCode c || c.before start1.args0 s9) = true := by decide +kernel
set_option maxRecDepth 16384 in
theorem s9_o1_1_5 : ((((((tables_1_1.drop 40).drop 40).drop 40).drop 40).drop 40)).all (fun c => su_isCode c || c.before start1.args0 s9) = true := by decide +kernel
theorem s9_w1_1 : ∀ c ∈ tables_1_1, c.before start1.args0 s9 = true := fun c h => su_words (l := tables_1_1) (f := fun c => c.before start1.args0 s9) (start1.su_all_split _ 40 tables_1_1 s9_o1_1_0 (start1.su_all_split _ 40 (tables_1_1.drop 40) s9_o1_1_1 (start1.su_all_split _ 40 ((tables_1_1.drop 40).drop 40) s9_o1_1_2 (start1.su_all_split _ 40 (((tables_1_1.drop 40).drop 40).drop 40) s9_o1_1_3 (start1.su_all_split _ 40 ((((tables_1_1.drop 40).drop 40).drop 40).drop 40) s9_o1_1_4 (s9_o1_1_5)))))) s9_codes_1 c h
set_option maxRecDepth 16384 in
theorem s9_o1_2_0 : (tables_1_2.take 40).all (fun c => su_isCode c || c.before start1.args0 s9) = true := by decide +kernel
set_option maxRecDepth 16384 in
theorem s9_o1_2_1 : ((tables_1_2.drop 40).take 40).all (fun c => su_isCode c || c.before start1.args0 s9) = true := by decide +kernel
set_option maxRecDepth 16384 in
theorem s9_o1_2_2 : (((tables_1_2.drop 40).drop 40).take 40).all (fun c => su_isCode c || c.before start1.args0 s9) = true := by decide +kernel
set_option maxRecDepth 16384 in
theorem s9_o1_2_3 : ((((tables_1_2.drop 40).drop 40).drop 40)).all (fun c => su_isCode c || c.before start1.args0 s9) = true := by decide +kernel
theorem s9_w1_2 : ∀ c ∈ tables_1_2, c.before start1.args0 s9 = true := fun c h => su_words (l := tables_1_2) (f := fun c => c.before start1.args0 s9) (start1.su_all_split _ 40 tables_1_2 s9_o1_2_0 (start1.su_all_split _ 40 (tables_1_2.drop 40) s9_o1_2_1 (start1.su_all_split _ 40 ((tables_1_2.drop 40).drop 40) s9_o1_2_2 (s9_o1_2_3)))) s9_codes_2 c h
theorem s9_words : ∀ c ∈ (Cond.code x code maxLocals ret :: tables_1), c.before start1.args0 s9 = true := by
  intro c hc
  rcases List.mem_cons.mp hc with h | h
  · rw [h]; exact code_vm rfl start1.word_code
  · have h1 : c ∈ tables_1_1 ++ tables_1_2 := h
    rcases List.mem_append.mp h1 with h2 | h2
    · exact s9_w1_1 c h2
    · exact s9_w1_2 c h2
theorem s9_room_1 : s9.hasRoom start1.e0.platform room_1 = true := launch0.hasRoom_least _ room_1 (by decide +kernel) (by decide +kernel) (by decide +kernel) (by decide +kernel) (by decide +kernel) (by decide +kernel)
theorem s9_room_2 : s9.hasRoom start1.e0.platform R2 = true := launch0.hasRoom_least _ R2 (by decide +kernel) (by decide +kernel) (by decide +kernel) (by decide +kernel) (by decide +kernel) (by decide +kernel)
set_option maxRecDepth 16384 in
theorem s9_applies {R : Room} (h : s9.hasRoom start1.e0.platform R = true) : (headSpec (Cond.code x code maxLocals ret :: tables_1) R).applies x start1.e0.platform s9 = true :=
  (Spec.applies_iff rfl).mpr ⟨rfl, rfl, rfl, by decide +kernel, by decide +kernel, by decide +kernel, h, atoms_intro s9_words⟩
set_option maxRecDepth 16384 in
theorem s9_rest : rest_1_c.before start1.args0 s9 = true := by decide +kernel
set_option maxRecDepth 16384 in
theorem s9_given : (Cond.and given_1 narrow_1).before start1.args0 s9 = true := by decide +kernel
set_option maxRecDepth 16384 in
theorem s9_atStart : AtStart classFile x code maxLocals ret World_1 tables_1 room_1 Calls_1 rest_1 Pre_1 launch0 start1.p0 start1.e0 s9 ⟨0, 0⟩ start1.args0 Lib.HandBits.below0 :=
  ⟨lists_1, trivial, launch0.admits_env _ _ _, launch0.least_env, fairChoices_fair.cas, fairChoices_fair.clock, rfl, by decide +kernel, by decide +kernel, s9_applies s9_room_1, trivial, s9_rest, s9_given⟩
/-- the law's contract at ninety nines, in the room R2 -/
def lf_P (b L : Nat) (xs : Nat → Int32) (args : Array Value) (s : State) : Prop := args = #[.ref b] ∧ va_X b L xs s s.heap ∧ b < s.heap.size ∧ (Jvm.Cond.and given_1 narrow_1).before args s = true
set_option maxHeartbeats 4000000 in
theorem lf_met (l : Launch) (hflags : l.flags = flags0) (b L : Nat) (xs : Nat → Int32) (hL : 90 ≤ L) (hL2 : L < 100) (hxs : ∀ j, j < L → xs j = 9) : MetFree l x (headSpec (Jvm.Cond.code x code maxLocals ret :: tables_1) R2) (lf_P b L xs) (fun _ _ _ _ _ => True) lf_C := by
  refine MetFree.of_bodyS (code := code) (maxLocals := maxLocals) (ret := ret) (by decide) ?_ ?_
  · intro args s m h hn
    obtain ⟨meth, c, h1, h2, h3, h4, h5, h6, -, -⟩ := Cond.code_spec hn (atoms_spec (ws := Jvm.Cond.code x code maxLocals ret :: tables_1) h _ List.mem_cons_self)
    exact ⟨meth, c, h1, h2, h3, h4, h5, h6⟩
  · intro p e s m args below meth c s₁ B hml0 hP _
    obtain ⟨rfl, hX, hbl, hgv⟩ := hP
    have hown : s.vm.findClass RL = some m.cls := findClass_of_methodNamed B.named
    have hts0 : ∀ c ∈ (Jvm.Cond.code x code maxLocals ret :: tables_1), c.before #[Value.ref b] s = true := atoms_spec (ws := Jvm.Cond.code x code maxLocals ret :: tables_1) B.pre
    have hts : ∀ w ∈ lw_tbl, w.before #[Value.ref b] s = true := k2_hts_sels lw_privs (fun w hw => hts0 w (List.mem_cons_of_mem _ hw)) lw_privs_ok
    have hml : c.maxLocals = 7 := B.maxLocals_eq (hts0 _ List.mem_cons_self)
    have X₀ : Stand p l e R2 s m #[Value.ref b] below meth c s₁ [] 0 0 := Stand.of_body B
    have hh0 : s₁.heap = s.heap := by rw [B.state]; rfl
    have K : W p l e R2 s m #[Value.ref b] below meth c s₁.heap [] 0 0 (lf_Q below #[Value.ref b] s) (entryFrame m ([Value.ref b] : List Value).toArray 7) := by
      rw [hh0]
      exact lf_start l hflags hL hL2 hxs B.exec B.bytes B.returns hml hown hts hX hbl B.notSynchronized hgv
    obtain ⟨t, a1, o, b1, b2, b3, -⟩ := K s₁ rfl X₀
    exact ⟨t, o, a1, b1, b2, b3⟩
theorem s9_script : ∃ xs : Nat → Int32, (∀ j, j < 90 → xs j = 9) ∧ va_X 0 90 xs s9 s9.heap := by
  have hs := flat_of_before _ s9_given
  have hq := flat_of_before _ s9_rest
  have harr : (Cond.arrayOf (.arg 0) .int).before start1.args0 s9 = true := hs _ (by decide +kernel)
  have hlen : (Cond.isInt (.length (.arg 0))).before start1.args0 s9 = true := hq _ (by decide +kernel)
  have hall : (Cond.all (.arg 0) (.isInt (.elem (.arg 0) (.index 0)))).before start1.args0 s9 = true := hq _ (by decide +kernel)
  obtain ⟨b, xs, hb, hx⟩ := State.ints_of_pre rfl harr hlen hall
  have hb0 : (0 : Nat) = b := by
    have h9 : (Term.arg 0).eval start1.args0 s9 none [] s9 = some (Value.ref 0) := rfl
    have h8 := Option.some.inj (h9.symm.trans hb)
    injection h8
  subst hb0
  obtain ⟨scr, harrAt, hlist, hof, hsmall⟩ := hx
  obtain ⟨hcb, hkn, -, -⟩ := State.arrayAt?_spec harrAt
  have h0 : s9.heap[0]? = some { cls := 11, slots := nines, vm := .none } := rfl
  have hsc : scr.slots = nines := by
    rw [h0] at hcb
    injection hcb with hcb
    rw [← hcb]
  have hl : xs.map Value.int = List.replicate 90 (Value.int 9) := by rw [← hlist, hsc]; rfl
  have hn : xs.length = 90 := by
    have h9 := congrArg List.length hl
    rwa [List.length_map, List.length_replicate] at h9
  have hv : ∀ j, j < 90 → xs.getD j 0 = 9 := by
    intro j hj
    have hj9 : j < xs.length := by omega
    have h1 : (xs.map Value.int)[j]? = some (Value.int 9) := by rw [hl, List.getElem?_replicate, if_pos hj]
    rw [List.getElem?_map, List.getElem?_eq_getElem hj9] at h1
    injection h1 with h1
    injection h1 with h1
    rw [List.getD_eq_getElem?_getD, List.getElem?_eq_getElem hj9]
    exact h1
  refine ⟨fun j => xs.getD j 0, hv, scr, hcb, hof, hkn, by rw [hsc]; rfl, fun j hj => ?_⟩
  rw [← Array.getElem?_toList, hlist]
  have hj9 : j < xs.length := by omega
  simp [hj9]
/-- the run at that start: the law answers 1, and makes at least 2544 cells -/
theorem s9_run : ∃ (n : Nat) (o : Outcome), (∀ k, k < n → Within (stepsAlone start1.p0.tables start1.e0 k s9) Lib.HandBits.below0) ∧ (stepsAlone start1.p0.tables start1.e0 n s9).status = Status.running ∧ Ended (stepsAlone start1.p0.tables start1.e0 n s9) Lib.HandBits.below0 o ∧ o = .returned (some (.int 1)) ∧ s9.heap.size + 2544 ≤ (stepsAlone start1.p0.tables start1.e0 n s9).heap.size := by
  obtain ⟨xs, hxs, hX⟩ := s9_script
  obtain ⟨n, o, h1, h2, h3, h4⟩ := lf_met launch0 rfl 0 90 xs (Nat.le_refl _) (by decide) hxs start1.p0 start1.e0 (launch0.admits_env _ _ _) fairChoices_fair.cas fairChoices_fair.clock s9 ⟨0, 0⟩ start1.args0 Lib.HandBits.below0 rfl ((Spec.applies_iff_loose rfl).mp (s9_applies s9_room_2)).1 ⟨rfl, hX, by decide +kernel, s9_given⟩ trivial
  exact ⟨n, o, h1, h2, h3, h4⟩
/-- a frame of at most 173 cells can't be met by that run -/
theorem s9_frame {L : Cond} {o : Outcome} {n : Nat} (hg : s9.heap.size + 2544 ≤ (stepsAlone start1.p0.tables start1.e0 n s9).heap.size) : ¬ (postC L start1.p0.tables start1.e0 start1.args0 s9 o (stepsAlone start1.p0.tables start1.e0 n s9) ∧ Framed s9 o (stepsAlone start1.p0.tables start1.e0 n s9) (fieldLocs frame_1_writes start1.args0 s9 ++ arrayLocs frame_1_arrays start1.args0 s9 ++ staticLocs frame_1_statics s9) 173 1400) := by
  intro hp
  have h6 : (stepsAlone start1.p0.tables start1.e0 n s9).heap.size ≤ s9.heap.size + 173 := hp.2.2.2.2.2.1
  omega
/-- THE STATEMENT'S FIRST CLAIM IS REFUTED, in the Statement's own words for that -/
theorem p24_refuted_1 : RefutedClaimed_1_1 := by
  obtain ⟨n, o, h1, h2, h3, -, h5⟩ := s9_run
  exact ⟨launch0, start1.p0, start1.e0, s9, ⟨0, 0⟩, start1.args0, Lib.HandBits.below0, rfl, s9_atStart, n, o, h1, h2, h3, s9_frame h5⟩
/-- .. and its second -/
theorem p24_refuted_2 : RefutedClaimed_1_2 := by
  obtain ⟨n, o, h1, h2, h3, -, h5⟩ := s9_run
  exact ⟨launch0, start1.p0, start1.e0, s9, ⟨0, 0⟩, start1.args0, Lib.HandBits.below0, rfl, s9_atStart, n, o, h1, h2, h3, s9_frame h5⟩
theorem p24_false_1 : ¬ Claimed_1_1 := by
  intro hC
  obtain ⟨hli, -, ha, -, hc, hk, hf, hfit, hheap, happ, hcalls, hrest, hpre⟩ := s9_atStart
  obtain ⟨n, o, h1, h2, h3, h4⟩ := hC launch0 rfl hli trivial start1.p0 start1.e0 ha hc hk s9 ⟨0, 0⟩ start1.args0 Lib.HandBits.below0 hf hfit hheap happ ⟨hcalls, hrest, hpre⟩
  obtain ⟨n', o', g1, g2, g3, -, g5⟩ := s9_run
  obtain ⟨rfl, rfl⟩ := the_end_unique (f := fun k => stepsAlone start1.p0.tables start1.e0 k s9) h1 h3 g1 g3
  exact s9_frame g5 h4
/-- what is owed of p24 is false -/
theorem p24_false : ¬ (Claimed_1_1 ∧ Claimed_1_2) := fun h => p24_false_1 h.1
