/-! ===== the constructors ===== -/
theorem arrV_cg {cA : ClassId} {n : Nat} {f g : Nat → Value} (h : ∀ j, j < n → f j = g j) : arrV cA n f = arrV cA n g := by
  unfold arrV
  congr 1
  apply Array.ext
  · simp
  · intro i h1 h2
    simp at h1 h2 ⊢
    exact h i (by omega)
theorem Wd.cg {D : va_G} {A : Nat → Prop} {H0 H : Heap} {ws : va_W} {locs : List Loc} (k : Nat) {a : Nat} {cA : ClassId} {n : Nat} {f : Nat → Int32} (g : Nat → Int32) (h : ws[k]? = some (a, .inl (cA, n, .inl f))) (hfg : ∀ j, j < n → f j = g j) (hw : Wd D A H0 ws H locs) : Wd D A H0 (ws.set k (a, .inl (cA, n, .inl g))) H locs := by
  refine ⟨hw.1.set hw.2.1 h ?_ (fun q _ => rfl), hw.2.1.set h, hw.2.2⟩
  show H[a]? = some (vp_cell cA (n, .inl g))
  have h1 : H[a]? = some (vp_cell cA (n, .inl f)) := hw.1 k _ h
  rw [h1, vp_cell_i, vp_cell_i, arrV_cg (fun j hj => by rw [hfg j hj])]
section BN
variable {p : Program} {l : Launch} {e : Env} {R : Room} {s : State} {m : MethodId} {args : Array Value} {below : List Frame} {meth : Method} {c : Code} {H : Heap} {locs : List Loc} {cells slots : Nat} {Q : State → Prop}
variable {cc : ByteArray} {nL pc : Nat} {ls : Array Slot} {rest : List Value} {Ts : List Cond} {own : String} {D : va_G} {A : Nat → Prop} {H0 : Heap} {ws ws' : va_W} {cZ cI : ClassId}
theorem bx_newi (S : CallFix p m c cc nL s args Ts own) (hK : va_K D vwCl (tyZ cZ cI) s) (hw : Wd D A H0 ws H locs) {n c' s' : Nat} (hn : n ≤ 16) (harr : Cond.arrayClass .int ∈ Ts) (hc : cells + 1 = c') (hs : slots + n = s') (hcr : c' ≤ R.cells) (hsr : s' ≤ R.slots) (hdg : decode cc pc = .ok (.newarray .int, 2))
    (kk : ∀ (q : Nat) (H1 : Heap), Wd D A H0 (ws ++ [(q, .inl (cI, n, .inl (fun _ => 0)))]) H1 locs → W p l e R s m args below meth c H1 locs c' s' Q (F0 m (pc + 2) ls (.ref q :: rest))) : W p l e R s m args below meth c H locs cells slots Q (F0 m pc ls (.int (nI n) :: rest)) := by
  subst hc; subst hs
  refine va_newa S.1 S.2.1 (atype := .int) (S.2.2.2.2 _ harr) (ty := .int) rfl hK hw.1 hw.2.1 hw.2.2.1 hw.2.2.2 (N' := n) (a0 := (n, .inl (fun _ => 0))) (fun cA => rfl) (nI_pos (by omega)) (nI_clamp (by omega)) (by show n * 4 ≤ 536870912; omega) hcr hsr hdg (fun q cA H1 hK1 hP hD hS => ?_)
  have h1 := va_nm_int (hK1.2 2 _ rfl).2
  have h2 := va_nm_int (hK.2 1 _ rfl).2
  have e9 : cI = cA := Option.some.inj (h2.symm.trans h1)
  subst e9
  exact kk q H1 ⟨hP, hD, hS, hw.2.2.2⟩
theorem bx_newz (S : CallFix p m c cc nL s args Ts own) (hK : va_K D vwCl (tyZ cZ cI) s) (hw : Wd D A H0 ws H locs) {n c' s' : Nat} (hn : n ≤ 16) (harr : Cond.arrayClass .boolean ∈ Ts) (hc : cells + 1 = c') (hs : slots + n = s') (hcr : c' ≤ R.cells) (hsr : s' ≤ R.slots) (hdg : decode cc pc = .ok (.newarray .boolean, 2))
    (kk : ∀ (q : Nat) (H1 : Heap), Wd D A H0 (ws ++ [(q, .inl (cZ, n, .inl (fun _ => 0)))]) H1 locs → W p l e R s m args below meth c H1 locs c' s' Q (F0 m (pc + 2) ls (.ref q :: rest))) : W p l e R s m args below meth c H locs cells slots Q (F0 m pc ls (.int (nI n) :: rest)) := by
  subst hc; subst hs
  refine va_newa S.1 S.2.1 (atype := .boolean) (S.2.2.2.2 _ harr) (ty := .boolean) rfl hK hw.1 hw.2.1 hw.2.2.1 hw.2.2.2 (N' := n) (a0 := (n, .inl (fun _ => 0))) (fun cA => rfl) (nI_pos (by omega)) (nI_clamp (by omega)) (by show n * 1 ≤ 536870912; omega) hcr hsr hdg (fun q cA H1 hK1 hP hD hS => ?_)
  have h1 := va_nm_boolean (hK1.2 2 _ rfl).2
  have h2 := va_nm_boolean (hK.2 0 _ rfl).2
  have e9 : cZ = cA := Option.some.inj (h2.symm.trans h1)
  subst e9
  exact kk q H1 ⟨hP, hD, hS, hw.2.2.2⟩
/-- a final field, in the constructor -/
theorem bx_putF (S : CallFix p m c cc nL s args Ts own) (hK : va_K D vwCl (tyZ cZ cI) s) {C : String} {T : u_T} {N ci index : Nat} (hin : ∀ w ∈ u_ws C T N, w ∈ Ts) (ty0 : Nat → FieldType) (hty : ∀ k, k < N → parseFieldDescriptor (T k).2.2.1 = some (ty0 k)) (hnm : ∀ a, a < N → ∀ b, b < N → a ≠ b → (T a).2.1 ≠ (T b).2.1) (hw : Wd D A H0 ws H locs) (hin2 : meth.name = "<init>") {a : Nat} {fs : List Value} (he : ws[0]? = some (a, .inr (ci, fs))) (hc : vwCl[ci]? = some (C, T, N)) (k : Nat) (hk : k < N) (hl : Cond.fieldLink own index (T k).1 (T k).2.1 (T k).2.2.1 ∈ Ts) (hfin : (T k).2.2.2 = true) (hdecl : (T k).1 = own) {ty : FieldType} {v : Value} (hd : parseFieldDescriptor (T k).2.2.1 = some ty) (hn : narrow ty v = v) (hfit : fits ty v = true) (hlen : k < fs.length) (hs : ws.set 0 (a, .inr (ci, fs.set k v)) = ws') (hdg : decode cc pc = .ok (.putfield index, 3))
    (kk : ∀ (H1 : Heap) (locs1 : List Loc), Wd D A H0 ws' H1 locs1 → W p l e R s m args below meth c H1 locs1 cells slots Q (F0 m (pc + 3) ls rest)) : W p l e R s m args below meth c H locs cells slots Q (F0 m pc ls (v :: .ref a :: rest)) := by
  refine va_putF S.1 S.2.1 S.2.2.2.2 hin ty0 hty hnm S.2.2.2.1 hK hw.1 hw.2.1 hw.2.2.1 0 he hc k hk (S.2.2.2.2 _ hl) (fun _ h9 => h9) hfin hin2 hdecl hd hn hfit hlen hdg (fun H1 locs1 hP hD hS => ?_)
  rw [hs] at hP hD
  exact kk H1 locs1 ⟨hP, hD, hS, hw.2.2.2⟩
end BN
/-- the contract of a constructor: some addresses, the first of them the object's -/
def MC (l : Launch) (y : MethodName) (wsl : List Cond) (rm : Room) (D : va_G) (tys : List (ClassId × FieldType)) (ci : Nat) (f0 : List Value) (mc ms : Nat) (ω : (Nat → Nat) → va_W) : Prop :=
  ∀ (h0 sz : Nat), Met l y wsl rm (va_Pc [.ref h0] (MPre D tys [(h0, .inr (ci, f0))] sz)) (va_Qv (fun a : Nat → Nat => a 0 = h0) (fun a t => va_P D vwCl (ω a) t.heap ∧ va_D (va_A [(h0, .inr (ci, f0))] sz) (ω a)) (va_A [(h0, .inr (ci, f0))] sz)) mc ms (va_A [(h0, .inr (ci, f0))] sz)
theorem MC.of {l : Launch} {y : MethodName} {wsl ws' : List Cond} {rm : Room} {D : va_G} {tys : List (ClassId × FieldType)} {ci : Nat} {f0 : List Value} {mc ms : Nat} {ω : (Nat → Nat) → va_W} {cc : ByteArray} {maxL : Nat}
    (hy : plainName y.cls = true) (hyn : y.name = "<init>") (hws : wsl = Cond.code y cc maxL none :: ws') (hla : 1 ≤ maxL)
    (body : ∀ (h0 : Nat) (p : Program) (e : Env) (s : State) (m : MethodId) (args : Array Value) (below : List Frame) (meth : Method) (c : Code) (A : Nat → Prop) (Q : State → Prop), CallFix p m c cc maxL s args wsl y.cls → va_K D vwCl tys s → meth.name = "<init>" →
      (∀ {H : Heap} {locs : List Loc} {ls : Array Slot} {pc : Nat} {a : Nat → Nat}, Wd D A s.heap (ω a) H locs → a 0 = h0 → decode cc pc = .ok (.return_, 1) → W p l e rm s m args below meth c H locs mc ms Q (F0 m pc ls [])) →
      ∀ ls : Array Slot, lv_has ls maxL [(0, .ref h0)] → Wd D A s.heap [(h0, .inr (ci, f0))] s.heap [] → W p l e rm s m args below meth c s.heap [] 0 0 Q (F0 m 0 ls [])) : MC l y wsl rm D tys ci f0 mc ms ω := by
  intro h0 sz
  refine Met.ofW (cc := cc) (maxL := maxL) (ret := none) hy hws ?_
  intro p e s m args below meth c s₁ B hml hv
  obtain ⟨rfl, hsz, hP, hK, hD0⟩ := hv
  subst hsz
  have hlocks := B.notSynchronized
  have hroom : (headSpec wsl rm).room = rm := rfl
  rw [hroom, lg_entry_eq]
  refine body h0 p e s m _ below meth c (va_A [(h0, .inr (ci, f0))] s.heap.size) _ ⟨B.exec, B.bytes, hml, findClass_of_methodNamed B.named, atoms_spec (ws := wsl) B.pre⟩ hK ((name_of_methodNamed B.named B.method).1.trans hyn) ?_ _ (lv_entry [.ref h0] hla) ⟨hP, hD0.self, va_S.rf, fun q h => Or.inr h⟩
  intro H locs ls pc a hw ha hdg
  exact W.vret B.exec B.bytes B.returns (fun t ht hW => ⟨⟨a, rfl, ha, by rw [ht]; exact hw.1, hw.2.1⟩, hw.2.2.1.F ht⟩) hw.2.2.1.2.2 hdg
def aL (l : List Nat) : Nat → Nat := fun k => l.getD k 0
def sZ : sC := fun _ _ => 0
/-- the state of a new object -/
def s0 : sC := fun k _ => if k = 0 then 1 else if k = 1 then 1 else if k = 2 then 1 else if k = 4 then 4 else if k = 5 then 1 else 0
def iniA (i : Nat) (σ : sC) : sC := up σ 0 i 1
def iniB (i : Nat) (σ : sC) : sC := up σ 1 i 1
def iniC (i : Nat) (σ : sC) : sC := up σ 2 i 1
def iniD (i : Nat) (σ : sC) : sC := up (up σ 4 i 4) 5 i 1
def s1 : sC := itF iniA sZ 4
def s2 : sC := itF iniB s1 16
def s3 : sC := itF iniC s2 8
def s4 : sC := itF iniD s3 3
