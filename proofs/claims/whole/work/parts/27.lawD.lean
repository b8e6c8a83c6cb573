/-! ===== the law's cases: what they share ===== -/
theorem are_x {x y : Int32} (h : ¬ arE x y = 0) : ∃ r g : Nat, r < 4 ∧ g < 3 ∧ x = nI r ∧ y = nI g := by
  by_cases q1 : inB x 0 3 = 0
  · exact absurd (by unfold arE; rw [if_pos q1]) h
  · by_cases q2 : inB y 0 2 = 0
    · exact absurd (by unfold arE; rw [if_neg q1, if_pos q2]) h
    · obtain ⟨r, hr, ex⟩ := in_rx q1
      obtain ⟨g, hg, ey⟩ := in_gx q2
      exact ⟨r, g, hr, hg, ex, ey⟩
theorem lk_x {x y : Int32} (h : ¬ lkE x y = 0) : ∃ r k : Nat, r < 4 ∧ k < 2 ∧ x = nI r ∧ y = nI k := by
  by_cases q1 : inB x 0 3 = 0
  · exact absurd (by unfold lkE; rw [if_pos q1]) h
  · by_cases q2 : inB y 0 1 = 0
    · exact absurd (by unfold lkE; rw [if_neg q1, if_pos q2]) h
    · obtain ⟨r, hr, ex⟩ := in_rx q1
      obtain ⟨g, hg, ey⟩ := in_kx q2
      exact ⟨r, g, hr, hg, ex, ey⟩
theorem tk_x {v : Int32} (h : ¬ inB v 1 50 = 0) : ∃ n : Nat, n < 100 ∧ v = nI n ∧ ¬ nI n < 1 ∧ ¬ 50 < nI n := by
  obtain ⟨h1, h2⟩ := in_n h
  obtain ⟨j, hj, e⟩ := nI_of2 (n := 50) (by decide +kernel : (50 : Int32).toInt = ((50 : Nat) : Int)) (fun q => h1 (Int32.lt_trans q (by decide))) (Int32.not_lt.mp h2)
  exact ⟨j, by omega, e, by rw [← e]; exact h1, by rw [← e]; exact h2⟩
theorem lg_same {x y : Int64} (h : x = y) : lg_cmp x y = 0 := by
  subst h
  unfold lg_cmp
  simp
section BM
variable {p : Program} {l : Launch} {e : Env} {R : Room} {s : State} {m : MethodId} {args : Array Value} {below : List Frame} {meth : Method} {c : Code} {H : Heap} {locs : List Loc} {cells slots : Nat} {Q : State → Prop}
variable {cc : ByteArray} {nL pc : Nat} {ls : Array Slot} {rest : List Value} {Ts : List Cond} {own : String} {D : va_G} {A : Nat → Prop} {H0 : Heap} {w1 w2 w1' : va_W} {tyc : List (ClassId × FieldType)}
variable {y : MethodName} {bytes : ByteArray} {maxL n index : Nat} {ret : Option FieldType} {wsl : List Cond} {rm : Room} {C : String} {b : Nat} {As : List Value} {st : List Value}
theorem bm_vi (S : CallFix p m c cc nL s args Ts own) (hK : va_K D vwCl tyc s) (hw : Wd D A H0 (w2 ++ w1) H locs) {r : Int32} (hM : MI l y wsl rm D tyc (.ref b :: As) w1 r w1') (cw : CallW R s args own C index y bytes maxL ret wsl rm 0 0 n) {q0 ci : Nat} {T : u_T} {N : Nat} {fs : List Value} (he : w1[q0]? = some (b, .inr (ci, fs))) (hc : vwCl[ci]? = some (C, T, N)) (hn : As.length = n) (hl : ls.size = nL) (hst : st = As.reverse ++ .ref b :: rest) (hr : (rest.map fun v => v.category).sum ≤ 8) (hcl : cells ≤ R.cells) (hsl : slots ≤ R.slots) (hdg : decode cc pc = .ok (.invokevirtual index, 3))
    (kk : ∀ (H1 : Heap) (locs1 : List Loc), Wd D A H0 (w2 ++ w1') H1 locs1 → W p l e R s m args below meth c H1 locs1 cells slots Q (F0 m (pc + 3) ls (.int r :: rest))) : W p l e R s m args below meth c H locs cells slots Q (F0 m pc ls st) :=
  bl_vi S hK hw.swap hM cw he hc hn hl hst hr hcl hsl hdg (fun H1 locs1 hw1 => kk H1 locs1 hw1.swap)
theorem bm_vv (S : CallFix p m c cc nL s args Ts own) (hK : va_K D vwCl tyc s) (hw : Wd D A H0 (w2 ++ w1) H locs) (hM : MV l y wsl rm D tyc (.ref b :: As) w1 w1') (cw : CallW R s args own C index y bytes maxL ret wsl rm 0 0 n) {q0 ci : Nat} {T : u_T} {N : Nat} {fs : List Value} (he : w1[q0]? = some (b, .inr (ci, fs))) (hc : vwCl[ci]? = some (C, T, N)) (hn : As.length = n) (hl : ls.size = nL) (hst : st = As.reverse ++ .ref b :: rest) (hr : (rest.map fun v => v.category).sum ≤ 8) (hcl : cells ≤ R.cells) (hsl : slots ≤ R.slots) (hdg : decode cc pc = .ok (.invokevirtual index, 3))
    (kk : ∀ (H1 : Heap) (locs1 : List Loc), Wd D A H0 (w2 ++ w1') H1 locs1 → W p l e R s m args below meth c H1 locs1 cells slots Q (F0 m (pc + 3) ls rest)) : W p l e R s m args below meth c H locs cells slots Q (F0 m pc ls st) :=
  bl_vv S hK hw.swap hM cw he hc hn hl hst hr hcl hsl hdg (fun H1 locs1 hw1 => kk H1 locs1 hw1.swap)
theorem bl_sld (S : CallFix p m c cc nL s args Ts own) {bs L : Nat} {xs : Nat → Int32} (hX : va_X bs L xs s s.heap) (hbl : bs < s.heap.size) (hL : L ≤ 2048) {ws : va_W} (hw : Wd D (fun q => s.heap.size ≤ q) s.heap ws H locs) {j : Nat} (hj : j < L) (hdg : decode cc pc = .ok (.iaload, 1))
    (kk : W p l e R s m args below meth c H locs cells slots Q (F0 m (pc + 1) ls (.int (xs j) :: rest))) : W p l e R s m args below meth c H locs cells slots Q (F0 m pc ls (.int (nI j) :: .ref bs :: rest)) := by
  refine va_sld S.1 S.2.1 hX hbl (Nat.not_le.mpr hbl) hw.2.2.1 (vp_in_nI hj (by omega)) hdg ?_
  rw [nI_clamp (by omega)]
  exact kk
theorem bl_lcmp (S : CallFix p m c cc nL s args Ts own) {x y : Int64} (h : x = y) (hdg : decode cc pc = .ok (.lcmp, 1)) (kk : W p l e R s m args below meth c H locs cells slots Q (F0 m (pc + 1) ls (.int 0 :: rest))) : W p l e R s m args below meth c H locs cells slots Q (F0 m pc ls (.long y :: .long x :: rest)) := by
  refine W.lcmp S.1 S.2.1 hdg ?_
  rw [lg_same h]
  exact kk
end BM
