/-! ===== what the start gives ===== -/
theorem arr_K {args : Array Value} {s : State} {ty : FieldType} (h : (Cond.arrayClass ty).before args s = true) : ∃ c : ClassId, ArrOfT s c ty ∧ s.vm.findClass ("[" ++ ty.toString) = some c := by
  obtain ⟨cB, kB, comp, hcB, hkB, hkind⟩ := Cond.arrayClass_spec h
  exact ⟨cB, fun n z => ⟨fun k h => (by cases h), kB, hkB, comp, hkind⟩, hcB⟩
theorem tb_mem {i : Nat} {w : Cond} (h : tables_1[i]? = some w) : w ∈ lw_tbl := List.mem_append_right _ (List.mem_of_getElem? h)
theorem str_start {args : Array Value} {s : State} {k : Nat} {tx : String} (h1 : (Cond.stringRef RX0 k tx).before args s = true) (h2 : (Cond.exactly (.string RX0 k) "java/lang/String").before args s = true) : ∃ a : Nat, vk_R RX0 k tx a s := by
  obtain ⟨a, c, cell, k9, q1, -⟩ := Cond.exactly_spec h2
  exact ⟨a, vk_R.of h1 q1⟩
set_option maxRecDepth 100000 in
theorem ZT_start {args : Array Value} {s : State} (hts : ∀ w ∈ lw_tbl, w.before args s = true) (hgv : (Jvm.Cond.and given_1 narrow_1).before args s = true) : ZT (fun q => s.heap.size ≤ q) s s.heap := by
  have hs := flat_of_before _ hgv
  refine ⟨?_, ?_, ?_, ?_, ?_⟩
  · exact vx_Zqof (hts _ (tb_mem (i := 107) (by decide +kernel))) (hts _ (tb_mem (i := 2) (by decide +kernel))) (hs _ (by decide +kernel)) (fun a h => Nat.not_le.mpr h)
  · exact vx_Zqof (hts _ (tb_mem (i := 109) (by decide +kernel))) (hts _ (tb_mem (i := 2) (by decide +kernel))) (hs _ (by decide +kernel)) (fun a h => Nat.not_le.mpr h)
  · intro k q hk
    match k, hk with
    | 0, hk => cases hk; exact str_start (hts _ (tb_mem (i := 225) (by decide +kernel))) (hs _ (by decide +kernel))
    | 1, hk => cases hk; exact str_start (hts _ (tb_mem (i := 229) (by decide +kernel))) (hs _ (by decide +kernel))
    | 2, hk => cases hk; exact str_start (hts _ (tb_mem (i := 245) (by decide +kernel))) (hs _ (by decide +kernel))
    | 3, hk => cases hk; exact str_start (hts _ (tb_mem (i := 120) (by decide +kernel))) (hs _ (by decide +kernel))
    | 4, hk => cases hk; exact str_start (hts _ (tb_mem (i := 274) (by decide +kernel))) (hs _ (by decide +kernel))
    | 5, hk => cases hk; exact str_start (hts _ (tb_mem (i := 292) (by decide +kernel))) (hs _ (by decide +kernel))
    | 6, hk => cases hk; exact str_start (hts _ (tb_mem (i := 306) (by decide +kernel))) (hs _ (by decide +kernel))
    | 7, hk => cases hk; exact str_start (hts _ (tb_mem (i := 314) (by decide +kernel))) (hs _ (by decide +kernel))
    | 8, hk => cases hk; exact str_start (hts _ (tb_mem (i := 355) (by decide +kernel))) (hs _ (by decide +kernel))
    | k + 9, hk => simp [lw_str] at hk
  · intro w hw
    simp only [zzW, List.mem_cons, List.not_mem_nil, or_false] at hw
    rcases hw with rfl | rfl | rfl | rfl | rfl
    · exact va_Nw.of rfl (hts _ (tb_mem (i := 84) (by decide +kernel)))
    · exact va_Nw.of rfl (hts _ (tb_mem (i := 86) (by decide +kernel)))
    · exact va_Nw.of rfl (hts _ (tb_mem (i := 88) (by decide +kernel)))
    · exact va_Nw.of rfl (hts _ (tb_mem (i := 82) (by decide +kernel)))
    · exact va_Nw.of rfl (hts _ (tb_mem (i := 285) (by decide +kernel)))
  · exact va_Nc.of (hs _ (by decide +kernel))
theorem no_traces {l : Launch} (h : l.flags = flags0) : l.stackTraces = false := by
  unfold Launch.stackTraces
  rw [h]
  decide +kernel
/-- the class and the array classes, at the start -/
theorem K_start {args : Array Value} {s : State} (hts : ∀ w ∈ lw_tbl, w.before args s = true) : ∃ (D : va_G) (cZ cI : ClassId), va_K D vwCl (tyZ cZ cI) s := by
  obtain ⟨k0, iS0, hKn0⟩ := u_known (C := RX0) (T := TX0) (N := 18) (n := 18) hts inX0 (hts _ (tb_mem (i := 9) (by decide +kernel)))
  obtain ⟨cZ, z1, z2⟩ := arr_K (hts _ (tb_mem (i := 71) (w := .arrayClass .boolean) (by decide +kernel)))
  obtain ⟨cI, i1, i2⟩ := arr_K (hts _ (tb_mem (i := 72) (w := .arrayClass .int) (by decide +kernel)))
  refine ⟨(fun _ => k0, fun _ => iS0), cZ, cI, ?_, ?_⟩
  · intro k q hq
    match k, hq with
    | 0, hq => cases hq; exact hKn0
    | k + 1, hq => simp [vwCl] at hq
  · intro k q hq
    match k, hq with
    | 0, hq => cases hq; exact ⟨z1, z2⟩
    | 1, hq => cases hq; exact ⟨i1, i2⟩
    | k + 2, hq => simp at hq
