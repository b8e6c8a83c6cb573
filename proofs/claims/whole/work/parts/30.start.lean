/-! ===== what the start gives ===== -/
theorem arr_K {args : Array Value} {s : State} {ty : FieldType} (h : (Cond.arrayClass ty).before args s = true) : ∃ c : ClassId, ArrOfT s c ty ∧ s.vm.findClass ("[" ++ ty.toString) = some c := by
  obtain ⟨cB, kB, comp, hcB, hkB, hkind⟩ := Cond.arrayClass_spec h
  exact ⟨cB, fun n z => ⟨fun k h => (by cases h), kB, hkB, comp, hkind⟩, hcB⟩
theorem tb_mem {i : Nat} {w : Cond} (h : tables_1[i]? = some w) : w ∈ lw_tbl := List.mem_append_right _ (List.mem_of_getElem? h)
theorem str_start {args : Array Value} {s : State} {k : Nat} {tx : String} (h1 : (Cond.stringRef RX0 k tx).before args s = true) (h2 : (Cond.exactly (.string RX0 k) "java/lang/String").before args s = true) : ∃ a : Nat, vk_R RX0 k tx a s := by
  obtain ⟨a, c, cell, k9, q1, -⟩ := Cond.exactly_spec h2
  exact ⟨a, vk_R.of h1 q1⟩
set_option maxRecDepth 100000 in
theorem ZT_start {args : Array Value} {s : State} (hts : ∀ w ∈ lw_tbl, w.before args s = true) (hgv : (Jvm.Cond.and given_1 narrow_1).before args s = true) : ZT (fun q => s.heap.size ≤ q) s s.heap := by
  have hs := flat_of_before _ hgv
  refine ⟨?_, ?_, ?_, ?_, ?_⟩
  · exact vx_Zqof (hts _ (tb_mem (i := 116) (by decide +kernel))) (hts _ (tb_mem (i := 3) (by decide +kernel))) (hs _ (by decide +kernel)) (fun a h => Nat.not_le.mpr h)
  · exact vx_Zqof (hts _ (tb_mem (i := 118) (by decide +kernel))) (hts _ (tb_mem (i := 3) (by decide +kernel))) (hs _ (by decide +kernel)) (fun a h => Nat.not_le.mpr h)
  · intro k q hk
    match k, hk with
    | 0, hk => cases hk; exact str_start (hts _ (tb_mem (i := 129) (by decide +kernel))) (hs _ (by decide +kernel))
    | 1, hk => cases hk; exact str_start (hts _ (tb_mem (i := 159) (by decide +kernel))) (hs _ (by decide +kernel))
    | 2, hk => cases hk; exact str_start (hts _ (tb_mem (i := 219) (by decide +kernel))) (hs _ (by decide +kernel))
    | 3, hk => cases hk; exact str_start (hts _ (tb_mem (i := 163) (by decide +kernel))) (hs _ (by decide +kernel))
    | 4, hk => cases hk; exact str_start (hts _ (tb_mem (i := 248) (by decide +kernel))) (hs _ (by decide +kernel))
    | 5, hk => cases hk; exact str_start (hts _ (tb_mem (i := 266) (by decide +kernel))) (hs _ (by decide +kernel))
    | 6, hk => cases hk; exact str_start (hts _ (tb_mem (i := 280) (by decide +kernel))) (hs _ (by decide +kernel))
    | 7, hk => cases hk; exact str_start (hts _ (tb_mem (i := 288) (by decide +kernel))) (hs _ (by decide +kernel))
    | 8, hk => cases hk; exact str_start (hts _ (tb_mem (i := 340) (by decide +kernel))) (hs _ (by decide +kernel))
    | k + 9, hk => simp [lw_str] at hk
  · intro w hw
    simp only [zzW, List.mem_cons, List.not_mem_nil, or_false] at hw
    rcases hw with rfl | rfl | rfl | rfl | rfl
    · exact va_Nw.of rfl (hts _ (tb_mem (i := 93) (by decide +kernel)))
    · exact va_Nw.of rfl (hts _ (tb_mem (i := 95) (by decide +kernel)))
    · exact va_Nw.of rfl (hts _ (tb_mem (i := 97) (by decide +kernel)))
    · exact va_Nw.of rfl (hts _ (tb_mem (i := 91) (by decide +kernel)))
    · exact va_Nw.of rfl (hts _ (tb_mem (i := 259) (by decide +kernel)))
  · exact va_Nc.of (hs _ (by decide +kernel))
theorem no_traces {l : Launch} (h : l.flags = flags0) : l.stackTraces = false := by
  unfold Launch.stackTraces
  rw [h]
  decide +kernel
/-- the classes and the array classes, at the start -/
theorem K_start {args : Array Value} {s : State} (hts : ∀ w ∈ lw_tbl, w.before args s = true) : ∃ (D : va_G) (cZ cI cJ : ClassId), va_K D vwCl (tyJ cZ cI cJ) s := by
  obtain ⟨k0, iS0, hKn0⟩ := u_known (C := RX0) (T := TX0) (N := 18) (n := 18) hts inX0 (hts _ (tb_mem (i := 10) (by decide +kernel)))
  obtain ⟨k1, iS1, hKn1⟩ := u_known (C := RX1) (T := TX1) (N := 19) (n := 19) hts inX1 (hts _ (tb_mem (i := 388) (by decide +kernel)))
  obtain ⟨cZ, z1, z2⟩ := arr_K (hts _ (tb_mem (i := 72) (w := .arrayClass .boolean) (by decide +kernel)))
  obtain ⟨cI, i1, i2⟩ := arr_K (hts _ (tb_mem (i := 73) (w := .arrayClass .int) (by decide +kernel)))
  obtain ⟨cJ, j1, j2⟩ := arr_K (hts _ (tb_mem (i := 598) (w := .arrayClass .long) (by decide +kernel)))
  refine ⟨(fun k => if k = 0 then k0 else k1, fun k => if k = 0 then iS0 else iS1), cZ, cI, cJ, ?_, ?_⟩
  · intro k q hq
    match k, hq with
    | 0, hq => cases hq; exact hKn0
    | 1, hq => cases hq; exact hKn1
    | k + 2, hq => simp [vwCl] at hq
  · intro k q hq
    match k, hq with
    | 0, hq => cases hq; exact ⟨z1, z2⟩
    | 1, hq => cases hq; exact ⟨i1, i2⟩
    | 2, hq => cases hq; exact ⟨j1, j2⟩
    | k + 3, hq => simp at hq
