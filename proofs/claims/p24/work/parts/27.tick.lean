/-! ===== ticks while nobody takes part ===== -/
/-- a new object after k ticks, its clock at t -/
def sT (k : Nat) (t : Int32) : sC := fun j i => if j = 7 then (if i < 3 then nI k else 0) else if j = 17 then (if i = 0 then t else 0) else s0 j i
theorem sT_role (k : Nat) (t : Int32) (i : Nat) : sT k t 10 i = 0 := by
  unfold sT
  rw [if_neg (by decide), if_neg (by decide)]
  exact s0_0 10 (by decide) i
theorem sT_gap (k : Nat) (t : Int32) {g : Nat} (hg : g < 3) : sT k t 7 g = nI k := by
  unfold sT
  rw [if_pos rfl, if_pos hg]
theorem sT_time (k : Nat) (t : Int32) : sT k t 17 0 = t := by
  unfold sT
  rw [if_neg (by decide), if_pos rfl, if_pos rfl]
theorem s0_sT : s0 = sT 0 0 := by
  funext j i
  unfold sT
  by_cases h7 : j = 7
  · subst h7
    rw [if_pos rfl, s0_0 7 (by decide)]
    by_cases hi : i < 3
    · rw [if_pos hi]; rfl
    · rw [if_neg hi]
  · rw [if_neg h7]
    by_cases h17 : j = 17
    · subst h17
      rw [if_pos rfl, s0_0 17 (by decide)]
      by_cases hi : i = 0
      · rw [if_pos hi]
      · rw [if_neg hi]
    · rw [if_neg h17]
theorem runM_out {σ : sC} (h : ∀ i, σ 10 i = 0) (g : Nat) : runM σ g = σ := by
  have h1 : ∀ r, turnM g r σ = σ := fun r => by
    unfold turnM
    rw [h, if_neg (by decide)]
  unfold runM
  rw [it_s4, h1, h1, h1, h1]
theorem runB_out {σ : sC} (h : ∀ i, σ 10 i = 0) (g : Nat) : runB σ g = σ := by
  have h1 : ∀ r, turnB g r σ = σ := fun r => by
    unfold turnB
    rw [h, if_neg (by decide)]
  unfold runB
  rw [it_s4, h1, h1, h1, h1]
theorem memW_out {σ : sC} (h : ∀ i, σ 10 i = 0) (role : Int32) (g : Nat) (hr : ¬ (0 : Int32) = role) : memW σ role g = 0 := by
  have h1 : ∀ r x, memS σ role g r x = x := fun r x => by
    unfold memS
    rw [h, if_neg hr]
  unfold memW
  rw [it_s4, h1, h1, h1, h1]
theorem groupT_out {σ : sC} (h : ∀ i, σ 10 i = 0) (g : Nat) : groupT g σ = up σ 7 g (σ 7 g + 1) := by
  unfold groupT
  rw [runM_out h, runB_out h]
  unfold gapF
  rw [if_pos (memW_out h 2 g (by decide))]
theorem up_out {σ : sC} (h : ∀ i, σ 10 i = 0) (g : Nat) (v : Int32) : ∀ i, (up σ 7 g v) 10 i = 0 := fun i => by
  rw [up_nk _ _ _ _ (by decide)]
  exact h i
theorem it_s3 {α : Type} (f : Nat → α → α) (x : α) : itF f x 3 = f 2 (f 1 (f 0 x)) := rfl
theorem tickT_sT (q k : Nat) (t : Int32) : tickT q (sT k t) = sT (k + 1) t := by
  have h0 := sT_role k t
  unfold tickT
  rw [it_s3, groupT_out h0]
  have h1 := up_out h0 0 (sT k t 7 0 + 1)
  rw [groupT_out h1]
  have h2 := up_out h1 1 ((up (sT k t) 7 0 (sT k t 7 0 + 1)) 7 1 + 1)
  rw [groupT_out h2]
  rw [up_ne _ _ _ _ (show (2 : Nat) ≠ 1 by decide), up_ne _ _ _ _ (show (2 : Nat) ≠ 0 by decide), up_ne _ _ _ _ (show (1 : Nat) ≠ 0 by decide)]
  rw [sT_gap k t (by decide), sT_gap k t (by decide), sT_gap k t (by decide), nI_1]
  funext j i
  by_cases h7 : j = 7
  · subst h7
    by_cases i2 : i = 2
    · subst i2; rw [up_eq, sT_gap _ _ (by decide)]
    · rw [up_ne _ _ _ _ i2]
      by_cases i1 : i = 1
      · subst i1; rw [up_eq, sT_gap _ _ (by decide)]
      · rw [up_ne _ _ _ _ i1]
        by_cases i0 : i = 0
        · subst i0; rw [up_eq, sT_gap _ _ (by decide)]
        · rw [up_ne _ _ _ _ i0]
          unfold sT
          rw [if_pos rfl, if_pos rfl, if_neg (by omega), if_neg (by omega)]
  · rw [up_nk _ _ _ _ h7, up_nk _ _ _ _ h7, up_nk _ _ _ _ h7]
    unfold sT
    rw [if_neg h7, if_neg h7]
theorem tickN_sT (k : Nat) (t : Int32) : ∀ n, itF tickT (sT k t) n = sT (k + n) t
  | 0 => rfl
  | n + 1 => by rw [it_s, tickN_sT k t n, tickT_sT]; rfl
theorem tickF_sT (k n : Nat) (t : Int32) : tickF (sT k t) n = sT (k + n) (t + nI n) := by
  unfold tickF
  rw [tickN_sT, sT_time]
  funext j i
  by_cases h17 : j = 17
  · subst h17
    by_cases i0 : i = 0
    · subst i0; rw [up_eq, sT_time]
    · rw [up_ne _ _ _ _ i0]
      unfold sT
      rw [if_neg (by decide), if_pos rfl, if_neg i0, if_neg (by decide), if_pos rfl, if_neg i0]
  · rw [up_nk _ _ _ _ h17]
    unfold sT
    by_cases h7 : j = 7
    · rw [if_pos h7, if_pos h7]
    · rw [if_neg h7, if_neg h7, if_neg h17, if_neg h17]
theorem tick30 : tickF s0 30 = sT 30 (nI 30) := by
  rw [s0_sT, tickF_sT]
  rfl
theorem tick_one (k : Nat) : tickF (sT k (nI k)) 1 = sT (k + 1) (nI (k + 1)) := by
  rw [tickF_sT, nI_add]
