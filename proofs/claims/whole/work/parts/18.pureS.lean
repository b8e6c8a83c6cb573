theorem it_0 {α : Type} (f : Nat → α → α) (x : α) : itF f x 0 = x := rfl
theorem it_s {α : Type} (f : Nat → α → α) (x : α) (n : Nat) : itF f x (n + 1) = f n (itF f x n) := rfl
def opS (σ : sC) (g r : Nat) (x : Int32) : Int32 := if x = 0 then (if σ 10 (4 * g + r) = 0 then 0 else 1) else 1
def okS (σ : sC) (g i j : Nat) (x : Int32) : Int32 := if x = 0 then 0 else if σ 10 (4 * g + i) = 2 then (if σ 10 (4 * g + j) = 2 then (if flip (σ 1 (4 * i + j)) = 0 then 0 else 1) else 1) else 1
def okR (σ : sC) (g i : Nat) (x : Int32) : Int32 := itF (okS σ g i) x i
def setlM (σ : sC) (g : Nat) : Int32 := if itF (okR σ g) 1 4 = 0 then 0 else if itF (opS σ g) 0 4 = 0 then 1 else if hasM σ g = 0 then 0 else 1
theorem setlM_z (σ : sC) (g : Nat) : setlM σ g = 0 ∨ setlM σ g = 1 := by
  unfold setlM
  split
  · exact Or.inl rfl
  · split
    · exact Or.inr rfl
    · split
      · exact Or.inl rfl
      · exact Or.inr rfl
theorem tickS_eq (k : Nat) (σ : sC) : tickS k σ = gapF (itF (turnB (k % 3)) (itF (turnM (k % 3)) σ 4) 4) (k % 3) := by
  unfold tickS groupT runB runM
  with_reducible rfl
theorem tick_k (σ : sC) {k g : Nat} (eg : k % 3 = g) : gapF (itF (turnB g) (itF (turnM g) (tickK σ k) 4) 4) g = tickK σ (k + 1) := by
  subst eg
  unfold tickK
  exact (tickS_eq k _).symm.trans (it_s tickS σ k).symm
theorem tick_f (σ : sC) (n : Nat) : up (tickK σ (3 * n)) 17 0 ((tickK σ (3 * n)) 17 0 + nI n) = tickF σ n := by
  rw [tickK_3]
  unfold tickF
  with_reducible rfl
