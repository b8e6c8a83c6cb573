/-! ===== what the methods do, over one state σ ===== -/
def itF {α : Type} (f : Nat → α → α) (x : α) : Nat → α
  | 0 => x
  | n + 1 => f n (itF f x n)
def low1 (σ : sC) (r k : Nat) (x : Int32) : Int32 := if σ 2 (2 * r + k) = 0 then x - σ 3 (2 * r + k) else x
def lowM (x : Int32) : Int32 := if x < 1 then 1 else x
def lowP (σ : sC) (r g : Nat) : Int32 := lowM (itF (low1 σ r) (σ 9 (4 * g + r)) 2)
def skewF (σ : sC) (own : Int32) (g : Nat) : Int32 := σ 4 g * (256 - own) / 256
def waitF (σ : sC) (own : Int32) (g : Nat) : Int32 := 3 * σ 4 g + skewF σ own g
def rest2 (σ : sC) (r g : Nat) (h : Int32) : sC := up (up σ 10 (4 * g + r) 1) 12 (4 * g + r) h
def restF (σ : sC) (r g : Nat) (h : Int32) : sC := up (rest2 σ r g h) 11 (4 * g + r) (waitF (rest2 σ r g h) (lowP (rest2 σ r g h) r g) g)
def copy1 (σ : sC) (t f g : Nat) : sC := up σ 13 (4 * g + t) (σ 13 (4 * g + t) + (σ 13 (4 * g + f) - σ 13 (4 * g + t)))
def copy2 (σ : sC) (t g : Nat) : sC := if σ 15 (4 * g + t) = 0 then σ else up (up σ 15 (4 * g + t) 0) 16 0 ((up σ 15 (4 * g + t) 0) 16 0 + 1)
def copyF (σ : sC) (t f g : Nat) : sC :=
  if 0 < σ 13 (4 * g + f) - σ 13 (4 * g + t) then
    (if 10 < σ 13 (4 * g + f) - σ 13 (4 * g + t) then
      (if σ 15 (4 * g + t) = 0 then up σ 15 (4 * g + t) 1 else copy2 (copy1 σ t f g) t g)
    else copy2 (copy1 σ t f g) t g)
  else σ
def recvM (σ : sC) (r g s : Nat) (num : Int32) : sC :=
  if lowP σ r g < num then copyF (restF σ r g 0) r s g
  else if num = lowP σ r g then (if nI r < nI s then copyF (restF σ r g 0) r s g else σ) else σ
def waitB (σ : sC) (r g : Nat) (h own : Int32) : sC := up (up σ 12 (4 * g + r) h) 11 (4 * g + r) (waitF (up σ 12 (4 * g + r) h) own g)
def recvB (σ : sC) (r g s : Nat) (num : Int32) : sC :=
  if num = 0 then copyF (up σ 11 (4 * g + r) (skewF σ (lowP σ r g) g + 1)) r s g
  else if σ 5 g = 0 then copyF (waitB σ r g 0 (lowP σ r g)) r s g
  else if num < lowP σ r g then
    (if σ 12 (4 * g + r) < σ 6 g then copyF (waitB σ r g (σ 12 (4 * g + r) + 1) (lowP σ r g)) r s g else σ)
  else copyF (waitB σ r g 0 (lowP σ r g)) r s g
def advS (s g : Nat) (num : Int32) (r : Nat) (σ : sC) : sC :=
  if nI r = nI s then σ else if σ 1 (4 * s + r) = 0 then σ
  else if σ 10 (4 * g + r) = 2 then recvM σ r g s num
  else if σ 10 (4 * g + r) = 1 then recvB σ r g s num else σ
def advF (σ : sC) (s g : Nat) (num : Int32) : sC := itF (advS s g num) (up σ 8 g (σ 8 g + 1)) 4
def tick1 (σ : sC) (r g : Nat) : sC := up σ 11 (4 * g + r) (σ 11 (4 * g + r) - 1)
def sendF (σ : sC) (r g : Nat) : sC := up (advF σ r g (lowP σ r g)) 11 (4 * g + r) ((advF σ r g (lowP σ r g)) 4 g)
def turnM (g r : Nat) (σ : sC) : sC :=
  if σ 10 (4 * g + r) = 2 then (if (tick1 σ r g) 11 (4 * g + r) = 0 then sendF (tick1 σ r g) r g else tick1 σ r g) else σ
def riseF (σ : sC) (r g : Nat) : sC := up (up σ 10 (4 * g + r) 2) 14 (4 * g + r) ((up σ 10 (4 * g + r) 2) 14 (4 * g + r) + 1)
def turnB (g r : Nat) (σ : sC) : sC :=
  if σ 10 (4 * g + r) = 1 then (if (tick1 σ r g) 11 (4 * g + r) = 0 then sendF (riseF (tick1 σ r g) r g) r g else tick1 σ r g) else σ
def memS (σ : sC) (role : Int32) (g r : Nat) (x : Int32) : Int32 := if σ 10 (4 * g + r) = role then x + ((1 : Int32) <<< (nI r &&& 31)) else x
def memW (σ : sC) (role : Int32) (g : Nat) : Int32 := itF (memS σ role g) 0 4
def gapF (σ : sC) (g : Nat) : sC := if memW σ 2 g = 0 then up σ 7 g (σ 7 g + 1) else σ
def runM (σ : sC) (g : Nat) : sC := itF (turnM g) σ 4
def runB (σ : sC) (g : Nat) : sC := itF (turnB g) σ 4
def groupT (g : Nat) (σ : sC) : sC := gapF (runB (runM σ g) g) g
def tickT (_ : Nat) (σ : sC) : sC := itF groupT σ 3
def tickF (σ : sC) (n : Nat) : sC := up (itF tickT σ n) 17 0 ((itF tickT σ n) 17 0 + nI n)
def beginF (σ : sC) (r g : Nat) : sC := up (restF σ r g 0) 15 (4 * g + r) 0
def goodJ (σ : sC) (g i j : Nat) : Prop := σ 10 (4 * g + i) = 2 ∧ σ 10 (4 * g + j) = 2 ∧ ¬ σ 1 (4 * i + j) = 0
def hasJp (σ : sC) (g : Nat) : Prop := ∃ i j : Nat, i < j ∧ j < 4 ∧ goodJ σ g i j
noncomputable def hasJ (σ : sC) (g : Nat) : Int32 := @ite Int32 (hasJp σ g) (Classical.propDecidable _) 1 0
theorem hasJ_1 {σ : sC} {g : Nat} (h : hasJp σ g) : hasJ σ g = 1 := by unfold hasJ; exact if_pos h
theorem hasJ_0 {σ : sC} {g : Nat} (h : ¬ hasJp σ g) : hasJ σ g = 0 := by unfold hasJ; exact if_neg h
theorem nar_z {x : Int32} (h : x = 0 ∨ x = 1) : narrow .boolean (.int x) = .int x := by rcases h with h | h <;> subst h <;> rfl
theorem hasJ_z (σ : sC) (g : Nat) : hasJ σ g = 0 ∨ hasJ σ g = 1 := by
  by_cases h : hasJp σ g
  · exact Or.inr (hasJ_1 h)
  · exact Or.inl (hasJ_0 h)
def setP2 (σ : sC) (r g : Nat) (v : Int32) : sC :=
  if v = 0 then up (up σ 9 (4 * g + r) v) 10 (4 * g + r) 0
  else if (up σ 9 (4 * g + r) v) 0 r = 0 then up σ 9 (4 * g + r) v
  else if (up σ 9 (4 * g + r) v) 10 (4 * g + r) = 0 then beginF (up σ 9 (4 * g + r) v) r g else up σ 9 (4 * g + r) v
def setP1 (σ : sC) (r g : Nat) (v : Int32) : sC := if v = 0 then (if σ 10 (4 * g + r) = 2 then advF σ r g 0 else σ) else σ
def setPF (σ : sC) (r g : Nat) (v : Int32) : sC := setP2 (setP1 σ r g v) r g v
def dieS (r g : Nat) (σ : sC) : sC := up σ 10 (4 * g + r) 0
def dieG (σ : sC) (r n : Nat) : sC := itF (dieS r) (up σ 0 r 0) n
def dieC (σ : sC) (r : Nat) (g : Nat) (x : Int32) : Int32 := if (dieG σ r g) 10 (4 * g + r) = 2 then x + 1 else x
def dieN (σ : sC) (r n : Nat) : Int32 := itF (dieC σ r) 0 n
def liveS (r g : Nat) (σ : sC) : sC := if 0 < σ 9 (4 * g + r) then beginF σ r g else σ
def liveG (σ : sC) (r n : Nat) : sC := itF (liveS r) (up σ 0 r 1) n
def liveC (σ : sC) (r : Nat) (g : Nat) (x : Int32) : Int32 := if 0 < (liveG σ r g) 9 (4 * g + r) then x + 1 else x
def liveN (σ : sC) (r n : Nat) : Int32 := itF (liveC σ r) 0 n
def serveS (g : Nat) (k : Int32) (r : Nat) (σ : sC) : sC := if σ 10 (4 * g + r) = 2 then up σ 13 (4 * g + r) (σ 13 (4 * g + r) + k) else σ
def serveG (σ : sC) (g : Nat) (k : Int32) (n : Nat) : sC := itF (serveS g k) σ n
def serveC (σ : sC) (g : Nat) (k : Int32) (r : Nat) (x : Int32) : Int32 := if (serveG σ g k r) 10 (4 * g + r) = 2 then x + 1 else x
def serveN (σ : sC) (g : Nat) (k : Int32) (n : Nat) : Int32 := itF (serveC σ g k) 0 n
def prioF (σ : sC) (r g : Nat) : Int32 := if σ 10 (4 * g + r) = 0 then 0 else lowP σ r g
noncomputable def setlF (σ : sC) (g : Nat) : Int32 := if memW σ 2 g = 0 then (if memW σ 1 g = 0 then 1 else 0) else (if hasJ σ g = 0 then 1 else 0)
theorem setlF_z (σ : sC) (g : Nat) : setlF σ g = 0 ∨ setlF σ g = 1 := by
  unfold setlF
  split
  · split
    · exact Or.inr rfl
    · exact Or.inl rfl
  · split
    · exact Or.inr rfl
    · exact Or.inl rfl
