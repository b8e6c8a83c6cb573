/-! ===== what the methods do, over one state σ ===== -/
def itF {α : Type} (f : Nat → α → α) (x : α) : Nat → α
  | 0 => x
  | n + 1 => f n (itF f x n)
def low1 (σ : sC) (r k : Nat) (x : Int32) : Int32 := if σ 2 (2 * r + k) = 0 then x - σ 3 (2 * r + k) else x
def lowM (x : Int32) : Int32 := if x < 1 then 1 else x
def lowP (σ : sC) (r g : Nat) : Int32 := lowM (itF (low1 σ r) (σ 9 (4 * g + r)) 2)
def skewF (σ : sC) (own : Int32) (g : Nat) : Int32 := σ 4 g * (256 - own) / 256
def waitF (σ : sC) (own : Int32) (g : Nat) : Int32 := 3 * σ 4 g + skewF σ own g
def rest2 (σ : sC) (r g : Nat) (h : Int32) : sC := up (up σ 10 (4 * g + r) 1) 12 (4 * g + r) h
def restF (σ : sC) (r g : Nat) (h : Int32) : sC := up (rest2 σ r g h) 11 (4 * g + r) (waitF (rest2 σ r g h) (lowP (rest2 σ r g h) r g) g)
def copy1 (σ : sC) (t f g : Nat) : sC := up σ 13 (4 * g + t) (σ 13 (4 * g + t) + (σ 13 (4 * g + f) - σ 13 (4 * g + t)))
def copy2 (σ : sC) (t g : Nat) : sC := if σ 15 (4 * g + t) = 0 then σ else up (up σ 15 (4 * g + t) 0) 16 0 ((up σ 15 (4 * g + t) 0) 16 0 + 1)
def copyF (σ : sC) (t f g : Nat) : sC :=
  if 0 < σ 13 (4 * g + f) - σ 13 (4 * g + t) then
    (if 10 < σ 13 (4 * g + f) - σ 13 (4 * g + t) then
      (if σ 15 (4 * g + t) = 0 then up σ 15 (4 * g + t) 1 else copy2 (copy1 σ t f g) t g)
    else copy2 (copy1 σ t f g) t g)
  else σ
def recvM (σ : sC) (r g s : Nat) (num : Int32) : sC :=
  if lowP σ r g < num then copyF (restF σ r g 0) r s g
  else if num = lowP σ r g then (if nI r < nI s then copyF (restF σ r g 0) r s g else σ) else σ
def waitB (σ : sC) (r g : Nat) (h own : Int32) : sC := up (up σ 12 (4 * g + r) h) 11 (4 * g + r) (waitF (up σ 12 (4 * g + r) h) own g)
def recvB (σ : sC) (r g s : Nat) (num : Int32) : sC :=
  if num = 0 then copyF (up σ 11 (4 * g + r) (skewF σ (lowP σ r g) g + 1)) r s g
  else if σ 5 g = 0 then copyF (waitB σ r g 0 (lowP σ r g)) r s g
  else if num < lowP σ r g then
    (if σ 12 (4 * g + r) < σ 6 g then copyF (waitB σ r g (σ 12 (4 * g + r) + 1) (lowP σ r g)) r s g else σ)
  else copyF (waitB σ r g 0 (lowP σ r g)) r s g
def advS (s g : Nat) (num : Int32) (r : Nat) (σ : sC) : sC :=
  if nI r = nI s then σ else if σ 1 (4 * s + r) = 0 then σ
  else if σ 10 (4 * g + r) = 2 then recvM σ r g s num
  else if σ 10 (4 * g + r) = 1 then recvB σ r g s num else σ
def advF (σ : sC) (s g : Nat) (num : Int32) : sC := itF (advS s g num) (up σ 8 g (σ 8 g + 1)) 4
def tick1 (σ : sC) (r g : Nat) : sC := up σ 11 (4 * g + r) (σ 11 (4 * g + r) - 1)
def sendF (σ : sC) (r g : Nat) : sC := up (advF σ r g (lowP σ r g)) 11 (4 * g + r) ((advF σ r g (lowP σ r g)) 4 g)
def turnM (g r : Nat) (σ : sC) : sC :=
  if σ 10 (4 * g + r) = 2 then (if (tick1 σ r g) 11 (4 * g + r) = 0 then sendF (tick1 σ r g) r g else tick1 σ r g) else σ
def riseF (σ : sC) (r g : Nat) : sC := up (up σ 10 (4 * g + r) 2) 14 (4 * g + r) ((up σ 10 (4 * g + r) 2) 14 (4 * g + r) + 1)
def turnB (g r : Nat) (σ : sC) : sC :=
  if σ 10 (4 * g + r) = 1 then (if (tick1 σ r g) 11 (4 * g + r) = 0 then sendF (riseF (tick1 σ r g) r g) r g else tick1 σ r g) else σ
def memS (σ : sC) (role : Int32) (g r : Nat) (x : Int32) : Int32 := if σ 10 (4 * g + r) = role then x + ((1 : Int32) <<< (nI r &&& 31)) else x
def memW (σ : sC) (role : Int32) (g : Nat) : Int32 := itF (memS σ role g) 0 4
def gapF (σ : sC) (g : Nat) : sC := if memW σ 2 g = 0 then up σ 7 g (σ 7 g + 1) else σ
def runM (σ : sC) (g : Nat) : sC := itF (turnM g) σ 4
def runB (σ : sC) (g : Nat) : sC := itF (turnB g) σ 4
def groupT (g : Nat) (σ : sC) : sC := gapF (runB (runM σ g) g) g
def tickT (_ : Nat) (σ : sC) : sC := itF groupT σ 3
def tickF (σ : sC) (n : Nat) : sC := up (itF tickT σ n) 17 0 ((itF tickT σ n) 17 0 + nI n)
def beginF (σ : sC) (r g : Nat) : sC := up (restF σ r g 0) 15 (4 * g + r) 0
