def inB (v lo hi : Int32) : Int32 := if v < lo then 0 else if hi < v then 0 else 1
theorem in_r {r : Nat} (hr : r < 4) : inB (nI r) 0 3 = 1 := (by decide +kernel : ∀ r, r < 4 → inB (nI r) 0 3 = 1) r hr
theorem in_g {g : Nat} (hg : g < 3) : inB (nI g) 0 2 = 1 := (by decide +kernel : ∀ g, g < 3 → inB (nI g) 0 2 = 1) g hg
theorem in_k {k : Nat} (hk : k < 2) : inB (nI k) 0 1 = 1 := (by decide +kernel : ∀ k, k < 2 → inB (nI k) 0 1 = 1) k hk
theorem it_s {α : Type} (f : Nat → α → α) (x : α) (n : Nat) : itF f x (n + 1) = f n (itF f x n) := rfl
