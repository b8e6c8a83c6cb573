/-! ===== numbers and small words of the reference ===== -/
def inB (v lo hi : Int32) : Int32 := if v < lo then 0 else if hi < v then 0 else 1
def arE (x y : Int32) : Int32 := if inB x 0 3 = 0 then 0 else if inB y 0 2 = 0 then 0 else 1
def lkE (x y : Int32) : Int32 := if inB x 0 3 = 0 then 0 else if inB y 0 1 = 0 then 0 else 1
def gwF (k : Int32) : Int32 := if k = 0 then 1 else 0
theorem inB_z (v lo hi : Int32) : inB v lo hi = 0 ∨ inB v lo hi = 1 := by
  unfold inB
  split
  · exact Or.inl rfl
  · split
    · exact Or.inl rfl
    · exact Or.inr rfl
theorem arE_z (x y : Int32) : arE x y = 0 ∨ arE x y = 1 := by
  unfold arE
  split
  · exact Or.inl rfl
  · split
    · exact Or.inl rfl
    · exact Or.inr rfl
theorem lkE_z (x y : Int32) : lkE x y = 0 ∨ lkE x y = 1 := by
  unfold lkE
  split
  · exact Or.inl rfl
  · split
    · exact Or.inl rfl
    · exact Or.inr rfl
theorem gwF_z (k : Int32) : gwF k = 0 ∨ gwF k = 1 := by
  unfold gwF
  split
  · exact Or.inr rfl
  · exact Or.inl rfl
theorem in_1 {v lo hi : Int32} (h1 : ¬ v < lo) (h2 : ¬ hi < v) : inB v lo hi = 1 := by
  unfold inB
  rw [if_neg h1, if_neg h2]
theorem in_r {r : Nat} (hr : r < 4) : inB (nI r) 0 3 = 1 := (by decide +kernel : ∀ r, r < 4 → inB (nI r) 0 3 = 1) r hr
theorem in_g {g : Nat} (hg : g < 3) : inB (nI g) 0 2 = 1 := (by decide +kernel : ∀ g, g < 3 → inB (nI g) 0 2 = 1) g hg
theorem in_k {k : Nat} (hk : k < 2) : inB (nI k) 0 1 = 1 := (by decide +kernel : ∀ k, k < 2 → inB (nI k) 0 1 = 1) k hk
theorem are_1 {r g : Nat} (hr : r < 4) (hg : g < 3) : arE (nI r) (nI g) = 1 := by
  unfold arE
  rw [in_r hr, in_g hg]
  rfl
theorem lk_1 {r k : Nat} (hr : r < 4) (hk : k < 2) : lkE (nI r) (nI k) = 1 := by
  unfold lkE
  rw [in_r hr, in_k hk]
  rfl
theorem dv3 {r g : Nat} (hr : r < 4) (hg : g < 3) : nI (3 * r + g) / 3 = nI r := (by decide +kernel : ∀ r, r < 4 → ∀ g, g < 3 → nI (3 * r + g) / 3 = nI r) r hr g hg
theorem md3 {r g : Nat} (hr : r < 4) (hg : g < 3) : nI (3 * r + g) - nI (3 * r + g) / 3 * 3 = nI g := (by decide +kernel : ∀ r, r < 4 → ∀ g, g < 3 → nI (3 * r + g) - nI (3 * r + g) / 3 * 3 = nI g) r hr g hg
theorem md3k {k : Nat} (hk : k < 300) : nI k - nI k / 3 * 3 = nI (k % 3) := (by decide +kernel : ∀ k, k < 300 → nI k - nI k / 3 * 3 = nI (k % 3)) k hk
theorem ml3 {r g : Nat} (hr : r < 4) (hg : g < 3) : 3 * nI r + nI g = nI (3 * r + g) := (by decide +kernel : ∀ r, r < 4 → ∀ g, g < 3 → 3 * nI r + nI g = nI (3 * r + g)) r hr g hg
theorem ml2 {r k : Nat} (hr : r < 4) (hk : k < 2) : 2 * nI r + nI k = nI (2 * r + k) := (by decide +kernel : ∀ r, r < 4 → ∀ k, k < 2 → 2 * nI r + nI k = nI (2 * r + k)) r hr k hk
theorem ml4 {r q : Nat} (hr : r < 4) (hq : q < 4) : 4 * nI r + nI q = nI (4 * r + q) := (by decide +kernel : ∀ r, r < 4 → ∀ q, q < 4 → 4 * nI r + nI q = nI (4 * r + q)) r hr q hq
theorem st3 {r g : Nat} (hr : r < 4) (hg : g < 3) : nI (3 * r + g) + 3 = nI (3 * (r + 1) + g) := (by decide +kernel : ∀ r, r < 4 → ∀ g, g < 3 → nI (3 * r + g) + 3 = nI (3 * (r + 1) + g)) r hr g hg
theorem mt3 {n : Nat} (hn : n < 100) : nI n * 3 = nI (3 * n) := (by decide +kernel : ∀ n, n < 100 → nI n * 3 = nI (3 * n)) n hn
theorem lt_pl {r q g : Nat} (hr : r < 4) (hq : q < 4) (hg : g < 3) : nI (3 * r + g) < nI (3 * q + g) ↔ nI r < nI q := (by decide +kernel : ∀ r, r < 4 → ∀ q, q < 4 → ∀ g, g < 3 → (nI (3 * r + g) < nI (3 * q + g) ↔ nI r < nI q)) r hr q hq g hg
theorem eq_pl {r q g : Nat} (hr : r < 4) (hq : q < 4) (hg : g < 3) : nI (3 * r + g) = nI (3 * q + g) ↔ nI r = nI q := (by decide +kernel : ∀ r, r < 4 → ∀ q, q < 4 → ∀ g, g < 3 → (nI (3 * r + g) = nI (3 * q + g) ↔ nI r = nI q)) r hr q hq g hg
theorem lt12 {r g : Nat} (hr : r < 4) (hg : g < 3) : nI (3 * r + g) < nI 12 := nI_lt (by omega) (by omega)
theorem ge12 {g : Nat} (hg : g < 3) : ¬ nI (3 * 4 + g) < nI 12 := nI_nlt (by omega) (by omega)
theorem flip_1 {x : Int32} (h : ¬ flip x = 0) : x = 0 := Classical.byContradiction fun q => h ((flip_0 x).mpr q)
/-! ===== the reference's functions are the same ===== -/
theorem up_comm (σ : sC) {k k' : Nat} (h : k ≠ k') (p q : Nat) (v w : Int32) : up (up σ k p v) k' q w = up (up σ k' q w) k p v := by
  funext j i
  by_cases h1 : j = k
  · subst h1
    rw [up_nk _ _ _ _ h]
    by_cases h2 : i = p
    · subst h2; rw [up_eq, up_eq]
    · rw [up_ne _ _ _ _ h2, up_ne _ _ _ _ h2, up_nk _ _ _ _ h]
  · rw [up_nk (up σ k' q w) k p v h1]
    by_cases h2 : j = k'
    · subst h2
      by_cases h3 : i = q
      · subst h3; rw [up_eq, up_eq]
      · rw [up_ne _ _ _ _ h3, up_ne _ _ _ _ h3, up_nk _ _ _ _ h1]
    · rw [up_nk _ _ _ _ h2, up_nk _ _ _ _ h2, up_nk _ _ _ _ h1]
theorem i_addsub (x y : Int32) : x + (y - x) = y := by
  rw [Int32.add_comm, Int32.sub_add_cancel]
theorem copy1_m (σ : sC) (t f g : Nat) : copy1 σ t f g = up σ 13 (4 * g + t) (σ 13 (4 * g + f)) := by
  unfold copy1
  rw [i_addsub]
theorem copy_m0 (σ : sC) {t g : Nat} (h : σ 15 (4 * g + t) = 0) : up (up σ 16 0 (σ 16 0 + 0)) 15 (4 * g + t) 0 = copy2 σ t g := by
  unfold copy2
  rw [if_pos h, Int32.add_zero, up_self σ 16 0 _ rfl, up_self σ 15 _ _ h]
theorem copy_m1 (σ : sC) {t g : Nat} (h : ¬ σ 15 (4 * g + t) = 0) : up (up σ 16 0 (σ 16 0 + 1)) 15 (4 * g + t) 0 = copy2 σ t g := by
  unfold copy2
  rw [if_neg h, up_comm σ (by decide : (16 : Nat) ≠ 15)]
  rfl
theorem rest_b {σ : sC} {r g : Nat} (h : Int32) (h1 : σ 10 (4 * g + r) = 1) : restF σ r g h = waitB σ r g h (lowP σ r g) := by
  unfold restF rest2 waitB
  rw [up_self σ 10 _ _ h1]
  rfl
def recF (σ : sC) (r g s : Nat) (num : Int32) : sC := if σ 10 (4 * g + r) = 2 then recvM σ r g s num else recvB σ r g s num
theorem advS_m {s g r : Nat} {num : Int32} {σ : sC} (h1 : ¬ nI r = nI s) (h2 : ¬ σ 1 (4 * s + r) = 0) (h3 : σ 10 (4 * g + r) = 2 ∨ σ 10 (4 * g + r) = 1) : recF σ r g s num = advS s g num r σ := by
  unfold recF advS
  rw [if_neg h1, if_neg h2]
  by_cases h : σ 10 (4 * g + r) = 2
  · rw [if_pos h, if_pos h]
  · rw [if_neg h, if_neg h, if_pos (h3.resolve_left h)]
theorem advS_0 {s g r : Nat} {num : Int32} {σ : sC} (h : σ 10 (4 * g + r) = 0) : advS s g num r σ = σ := by
  unfold advS
  rw [h]
  split
  · rfl
  · split
    · rfl
    · rfl
/-- roles are 0, 1 or 2 -/
def I1 (σ : sC) : Prop := ∀ p : Nat, σ 10 p = 0 ∨ σ 10 p = 1 ∨ σ 10 p = 2
theorem I1_of {σ τ : sC} (h : τ 10 = σ 10) (hI : I1 σ) : I1 τ := fun p => by rw [h]; exact hI p
theorem I1_up {σ : sC} (p : Nat) {v : Int32} (hv : v = 0 ∨ v = 1 ∨ v = 2) (hI : I1 σ) : I1 (up σ 10 p v) := fun q => by
  by_cases h : q = p
  · subst h; rw [up_eq]; exact hv
  · rw [up_ne _ _ _ _ h]; exact hI q
theorem I1_k {σ : sC} {k : Nat} (p : Nat) (v : Int32) (hk : 10 ≠ k) (hI : I1 σ) : I1 (up σ k p v) := I1_of (up_nk _ _ _ _ hk) hI
theorem I1_rest {σ : sC} (r g : Nat) (h : Int32) (hI : I1 σ) : I1 (restF σ r g h) := I1_k _ _ (by decide) (I1_k _ _ (by decide) (I1_up _ (Or.inr (Or.inl rfl)) hI))
theorem I1_copy2 {σ : sC} (t g : Nat) (hI : I1 σ) : I1 (copy2 σ t g) := by
  unfold copy2
  split
  · exact hI
  · exact I1_k _ _ (by decide) (I1_k _ _ (by decide) hI)
theorem I1_copy {σ : sC} (t f g : Nat) (hI : I1 σ) : I1 (copyF σ t f g) := by
  unfold copyF
  split
  · split
    · split
      · exact I1_k _ _ (by decide) hI
      · exact I1_copy2 _ _ (I1_k _ _ (by decide) hI)
    · exact I1_copy2 _ _ (I1_k _ _ (by decide) hI)
  · exact hI
theorem I1_wait {σ : sC} (r g : Nat) (h own : Int32) (hI : I1 σ) : I1 (waitB σ r g h own) := I1_k _ _ (by decide) (I1_k _ _ (by decide) hI)
theorem I1_recvM {σ : sC} (r g s : Nat) (num : Int32) (hI : I1 σ) : I1 (recvM σ r g s num) := by
  unfold recvM
  split
  · exact I1_copy _ _ _ (I1_rest _ _ _ hI)
  · split
    · split
      · exact I1_copy _ _ _ (I1_rest _ _ _ hI)
      · exact hI
    · exact hI
theorem I1_recvB {σ : sC} (r g s : Nat) (num : Int32) (hI : I1 σ) : I1 (recvB σ r g s num) := by
  unfold recvB
  split
  · exact I1_copy _ _ _ (I1_k _ _ (by decide) hI)
  · split
    · exact I1_copy _ _ _ (I1_wait _ _ _ _ hI)
    · split
      · split
        · exact I1_copy _ _ _ (I1_wait _ _ _ _ hI)
        · exact hI
      · exact I1_copy _ _ _ (I1_wait _ _ _ _ hI)
theorem I1_advS {σ : sC} (s g : Nat) (num : Int32) (r : Nat) (hI : I1 σ) : I1 (advS s g num r σ) := by
  unfold advS
  split
  · exact hI
  · split
    · exact hI
    · split
      · exact I1_recvM _ _ _ _ hI
      · split
        · exact I1_recvB _ _ _ _ hI
        · exact hI
theorem I1_it {f : Nat → sC → sC} (hf : ∀ i σ, I1 σ → I1 (f i σ)) {σ : sC} (hI : I1 σ) : ∀ n, I1 (itF f σ n)
  | 0 => hI
  | n + 1 => hf n _ (I1_it hf hI n)
theorem I1_advI {σ : sC} (s g : Nat) (num : Int32) (hI : I1 σ) (n : Nat) : I1 (itF (advS s g num) (up σ 8 g (σ 8 g + 1)) n) := I1_it (fun i τ h => I1_advS s g num i h) (I1_k _ _ (by decide) hI) n
theorem I1_adv {σ : sC} (s g : Nat) (num : Int32) (hI : I1 σ) : I1 (advF σ s g num) := I1_advI s g num hI 4
theorem I1_tick1 {σ : sC} (r g : Nat) (hI : I1 σ) : I1 (tick1 σ r g) := I1_k _ _ (by decide) hI
theorem I1_rise {σ : sC} (r g : Nat) (hI : I1 σ) : I1 (riseF σ r g) := I1_k _ _ (by decide) (I1_up _ (Or.inr (Or.inr rfl)) hI)
theorem I1_send {σ : sC} (r g : Nat) (hI : I1 σ) : I1 (sendF σ r g) := I1_k _ _ (by decide) (I1_adv _ _ _ hI)
theorem I1_turnM {σ : sC} (g r : Nat) (hI : I1 σ) : I1 (turnM g r σ) := by
  unfold turnM
  split
  · split
    · exact I1_send _ _ (I1_tick1 _ _ hI)
    · exact I1_tick1 _ _ hI
  · exact hI
theorem I1_turnB {σ : sC} (g r : Nat) (hI : I1 σ) : I1 (turnB g r σ) := by
  unfold turnB
  split
  · split
    · exact I1_send _ _ (I1_rise _ _ (I1_tick1 _ _ hI))
    · exact I1_tick1 _ _ hI
  · exact hI
theorem I1_gap {σ : sC} (g : Nat) (hI : I1 σ) : I1 (gapF σ g) := by
  unfold gapF
  split
  · exact I1_k _ _ (by decide) hI
  · exact hI
theorem I1_group {σ : sC} (g : Nat) (hI : I1 σ) : I1 (groupT g σ) := I1_gap _ (I1_it (fun i τ h => I1_turnB g i h) (I1_it (fun i τ h => I1_turnM g i h) hI 4) 4)
theorem turn_m2 (σ : sC) {r g : Nat} (h : σ 10 (4 * g + r) = 2) : up (up σ 14 (4 * g + r) (σ 14 (4 * g + r) + 0)) 10 (4 * g + r) 2 = σ := by
  rw [Int32.add_zero, up_self σ 14 _ _ rfl, up_self σ 10 _ _ h]
theorem turn_m1 (σ : sC) (r g : Nat) : up (up σ 14 (4 * g + r) (σ 14 (4 * g + r) + 1)) 10 (4 * g + r) 2 = riseF σ r g := by
  rw [up_comm σ (by decide : (14 : Nat) ≠ 10)]
  rfl
def hasS (σ : sC) (g r : Nat) (x : Int32) : Int32 := if x = 0 then (if σ 10 (4 * g + r) = 2 then 1 else 0) else 1
def hasM (σ : sC) (g : Nat) : Int32 := itF (hasS σ g) 0 4
theorem hasM_iff (σ : sC) (g : Nat) : hasM σ g = 0 ↔ memW σ 2 g = 0 := by
  have key : ∀ a b c d : Bool,
      (itF (fun r (x : Int32) => if x = 0 then (if (match r with | 0 => a | 1 => b | 2 => c | _ => d) = true then 1 else 0) else 1) 0 4 = 0 ↔
       itF (fun r (x : Int32) => if (match r with | 0 => a | 1 => b | 2 => c | _ => d) = true then x + ((1 : Int32) <<< (nI r &&& 31)) else x) 0 4 = 0) := by decide +kernel
  have k2 := key (decide (σ 10 (4 * g + 0) = 2)) (decide (σ 10 (4 * g + 1) = 2)) (decide (σ 10 (4 * g + 2) = 2)) (decide (σ 10 (4 * g + 3) = 2))
  simpa only [hasM, memW, itF, hasS, memS, decide_eq_true_eq] using k2
theorem hasM_z (σ : sC) (g : Nat) : hasM σ g = 0 ∨ hasM σ g = 1 := by
  show hasS σ g 3 (itF (hasS σ g) 0 3) = 0 ∨ hasS σ g 3 (itF (hasS σ g) 0 3) = 1
  unfold hasS
  split
  · split
    · exact Or.inr rfl
    · exact Or.inl rfl
  · exact Or.inr rfl
theorem gap_m0 (σ : sC) (g : Nat) (h : ¬ hasM σ g = 0) : up σ 7 g (σ 7 g + 0) = gapF σ g := by
  unfold gapF
  rw [if_neg (fun q => h ((hasM_iff σ g).mpr q)), Int32.add_zero, up_self σ 7 _ _ rfl]
theorem gap_m1 (σ : sC) (g : Nat) (h : hasM σ g = 0) : up σ 7 g (σ 7 g + 1) = gapF σ g := by
  unfold gapF
  rw [if_pos ((hasM_iff σ g).mp h)]
def tickS (k : Nat) (σ : sC) : sC := groupT (k % 3) σ
def tickK (σ : sC) (n : Nat) : sC := itF tickS σ n
theorem I1_tickK {σ : sC} (hI : I1 σ) (n : Nat) : I1 (tickK σ n) := I1_it (fun i τ h => I1_group (i % 3) h) hI n
theorem tickK_3 (σ : sC) : ∀ n : Nat, tickK σ (3 * n) = itF tickT σ n
  | 0 => by simp only [tickK, itF, Nat.mul_zero]
  | n + 1 => by
    have e : 3 * (n + 1) = 3 * n + 1 + 1 + 1 := by omega
    have h0 : (3 * n) % 3 = 0 := by omega
    have h1 : (3 * n + 1) % 3 = 1 := by omega
    have h2 : (3 * n + 1 + 1) % 3 = 2 := by omega
    rw [e]
    have ih := tickK_3 σ n
    unfold tickK at ih ⊢
    simp only [itF, tickS, tickT, ih, h0, h1, h2]
def settF (σ : sC) (r g : Nat) : sC :=
  if σ 0 r = 0 then up σ 10 (4 * g + r) 0
  else if 0 < σ 9 (4 * g + r) then (if σ 10 (4 * g + r) = 0 then beginF σ r g else σ) else up σ 10 (4 * g + r) 0
theorem sett_p {σ : sC} {r g : Nat} {v : Int32} (hd : σ 0 r = 0 → σ 10 (4 * g + r) = 0) (h1 : ¬ v < 0) : settF (up (setP1 σ r g v) 9 (4 * g + r) v) r g = setPF σ r g v := by
  unfold setPF setP2 settF
  by_cases hv : v = 0
  · subst hv
    rw [up_eq, if_pos rfl]
    split
    · rfl
    · rfl
  · have hp : 0 < v := Classical.byContradiction fun q => hv (Int32.le_antisymm (Int32.not_lt.mp q) (Int32.not_lt.mp h1))
    rw [if_neg hv, up_eq]
    unfold setP1
    rw [if_neg hv, if_pos hp]
    by_cases ha : (up σ 9 (4 * g + r) v) 0 r = 0
    · rw [if_pos ha, if_pos ha]
      exact up_self _ 10 _ _ (hd ha)
    · rw [if_neg ha, if_neg ha]
theorem dieG_0 (σ : sC) (r : Nat) : ∀ n : Nat, (dieG σ r n) 0 r = 0
  | 0 => show (up σ 0 r 0) 0 r = 0 from up_eq σ 0 r 0
  | n + 1 => dieG_0 σ r n
theorem sett_d (σ : sC) (r n : Nat) : settF (dieG σ r n) r n = dieG σ r (n + 1) := by
  unfold settF
  rw [if_pos (dieG_0 σ r n)]
  rfl
/-- what a beginning of another group leaves -/
theorem begin_o (σ : sC) (r g : Nat) {q : Nat} (hq : q ≠ 4 * g + r) : (beginF σ r g) 10 q = σ 10 q := up_ne σ 10 _ _ hq
theorem live_0 (σ : sC) (r : Nat) : ∀ n : Nat, (liveG σ r n) 0 r = 1
  | 0 => show (up σ 0 r 1) 0 r = 1 from up_eq σ 0 r 1
  | n + 1 => by
    show (liveS r n (liveG σ r n)) 0 r = 1
    unfold liveS
    split
    · exact live_0 σ r n
    · exact live_0 σ r n
theorem live_10 (σ : sC) (r : Nat) (j : Nat) : ∀ n : Nat, n ≤ j → (liveG σ r n) 10 (4 * j + r) = σ 10 (4 * j + r)
  | 0, _ => rfl
  | n + 1, h => by
    show (liveS r n (liveG σ r n)) 10 (4 * j + r) = _
    unfold liveS
    split
    · rw [begin_o _ _ _ (by omega)]
      exact live_10 σ r j n (by omega)
    · exact live_10 σ r j n (by omega)
theorem sett_l {σ : sC} {r : Nat} (hd : ∀ g, g < 3 → σ 10 (4 * g + r) = 0) {n : Nat} (hn : n < 3) : settF (liveG σ r n) r n = liveG σ r (n + 1) := by
  show _ = liveS r n (liveG σ r n)
  have h0 : (liveG σ r n) 10 (4 * n + r) = 0 := (live_10 σ r n n (Nat.le_refl n)).trans (hd n hn)
  unfold settF liveS
  rw [if_neg (by rw [live_0]; decide)]
  split
  · rfl
  · exact up_self _ 10 _ _ h0
theorem live_n1 {σ : sC} {r n : Nat} (h : 0 < (liveG σ r n) 9 (4 * n + r)) : (liveG σ r (n + 1)) 10 (4 * n + r) = 1 := by
  show (liveS r n (liveG σ r n)) 10 (4 * n + r) = 1
  unfold liveS
  rw [if_pos h]
  exact up_eq _ 10 _ _
theorem live_n0 {σ : sC} {r n : Nat} (hd : σ 10 (4 * n + r) = 0) (h : ¬ 0 < (liveG σ r n) 9 (4 * n + r)) : (liveG σ r (n + 1)) 10 (4 * n + r) = 0 := by
  show (liveS r n (liveG σ r n)) 10 (4 * n + r) = 0
  unfold liveS
  rw [if_neg h]
  exact (live_10 σ r n n (Nat.le_refl n)).trans hd
