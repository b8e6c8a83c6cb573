/-! ===== what holds between the calls ===== -/
def Inv (σ : sC) : Prop := I1 σ ∧ (∀ r g, r < 4 → g < 3 → σ 0 r = 0 → σ 10 (4 * g + r) = 0) ∧ (∀ i j, i < 4 → j < 4 → σ 1 (4 * i + j) = σ 1 (4 * j + i)) ∧ (∀ j, σ 1 j = 0 ∨ σ 1 j = 1) ∧ ∀ j, σ 2 j = 0 ∨ σ 2 j = 1
def Pres (σ τ : sC) : Prop := τ 0 = σ 0 ∧ τ 1 = σ 1 ∧ τ 2 = σ 2 ∧ ∀ p, σ 10 p = 0 → τ 10 p = 0
theorem Pres.rf (σ : sC) : Pres σ σ := ⟨rfl, rfl, rfl, fun _ h => h⟩
theorem Pres.tr {σ τ υ : sC} (h1 : Pres σ τ) (h2 : Pres τ υ) : Pres σ υ := ⟨h2.1.trans h1.1, h2.2.1.trans h1.2.1, h2.2.2.1.trans h1.2.2.1, fun p h => h2.2.2.2 p (h1.2.2.2 p h)⟩
theorem Inv.pres {σ τ : sC} (h : Inv σ) (hp : Pres σ τ) (hi : I1 τ) : Inv τ := by
  obtain ⟨h1, h2, h3, h4, h5⟩ := h
  obtain ⟨p0, p1, p2, p3⟩ := hp
  refine ⟨hi, fun r g hr hg hd => p3 _ (h2 r g hr hg (by rw [← p0]; exact hd)), ?_, ?_, ?_⟩
  · rw [p1]; exact h3
  · rw [p1]; exact h4
  · rw [p2]; exact h5
theorem Pres.upk {σ : sC} {k : Nat} (p : Nat) (v : Int32) (h0 : 0 ≠ k) (h1 : 1 ≠ k) (h2 : 2 ≠ k) (h3 : 10 ≠ k) : Pres σ (up σ k p v) := ⟨up_nk _ _ _ _ h0, up_nk _ _ _ _ h1, up_nk _ _ _ _ h2, fun q h => by rw [up_nk _ _ _ _ h3]; exact h⟩
theorem Pres.role {σ : sC} {p : Nat} (v : Int32) (h : ¬ σ 10 p = 0) : Pres σ (up σ 10 p v) := ⟨up_nk _ _ _ _ (by decide), up_nk _ _ _ _ (by decide), up_nk _ _ _ _ (by decide), fun q hq => by
  by_cases e : q = p
  · subst e; exact absurd hq h
  · rw [up_ne _ _ _ _ e]; exact hq⟩
theorem pr_rest {σ : sC} {r g : Nat} (h : Int32) (hr : ¬ σ 10 (4 * g + r) = 0) : Pres σ (restF σ r g h) := ((Pres.role 1 hr).tr (Pres.upk _ _ (by decide) (by decide) (by decide) (by decide))).tr (Pres.upk _ _ (by decide) (by decide) (by decide) (by decide))
theorem pr_copy2 (σ : sC) (t g : Nat) : Pres σ (copy2 σ t g) := by
  unfold copy2
  split
  · exact Pres.rf _
  · exact (Pres.upk _ _ (by decide) (by decide) (by decide) (by decide)).tr (Pres.upk _ _ (by decide) (by decide) (by decide) (by decide))
theorem pr_copy1 (σ : sC) (t f g : Nat) : Pres σ (copy1 σ t f g) := Pres.upk _ _ (by decide) (by decide) (by decide) (by decide)
theorem pr_copy (σ : sC) (t f g : Nat) : Pres σ (copyF σ t f g) := by
  unfold copyF
  split
  · split
    · split
      · exact Pres.upk _ _ (by decide) (by decide) (by decide) (by decide)
      · exact (pr_copy1 σ t f g).tr (pr_copy2 _ _ _)
    · exact (pr_copy1 σ t f g).tr (pr_copy2 _ _ _)
  · exact Pres.rf _
theorem pr_wait (σ : sC) (r g : Nat) (h own : Int32) : Pres σ (waitB σ r g h own) := (Pres.upk _ _ (by decide) (by decide) (by decide) (by decide)).tr (Pres.upk _ _ (by decide) (by decide) (by decide) (by decide))
theorem pr_recvM {σ : sC} {r g : Nat} (s : Nat) (num : Int32) (hr : ¬ σ 10 (4 * g + r) = 0) : Pres σ (recvM σ r g s num) := by
  unfold recvM
  split
  · exact (pr_rest 0 hr).tr (pr_copy _ _ _ _)
  · split
    · split
      · exact (pr_rest 0 hr).tr (pr_copy _ _ _ _)
      · exact Pres.rf _
    · exact Pres.rf _
theorem pr_recvB (σ : sC) (r g s : Nat) (num : Int32) : Pres σ (recvB σ r g s num) := by
  unfold recvB
  split
  · exact (Pres.upk _ _ (by decide) (by decide) (by decide) (by decide)).tr (pr_copy _ _ _ _)
  · split
    · exact (pr_wait σ r g _ _).tr (pr_copy _ _ _ _)
    · split
      · split
        · exact (pr_wait σ r g _ _).tr (pr_copy _ _ _ _)
        · exact Pres.rf _
      · exact (pr_wait σ r g _ _).tr (pr_copy _ _ _ _)
theorem pr_advS (s g : Nat) (num : Int32) (r : Nat) (σ : sC) : Pres σ (advS s g num r σ) := by
  unfold advS
  split
  · exact Pres.rf _
  · split
    · exact Pres.rf _
    · split
      · rename_i h
        exact pr_recvM _ _ (by rw [h]; decide)
      · split
        · exact pr_recvB _ _ _ _ _
        · exact Pres.rf _
theorem pr_it {f : Nat → sC → sC} (hf : ∀ i σ, Pres σ (f i σ)) (σ : sC) : ∀ n, Pres σ (itF f σ n)
  | 0 => Pres.rf _
  | n + 1 => (pr_it hf σ n).tr (hf n _)
theorem pr_adv (σ : sC) (s g : Nat) (num : Int32) : Pres σ (advF σ s g num) := (Pres.upk _ _ (by decide) (by decide) (by decide) (by decide)).tr (pr_it (fun i τ => pr_advS s g num i τ) _ 4)
theorem pr_tick1 (σ : sC) (r g : Nat) : Pres σ (tick1 σ r g) := Pres.upk _ _ (by decide) (by decide) (by decide) (by decide)
theorem pr_send (σ : sC) (r g : Nat) : Pres σ (sendF σ r g) := (pr_adv σ r g _).tr (Pres.upk _ _ (by decide) (by decide) (by decide) (by decide))
theorem pr_rise {σ : sC} {r g : Nat} (h : ¬ σ 10 (4 * g + r) = 0) : Pres σ (riseF σ r g) := (Pres.role 2 h).tr (Pres.upk _ _ (by decide) (by decide) (by decide) (by decide))
theorem pr_turnM (g r : Nat) (σ : sC) : Pres σ (turnM g r σ) := by
  unfold turnM
  split
  · split
    · exact (pr_tick1 σ r g).tr (pr_send _ _ _)
    · exact pr_tick1 σ r g
  · exact Pres.rf _
theorem pr_turnB (g r : Nat) (σ : sC) : Pres σ (turnB g r σ) := by
  unfold turnB
  split
  · rename_i h
    split
    · refine ((pr_tick1 σ r g).tr (pr_rise ?_)).tr (pr_send _ _ _)
      show ¬ σ 10 (4 * g + r) = 0
      rw [h]; decide
    · exact pr_tick1 σ r g
  · exact Pres.rf _
theorem pr_gap (σ : sC) (g : Nat) : Pres σ (gapF σ g) := by
  unfold gapF
  split
  · exact Pres.upk _ _ (by decide) (by decide) (by decide) (by decide)
  · exact Pres.rf _
theorem pr_group (g : Nat) (σ : sC) : Pres σ (groupT g σ) := ((pr_it (fun i τ => pr_turnM g i τ) σ 4).tr (pr_it (fun i τ => pr_turnB g i τ) _ 4)).tr (pr_gap _ _)
theorem pr_tickT (i : Nat) (σ : sC) : Pres σ (tickT i σ) := pr_it (fun i τ => pr_group i τ) σ 3
theorem I1_tickT {σ : sC} (i : Nat) (h : I1 σ) : I1 (tickT i σ) := I1_it (fun i τ h => I1_group i h) h 3
theorem inv_tick {σ : sC} (h : Inv σ) (n : Nat) : Inv (tickF σ n) := h.pres ((pr_it (fun i τ => pr_tickT i τ) σ n).tr (Pres.upk _ _ (by decide) (by decide) (by decide) (by decide))) (I1_k _ _ (by decide) (I1_it (fun i τ h => I1_tickT i h) h.1 n))
theorem inv_k {σ : sC} (h : Inv σ) {k : Nat} (p : Nat) (v : Int32) (h0 : 0 ≠ k) (h1 : 1 ≠ k) (h2 : 2 ≠ k) (h3 : 10 ≠ k) : Inv (up σ k p v) := h.pres (Pres.upk p v h0 h1 h2 h3) (I1_k _ _ h3 h.1)
theorem inv_hand {σ : sC} (h : Inv σ) {r g : Nat} (hm : σ 10 (4 * g + r) = 2) : Inv (advF (restF σ r g 0) r g 0) := h.pres ((pr_rest 0 (by rw [hm]; decide)).tr (pr_adv _ _ _ _)) (I1_adv _ _ _ (I1_rest _ _ _ h.1))
theorem I1_serve {σ : sC} (g : Nat) (k : Int32) (r : Nat) (h : I1 σ) : I1 (serveS g k r σ) := by
  unfold serveS
  split
  · exact I1_k _ _ (by decide) h
  · exact h
theorem pr_serve (g : Nat) (k : Int32) (r : Nat) (σ : sC) : Pres σ (serveS g k r σ) := by
  unfold serveS
  split
  · exact Pres.upk _ _ (by decide) (by decide) (by decide) (by decide)
  · exact Pres.rf _
theorem inv_serve {σ : sC} (h : Inv σ) (g : Nat) (k : Int32) : Inv (serveG σ g k 4) := h.pres (pr_it (fun i τ => pr_serve g k i τ) σ 4) (I1_it (fun i τ h => I1_serve g k i h) h.1 4)
theorem inv_link {σ : sC} (h : Inv σ) (p : Nat) {b : Int32} (hb : b = 0 ∨ b = 1) : Inv (up σ 2 p b) := by
  obtain ⟨h1, h2, h3, h4, h5⟩ := h
  refine ⟨I1_k _ _ (by decide) h1, h2, h3, h4, fun j => ?_⟩
  by_cases e : j = p
  · subst e; rw [up_eq]; exact hb
  · rw [up_ne _ _ _ _ e]; exact h5 j
theorem inv_join {σ : sC} (h : Inv σ) {i j : Nat} (hi : i < 4) (hj : j < 4) {b : Int32} (hb : b = 0 ∨ b = 1) : Inv (up (up σ 1 (4 * i + j) b) 1 (4 * j + i) b) := by
  obtain ⟨h1, h2, h3, h4, h5⟩ := h
  have key : ∀ q, (up (up σ 1 (4 * i + j) b) 1 (4 * j + i) b) 1 q = if q = 4 * j + i then b else if q = 4 * i + j then b else σ 1 q := fun q => by
    by_cases e : q = 4 * j + i
    · subst e; rw [up_eq, if_pos rfl]
    · rw [up_ne _ _ _ _ e, if_neg e]
      by_cases e2 : q = 4 * i + j
      · subst e2; rw [up_eq, if_pos rfl]
      · rw [up_ne _ _ _ _ e2, if_neg e2]
  refine ⟨I1_k _ _ (by decide) (I1_k _ _ (by decide) h1), h2, fun x y hx hy => ?_, fun q => ?_, h5⟩
  · rw [key, key, h3 x y hx hy]
    by_cases e1 : 4 * x + y = 4 * j + i
    · have : 4 * y + x = 4 * i + j := by omega
      rw [if_pos e1, this]
      split
      · rfl
      · rw [if_pos rfl]
    · by_cases e2 : 4 * x + y = 4 * i + j
      · have : 4 * y + x = 4 * j + i := by omega
        rw [if_neg e1, if_pos e2, if_pos this]
      · rw [if_neg e1, if_neg e2, if_neg (by omega), if_neg (by omega)]
  · rw [key]
    split
    · exact hb
    · split
      · exact hb
      · exact h4 q
/-- a role set to 0, all else as it was -/
theorem inv_out {σ : sC} (h : Inv σ) (p : Nat) : Inv (up σ 10 p 0) := by
  refine h.pres ⟨up_nk _ _ _ _ (by decide), up_nk _ _ _ _ (by decide), up_nk _ _ _ _ (by decide), fun q hq => ?_⟩ (I1_up _ (Or.inl rfl) h.1)
  by_cases e : q = p
  · subst e; exact up_eq _ _ _ _
  · rw [up_ne _ _ _ _ e]; exact hq
/-- a router that is alive may begin anywhere -/
theorem inv_begin {σ : sC} (h : Inv σ) {r g : Nat} (hr : r < 4) (ha : ¬ σ 0 r = 0) : Inv (beginF σ r g) := by
  obtain ⟨h1, h2, h3, h4, h5⟩ := h
  refine ⟨I1_k _ _ (by decide) (I1_rest _ _ _ h1), fun r' g' hr' hg' hd => ?_, h3, h4, h5⟩
  have hd' : σ 0 r' = 0 := hd
  rw [begin_o]
  · exact h2 r' g' hr' hg' hd'
  · intro e
    have : r' = r := by omega
    subst this
    exact ha hd'
theorem inv_setP {σ : sC} (h : Inv σ) {r g : Nat} (hr : r < 4) (v : Int32) : Inv (setPF σ r g v) := by
  have hp : Inv (setP1 σ r g v) := by
    unfold setP1
    split
    · split
      · exact h.pres (pr_adv _ _ _ _) (I1_adv _ _ _ h.1)
      · exact h
    · exact h
  have h9 : Inv (up (setP1 σ r g v) 9 (4 * g + r) v) := inv_k hp _ _ (by decide) (by decide) (by decide) (by decide)
  unfold setPF setP2
  split
  · exact inv_out h9 _
  · split
    · exact h9
    · rename_i ha
      split
      · exact inv_begin h9 hr ha
      · exact h9
theorem inv_die {σ : sC} (h : Inv σ) {r : Nat} (hr : r < 4) : Inv (dieG σ r 3) := by
  obtain ⟨h1, h2, h3, h4, h5⟩ := h
  have e10 : (dieG σ r 3) 10 = upd (upd (upd (σ 10) (4 * 0 + r) 0) (4 * 1 + r) 0) (4 * 2 + r) 0 := rfl
  have e0 : (dieG σ r 3) 0 = upd (σ 0) r 0 := rfl
  have e1 : (dieG σ r 3) 1 = σ 1 := rfl
  have e2 : (dieG σ r 3) 2 = σ 2 := rfl
  refine ⟨I1_up _ (Or.inl rfl) (I1_up _ (Or.inl rfl) (I1_up _ (Or.inl rfl) (I1_k _ _ (by decide) h1))), fun r' g' hr' hg' hd => ?_, by rw [e1]; exact h3, by rw [e1]; exact h4, by rw [e2]; exact h5⟩
  rw [e10]
  rw [e0] at hd
  by_cases e : r' = r
  · subst e
    have hg3 : g' = 0 ∨ g' = 1 ∨ g' = 2 := by omega
    rcases hg3 with rfl | rfl | rfl <;> simp [upd]
  · have hd2 : σ 0 r' = 0 := by simpa [upd, e] using hd
    have h0 := h2 r' g' hr' hg' hd2
    unfold upd
    rw [if_neg (by omega), if_neg (by omega), if_neg (by omega)]
    exact h0
theorem inv_live {σ : sC} (h : Inv σ) {r : Nat} (hr : r < 4) (hd : ∀ g, g < 3 → σ 10 (4 * g + r) = 0) : ∀ n, Inv (liveG σ r n)
  | 0 => by
    obtain ⟨h1, h2, h3, h4, h5⟩ := h
    show Inv (up σ 0 r 1)
    refine ⟨I1_k _ _ (by decide) h1, fun r' g' hr' hg' hd' => ?_, h3, h4, h5⟩
    by_cases e : r' = r
    · subst e; exact hd g' hg'
    · rw [up_ne _ _ _ _ e] at hd'
      exact h2 r' g' hr' hg' hd'
  | n + 1 => by
    show Inv (liveS r n (liveG σ r n))
    have ih := inv_live h hr hd n
    unfold liveS
    split
    · exact inv_begin ih hr (by rw [live_0]; decide)
    · exact ih
theorem inv_s0 : Inv s0 := ⟨fun p => Or.inl rfl, fun r g _ _ h => absurd (show (1 : Int32) = 0 from h) (by decide), fun i j _ _ => rfl, fun j => Or.inr rfl, fun j => Or.inr rfl⟩
/-! the two ways to say whether a group is settled -/
def badS (σ : sC) (g i j : Nat) : Prop := σ 10 (4 * g + i) = 2 ∧ σ 10 (4 * g + j) = 2 ∧ flip (σ 1 (4 * i + j)) = 0
theorem okS_0 (σ : sC) (g i j : Nat) (x : Int32) : okS σ g i j x = 0 ↔ x = 0 ∨ badS σ g i j := by
  unfold okS badS
  by_cases h0 : x = 0
  · simp [h0]
  · by_cases h1 : σ 10 (4 * g + i) = 2
    · by_cases h2 : σ 10 (4 * g + j) = 2
      · by_cases h3 : flip (σ 1 (4 * i + j)) = 0
        · simp [h0, h1, h2, h3]
        · simp [h0, h1, h2, h3]
      · simp [h0, h1, h2]
    · simp [h0, h1]
theorem okI_0 (σ : sC) (g i : Nat) (x : Int32) : ∀ n, itF (okS σ g i) x n = 0 ↔ x = 0 ∨ ∃ j, j < n ∧ badS σ g i j
  | 0 => ⟨Or.inl, fun h => h.elim id (fun ⟨j, h, _⟩ => absurd h (Nat.not_lt_zero j))⟩
  | n + 1 => by
    rw [it_s, okS_0, okI_0 σ g i x n]
    constructor
    · rintro ((h | ⟨j, h1, h2⟩) | h)
      · exact Or.inl h
      · exact Or.inr ⟨j, by omega, h2⟩
      · exact Or.inr ⟨n, by omega, h⟩
    · rintro (h | ⟨j, h1, h2⟩)
      · exact Or.inl (Or.inl h)
      · by_cases e : j = n
        · subst e; exact Or.inr h2
        · exact Or.inl (Or.inr ⟨j, by omega, h2⟩)
theorem okO_0 (σ : sC) (g : Nat) : ∀ n, itF (okR σ g) 1 n = 0 ↔ ∃ i j, i < n ∧ j < i ∧ badS σ g i j
  | 0 => ⟨fun h => absurd (show (1 : Int32) = 0 from h) (by decide), fun ⟨i, _, h, _⟩ => absurd h (Nat.not_lt_zero i)⟩
  | n + 1 => by
    rw [it_s]
    unfold okR
    rw [okI_0]
    have ih := okO_0 σ g n
    unfold okR at ih
    rw [ih]
    constructor
    · rintro (⟨i, j, h1, h2, h3⟩ | ⟨j, h1, h2⟩)
      · exact ⟨i, j, by omega, h2, h3⟩
      · exact ⟨n, j, by omega, h1, h2⟩
    · rintro ⟨i, j, h1, h2, h3⟩
      by_cases e : i = n
      · subst e; exact Or.inr ⟨j, h2, h3⟩
      · exact Or.inl ⟨i, j, by omega, h2, h3⟩
theorem op_0 (σ : sC) (g : Nat) : ∀ n, itF (opS σ g) 0 n = 0 ↔ ∀ r, r < n → σ 10 (4 * g + r) = 0
  | 0 => ⟨fun _ r h => absurd h (Nat.not_lt_zero r), fun _ => rfl⟩
  | n + 1 => by
    rw [it_s]
    have ih := op_0 σ g n
    have e : opS σ g n (itF (opS σ g) 0 n) = 0 ↔ itF (opS σ g) 0 n = 0 ∧ σ 10 (4 * g + n) = 0 := by
      generalize itF (opS σ g) 0 n = x
      unfold opS
      by_cases h0 : x = 0
      · by_cases h1 : σ 10 (4 * g + n) = 0
        · simp [h0, h1]
        · simp [h0, h1]
      · simp [h0]
    rw [e, ih]
    constructor
    · rintro ⟨h1, h2⟩ r hr
      by_cases q : r = n
      · subst q; exact h2
      · exact h1 r (by omega)
    · intro h
      exact ⟨fun r hr => h r (by omega), h n (by omega)⟩
theorem memW_0 (σ : sC) (role : Int32) (g : Nat) : memW σ role g = 0 ↔ ∀ r, r < 4 → ¬ σ 10 (4 * g + r) = role := by
  have key : ∀ a b c d : Bool,
      (itF (fun r (x : Int32) => if (match r with | 0 => a | 1 => b | 2 => c | _ => d) = true then x + ((1 : Int32) <<< (nI r &&& 31)) else x) 0 4 = 0 ↔ ¬ (a = true) ∧ ¬ (b = true) ∧ ¬ (c = true) ∧ ¬ (d = true)) := by decide +kernel
  have k2 := key (decide (σ 10 (4 * g + 0) = role)) (decide (σ 10 (4 * g + 1) = role)) (decide (σ 10 (4 * g + 2) = role)) (decide (σ 10 (4 * g + 3) = role))
  have k3 : memW σ role g = 0 ↔ ¬ σ 10 (4 * g + 0) = role ∧ ¬ σ 10 (4 * g + 1) = role ∧ ¬ σ 10 (4 * g + 2) = role ∧ ¬ σ 10 (4 * g + 3) = role := by
    simpa only [memW, itF, memS, decide_eq_true_eq] using k2
  rw [k3]
  constructor
  · rintro ⟨h0, h1, h2, h3⟩ r hr
    have hc : r = 0 ∨ r = 1 ∨ r = 2 ∨ r = 3 := by omega
    rcases hc with rfl | rfl | rfl | rfl
    · exact h0
    · exact h1
    · exact h2
    · exact h3
  · intro h
    exact ⟨h 0 (by decide), h 1 (by decide), h 2 (by decide), h 3 (by decide)⟩
theorem bad_iff {σ : sC} (h : Inv σ) (g : Nat) : (∃ i j, i < 4 ∧ j < i ∧ badS σ g i j) ↔ hasJp σ g := by
  constructor
  · rintro ⟨i, j, h1, h2, h3, h4, h5⟩
    refine ⟨j, i, h2, h1, h4, h3, ?_⟩
    rw [h.2.2.1 j i (by omega) h1]
    exact (flip_0 _).mp h5
  · rintro ⟨i, j, h1, h2, h3, h4, h5⟩
    refine ⟨j, i, h2, h1, h4, h3, (flip_0 _).mpr ?_⟩
    rw [h.2.2.1 j i h2 (by omega)]
    exact h5
theorem setl_eq {σ : sC} (h : Inv σ) (g : Nat) : setlM σ g = setlF σ g := by
  unfold setlM setlF
  have hb : itF (okR σ g) 1 4 = 0 ↔ hasJp σ g := (okO_0 σ g 4).trans (bad_iff h g)
  have ho := op_0 σ g 4
  have hm := hasM_iff σ g
  have h2 := memW_0 σ 2 g
  have h1 := memW_0 σ 1 g
  by_cases c2 : memW σ 2 g = 0
  · have hn : ¬ hasJp σ g := fun ⟨i, j, q1, q2, q3, _⟩ => h2.mp c2 i (by omega) q3
    rw [if_neg (fun q => hn (hb.mp q)), if_pos c2, if_pos (hm.mpr c2)]
    have e : itF (opS σ g) 0 4 = 0 ↔ memW σ 1 g = 0 := by
      rw [ho, h1]
      constructor
      · intro q r hr q1
        rw [q r hr] at q1
        exact absurd q1 (by decide)
      · intro q r hr
        rcases h.1 (4 * g + r) with z | z | z
        · exact z
        · exact absurd z (q r hr)
        · exact absurd z (h2.mp c2 r hr)
    by_cases c1 : memW σ 1 g = 0
    · rw [if_pos c1, if_pos (e.mpr c1)]
    · rw [if_neg c1, if_neg (fun q => c1 (e.mp q))]
  · rw [if_neg c2]
    by_cases cj : hasJp σ g
    · rw [if_pos (hb.mpr cj), hasJ_1 cj]
      rfl
    · rw [if_neg (fun q => cj (hb.mp q)), hasJ_0 cj, if_pos rfl, if_neg (fun q => c2 (hm.mp q))]
      split
      · rfl
      · rfl
