def wX (cZ cI : ClassId) (a : Nat → Nat) (σ : sC) : va_W :=
  [(a 0, .inr (0, [.ref (a 1), .ref (a 2), .ref (a 3), .ref (a 4), .ref (a 5), .ref (a 6), .ref (a 7), .ref (a 8), .ref (a 9), .ref (a 10), .ref (a 11), .ref (a 12), .ref (a 13), .ref (a 14), .ref (a 15), .ref (a 16), .int (σ 16 0), .int (σ 17 0)])),
   (a 1, .inl (cZ, 4, .inl (σ 0))),
   (a 2, .inl (cZ, 16, .inl (σ 1))),
   (a 3, .inl (cZ, 8, .inl (σ 2))),
   (a 4, .inl (cI, 8, .inl (σ 3))),
   (a 5, .inl (cI, 3, .inl (σ 4))),
   (a 6, .inl (cZ, 3, .inl (σ 5))),
   (a 7, .inl (cI, 3, .inl (σ 6))),
   (a 8, .inl (cI, 3, .inl (σ 7))),
   (a 9, .inl (cI, 3, .inl (σ 8))),
   (a 10, .inl (cI, 12, .inl (σ 9))),
   (a 11, .inl (cI, 12, .inl (σ 10))),
   (a 12, .inl (cI, 12, .inl (σ 11))),
   (a 13, .inl (cI, 12, .inl (σ 12))),
   (a 14, .inl (cI, 12, .inl (σ 13))),
   (a 15, .inl (cI, 12, .inl (σ 14))),
   (a 16, .inl (cZ, 12, .inl (σ 15)))]
def flip (x : Int32) : Int32 := if x = 0 then 1 else 0
theorem flip_0 (x : Int32) : flip x = 0 ↔ ¬ x = 0 := by
  unfold flip
  by_cases h : x = 0
  · simp [h]
  · simp [h]
def pm (j : Nat) : Nat := if j < 12 then 4 * (j % 3) + j / 3 else j
theorem pm_at {r g : Nat} (hr : r < 4) (hg : g < 3) : pm (3 * r + g) = 4 * g + r := by
  unfold pm
  rw [if_pos (by omega)]
  omega
theorem pm_iff {r g : Nat} (hr : r < 4) (hg : g < 3) (j : Nat) : j = 3 * r + g ↔ pm j = 4 * g + r := by
  unfold pm
  constructor
  · intro h
    subst h
    rw [if_pos (by omega)]
    omega
  · intro h
    by_cases hj : j < 12
    · rw [if_pos hj] at h
      omega
    · rw [if_neg hj] at h
      omega
def wM (cZ cI : ClassId) (a : Nat → Nat) (th : Int32) (σ : sC) : va_W :=
  [(a 0, .inr (1, [.int th, .ref (a 1), .ref (a 2), .ref (a 3), .ref (a 4), .ref (a 5), .ref (a 6), .ref (a 7), .ref (a 8), .ref (a 9), .ref (a 10), .ref (a 11), .ref (a 12), .ref (a 13), .ref (a 14), .ref (a 15), .ref (a 16), .int (σ 16 0), .int (σ 17 0)])),
   (a 1, .inl (cZ, 4, .inl (fun j => flip (σ 0 j)))),
   (a 2, .inl (cI, 12, .inl (fun j => σ 9 (pm j)))),
   (a 3, .inl (cI, 8, .inl (σ 3))),
   (a 4, .inl (cZ, 8, .inl (fun j => flip (σ 2 j)))),
   (a 5, .inl (cZ, 16, .inl (fun j => flip (σ 1 j)))),
   (a 6, .inl (cI, 3, .inl (σ 4))),
   (a 7, .inl (cZ, 3, .inl (fun j => flip (σ 5 j)))),
   (a 8, .inl (cI, 3, .inl (σ 6))),
   (a 9, .inl (cI, 12, .inl (fun j => σ 10 (pm j)))),
   (a 10, .inl (cI, 12, .inl (fun j => σ 11 (pm j)))),
   (a 11, .inl (cI, 12, .inl (fun j => σ 12 (pm j)))),
   (a 12, .inl (cI, 12, .inl (fun j => σ 13 (pm j)))),
   (a 13, .inl (cZ, 12, .inl (fun j => σ 15 (pm j)))),
   (a 14, .inl (cI, 12, .inl (fun j => σ 14 (pm j)))),
   (a 15, .inl (cI, 3, .inl (σ 7))),
   (a 16, .inl (cI, 3, .inl (σ 8)))]
theorem wX_s0 (cZ cI : ClassId) (a : Nat → Nat) (σ : sC) (i : Nat) (x : Int32) : (wX cZ cI a σ).set 1 (a 1, .inl (cZ, 4, .inl (upd (σ 0) i x))) = wX cZ cI a (up σ 0 i x) := rfl
theorem wX_s1 (cZ cI : ClassId) (a : Nat → Nat) (σ : sC) (i : Nat) (x : Int32) : (wX cZ cI a σ).set 2 (a 2, .inl (cZ, 16, .inl (upd (σ 1) i x))) = wX cZ cI a (up σ 1 i x) := rfl
theorem wX_s2 (cZ cI : ClassId) (a : Nat → Nat) (σ : sC) (i : Nat) (x : Int32) : (wX cZ cI a σ).set 3 (a 3, .inl (cZ, 8, .inl (upd (σ 2) i x))) = wX cZ cI a (up σ 2 i x) := rfl
theorem wX_s3 (cZ cI : ClassId) (a : Nat → Nat) (σ : sC) (i : Nat) (x : Int32) : (wX cZ cI a σ).set 4 (a 4, .inl (cI, 8, .inl (upd (σ 3) i x))) = wX cZ cI a (up σ 3 i x) := rfl
theorem wX_s4 (cZ cI : ClassId) (a : Nat → Nat) (σ : sC) (i : Nat) (x : Int32) : (wX cZ cI a σ).set 5 (a 5, .inl (cI, 3, .inl (upd (σ 4) i x))) = wX cZ cI a (up σ 4 i x) := rfl
theorem wX_s5 (cZ cI : ClassId) (a : Nat → Nat) (σ : sC) (i : Nat) (x : Int32) : (wX cZ cI a σ).set 6 (a 6, .inl (cZ, 3, .inl (upd (σ 5) i x))) = wX cZ cI a (up σ 5 i x) := rfl
theorem wX_s6 (cZ cI : ClassId) (a : Nat → Nat) (σ : sC) (i : Nat) (x : Int32) : (wX cZ cI a σ).set 7 (a 7, .inl (cI, 3, .inl (upd (σ 6) i x))) = wX cZ cI a (up σ 6 i x) := rfl
theorem wX_s7 (cZ cI : ClassId) (a : Nat → Nat) (σ : sC) (i : Nat) (x : Int32) : (wX cZ cI a σ).set 8 (a 8, .inl (cI, 3, .inl (upd (σ 7) i x))) = wX cZ cI a (up σ 7 i x) := rfl
theorem wX_s8 (cZ cI : ClassId) (a : Nat → Nat) (σ : sC) (i : Nat) (x : Int32) : (wX cZ cI a σ).set 9 (a 9, .inl (cI, 3, .inl (upd (σ 8) i x))) = wX cZ cI a (up σ 8 i x) := rfl
theorem wX_s9 (cZ cI : ClassId) (a : Nat → Nat) (σ : sC) (i : Nat) (x : Int32) : (wX cZ cI a σ).set 10 (a 10, .inl (cI, 12, .inl (upd (σ 9) i x))) = wX cZ cI a (up σ 9 i x) := rfl
theorem wX_s10 (cZ cI : ClassId) (a : Nat → Nat) (σ : sC) (i : Nat) (x : Int32) : (wX cZ cI a σ).set 11 (a 11, .inl (cI, 12, .inl (upd (σ 10) i x))) = wX cZ cI a (up σ 10 i x) := rfl
theorem wX_s11 (cZ cI : ClassId) (a : Nat → Nat) (σ : sC) (i : Nat) (x : Int32) : (wX cZ cI a σ).set 12 (a 12, .inl (cI, 12, .inl (upd (σ 11) i x))) = wX cZ cI a (up σ 11 i x) := rfl
theorem wX_s12 (cZ cI : ClassId) (a : Nat → Nat) (σ : sC) (i : Nat) (x : Int32) : (wX cZ cI a σ).set 13 (a 13, .inl (cI, 12, .inl (upd (σ 12) i x))) = wX cZ cI a (up σ 12 i x) := rfl
theorem wX_s13 (cZ cI : ClassId) (a : Nat → Nat) (σ : sC) (i : Nat) (x : Int32) : (wX cZ cI a σ).set 14 (a 14, .inl (cI, 12, .inl (upd (σ 13) i x))) = wX cZ cI a (up σ 13 i x) := rfl
theorem wX_s14 (cZ cI : ClassId) (a : Nat → Nat) (σ : sC) (i : Nat) (x : Int32) : (wX cZ cI a σ).set 15 (a 15, .inl (cI, 12, .inl (upd (σ 14) i x))) = wX cZ cI a (up σ 14 i x) := rfl
theorem wX_s15 (cZ cI : ClassId) (a : Nat → Nat) (σ : sC) (i : Nat) (x : Int32) : (wX cZ cI a σ).set 16 (a 16, .inl (cZ, 12, .inl (upd (σ 15) i x))) = wX cZ cI a (up σ 15 i x) := rfl
theorem wX_s16 (cZ cI : ClassId) (a : Nat → Nat) (σ : sC) (x : Int32) : (wX cZ cI a σ).set 0 (a 0, .inr (0, [.ref (a 1), .ref (a 2), .ref (a 3), .ref (a 4), .ref (a 5), .ref (a 6), .ref (a 7), .ref (a 8), .ref (a 9), .ref (a 10), .ref (a 11), .ref (a 12), .ref (a 13), .ref (a 14), .ref (a 15), .ref (a 16), .int (σ 16 0), .int (σ 17 0)].set 16 (.int x))) = wX cZ cI a (up σ 16 0 x) := rfl
theorem wX_s17 (cZ cI : ClassId) (a : Nat → Nat) (σ : sC) (x : Int32) : (wX cZ cI a σ).set 0 (a 0, .inr (0, [.ref (a 1), .ref (a 2), .ref (a 3), .ref (a 4), .ref (a 5), .ref (a 6), .ref (a 7), .ref (a 8), .ref (a 9), .ref (a 10), .ref (a 11), .ref (a 12), .ref (a 13), .ref (a 14), .ref (a 15), .ref (a 16), .int (σ 16 0), .int (σ 17 0)].set 17 (.int x))) = wX cZ cI a (up σ 17 0 x) := rfl
theorem wM_th (cZ cI : ClassId) (a : Nat → Nat) (th : Int32) (σ : sC) (x : Int32) : (wM cZ cI a th σ).set 0 (a 0, .inr (1, [.int th, .ref (a 1), .ref (a 2), .ref (a 3), .ref (a 4), .ref (a 5), .ref (a 6), .ref (a 7), .ref (a 8), .ref (a 9), .ref (a 10), .ref (a 11), .ref (a 12), .ref (a 13), .ref (a 14), .ref (a 15), .ref (a 16), .int (σ 16 0), .int (σ 17 0)].set 0 (.int x))) = wM cZ cI a x σ := rfl
theorem wM_rep (cZ cI : ClassId) (a : Nat → Nat) (th : Int32) (σ : sC) (x : Int32) : (wM cZ cI a th σ).set 0 (a 0, .inr (1, [.int th, .ref (a 1), .ref (a 2), .ref (a 3), .ref (a 4), .ref (a 5), .ref (a 6), .ref (a 7), .ref (a 8), .ref (a 9), .ref (a 10), .ref (a 11), .ref (a 12), .ref (a 13), .ref (a 14), .ref (a 15), .ref (a 16), .int (σ 16 0), .int (σ 17 0)].set 17 (.int x))) = wM cZ cI a th (up σ 16 0 x) := rfl
theorem wM_time (cZ cI : ClassId) (a : Nat → Nat) (th : Int32) (σ : sC) (x : Int32) : (wM cZ cI a th σ).set 0 (a 0, .inr (1, [.int th, .ref (a 1), .ref (a 2), .ref (a 3), .ref (a 4), .ref (a 5), .ref (a 6), .ref (a 7), .ref (a 8), .ref (a 9), .ref (a 10), .ref (a 11), .ref (a 12), .ref (a 13), .ref (a 14), .ref (a 15), .ref (a 16), .int (σ 16 0), .int (σ 17 0)].set 18 (.int x))) = wM cZ cI a th (up σ 17 0 x) := rfl
theorem upd_pm (f : Nat → Int32) {r g : Nat} (hr : r < 4) (hg : g < 3) (x : Int32) : upd (fun j => f (pm j)) (3 * r + g) x = fun j => upd f (4 * g + r) x (pm j) := by
  funext j
  unfold upd
  by_cases h : j = 3 * r + g
  · rw [if_pos h, if_pos ((pm_iff hr hg j).mp h)]
  · rw [if_neg h, if_neg (fun q => h ((pm_iff hr hg j).mpr q))]
theorem upd_flip (f : Nat → Int32) (i : Nat) {x y : Int32} (h : flip y = x) : upd (fun j => flip (f j)) i x = fun j => flip (upd f i y j) := by
  funext j
  unfold upd
  by_cases hj : j = i
  · rw [if_pos hj, if_pos hj, h]
  · rw [if_neg hj, if_neg hj]
theorem wM_s1 (cZ cI : ClassId) (a : Nat → Nat) (th : Int32) (σ : sC) (i : Nat) {x y : Int32} (h : flip y = x) : (wM cZ cI a th σ).set 1 (a 1, .inl (cZ, 4, .inl (upd (fun j => flip (σ 0 j)) i x))) = wM cZ cI a th (up σ 0 i y) := by
  rw [upd_flip _ _ h]
  rfl
theorem wM_s2 (cZ cI : ClassId) (a : Nat → Nat) (th : Int32) (σ : sC) {r g : Nat} (hr : r < 4) (hg : g < 3) (x : Int32) : (wM cZ cI a th σ).set 2 (a 2, .inl (cI, 12, .inl (upd (fun j => σ 9 (pm j)) (3 * r + g) x))) = wM cZ cI a th (up σ 9 (4 * g + r) x) := by
  rw [upd_pm _ hr hg]
  rfl
theorem wM_s3 (cZ cI : ClassId) (a : Nat → Nat) (th : Int32) (σ : sC) (i : Nat) (x : Int32) : (wM cZ cI a th σ).set 3 (a 3, .inl (cI, 8, .inl (upd (σ 3) i x))) = wM cZ cI a th (up σ 3 i x) := rfl
theorem wM_s4 (cZ cI : ClassId) (a : Nat → Nat) (th : Int32) (σ : sC) (i : Nat) {x y : Int32} (h : flip y = x) : (wM cZ cI a th σ).set 4 (a 4, .inl (cZ, 8, .inl (upd (fun j => flip (σ 2 j)) i x))) = wM cZ cI a th (up σ 2 i y) := by
  rw [upd_flip _ _ h]
  rfl
theorem wM_s5 (cZ cI : ClassId) (a : Nat → Nat) (th : Int32) (σ : sC) (i : Nat) {x y : Int32} (h : flip y = x) : (wM cZ cI a th σ).set 5 (a 5, .inl (cZ, 16, .inl (upd (fun j => flip (σ 1 j)) i x))) = wM cZ cI a th (up σ 1 i y) := by
  rw [upd_flip _ _ h]
  rfl
theorem wM_s6 (cZ cI : ClassId) (a : Nat → Nat) (th : Int32) (σ : sC) (i : Nat) (x : Int32) : (wM cZ cI a th σ).set 6 (a 6, .inl (cI, 3, .inl (upd (σ 4) i x))) = wM cZ cI a th (up σ 4 i x) := rfl
theorem wM_s7 (cZ cI : ClassId) (a : Nat → Nat) (th : Int32) (σ : sC) (i : Nat) {x y : Int32} (h : flip y = x) : (wM cZ cI a th σ).set 7 (a 7, .inl (cZ, 3, .inl (upd (fun j => flip (σ 5 j)) i x))) = wM cZ cI a th (up σ 5 i y) := by
  rw [upd_flip _ _ h]
  rfl
theorem wM_s8 (cZ cI : ClassId) (a : Nat → Nat) (th : Int32) (σ : sC) (i : Nat) (x : Int32) : (wM cZ cI a th σ).set 8 (a 8, .inl (cI, 3, .inl (upd (σ 6) i x))) = wM cZ cI a th (up σ 6 i x) := rfl
theorem wM_s9 (cZ cI : ClassId) (a : Nat → Nat) (th : Int32) (σ : sC) {r g : Nat} (hr : r < 4) (hg : g < 3) (x : Int32) : (wM cZ cI a th σ).set 9 (a 9, .inl (cI, 12, .inl (upd (fun j => σ 10 (pm j)) (3 * r + g) x))) = wM cZ cI a th (up σ 10 (4 * g + r) x) := by
  rw [upd_pm _ hr hg]
  rfl
theorem wM_s10 (cZ cI : ClassId) (a : Nat → Nat) (th : Int32) (σ : sC) {r g : Nat} (hr : r < 4) (hg : g < 3) (x : Int32) : (wM cZ cI a th σ).set 10 (a 10, .inl (cI, 12, .inl (upd (fun j => σ 11 (pm j)) (3 * r + g) x))) = wM cZ cI a th (up σ 11 (4 * g + r) x) := by
  rw [upd_pm _ hr hg]
  rfl
theorem wM_s11 (cZ cI : ClassId) (a : Nat → Nat) (th : Int32) (σ : sC) {r g : Nat} (hr : r < 4) (hg : g < 3) (x : Int32) : (wM cZ cI a th σ).set 11 (a 11, .inl (cI, 12, .inl (upd (fun j => σ 12 (pm j)) (3 * r + g) x))) = wM cZ cI a th (up σ 12 (4 * g + r) x) := by
  rw [upd_pm _ hr hg]
  rfl
theorem wM_s12 (cZ cI : ClassId) (a : Nat → Nat) (th : Int32) (σ : sC) {r g : Nat} (hr : r < 4) (hg : g < 3) (x : Int32) : (wM cZ cI a th σ).set 12 (a 12, .inl (cI, 12, .inl (upd (fun j => σ 13 (pm j)) (3 * r + g) x))) = wM cZ cI a th (up σ 13 (4 * g + r) x) := by
  rw [upd_pm _ hr hg]
  rfl
theorem wM_s13 (cZ cI : ClassId) (a : Nat → Nat) (th : Int32) (σ : sC) {r g : Nat} (hr : r < 4) (hg : g < 3) (x : Int32) : (wM cZ cI a th σ).set 13 (a 13, .inl (cZ, 12, .inl (upd (fun j => σ 15 (pm j)) (3 * r + g) x))) = wM cZ cI a th (up σ 15 (4 * g + r) x) := by
  rw [upd_pm _ hr hg]
  rfl
theorem wM_s14 (cZ cI : ClassId) (a : Nat → Nat) (th : Int32) (σ : sC) {r g : Nat} (hr : r < 4) (hg : g < 3) (x : Int32) : (wM cZ cI a th σ).set 14 (a 14, .inl (cI, 12, .inl (upd (fun j => σ 14 (pm j)) (3 * r + g) x))) = wM cZ cI a th (up σ 14 (4 * g + r) x) := by
  rw [upd_pm _ hr hg]
  rfl
theorem wM_s15 (cZ cI : ClassId) (a : Nat → Nat) (th : Int32) (σ : sC) (i : Nat) (x : Int32) : (wM cZ cI a th σ).set 15 (a 15, .inl (cI, 3, .inl (upd (σ 7) i x))) = wM cZ cI a th (up σ 7 i x) := rfl
theorem wM_s16 (cZ cI : ClassId) (a : Nat → Nat) (th : Int32) (σ : sC) (i : Nat) (x : Int32) : (wM cZ cI a th σ).set 16 (a 16, .inl (cI, 3, .inl (upd (σ 8) i x))) = wM cZ cI a th (up σ 8 i x) := rfl
