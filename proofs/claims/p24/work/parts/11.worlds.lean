def wX (cZ cI : ClassId) (a : Nat → Nat) (σ : sC) : va_W :=
  [(a 0, .inr (0, [.ref (a 1), .ref (a 2), .ref (a 3), .ref (a 4), .ref (a 5), .ref (a 6), .ref (a 7), .ref (a 8), .ref (a 9), .ref (a 10), .ref (a 11), .ref (a 12), .ref (a 13), .ref (a 14), .ref (a 15), .ref (a 16), .int (σ 16 0), .int (σ 17 0)])),
   (a 1, .inl (cZ, 4, .inl (σ 0))),
   (a 2, .inl (cZ, 16, .inl (σ 1))),
   (a 3, .inl (cZ, 8, .inl (σ 2))),
   (a 4, .inl (cI, 8, .inl (σ 3))),
   (a 5, .inl (cI, 3, .inl (σ 4))),
   (a 6, .inl (cZ, 3, .inl (σ 5))),
   (a 7, .inl (cI, 3, .inl (σ 6))),
   (a 8, .inl (cI, 3, .inl (σ 7))),
   (a 9, .inl (cI, 3, .inl (σ 8))),
   (a 10, .inl (cI, 12, .inl (σ 9))),
   (a 11, .inl (cI, 12, .inl (σ 10))),
   (a 12, .inl (cI, 12, .inl (σ 11))),
   (a 13, .inl (cI, 12, .inl (σ 12))),
   (a 14, .inl (cI, 12, .inl (σ 13))),
   (a 15, .inl (cI, 12, .inl (σ 14))),
   (a 16, .inl (cZ, 12, .inl (σ 15)))]
theorem wX_s0 (cZ cI : ClassId) (a : Nat → Nat) (σ : sC) (i : Nat) (x : Int32) : (wX cZ cI a σ).set 1 (a 1, .inl (cZ, 4, .inl (upd (σ 0) i x))) = wX cZ cI a (up σ 0 i x) := rfl
theorem wX_s1 (cZ cI : ClassId) (a : Nat → Nat) (σ : sC) (i : Nat) (x : Int32) : (wX cZ cI a σ).set 2 (a 2, .inl (cZ, 16, .inl (upd (σ 1) i x))) = wX cZ cI a (up σ 1 i x) := rfl
theorem wX_s2 (cZ cI : ClassId) (a : Nat → Nat) (σ : sC) (i : Nat) (x : Int32) : (wX cZ cI a σ).set 3 (a 3, .inl (cZ, 8, .inl (upd (σ 2) i x))) = wX cZ cI a (up σ 2 i x) := rfl
theorem wX_s3 (cZ cI : ClassId) (a : Nat → Nat) (σ : sC) (i : Nat) (x : Int32) : (wX cZ cI a σ).set 4 (a 4, .inl (cI, 8, .inl (upd (σ 3) i x))) = wX cZ cI a (up σ 3 i x) := rfl
theorem wX_s4 (cZ cI : ClassId) (a : Nat → Nat) (σ : sC) (i : Nat) (x : Int32) : (wX cZ cI a σ).set 5 (a 5, .inl (cI, 3, .inl (upd (σ 4) i x))) = wX cZ cI a (up σ 4 i x) := rfl
theorem wX_s5 (cZ cI : ClassId) (a : Nat → Nat) (σ : sC) (i : Nat) (x : Int32) : (wX cZ cI a σ).set 6 (a 6, .inl (cZ, 3, .inl (upd (σ 5) i x))) = wX cZ cI a (up σ 5 i x) := rfl
theorem wX_s6 (cZ cI : ClassId) (a : Nat → Nat) (σ : sC) (i : Nat) (x : Int32) : (wX cZ cI a σ).set 7 (a 7, .inl (cI, 3, .inl (upd (σ 6) i x))) = wX cZ cI a (up σ 6 i x) := rfl
theorem wX_s7 (cZ cI : ClassId) (a : Nat → Nat) (σ : sC) (i : Nat) (x : Int32) : (wX cZ cI a σ).set 8 (a 8, .inl (cI, 3, .inl (upd (σ 7) i x))) = wX cZ cI a (up σ 7 i x) := rfl
theorem wX_s8 (cZ cI : ClassId) (a : Nat → Nat) (σ : sC) (i : Nat) (x : Int32) : (wX cZ cI a σ).set 9 (a 9, .inl (cI, 3, .inl (upd (σ 8) i x))) = wX cZ cI a (up σ 8 i x) := rfl
theorem wX_s9 (cZ cI : ClassId) (a : Nat → Nat) (σ : sC) (i : Nat) (x : Int32) : (wX cZ cI a σ).set 10 (a 10, .inl (cI, 12, .inl (upd (σ 9) i x))) = wX cZ cI a (up σ 9 i x) := rfl
theorem wX_s10 (cZ cI : ClassId) (a : Nat → Nat) (σ : sC) (i : Nat) (x : Int32) : (wX cZ cI a σ).set 11 (a 11, .inl (cI, 12, .inl (upd (σ 10) i x))) = wX cZ cI a (up σ 10 i x) := rfl
theorem wX_s11 (cZ cI : ClassId) (a : Nat → Nat) (σ : sC) (i : Nat) (x : Int32) : (wX cZ cI a σ).set 12 (a 12, .inl (cI, 12, .inl (upd (σ 11) i x))) = wX cZ cI a (up σ 11 i x) := rfl
theorem wX_s12 (cZ cI : ClassId) (a : Nat → Nat) (σ : sC) (i : Nat) (x : Int32) : (wX cZ cI a σ).set 13 (a 13, .inl (cI, 12, .inl (upd (σ 12) i x))) = wX cZ cI a (up σ 12 i x) := rfl
theorem wX_s13 (cZ cI : ClassId) (a : Nat → Nat) (σ : sC) (i : Nat) (x : Int32) : (wX cZ cI a σ).set 14 (a 14, .inl (cI, 12, .inl (upd (σ 13) i x))) = wX cZ cI a (up σ 13 i x) := rfl
theorem wX_s14 (cZ cI : ClassId) (a : Nat → Nat) (σ : sC) (i : Nat) (x : Int32) : (wX cZ cI a σ).set 15 (a 15, .inl (cI, 12, .inl (upd (σ 14) i x))) = wX cZ cI a (up σ 14 i x) := rfl
theorem wX_s15 (cZ cI : ClassId) (a : Nat → Nat) (σ : sC) (i : Nat) (x : Int32) : (wX cZ cI a σ).set 16 (a 16, .inl (cZ, 12, .inl (upd (σ 15) i x))) = wX cZ cI a (up σ 15 i x) := rfl
theorem wX_s16 (cZ cI : ClassId) (a : Nat → Nat) (σ : sC) (x : Int32) : (wX cZ cI a σ).set 0 (a 0, .inr (0, [.ref (a 1), .ref (a 2), .ref (a 3), .ref (a 4), .ref (a 5), .ref (a 6), .ref (a 7), .ref (a 8), .ref (a 9), .ref (a 10), .ref (a 11), .ref (a 12), .ref (a 13), .ref (a 14), .ref (a 15), .ref (a 16), .int (σ 16 0), .int (σ 17 0)].set 16 (.int x))) = wX cZ cI a (up σ 16 0 x) := rfl
theorem wX_s17 (cZ cI : ClassId) (a : Nat → Nat) (σ : sC) (x : Int32) : (wX cZ cI a σ).set 0 (a 0, .inr (0, [.ref (a 1), .ref (a 2), .ref (a 3), .ref (a 4), .ref (a 5), .ref (a 6), .ref (a 7), .ref (a 8), .ref (a 9), .ref (a 10), .ref (a 11), .ref (a 12), .ref (a 13), .ref (a 14), .ref (a 15), .ref (a 16), .int (σ 16 0), .int (σ 17 0)].set 17 (.int x))) = wX cZ cI a (up σ 17 0 x) := rfl
