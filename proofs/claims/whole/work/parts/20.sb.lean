section SBf
variable {g : Gx} {w : Wd} {O : Nat → Prop} {ad : Nat → Nat → Nat} {z : Zx} {np : Nat} {S : Ast}
theorem SA.x (h : SA g w O ad z np S) : w (ad 0 0) = some (.inr (10, [.int (S.1 0 0), .ref (ad 14 1), .ref (ad 14 2), .ref (ad 14 3), .ref (ad 14 4), .ref (ad 14 5), .ref (ad 14 6), .ref (ad 7 0), .ref (ad 8 0), .ref (ad 9 0), .int (S.1 40 0), .long (S.2 41 0), .long (S.2 42 0), .long (S.2 43 0)])) := h.at (k := 0) (i := 0) Nat.one_pos
theorem SA.node (h : SA g w O ad z np S) {i : Nat} (hi : i < cn S 1) : w (ad 1 i) = some (oNode (S.1 3 i) (S.1 4 i) (ful S i) (S.2 6 i) (S.2 9 i) (S.2 7 i) (S.2 8 i) (S.1 5 i)) := h.at (k := 1) hi
theorem SA.pipe (h : SA g w O ad z np S) {i : Nat} (hi : i < cn S 10) : w (ad 2 i) = some (oPipe (ad 1 (S.1 11 i).toNatClampNeg) (ad 1 (S.1 12 i).toNatClampNeg) ((S.1 14 i).toInt64 * (S.1 14 i).toInt64) (wB S i) (S.2 15 i) (S.2 16 i) (S.2 17 i)) := h.at (k := 2) hi
theorem SA.area (h : SA g w O ad z np S) {i : Nat} (hi : i < cn S 18) : w (ad 3 i) = some (oArea (ad 1 (S.1 19 i).toNatClampNeg) ((S.1 20 i).toInt64 * (1000 - S.1 21 i).toInt64) (S.2 22 i)) := h.at (k := 3) hi
theorem SA.pump (h : SA g w O ad z np S) {i : Nat} (hi : i < cn S 24) : w (ad 4 i) = some (oPump (ad 1 (S.1 25 i).toNatClampNeg) (ad 1 (S.1 26 i).toNatClampNeg) (S.1 27 i) (S.1 28 i) (S.1 29 i) (S.1 30 i)) := h.at (k := 4) hi
theorem SA.gate (h : SA g w O ad z np S) {i : Nat} (hi : i < cn S 31) : w (ad 5 i) = some (oGate (ad 1 (S.1 32 i).toNatClampNeg) ((S.1 33 i).toInt64 * (S.1 4 (S.1 32 i).toNatClampNeg).toInt64) (S.1 34 i)) := h.at (k := 5) hi
theorem SA.gully (h : SA g w O ad z np S) {i : Nat} (hi : i < cn S 35) : w (ad 6 i) = some (oGully (S.1 36 i) (ad 1 (S.1 37 i).toNatClampNeg) (S.1 38 i)) := h.at (k := 6) hi
theorem SA.rains (h : SA g w O ad z np S) : w (ad 7 0) = some (aI g 1440 (S.1 23)) := h.at (k := 7) (i := 0) Nat.one_pos
theorem SA.cells (h : SA g w O ad z np S) : w (ad 8 0) = some (aJ g 8 (S.2 39)) := h.at (k := 8) (i := 0) Nat.one_pos
theorem SA.line (h : SA g w O ad z np S) : w (ad 9 0) = some (.inr (5, [.ref (ad 14 10), .ref (ad 14 11), .ref (ad 12 0), .int (S.1 50 0), .int (S.1 47 0), .int (S.1 55 0), .int (S.1 48 0), .int (S.1 49 0), .int z.1, .int z.2.1])) := h.at (k := 9) (i := 0) Nat.one_pos
theorem SA.entry (h : SA g w O ad z np S) {i : Nat} (hi : i < cn S 44) : w (ad 10 i) = some (oEntry (S.1 45 i) (S.1 46 i)) := h.at (k := 10) hi
theorem SA.piece (h : SA g w O ad z np S) {i : Nat} (hi : i < np) : w (ad 11 i) = some (oPiece (ad 13 i) (S.1 51 i) (S.1 52 i) (S.1 53 i) (S.1 56 i) (S.1 57 i) (S.1 58 i)) := h.at (k := 11) hi
theorem SA.ce (h : SA g w O ad z np S) : w (ad 12 0) = some (aJ g 401 z.2.2.1) := h.at (k := 12) (i := 0) Nat.one_pos
theorem SA.le (h : SA g w O ad z np S) {i : Nat} (hi : i < np) : w (ad 13 i) = some (aJ g ((40 * i + 1) * 6) (z.2.2.2 i)) := h.at (k := 13) hi
theorem SA.ne (h : SA g w O ad z np S) {k i k' i' : Nat} (hi : i < vN S np k) (hi' : i' < vN S np k') (hne : ¬ (k = k' ∧ i = i')) : ad k i ≠ ad k' i' := fun q => hne (h.2.1 k i k' i' hi hi' q)
theorem cel_e0 (g : Gx) (ad : Nat → Nat → Nat) (z : Zx) (S : Ast) (i : Nat) : cel g ad z S 0 i = (Sum.inr (10, [.int (S.1 0 0), .ref (ad 14 1), .ref (ad 14 2), .ref (ad 14 3), .ref (ad 14 4), .ref (ad 14 5), .ref (ad 14 6), .ref (ad 7 0), .ref (ad 8 0), .ref (ad 9 0), .int (S.1 40 0), .long (S.2 41 0), .long (S.2 42 0), .long (S.2 43 0)]) : va_E) := rfl
theorem cel_e1 (g : Gx) (ad : Nat → Nat → Nat) (z : Zx) (S : Ast) (i : Nat) : cel g ad z S 1 i = oNode (S.1 3 i) (S.1 4 i) (ful S i) (S.2 6 i) (S.2 9 i) (S.2 7 i) (S.2 8 i) (S.1 5 i) := rfl
theorem cel_e2 (g : Gx) (ad : Nat → Nat → Nat) (z : Zx) (S : Ast) (i : Nat) : cel g ad z S 2 i = oPipe (ad 1 (S.1 11 i).toNatClampNeg) (ad 1 (S.1 12 i).toNatClampNeg) ((S.1 14 i).toInt64 * (S.1 14 i).toInt64) (wB S i) (S.2 15 i) (S.2 16 i) (S.2 17 i) := rfl
theorem cel_e3 (g : Gx) (ad : Nat → Nat → Nat) (z : Zx) (S : Ast) (i : Nat) : cel g ad z S 3 i = oArea (ad 1 (S.1 19 i).toNatClampNeg) ((S.1 20 i).toInt64 * (1000 - S.1 21 i).toInt64) (S.2 22 i) := rfl
theorem cel_e4 (g : Gx) (ad : Nat → Nat → Nat) (z : Zx) (S : Ast) (i : Nat) : cel g ad z S 4 i = oPump (ad 1 (S.1 25 i).toNatClampNeg) (ad 1 (S.1 26 i).toNatClampNeg) (S.1 27 i) (S.1 28 i) (S.1 29 i) (S.1 30 i) := rfl
theorem cel_e5 (g : Gx) (ad : Nat → Nat → Nat) (z : Zx) (S : Ast) (i : Nat) : cel g ad z S 5 i = oGate (ad 1 (S.1 32 i).toNatClampNeg) ((S.1 33 i).toInt64 * (S.1 4 (S.1 32 i).toNatClampNeg).toInt64) (S.1 34 i) := rfl
theorem cel_e6 (g : Gx) (ad : Nat → Nat → Nat) (z : Zx) (S : Ast) (i : Nat) : cel g ad z S 6 i = oGully (S.1 36 i) (ad 1 (S.1 37 i).toNatClampNeg) (S.1 38 i) := rfl
theorem cel_e7 (g : Gx) (ad : Nat → Nat → Nat) (z : Zx) (S : Ast) (i : Nat) : cel g ad z S 7 i = aI g 1440 (S.1 23) := rfl
theorem cel_e8 (g : Gx) (ad : Nat → Nat → Nat) (z : Zx) (S : Ast) (i : Nat) : cel g ad z S 8 i = aJ g 8 (S.2 39) := rfl
theorem cel_e9 (g : Gx) (ad : Nat → Nat → Nat) (z : Zx) (S : Ast) (i : Nat) : cel g ad z S 9 i = (Sum.inr (5, [.ref (ad 14 10), .ref (ad 14 11), .ref (ad 12 0), .int (S.1 50 0), .int (S.1 47 0), .int (S.1 55 0), .int (S.1 48 0), .int (S.1 49 0), .int z.1, .int z.2.1]) : va_E) := rfl
theorem cel_e10 (g : Gx) (ad : Nat → Nat → Nat) (z : Zx) (S : Ast) (i : Nat) : cel g ad z S 10 i = oEntry (S.1 45 i) (S.1 46 i) := rfl
theorem cel_e11 (g : Gx) (ad : Nat → Nat → Nat) (z : Zx) (S : Ast) (i : Nat) : cel g ad z S 11 i = oPiece (ad 13 i) (S.1 51 i) (S.1 52 i) (S.1 53 i) (S.1 56 i) (S.1 57 i) (S.1 58 i) := rfl
theorem cel_e12 (g : Gx) (ad : Nat → Nat → Nat) (z : Zx) (S : Ast) (i : Nat) : cel g ad z S 12 i = aJ g 401 z.2.2.1 := rfl
theorem cel_e13 (g : Gx) (ad : Nat → Nat → Nat) (z : Zx) (S : Ast) (i : Nat) : cel g ad z S 13 i = aJ g ((40 * i + 1) * 6) (z.2.2.2 i) := rfl
theorem cel_eX (g : Gx) (ad : Nat → Nat → Nat) (z : Zx) (S : Ast) (n i : Nat) : cel g ad z S (n + 14) i = (Sum.inr (2, []) : va_E) := rfl
theorem cel_0 (g : Gx) (ad : Nat → Nat → Nat) (z : Zx) {S T : Ast} (i : Nat) (e0 : T.1 0 0 = S.1 0 0) (e40 : T.1 40 0 = S.1 40 0) (f41 : T.2 41 0 = S.2 41 0) (f42 : T.2 42 0 = S.2 42 0) (f43 : T.2 43 0 = S.2 43 0) : cel g ad z T 0 i = cel g ad z S 0 i := by
  rw [cel_e0, cel_e0]
  simp only [e0, e40, f41, f42, f43]
theorem cel_1 (g : Gx) (ad : Nat → Nat → Nat) (z : Zx) {S T : Ast} (i : Nat) (e2 : T.1 2 i = S.1 2 i) (e3 : T.1 3 i = S.1 3 i) (e4 : T.1 4 i = S.1 4 i) (e5 : T.1 5 i = S.1 5 i) (f6 : T.2 6 i = S.2 6 i) (f9 : T.2 9 i = S.2 9 i) (f7 : T.2 7 i = S.2 7 i) (f8 : T.2 8 i = S.2 8 i) : cel g ad z T 1 i = cel g ad z S 1 i := by
  rw [cel_e1, cel_e1]
  simp only [ful, e2, e3, e4, e5, f6, f9, f7, f8]
theorem cel_2 (g : Gx) (ad : Nat → Nat → Nat) (z : Zx) {S T : Ast} (i : Nat) (e11 : T.1 11 i = S.1 11 i) (e12 : T.1 12 i = S.1 12 i) (e13 : T.1 13 i = S.1 13 i) (e14 : T.1 14 i = S.1 14 i) (f15 : T.2 15 i = S.2 15 i) (f16 : T.2 16 i = S.2 16 i) (f17 : T.2 17 i = S.2 17 i) : cel g ad z T 2 i = cel g ad z S 2 i := by
  rw [cel_e2, cel_e2]
  simp only [wB, e11, e12, e13, e14, f15, f16, f17]
theorem cel_3 (g : Gx) (ad : Nat → Nat → Nat) (z : Zx) {S T : Ast} (i : Nat) (e19 : T.1 19 i = S.1 19 i) (e20 : T.1 20 i = S.1 20 i) (e21 : T.1 21 i = S.1 21 i) (f22 : T.2 22 i = S.2 22 i) : cel g ad z T 3 i = cel g ad z S 3 i := by
  rw [cel_e3, cel_e3]
  simp only [e19, e20, e21, f22]
theorem cel_4 (g : Gx) (ad : Nat → Nat → Nat) (z : Zx) {S T : Ast} (i : Nat) (e25 : T.1 25 i = S.1 25 i) (e26 : T.1 26 i = S.1 26 i) (e27 : T.1 27 i = S.1 27 i) (e28 : T.1 28 i = S.1 28 i) (e29 : T.1 29 i = S.1 29 i) (e30 : T.1 30 i = S.1 30 i) : cel g ad z T 4 i = cel g ad z S 4 i := by
  rw [cel_e4, cel_e4]
  simp only [e25, e26, e27, e28, e29, e30]
theorem cel_5 (g : Gx) (ad : Nat → Nat → Nat) (z : Zx) {S T : Ast} (i : Nat) (e32 : T.1 32 i = S.1 32 i) (e33 : T.1 33 i = S.1 33 i) (e34 : T.1 34 i = S.1 34 i) (e4 : T.1 4 = S.1 4) : cel g ad z T 5 i = cel g ad z S 5 i := by
  rw [cel_e5, cel_e5]
  simp only [e32, e33, e34, e4]
theorem cel_6 (g : Gx) (ad : Nat → Nat → Nat) (z : Zx) {S T : Ast} (i : Nat) (e36 : T.1 36 i = S.1 36 i) (e37 : T.1 37 i = S.1 37 i) (e38 : T.1 38 i = S.1 38 i) : cel g ad z T 6 i = cel g ad z S 6 i := by
  rw [cel_e6, cel_e6]
  simp only [e36, e37, e38]
theorem cel_7 (g : Gx) (ad : Nat → Nat → Nat) (z : Zx) {S T : Ast} (i : Nat) (e23 : T.1 23 = S.1 23) : cel g ad z T 7 i = cel g ad z S 7 i := by
  rw [cel_e7, cel_e7]
  simp only [e23]
theorem cel_8 (g : Gx) (ad : Nat → Nat → Nat) (z : Zx) {S T : Ast} (i : Nat) (f39 : T.2 39 = S.2 39) : cel g ad z T 8 i = cel g ad z S 8 i := by
  rw [cel_e8, cel_e8]
  simp only [f39]
theorem cel_9 (g : Gx) (ad : Nat → Nat → Nat) (z : Zx) {S T : Ast} (i : Nat) (e50 : T.1 50 0 = S.1 50 0) (e47 : T.1 47 0 = S.1 47 0) (e55 : T.1 55 0 = S.1 55 0) (e48 : T.1 48 0 = S.1 48 0) (e49 : T.1 49 0 = S.1 49 0) : cel g ad z T 9 i = cel g ad z S 9 i := by
  rw [cel_e9, cel_e9]
  simp only [e50, e47, e55, e48, e49]
theorem cel_10 (g : Gx) (ad : Nat → Nat → Nat) (z : Zx) {S T : Ast} (i : Nat) (e45 : T.1 45 i = S.1 45 i) (e46 : T.1 46 i = S.1 46 i) : cel g ad z T 10 i = cel g ad z S 10 i := by
  rw [cel_e10, cel_e10]
  simp only [e45, e46]
theorem cel_11 (g : Gx) (ad : Nat → Nat → Nat) (z : Zx) {S T : Ast} (i : Nat) (e51 : T.1 51 i = S.1 51 i) (e52 : T.1 52 i = S.1 52 i) (e53 : T.1 53 i = S.1 53 i) (e56 : T.1 56 i = S.1 56 i) (e57 : T.1 57 i = S.1 57 i) (e58 : T.1 58 i = S.1 58 i) : cel g ad z T 11 i = cel g ad z S 11 i := by
  rw [cel_e11, cel_e11]
  simp only [e51, e52, e53, e56, e57, e58]
theorem cel_12 (g : Gx) (ad : Nat → Nat → Nat) (z : Zx) {S T : Ast} (i : Nat)  : cel g ad z T 12 i = cel g ad z S 12 i := by
  rw [cel_e12, cel_e12]
theorem cel_13 (g : Gx) (ad : Nat → Nat → Nat) (z : Zx) {S T : Ast} (i : Nat)  : cel g ad z T 13 i = cel g ad z S 13 i := by
  rw [cel_e13, cel_e13]
theorem vN_e0 (S : Ast) (np : Nat) : vN S np 0 = 1 := rfl
theorem vN_e1 (S : Ast) (np : Nat) : vN S np 1 = cn S 1 := rfl
theorem vN_e2 (S : Ast) (np : Nat) : vN S np 2 = cn S 10 := rfl
theorem vN_e3 (S : Ast) (np : Nat) : vN S np 3 = cn S 18 := rfl
theorem vN_e4 (S : Ast) (np : Nat) : vN S np 4 = cn S 24 := rfl
theorem vN_e5 (S : Ast) (np : Nat) : vN S np 5 = cn S 31 := rfl
theorem vN_e6 (S : Ast) (np : Nat) : vN S np 6 = cn S 35 := rfl
theorem vN_e7 (S : Ast) (np : Nat) : vN S np 7 = 1 := rfl
theorem vN_e8 (S : Ast) (np : Nat) : vN S np 8 = 1 := rfl
theorem vN_e9 (S : Ast) (np : Nat) : vN S np 9 = 1 := rfl
theorem vN_e10 (S : Ast) (np : Nat) : vN S np 10 = cn S 44 := rfl
theorem vN_e11 (S : Ast) (np : Nat) : vN S np 11 = np := rfl
theorem vN_e12 (S : Ast) (np : Nat) : vN S np 12 = 1 := rfl
theorem vN_e13 (S : Ast) (np : Nat) : vN S np 13 = np := rfl
theorem vN_eX (S : Ast) (np n : Nat) : vN S np (n + 14) = 0 := rfl
theorem vN_cong {S T : Ast} {np : Nat} (e1 : T.1 1 0 = S.1 1 0) (e10 : T.1 10 0 = S.1 10 0) (e18 : T.1 18 0 = S.1 18 0) (e24 : T.1 24 0 = S.1 24 0) (e31 : T.1 31 0 = S.1 31 0) (e35 : T.1 35 0 = S.1 35 0) (e44 : T.1 44 0 = S.1 44 0) (j : Nat) : vN T np j = vN S np j := by
  match j with
  | 0 => rw [vN_e0, vN_e0]
  | 1 => rw [vN_e1, vN_e1]; exact congrArg Int32.toNatClampNeg e1
  | 2 => rw [vN_e2, vN_e2]; exact congrArg Int32.toNatClampNeg e10
  | 3 => rw [vN_e3, vN_e3]; exact congrArg Int32.toNatClampNeg e18
  | 4 => rw [vN_e4, vN_e4]; exact congrArg Int32.toNatClampNeg e24
  | 5 => rw [vN_e5, vN_e5]; exact congrArg Int32.toNatClampNeg e31
  | 6 => rw [vN_e6, vN_e6]; exact congrArg Int32.toNatClampNeg e35
  | 7 => rw [vN_e7, vN_e7]
  | 8 => rw [vN_e8, vN_e8]
  | 9 => rw [vN_e9, vN_e9]
  | 10 => rw [vN_e10, vN_e10]; exact congrArg Int32.toNatClampNeg e44
  | 11 => rw [vN_e11, vN_e11]
  | 12 => rw [vN_e12, vN_e12]
  | 13 => rw [vN_e13, vN_e13]
  | n + 14 => rw [vN_eX, vN_eX]
theorem SA.upNode (h : SA g w O ad z np S) {i : Nat} (hi : i < cn S 1) {e : va_E} (T : Ast) (hI : ∀ k, k ≠ 5 → T.1 k = S.1 k) (hJ : ∀ k, k ≠ 6 → k ≠ 7 → k ≠ 8 → k ≠ 9 → T.2 k = S.2 k) (hi1 : ∀ k j, j ≠ i → T.1 k j = S.1 k j) (hi2 : ∀ k j, j ≠ i → T.2 k j = S.2 k j) (he : e = cel g ad z T 1 i) : SA g (wst w (ad 1 i) e) O ad z np T := by
  refine h.up (k := 1) (i := i) hi T z (vN_cong (congrFun (hI 1 (by decide)) 0) (congrFun (hI 10 (by decide)) 0) (congrFun (hI 18 (by decide)) 0) (congrFun (hI 24 (by decide)) 0) (congrFun (hI 31 (by decide)) 0) (congrFun (hI 35 (by decide)) 0) (congrFun (hI 44 (by decide)) 0)) he (fun k' i' hi' hne => ?_)
  match k', hi', hne with
  | 0, _, hne => exact cel_0 g ad z i' (congrFun (hI 0 (by decide)) 0) (congrFun (hI 40 (by decide)) 0) (congrFun (hJ 41 (by decide) (by decide) (by decide) (by decide)) 0) (congrFun (hJ 42 (by decide) (by decide) (by decide) (by decide)) 0) (congrFun (hJ 43 (by decide) (by decide) (by decide) (by decide)) 0)
  | 1, _, hne => exact cel_1 g ad z i' (congrFun (hI 2 (by decide)) i') (congrFun (hI 3 (by decide)) i') (congrFun (hI 4 (by decide)) i') (hi1 5 i' (fun q => hne ⟨rfl, q⟩)) (hi2 6 i' (fun q => hne ⟨rfl, q⟩)) (hi2 9 i' (fun q => hne ⟨rfl, q⟩)) (hi2 7 i' (fun q => hne ⟨rfl, q⟩)) (hi2 8 i' (fun q => hne ⟨rfl, q⟩))
  | 2, _, hne => exact cel_2 g ad z i' (congrFun (hI 11 (by decide)) i') (congrFun (hI 12 (by decide)) i') (congrFun (hI 13 (by decide)) i') (congrFun (hI 14 (by decide)) i') (congrFun (hJ 15 (by decide) (by decide) (by decide) (by decide)) i') (congrFun (hJ 16 (by decide) (by decide) (by decide) (by decide)) i') (congrFun (hJ 17 (by decide) (by decide) (by decide) (by decide)) i')
  | 3, _, hne => exact cel_3 g ad z i' (congrFun (hI 19 (by decide)) i') (congrFun (hI 20 (by decide)) i') (congrFun (hI 21 (by decide)) i') (congrFun (hJ 22 (by decide) (by decide) (by decide) (by decide)) i')
  | 4, _, hne => exact cel_4 g ad z i' (congrFun (hI 25 (by decide)) i') (congrFun (hI 26 (by decide)) i') (congrFun (hI 27 (by decide)) i') (congrFun (hI 28 (by decide)) i') (congrFun (hI 29 (by decide)) i') (congrFun (hI 30 (by decide)) i')
  | 5, _, hne => exact cel_5 g ad z i' (congrFun (hI 32 (by decide)) i') (congrFun (hI 33 (by decide)) i') (congrFun (hI 34 (by decide)) i') (hI 4 (by decide))
  | 6, _, hne => exact cel_6 g ad z i' (congrFun (hI 36 (by decide)) i') (congrFun (hI 37 (by decide)) i') (congrFun (hI 38 (by decide)) i')
  | 7, _, hne => exact cel_7 g ad z i' (hI 23 (by decide))
  | 8, _, hne => exact cel_8 g ad z i' (hJ 39 (by decide) (by decide) (by decide) (by decide))
  | 9, _, hne => exact cel_9 g ad z i' (congrFun (hI 50 (by decide)) 0) (congrFun (hI 47 (by decide)) 0) (congrFun (hI 55 (by decide)) 0) (congrFun (hI 48 (by decide)) 0) (congrFun (hI 49 (by decide)) 0)
  | 10, _, hne => exact cel_10 g ad z i' (congrFun (hI 45 (by decide)) i') (congrFun (hI 46 (by decide)) i')
  | 11, _, hne => exact cel_11 g ad z i' (congrFun (hI 51 (by decide)) i') (congrFun (hI 52 (by decide)) i') (congrFun (hI 53 (by decide)) i') (congrFun (hI 56 (by decide)) i') (congrFun (hI 57 (by decide)) i') (congrFun (hI 58 (by decide)) i')
  | 12, _, hne => exact cel_12 g ad z i' 
  | 13, _, hne => exact cel_13 g ad z i' 
  | n + 14, _, _ => rw [cel_eX, cel_eX]
theorem SA.upPipe (h : SA g w O ad z np S) {i : Nat} (hi : i < cn S 10) {e : va_E} (T : Ast) (hI : ∀ k, T.1 k = S.1 k) (hJ : ∀ k, k ≠ 15 → k ≠ 16 → k ≠ 17 → T.2 k = S.2 k) (hi1 : ∀ k j, j ≠ i → T.1 k j = S.1 k j) (hi2 : ∀ k j, j ≠ i → T.2 k j = S.2 k j) (he : e = cel g ad z T 2 i) : SA g (wst w (ad 2 i) e) O ad z np T := by
  refine h.up (k := 2) (i := i) hi T z (vN_cong (congrFun (hI 1 ) 0) (congrFun (hI 10 ) 0) (congrFun (hI 18 ) 0) (congrFun (hI 24 ) 0) (congrFun (hI 31 ) 0) (congrFun (hI 35 ) 0) (congrFun (hI 44 ) 0)) he (fun k' i' hi' hne => ?_)
  match k', hi', hne with
  | 0, _, hne => exact cel_0 g ad z i' (congrFun (hI 0 ) 0) (congrFun (hI 40 ) 0) (congrFun (hJ 41 (by decide) (by decide) (by decide)) 0) (congrFun (hJ 42 (by decide) (by decide) (by decide)) 0) (congrFun (hJ 43 (by decide) (by decide) (by decide)) 0)
  | 1, _, hne => exact cel_1 g ad z i' (congrFun (hI 2 ) i') (congrFun (hI 3 ) i') (congrFun (hI 4 ) i') (congrFun (hI 5 ) i') (congrFun (hJ 6 (by decide) (by decide) (by decide)) i') (congrFun (hJ 9 (by decide) (by decide) (by decide)) i') (congrFun (hJ 7 (by decide) (by decide) (by decide)) i') (congrFun (hJ 8 (by decide) (by decide) (by decide)) i')
  | 2, _, hne => exact cel_2 g ad z i' (congrFun (hI 11 ) i') (congrFun (hI 12 ) i') (congrFun (hI 13 ) i') (congrFun (hI 14 ) i') (hi2 15 i' (fun q => hne ⟨rfl, q⟩)) (hi2 16 i' (fun q => hne ⟨rfl, q⟩)) (hi2 17 i' (fun q => hne ⟨rfl, q⟩))
  | 3, _, hne => exact cel_3 g ad z i' (congrFun (hI 19 ) i') (congrFun (hI 20 ) i') (congrFun (hI 21 ) i') (congrFun (hJ 22 (by decide) (by decide) (by decide)) i')
  | 4, _, hne => exact cel_4 g ad z i' (congrFun (hI 25 ) i') (congrFun (hI 26 ) i') (congrFun (hI 27 ) i') (congrFun (hI 28 ) i') (congrFun (hI 29 ) i') (congrFun (hI 30 ) i')
  | 5, _, hne => exact cel_5 g ad z i' (congrFun (hI 32 ) i') (congrFun (hI 33 ) i') (congrFun (hI 34 ) i') (hI 4 )
  | 6, _, hne => exact cel_6 g ad z i' (congrFun (hI 36 ) i') (congrFun (hI 37 ) i') (congrFun (hI 38 ) i')
  | 7, _, hne => exact cel_7 g ad z i' (hI 23 )
  | 8, _, hne => exact cel_8 g ad z i' (hJ 39 (by decide) (by decide) (by decide))
  | 9, _, hne => exact cel_9 g ad z i' (congrFun (hI 50 ) 0) (congrFun (hI 47 ) 0) (congrFun (hI 55 ) 0) (congrFun (hI 48 ) 0) (congrFun (hI 49 ) 0)
  | 10, _, hne => exact cel_10 g ad z i' (congrFun (hI 45 ) i') (congrFun (hI 46 ) i')
  | 11, _, hne => exact cel_11 g ad z i' (congrFun (hI 51 ) i') (congrFun (hI 52 ) i') (congrFun (hI 53 ) i') (congrFun (hI 56 ) i') (congrFun (hI 57 ) i') (congrFun (hI 58 ) i')
  | 12, _, hne => exact cel_12 g ad z i' 
  | 13, _, hne => exact cel_13 g ad z i' 
  | n + 14, _, _ => rw [cel_eX, cel_eX]
theorem SA.upArea (h : SA g w O ad z np S) {i : Nat} (hi : i < cn S 18) {e : va_E} (T : Ast) (hI : ∀ k, T.1 k = S.1 k) (hJ : ∀ k, k ≠ 22 → T.2 k = S.2 k) (hi1 : ∀ k j, j ≠ i → T.1 k j = S.1 k j) (hi2 : ∀ k j, j ≠ i → T.2 k j = S.2 k j) (he : e = cel g ad z T 3 i) : SA g (wst w (ad 3 i) e) O ad z np T := by
  refine h.up (k := 3) (i := i) hi T z (vN_cong (congrFun (hI 1 ) 0) (congrFun (hI 10 ) 0) (congrFun (hI 18 ) 0) (congrFun (hI 24 ) 0) (congrFun (hI 31 ) 0) (congrFun (hI 35 ) 0) (congrFun (hI 44 ) 0)) he (fun k' i' hi' hne => ?_)
  match k', hi', hne with
  | 0, _, hne => exact cel_0 g ad z i' (congrFun (hI 0 ) 0) (congrFun (hI 40 ) 0) (congrFun (hJ 41 (by decide)) 0) (congrFun (hJ 42 (by decide)) 0) (congrFun (hJ 43 (by decide)) 0)
  | 1, _, hne => exact cel_1 g ad z i' (congrFun (hI 2 ) i') (congrFun (hI 3 ) i') (congrFun (hI 4 ) i') (congrFun (hI 5 ) i') (congrFun (hJ 6 (by decide)) i') (congrFun (hJ 9 (by decide)) i') (congrFun (hJ 7 (by decide)) i') (congrFun (hJ 8 (by decide)) i')
  | 2, _, hne => exact cel_2 g ad z i' (congrFun (hI 11 ) i') (congrFun (hI 12 ) i') (congrFun (hI 13 ) i') (congrFun (hI 14 ) i') (congrFun (hJ 15 (by decide)) i') (congrFun (hJ 16 (by decide)) i') (congrFun (hJ 17 (by decide)) i')
  | 3, _, hne => exact cel_3 g ad z i' (congrFun (hI 19 ) i') (congrFun (hI 20 ) i') (congrFun (hI 21 ) i') (hi2 22 i' (fun q => hne ⟨rfl, q⟩))
  | 4, _, hne => exact cel_4 g ad z i' (congrFun (hI 25 ) i') (congrFun (hI 26 ) i') (congrFun (hI 27 ) i') (congrFun (hI 28 ) i') (congrFun (hI 29 ) i') (congrFun (hI 30 ) i')
  | 5, _, hne => exact cel_5 g ad z i' (congrFun (hI 32 ) i') (congrFun (hI 33 ) i') (congrFun (hI 34 ) i') (hI 4 )
  | 6, _, hne => exact cel_6 g ad z i' (congrFun (hI 36 ) i') (congrFun (hI 37 ) i') (congrFun (hI 38 ) i')
  | 7, _, hne => exact cel_7 g ad z i' (hI 23 )
  | 8, _, hne => exact cel_8 g ad z i' (hJ 39 (by decide))
  | 9, _, hne => exact cel_9 g ad z i' (congrFun (hI 50 ) 0) (congrFun (hI 47 ) 0) (congrFun (hI 55 ) 0) (congrFun (hI 48 ) 0) (congrFun (hI 49 ) 0)
  | 10, _, hne => exact cel_10 g ad z i' (congrFun (hI 45 ) i') (congrFun (hI 46 ) i')
  | 11, _, hne => exact cel_11 g ad z i' (congrFun (hI 51 ) i') (congrFun (hI 52 ) i') (congrFun (hI 53 ) i') (congrFun (hI 56 ) i') (congrFun (hI 57 ) i') (congrFun (hI 58 ) i')
  | 12, _, hne => exact cel_12 g ad z i' 
  | 13, _, hne => exact cel_13 g ad z i' 
  | n + 14, _, _ => rw [cel_eX, cel_eX]
theorem SA.upPump (h : SA g w O ad z np S) {i : Nat} (hi : i < cn S 24) {e : va_E} (T : Ast) (hI : ∀ k, k ≠ 30 → T.1 k = S.1 k) (hJ : ∀ k, T.2 k = S.2 k) (hi1 : ∀ k j, j ≠ i → T.1 k j = S.1 k j) (hi2 : ∀ k j, j ≠ i → T.2 k j = S.2 k j) (he : e = cel g ad z T 4 i) : SA g (wst w (ad 4 i) e) O ad z np T := by
  refine h.up (k := 4) (i := i) hi T z (vN_cong (congrFun (hI 1 (by decide)) 0) (congrFun (hI 10 (by decide)) 0) (congrFun (hI 18 (by decide)) 0) (congrFun (hI 24 (by decide)) 0) (congrFun (hI 31 (by decide)) 0) (congrFun (hI 35 (by decide)) 0) (congrFun (hI 44 (by decide)) 0)) he (fun k' i' hi' hne => ?_)
  match k', hi', hne with
  | 0, _, hne => exact cel_0 g ad z i' (congrFun (hI 0 (by decide)) 0) (congrFun (hI 40 (by decide)) 0) (congrFun (hJ 41 ) 0) (congrFun (hJ 42 ) 0) (congrFun (hJ 43 ) 0)
  | 1, _, hne => exact cel_1 g ad z i' (congrFun (hI 2 (by decide)) i') (congrFun (hI 3 (by decide)) i') (congrFun (hI 4 (by decide)) i') (congrFun (hI 5 (by decide)) i') (congrFun (hJ 6 ) i') (congrFun (hJ 9 ) i') (congrFun (hJ 7 ) i') (congrFun (hJ 8 ) i')
  | 2, _, hne => exact cel_2 g ad z i' (congrFun (hI 11 (by decide)) i') (congrFun (hI 12 (by decide)) i') (congrFun (hI 13 (by decide)) i') (congrFun (hI 14 (by decide)) i') (congrFun (hJ 15 ) i') (congrFun (hJ 16 ) i') (congrFun (hJ 17 ) i')
  | 3, _, hne => exact cel_3 g ad z i' (congrFun (hI 19 (by decide)) i') (congrFun (hI 20 (by decide)) i') (congrFun (hI 21 (by decide)) i') (congrFun (hJ 22 ) i')
  | 4, _, hne => exact cel_4 g ad z i' (congrFun (hI 25 (by decide)) i') (congrFun (hI 26 (by decide)) i') (congrFun (hI 27 (by decide)) i') (congrFun (hI 28 (by decide)) i') (congrFun (hI 29 (by decide)) i') (hi1 30 i' (fun q => hne ⟨rfl, q⟩))
  | 5, _, hne => exact cel_5 g ad z i' (congrFun (hI 32 (by decide)) i') (congrFun (hI 33 (by decide)) i') (congrFun (hI 34 (by decide)) i') (hI 4 (by decide))
  | 6, _, hne => exact cel_6 g ad z i' (congrFun (hI 36 (by decide)) i') (congrFun (hI 37 (by decide)) i') (congrFun (hI 38 (by decide)) i')
  | 7, _, hne => exact cel_7 g ad z i' (hI 23 (by decide))
  | 8, _, hne => exact cel_8 g ad z i' (hJ 39 )
  | 9, _, hne => exact cel_9 g ad z i' (congrFun (hI 50 (by decide)) 0) (congrFun (hI 47 (by decide)) 0) (congrFun (hI 55 (by decide)) 0) (congrFun (hI 48 (by decide)) 0) (congrFun (hI 49 (by decide)) 0)
  | 10, _, hne => exact cel_10 g ad z i' (congrFun (hI 45 (by decide)) i') (congrFun (hI 46 (by decide)) i')
  | 11, _, hne => exact cel_11 g ad z i' (congrFun (hI 51 (by decide)) i') (congrFun (hI 52 (by decide)) i') (congrFun (hI 53 (by decide)) i') (congrFun (hI 56 (by decide)) i') (congrFun (hI 57 (by decide)) i') (congrFun (hI 58 (by decide)) i')
  | 12, _, hne => exact cel_12 g ad z i' 
  | 13, _, hne => exact cel_13 g ad z i' 
  | n + 14, _, _ => rw [cel_eX, cel_eX]
theorem SA.upRains (h : SA g w O ad z np S) {e : va_E} (T : Ast) (hI : ∀ k, k ≠ 23 → T.1 k = S.1 k) (hJ : ∀ k, T.2 k = S.2 k) (he : e = cel g ad z T 7 0) : SA g (wst w (ad 7 0) e) O ad z np T := by
  refine h.up (k := 7) (i := 0) Nat.one_pos T z (vN_cong (congrFun (hI 1 (by decide)) 0) (congrFun (hI 10 (by decide)) 0) (congrFun (hI 18 (by decide)) 0) (congrFun (hI 24 (by decide)) 0) (congrFun (hI 31 (by decide)) 0) (congrFun (hI 35 (by decide)) 0) (congrFun (hI 44 (by decide)) 0)) he (fun k' i' hi' hne => ?_)
  match k', hi', hne with
  | 0, _, hne => exact cel_0 g ad z i' (congrFun (hI 0 (by decide)) 0) (congrFun (hI 40 (by decide)) 0) (congrFun (hJ 41 ) 0) (congrFun (hJ 42 ) 0) (congrFun (hJ 43 ) 0)
  | 1, _, hne => exact cel_1 g ad z i' (congrFun (hI 2 (by decide)) i') (congrFun (hI 3 (by decide)) i') (congrFun (hI 4 (by decide)) i') (congrFun (hI 5 (by decide)) i') (congrFun (hJ 6 ) i') (congrFun (hJ 9 ) i') (congrFun (hJ 7 ) i') (congrFun (hJ 8 ) i')
  | 2, _, hne => exact cel_2 g ad z i' (congrFun (hI 11 (by decide)) i') (congrFun (hI 12 (by decide)) i') (congrFun (hI 13 (by decide)) i') (congrFun (hI 14 (by decide)) i') (congrFun (hJ 15 ) i') (congrFun (hJ 16 ) i') (congrFun (hJ 17 ) i')
  | 3, _, hne => exact cel_3 g ad z i' (congrFun (hI 19 (by decide)) i') (congrFun (hI 20 (by decide)) i') (congrFun (hI 21 (by decide)) i') (congrFun (hJ 22 ) i')
  | 4, _, hne => exact cel_4 g ad z i' (congrFun (hI 25 (by decide)) i') (congrFun (hI 26 (by decide)) i') (congrFun (hI 27 (by decide)) i') (congrFun (hI 28 (by decide)) i') (congrFun (hI 29 (by decide)) i') (congrFun (hI 30 (by decide)) i')
  | 5, _, hne => exact cel_5 g ad z i' (congrFun (hI 32 (by decide)) i') (congrFun (hI 33 (by decide)) i') (congrFun (hI 34 (by decide)) i') (hI 4 (by decide))
  | 6, _, hne => exact cel_6 g ad z i' (congrFun (hI 36 (by decide)) i') (congrFun (hI 37 (by decide)) i') (congrFun (hI 38 (by decide)) i')
  | 7, hi', hne => exact absurd ⟨rfl, Nat.lt_one_iff.mp hi'⟩ hne
  | 8, _, hne => exact cel_8 g ad z i' (hJ 39 )
  | 9, _, hne => exact cel_9 g ad z i' (congrFun (hI 50 (by decide)) 0) (congrFun (hI 47 (by decide)) 0) (congrFun (hI 55 (by decide)) 0) (congrFun (hI 48 (by decide)) 0) (congrFun (hI 49 (by decide)) 0)
  | 10, _, hne => exact cel_10 g ad z i' (congrFun (hI 45 (by decide)) i') (congrFun (hI 46 (by decide)) i')
  | 11, _, hne => exact cel_11 g ad z i' (congrFun (hI 51 (by decide)) i') (congrFun (hI 52 (by decide)) i') (congrFun (hI 53 (by decide)) i') (congrFun (hI 56 (by decide)) i') (congrFun (hI 57 (by decide)) i') (congrFun (hI 58 (by decide)) i')
  | 12, _, hne => exact cel_12 g ad z i' 
  | 13, _, hne => exact cel_13 g ad z i' 
  | n + 14, _, _ => rw [cel_eX, cel_eX]
theorem SA.upCells (h : SA g w O ad z np S) {e : va_E} (T : Ast) (hI : ∀ k, T.1 k = S.1 k) (hJ : ∀ k, k ≠ 39 → T.2 k = S.2 k) (he : e = cel g ad z T 8 0) : SA g (wst w (ad 8 0) e) O ad z np T := by
  refine h.up (k := 8) (i := 0) Nat.one_pos T z (vN_cong (congrFun (hI 1 ) 0) (congrFun (hI 10 ) 0) (congrFun (hI 18 ) 0) (congrFun (hI 24 ) 0) (congrFun (hI 31 ) 0) (congrFun (hI 35 ) 0) (congrFun (hI 44 ) 0)) he (fun k' i' hi' hne => ?_)
  match k', hi', hne with
  | 0, _, hne => exact cel_0 g ad z i' (congrFun (hI 0 ) 0) (congrFun (hI 40 ) 0) (congrFun (hJ 41 (by decide)) 0) (congrFun (hJ 42 (by decide)) 0) (congrFun (hJ 43 (by decide)) 0)
  | 1, _, hne => exact cel_1 g ad z i' (congrFun (hI 2 ) i') (congrFun (hI 3 ) i') (congrFun (hI 4 ) i') (congrFun (hI 5 ) i') (congrFun (hJ 6 (by decide)) i') (congrFun (hJ 9 (by decide)) i') (congrFun (hJ 7 (by decide)) i') (congrFun (hJ 8 (by decide)) i')
  | 2, _, hne => exact cel_2 g ad z i' (congrFun (hI 11 ) i') (congrFun (hI 12 ) i') (congrFun (hI 13 ) i') (congrFun (hI 14 ) i') (congrFun (hJ 15 (by decide)) i') (congrFun (hJ 16 (by decide)) i') (congrFun (hJ 17 (by decide)) i')
  | 3, _, hne => exact cel_3 g ad z i' (congrFun (hI 19 ) i') (congrFun (hI 20 ) i') (congrFun (hI 21 ) i') (congrFun (hJ 22 (by decide)) i')
  | 4, _, hne => exact cel_4 g ad z i' (congrFun (hI 25 ) i') (congrFun (hI 26 ) i') (congrFun (hI 27 ) i') (congrFun (hI 28 ) i') (congrFun (hI 29 ) i') (congrFun (hI 30 ) i')
  | 5, _, hne => exact cel_5 g ad z i' (congrFun (hI 32 ) i') (congrFun (hI 33 ) i') (congrFun (hI 34 ) i') (hI 4 )
  | 6, _, hne => exact cel_6 g ad z i' (congrFun (hI 36 ) i') (congrFun (hI 37 ) i') (congrFun (hI 38 ) i')
  | 7, _, hne => exact cel_7 g ad z i' (hI 23 )
  | 8, hi', hne => exact absurd ⟨rfl, Nat.lt_one_iff.mp hi'⟩ hne
  | 9, _, hne => exact cel_9 g ad z i' (congrFun (hI 50 ) 0) (congrFun (hI 47 ) 0) (congrFun (hI 55 ) 0) (congrFun (hI 48 ) 0) (congrFun (hI 49 ) 0)
  | 10, _, hne => exact cel_10 g ad z i' (congrFun (hI 45 ) i') (congrFun (hI 46 ) i')
  | 11, _, hne => exact cel_11 g ad z i' (congrFun (hI 51 ) i') (congrFun (hI 52 ) i') (congrFun (hI 53 ) i') (congrFun (hI 56 ) i') (congrFun (hI 57 ) i') (congrFun (hI 58 ) i')
  | 12, _, hne => exact cel_12 g ad z i' 
  | 13, _, hne => exact cel_13 g ad z i' 
  | n + 14, _, _ => rw [cel_eX, cel_eX]
theorem SA.upX (h : SA g w O ad z np S) {e : va_E} (T : Ast) (hI : ∀ k, k ≠ 40 → T.1 k = S.1 k) (hJ : ∀ k, k ≠ 41 → k ≠ 42 → k ≠ 43 → T.2 k = S.2 k) (he : e = cel g ad z T 0 0) : SA g (wst w (ad 0 0) e) O ad z np T := by
  refine h.up (k := 0) (i := 0) Nat.one_pos T z (vN_cong (congrFun (hI 1 (by decide)) 0) (congrFun (hI 10 (by decide)) 0) (congrFun (hI 18 (by decide)) 0) (congrFun (hI 24 (by decide)) 0) (congrFun (hI 31 (by decide)) 0) (congrFun (hI 35 (by decide)) 0) (congrFun (hI 44 (by decide)) 0)) he (fun k' i' hi' hne => ?_)
  match k', hi', hne with
  | 0, hi', hne => exact absurd ⟨rfl, Nat.lt_one_iff.mp hi'⟩ hne
  | 1, _, hne => exact cel_1 g ad z i' (congrFun (hI 2 (by decide)) i') (congrFun (hI 3 (by decide)) i') (congrFun (hI 4 (by decide)) i') (congrFun (hI 5 (by decide)) i') (congrFun (hJ 6 (by decide) (by decide) (by decide)) i') (congrFun (hJ 9 (by decide) (by decide) (by decide)) i') (congrFun (hJ 7 (by decide) (by decide) (by decide)) i') (congrFun (hJ 8 (by decide) (by decide) (by decide)) i')
  | 2, _, hne => exact cel_2 g ad z i' (congrFun (hI 11 (by decide)) i') (congrFun (hI 12 (by decide)) i') (congrFun (hI 13 (by decide)) i') (congrFun (hI 14 (by decide)) i') (congrFun (hJ 15 (by decide) (by decide) (by decide)) i') (congrFun (hJ 16 (by decide) (by decide) (by decide)) i') (congrFun (hJ 17 (by decide) (by decide) (by decide)) i')
  | 3, _, hne => exact cel_3 g ad z i' (congrFun (hI 19 (by decide)) i') (congrFun (hI 20 (by decide)) i') (congrFun (hI 21 (by decide)) i') (congrFun (hJ 22 (by decide) (by decide) (by decide)) i')
  | 4, _, hne => exact cel_4 g ad z i' (congrFun (hI 25 (by decide)) i') (congrFun (hI 26 (by decide)) i') (congrFun (hI 27 (by decide)) i') (congrFun (hI 28 (by decide)) i') (congrFun (hI 29 (by decide)) i') (congrFun (hI 30 (by decide)) i')
  | 5, _, hne => exact cel_5 g ad z i' (congrFun (hI 32 (by decide)) i') (congrFun (hI 33 (by decide)) i') (congrFun (hI 34 (by decide)) i') (hI 4 (by decide))
  | 6, _, hne => exact cel_6 g ad z i' (congrFun (hI 36 (by decide)) i') (congrFun (hI 37 (by decide)) i') (congrFun (hI 38 (by decide)) i')
  | 7, _, hne => exact cel_7 g ad z i' (hI 23 (by decide))
  | 8, _, hne => exact cel_8 g ad z i' (hJ 39 (by decide) (by decide) (by decide))
  | 9, _, hne => exact cel_9 g ad z i' (congrFun (hI 50 (by decide)) 0) (congrFun (hI 47 (by decide)) 0) (congrFun (hI 55 (by decide)) 0) (congrFun (hI 48 (by decide)) 0) (congrFun (hI 49 (by decide)) 0)
  | 10, _, hne => exact cel_10 g ad z i' (congrFun (hI 45 (by decide)) i') (congrFun (hI 46 (by decide)) i')
  | 11, _, hne => exact cel_11 g ad z i' (congrFun (hI 51 (by decide)) i') (congrFun (hI 52 (by decide)) i') (congrFun (hI 53 (by decide)) i') (congrFun (hI 56 (by decide)) i') (congrFun (hI 57 (by decide)) i') (congrFun (hI 58 (by decide)) i')
  | 12, _, hne => exact cel_12 g ad z i' 
  | 13, _, hne => exact cel_13 g ad z i' 
  | n + 14, _, _ => rw [cel_eX, cel_eX]
end SBf

def SB (g : Gx) (w0 w : Wd) (O : Nat → Prop) (ad : Nat → Nat → Nat) (z : Zx) (np : Nat) (S : Ast) : Prop := SA g w O ad z np S ∧ Fr w0 O w O
theorem SB.rf {g : Gx} {w : Wd} {O : Nat → Prop} {ad : Nat → Nat → Nat} {z : Zx} {np : Nat} {S : Ast} (h : SA g w O ad z np S) : SB g w w O ad z np S := ⟨h, Fr.rf⟩
theorem SB.tr {g : Gx} {w0 w w' : Wd} {O : Nat → Prop} {ad : Nat → Nat → Nat} {z y : Zx} {np : Nat} {S T : Ast} (h : SB g w0 w O ad z np S) (h' : SB g w w' O ad y np T) : SB g w0 w' O ad y np T := ⟨h'.1, h.2.tr h'.2⟩
theorem SB.cast {g : Gx} {w0 w : Wd} {O : Nat → Prop} {ad : Nat → Nat → Nat} {z : Zx} {np : Nat} {S T : Ast} (h : SB g w0 w O ad z np S) (e : S = T) : SB g w0 w O ad z np T := e ▸ h
/-- the list's size -/
theorem c_lsize (K : Kx) {w : Wd} {l e n : Nat} {f : Nat → Nat} (hl : Lst K.2.1 w l e n f) : MT K mJx4a65c_size_8abf5 0 0 0 [.ref l] w (PI fun r w' => r = nI n ∧ w' = w) := by
  obtain ⟨mc, h1⟩ := hl.sz
  exact c_size K h1

