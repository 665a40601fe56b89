abbrev Ast : Type := (Nat → Nat → Int32) × (Nat → Nat → Int64)
def uI (S : Ast) (k i : Nat) (v : Int32) : Ast := (va_up S.1 k (va_up (S.1 k) i v), S.2)
def uJ (S : Ast) (k i : Nat) (v : Int64) : Ast := (S.1, va_up S.2 k (va_up (S.2 k) i v))
def mI : List Nat := [2, 3, 4, 5, 11, 12, 13, 14, 19, 20, 21, 23, 25, 26, 27, 28, 29, 32, 33, 34, 36, 37, 38, 45, 46, 51, 52, 53, 56, 57, 58]
def mJ : List Nat := [6, 7, 8, 9, 15, 16, 17, 22, 39, 54]
def mA : List Nat := [2, 3, 4, 5, 6, 7, 8, 9, 11, 12, 13, 14, 15, 16, 17, 19, 20, 21, 22, 23, 25, 26, 27, 28, 29, 30, 32, 33, 34, 36, 37, 38, 39, 45, 46, 51, 52, 53, 54, 56, 57, 58]
def mSI : List Nat := [0, 1, 10, 18, 24, 31, 35, 40, 44, 47, 48, 49, 50, 55]
def mSJ : List Nat := [41, 42, 43]
def mLen : Nat → Nat
  | 2 => 24
  | 3 => 24
  | 4 => 24
  | 5 => 24
  | 6 => 24
  | 7 => 24
  | 8 => 24
  | 9 => 24
  | 11 => 40
  | 12 => 40
  | 13 => 40
  | 14 => 40
  | 15 => 40
  | 16 => 40
  | 17 => 40
  | 19 => 24
  | 20 => 24
  | 21 => 24
  | 22 => 24
  | 23 => 1440
  | 25 => 8
  | 26 => 8
  | 27 => 8
  | 28 => 8
  | 29 => 8
  | 30 => 8
  | 32 => 8
  | 33 => 8
  | 34 => 8
  | 36 => 8
  | 37 => 8
  | 38 => 8
  | 39 => 8
  | 45 => 6
  | 46 => 6
  | 51 => 10
  | 52 => 10
  | 53 => 10
  | 54 => 26466
  | 56 => 10
  | 57 => 10
  | 58 => 10
  | _ => 0
def mF (ad : Nat → Nat) (S : Ast) : List Value := [.int (S.1 0 0), .int (S.1 1 0), .ref (ad 2), .ref (ad 3), .ref (ad 4), .ref (ad 5), .ref (ad 6), .ref (ad 7), .ref (ad 8), .ref (ad 9), .int (S.1 10 0), .ref (ad 11), .ref (ad 12), .ref (ad 13), .ref (ad 14), .ref (ad 15), .ref (ad 16), .ref (ad 17), .int (S.1 18 0), .ref (ad 19), .ref (ad 20), .ref (ad 21), .ref (ad 22), .ref (ad 23), .int (S.1 24 0), .ref (ad 25), .ref (ad 26), .ref (ad 27), .ref (ad 28), .ref (ad 29), .ref (ad 30), .int (S.1 31 0), .ref (ad 32), .ref (ad 33), .ref (ad 34), .int (S.1 35 0), .ref (ad 36), .ref (ad 37), .ref (ad 38), .ref (ad 39), .int (S.1 40 0), .long (S.2 41 0), .long (S.2 42 0), .long (S.2 43 0), .int (S.1 44 0), .ref (ad 45), .ref (ad 46), .int (S.1 47 0), .int (S.1 48 0), .int (S.1 49 0), .int (S.1 50 0), .ref (ad 51), .ref (ad 52), .ref (ad 53), .ref (ad 54), .int (S.1 55 0), .ref (ad 56), .ref (ad 57), .ref (ad 58)]
theorem mFg_0 (ad : Nat → Nat) (S : Ast) : (mF ad S)[0]? = some (.int (S.1 0 0)) := rfl
theorem mFg_1 (ad : Nat → Nat) (S : Ast) : (mF ad S)[1]? = some (.int (S.1 1 0)) := rfl
theorem mFg_2 (ad : Nat → Nat) (S : Ast) : (mF ad S)[2]? = some (.ref (ad 2)) := rfl
theorem mFg_3 (ad : Nat → Nat) (S : Ast) : (mF ad S)[3]? = some (.ref (ad 3)) := rfl
theorem mFg_4 (ad : Nat → Nat) (S : Ast) : (mF ad S)[4]? = some (.ref (ad 4)) := rfl
theorem mFg_5 (ad : Nat → Nat) (S : Ast) : (mF ad S)[5]? = some (.ref (ad 5)) := rfl
theorem mFg_6 (ad : Nat → Nat) (S : Ast) : (mF ad S)[6]? = some (.ref (ad 6)) := rfl
theorem mFg_7 (ad : Nat → Nat) (S : Ast) : (mF ad S)[7]? = some (.ref (ad 7)) := rfl
theorem mFg_8 (ad : Nat → Nat) (S : Ast) : (mF ad S)[8]? = some (.ref (ad 8)) := rfl
theorem mFg_9 (ad : Nat → Nat) (S : Ast) : (mF ad S)[9]? = some (.ref (ad 9)) := rfl
theorem mFg_10 (ad : Nat → Nat) (S : Ast) : (mF ad S)[10]? = some (.int (S.1 10 0)) := rfl
theorem mFg_11 (ad : Nat → Nat) (S : Ast) : (mF ad S)[11]? = some (.ref (ad 11)) := rfl
theorem mFg_12 (ad : Nat → Nat) (S : Ast) : (mF ad S)[12]? = some (.ref (ad 12)) := rfl
theorem mFg_13 (ad : Nat → Nat) (S : Ast) : (mF ad S)[13]? = some (.ref (ad 13)) := rfl
theorem mFg_14 (ad : Nat → Nat) (S : Ast) : (mF ad S)[14]? = some (.ref (ad 14)) := rfl
theorem mFg_15 (ad : Nat → Nat) (S : Ast) : (mF ad S)[15]? = some (.ref (ad 15)) := rfl
theorem mFg_16 (ad : Nat → Nat) (S : Ast) : (mF ad S)[16]? = some (.ref (ad 16)) := rfl
theorem mFg_17 (ad : Nat → Nat) (S : Ast) : (mF ad S)[17]? = some (.ref (ad 17)) := rfl
theorem mFg_18 (ad : Nat → Nat) (S : Ast) : (mF ad S)[18]? = some (.int (S.1 18 0)) := rfl
theorem mFg_19 (ad : Nat → Nat) (S : Ast) : (mF ad S)[19]? = some (.ref (ad 19)) := rfl
theorem mFg_20 (ad : Nat → Nat) (S : Ast) : (mF ad S)[20]? = some (.ref (ad 20)) := rfl
theorem mFg_21 (ad : Nat → Nat) (S : Ast) : (mF ad S)[21]? = some (.ref (ad 21)) := rfl
theorem mFg_22 (ad : Nat → Nat) (S : Ast) : (mF ad S)[22]? = some (.ref (ad 22)) := rfl
theorem mFg_23 (ad : Nat → Nat) (S : Ast) : (mF ad S)[23]? = some (.ref (ad 23)) := rfl
theorem mFg_24 (ad : Nat → Nat) (S : Ast) : (mF ad S)[24]? = some (.int (S.1 24 0)) := rfl
theorem mFg_25 (ad : Nat → Nat) (S : Ast) : (mF ad S)[25]? = some (.ref (ad 25)) := rfl
theorem mFg_26 (ad : Nat → Nat) (S : Ast) : (mF ad S)[26]? = some (.ref (ad 26)) := rfl
theorem mFg_27 (ad : Nat → Nat) (S : Ast) : (mF ad S)[27]? = some (.ref (ad 27)) := rfl
theorem mFg_28 (ad : Nat → Nat) (S : Ast) : (mF ad S)[28]? = some (.ref (ad 28)) := rfl
theorem mFg_29 (ad : Nat → Nat) (S : Ast) : (mF ad S)[29]? = some (.ref (ad 29)) := rfl
theorem mFg_30 (ad : Nat → Nat) (S : Ast) : (mF ad S)[30]? = some (.ref (ad 30)) := rfl
theorem mFg_31 (ad : Nat → Nat) (S : Ast) : (mF ad S)[31]? = some (.int (S.1 31 0)) := rfl
theorem mFg_32 (ad : Nat → Nat) (S : Ast) : (mF ad S)[32]? = some (.ref (ad 32)) := rfl
theorem mFg_33 (ad : Nat → Nat) (S : Ast) : (mF ad S)[33]? = some (.ref (ad 33)) := rfl
theorem mFg_34 (ad : Nat → Nat) (S : Ast) : (mF ad S)[34]? = some (.ref (ad 34)) := rfl
theorem mFg_35 (ad : Nat → Nat) (S : Ast) : (mF ad S)[35]? = some (.int (S.1 35 0)) := rfl
theorem mFg_36 (ad : Nat → Nat) (S : Ast) : (mF ad S)[36]? = some (.ref (ad 36)) := rfl
theorem mFg_37 (ad : Nat → Nat) (S : Ast) : (mF ad S)[37]? = some (.ref (ad 37)) := rfl
theorem mFg_38 (ad : Nat → Nat) (S : Ast) : (mF ad S)[38]? = some (.ref (ad 38)) := rfl
theorem mFg_39 (ad : Nat → Nat) (S : Ast) : (mF ad S)[39]? = some (.ref (ad 39)) := rfl
theorem mFg_40 (ad : Nat → Nat) (S : Ast) : (mF ad S)[40]? = some (.int (S.1 40 0)) := rfl
theorem mFg_41 (ad : Nat → Nat) (S : Ast) : (mF ad S)[41]? = some (.long (S.2 41 0)) := rfl
theorem mFg_42 (ad : Nat → Nat) (S : Ast) : (mF ad S)[42]? = some (.long (S.2 42 0)) := rfl
theorem mFg_43 (ad : Nat → Nat) (S : Ast) : (mF ad S)[43]? = some (.long (S.2 43 0)) := rfl
theorem mFg_44 (ad : Nat → Nat) (S : Ast) : (mF ad S)[44]? = some (.int (S.1 44 0)) := rfl
theorem mFg_45 (ad : Nat → Nat) (S : Ast) : (mF ad S)[45]? = some (.ref (ad 45)) := rfl
theorem mFg_46 (ad : Nat → Nat) (S : Ast) : (mF ad S)[46]? = some (.ref (ad 46)) := rfl
theorem mFg_47 (ad : Nat → Nat) (S : Ast) : (mF ad S)[47]? = some (.int (S.1 47 0)) := rfl
theorem mFg_48 (ad : Nat → Nat) (S : Ast) : (mF ad S)[48]? = some (.int (S.1 48 0)) := rfl
theorem mFg_49 (ad : Nat → Nat) (S : Ast) : (mF ad S)[49]? = some (.int (S.1 49 0)) := rfl
theorem mFg_50 (ad : Nat → Nat) (S : Ast) : (mF ad S)[50]? = some (.int (S.1 50 0)) := rfl
theorem mFg_51 (ad : Nat → Nat) (S : Ast) : (mF ad S)[51]? = some (.ref (ad 51)) := rfl
theorem mFg_52 (ad : Nat → Nat) (S : Ast) : (mF ad S)[52]? = some (.ref (ad 52)) := rfl
theorem mFg_53 (ad : Nat → Nat) (S : Ast) : (mF ad S)[53]? = some (.ref (ad 53)) := rfl
theorem mFg_54 (ad : Nat → Nat) (S : Ast) : (mF ad S)[54]? = some (.ref (ad 54)) := rfl
theorem mFg_55 (ad : Nat → Nat) (S : Ast) : (mF ad S)[55]? = some (.int (S.1 55 0)) := rfl
theorem mFg_56 (ad : Nat → Nat) (S : Ast) : (mF ad S)[56]? = some (.ref (ad 56)) := rfl
theorem mFg_57 (ad : Nat → Nat) (S : Ast) : (mF ad S)[57]? = some (.ref (ad 57)) := rfl
theorem mFg_58 (ad : Nat → Nat) (S : Ast) : (mF ad S)[58]? = some (.ref (ad 58)) := rfl
theorem mF_cong {ad : Nat → Nat} {S T : Ast} (h1 : ∀ k ∈ mSI, T.1 k 0 = S.1 k 0) (h2 : ∀ k ∈ mSJ, T.2 k 0 = S.2 k 0) : mF ad T = mF ad S := by
  have e0 := h1 0 (by decide)
  have e1 := h1 1 (by decide)
  have e10 := h1 10 (by decide)
  have e18 := h1 18 (by decide)
  have e24 := h1 24 (by decide)
  have e31 := h1 31 (by decide)
  have e35 := h1 35 (by decide)
  have e40 := h1 40 (by decide)
  have e44 := h1 44 (by decide)
  have e47 := h1 47 (by decide)
  have e48 := h1 48 (by decide)
  have e49 := h1 49 (by decide)
  have e50 := h1 50 (by decide)
  have e55 := h1 55 (by decide)
  have e41 := h2 41 (by decide)
  have e42 := h2 42 (by decide)
  have e43 := h2 43 (by decide)
  simp only [mF, e0, e1, e10, e18, e24, e31, e35, e40, e44, e47, e48, e49, e50, e55, e41, e42, e43]

theorem uI_1n {S : Ast} {k i j : Nat} {v : Int32} (h : j ≠ k) : (uI S k i v).1 j = S.1 j := va_up_ne _ _ h
theorem uI_1s {S : Ast} {k i : Nat} {v : Int32} : (uI S k i v).1 k = va_up (S.1 k) i v := va_up_self _ _ _
theorem uJ_2n {S : Ast} {k i j : Nat} {v : Int64} (h : j ≠ k) : (uJ S k i v).2 j = S.2 j := va_up_ne _ _ h
theorem uJ_2s {S : Ast} {k i : Nat} {v : Int64} : (uJ S k i v).2 k = va_up (S.2 k) i v := va_up_self _ _ _
/-- the reference's object at m, its rows at ad, holds S -/
def MA (g : Gx) (w : Wd) (m : Nat) (ad : Nat → Nat) (S : Ast) : Prop := w m = some (.inr (11, mF ad S)) ∧ (∀ k ∈ mI, w (ad k) = some (aI g (mLen k) (S.1 k))) ∧ (∀ k ∈ mJ, w (ad k) = some (aJ g (mLen k) (S.2 k))) ∧ w (ad 30) = some (aZ g 8 (S.1 30)) ∧ ∀ j ∈ mA, ∀ k ∈ mA, ad j = ad k → j = k
/-- .. and what isn't its own is as in w0 -/
def MB (g : Gx) (w0 w : Wd) (m : Nat) (ad : Nat → Nat) (S : Ast) : Prop := MA g w m ad S ∧ ∀ a : Nat, a ≠ m → (∀ k ∈ mA, a ≠ ad k) → w a = w0 a
theorem mA_c : ∀ k ∈ mA, k ∈ mI ∨ k ∈ mJ ∨ k = 30 := by decide
theorem mJ_nI : ∀ j ∈ mJ, j ∉ mI := by decide
theorem mI_A : ∀ k ∈ mI, k ∈ mA := by decide
theorem mJ_A : ∀ k ∈ mJ, k ∈ mA := by decide
theorem mI_SI : ∀ k ∈ mI, ∀ j ∈ mSI, j ≠ k := by decide
theorem mJ_SJ : ∀ k ∈ mJ, ∀ j ∈ mSJ, j ≠ k := by decide
theorem mSI_I : ∀ k ∈ mSI, ∀ j ∈ mI, j ≠ k := by decide
theorem mSJ_J : ∀ k ∈ mSJ, ∀ j ∈ mJ, j ≠ k := by decide
theorem mI_30 : ∀ k ∈ mI, 30 ≠ k := by decide
theorem mSI_30 : ∀ k ∈ mSI, 30 ≠ k := by decide
theorem z_SI : ∀ j ∈ mSI, j ≠ 30 := by decide
theorem MA.ne {g : Gx} {w : Wd} {m : Nat} {ad : Nat → Nat} {S : Ast} (h : MA g w m ad S) {k : Nat} (hk : k ∈ mA) : m ≠ ad k := by
  intro z
  have h1 := h.1
  rw [z] at h1
  have hc := mA_c k hk
  rcases hc with hc | hc | hc
  · rw [h.2.1 k hc] at h1; cases h1
  · rw [h.2.2.1 k hc] at h1; cases h1
  · subst hc; rw [h.2.2.2.1] at h1; cases h1
theorem MB.stI {g : Gx} {w0 w : Wd} {m : Nat} {ad : Nat → Nat} {S : Ast} (h : MB g w0 w m ad S) {k : Nat} (hk : k ∈ mI) (i : Nat) (v : Int32) : MB g w0 (wst w (ad k) (aI g (mLen k) (va_up (S.1 k) i v))) m ad (uI S k i v) := by
  obtain ⟨⟨h1, h2, h3, h4, h5⟩, h6⟩ := h
  have hM : MA g w m ad S := ⟨h1, h2, h3, h4, h5⟩
  refine ⟨⟨?_, fun j hj => ?_, fun j hj => ?_, ?_, h5⟩, fun a ha hb => ?_⟩
  · rw [wst_n (hM.ne (mI_A k hk)), h1, mF_cong (S := S) (T := uI S k i v) (fun j hj => by rw [uI_1n (mI_SI k hk j hj)]) (fun j hj => rfl)]
  · by_cases hjk : j = k
    · subst hjk; rw [wst_s, uI_1s]
    · rw [wst_n (fun z => hjk (h5 j (mI_A j hj) k (mI_A k hk) z)), h2 j hj, uI_1n hjk]
  · rw [wst_n, h3 j hj]
    · rfl
    · intro z
      have := h5 j (mJ_A j hj) k (mI_A k hk) z
      subst this
      exact mJ_nI j hj hk
  · rw [wst_n, h4, uI_1n (mI_30 k hk)]
    intro z
    exact mI_30 k hk (h5 30 (by decide) k (mI_A k hk) z)
  · rw [wst_n (hb k (mI_A k hk))]; exact h6 a ha hb
theorem MB.stJ {g : Gx} {w0 w : Wd} {m : Nat} {ad : Nat → Nat} {S : Ast} (h : MB g w0 w m ad S) {k : Nat} (hk : k ∈ mJ) (i : Nat) (v : Int64) : MB g w0 (wst w (ad k) (aJ g (mLen k) (va_up (S.2 k) i v))) m ad (uJ S k i v) := by
  obtain ⟨⟨h1, h2, h3, h4, h5⟩, h6⟩ := h
  have hM : MA g w m ad S := ⟨h1, h2, h3, h4, h5⟩
  refine ⟨⟨?_, fun j hj => ?_, fun j hj => ?_, ?_, h5⟩, fun a ha hb => ?_⟩
  · rw [wst_n (hM.ne (mJ_A k hk)), h1, mF_cong (S := S) (T := uJ S k i v) (fun j hj => rfl) (fun j hj => by rw [uJ_2n (mJ_SJ k hk j hj)])]
  · rw [wst_n, h2 j hj]
    · rfl
    · intro z
      have := h5 j (mI_A j hj) k (mJ_A k hk) z
      subst this
      exact mJ_nI j hk hj
  · by_cases hjk : j = k
    · subst hjk; rw [wst_s, uJ_2s]
    · rw [wst_n (fun z => hjk (h5 j (mJ_A j hj) k (mJ_A k hk) z)), h3 j hj, uJ_2n hjk]
  · rw [wst_n, h4]
    · rfl
    · intro z
      have := h5 30 (by decide) k (mJ_A k hk) z
      subst this
      revert hk; decide
  · rw [wst_n (hb k (mJ_A k hk))]; exact h6 a ha hb
theorem MB.stZ {g : Gx} {w0 w : Wd} {m : Nat} {ad : Nat → Nat} {S : Ast} (h : MB g w0 w m ad S) (i : Nat) (v : Int32) : MB g w0 (wst w (ad 30) (aZ g 8 (va_up (S.1 30) i v))) m ad (uI S 30 i v) := by
  obtain ⟨⟨h1, h2, h3, h4, h5⟩, h6⟩ := h
  have hM : MA g w m ad S := ⟨h1, h2, h3, h4, h5⟩
  refine ⟨⟨?_, fun j hj => ?_, fun j hj => ?_, ?_, h5⟩, fun a ha hb => ?_⟩
  · rw [wst_n (hM.ne (by decide)), h1, mF_cong (S := S) (T := uI S 30 i v) (fun j hj => by rw [uI_1n (z_SI j hj)]) (fun j hj => rfl)]
  · rw [wst_n (fun z => Ne.symm (mI_30 j hj) (h5 j (mI_A j hj) 30 (by decide) z)), h2 j hj, uI_1n (Ne.symm (mI_30 j hj))]
  · rw [wst_n, h3 j hj]
    · rfl
    · intro z
      have := h5 j (mJ_A j hj) 30 (by decide) z
      subst this
      revert hj; decide
  · rw [wst_s, uI_1s]
  · rw [wst_n (hb 30 (by decide))]; exact h6 a ha hb
theorem MB.ptI {g : Gx} {w0 w : Wd} {m : Nat} {ad : Nat → Nat} {S : Ast} (h : MB g w0 w m ad S) {k : Nat} (hk : k ∈ mSI) (v : Int32) : MB g w0 (wst w m (.inr (11, mF ad (uI S k 0 v)))) m ad (uI S k 0 v) := by
  obtain ⟨⟨h1, h2, h3, h4, h5⟩, h6⟩ := h
  have hM : MA g w m ad S := ⟨h1, h2, h3, h4, h5⟩
  refine ⟨⟨wst_s _ _ _, fun j hj => ?_, fun j hj => ?_, ?_, h5⟩, fun a ha hb => ?_⟩
  · rw [wst_n (Ne.symm (hM.ne (mI_A j hj))), h2 j hj, uI_1n (mSI_I k hk j hj)]
  · rw [wst_n (Ne.symm (hM.ne (mJ_A j hj))), h3 j hj]; rfl
  · rw [wst_n (Ne.symm (hM.ne (by decide))), h4, uI_1n (mSI_30 k hk)]
  · rw [wst_n ha]; exact h6 a ha hb
theorem MB.ptJ {g : Gx} {w0 w : Wd} {m : Nat} {ad : Nat → Nat} {S : Ast} (h : MB g w0 w m ad S) {k : Nat} (hk : k ∈ mSJ) (v : Int64) : MB g w0 (wst w m (.inr (11, mF ad (uJ S k 0 v)))) m ad (uJ S k 0 v) := by
  obtain ⟨⟨h1, h2, h3, h4, h5⟩, h6⟩ := h
  have hM : MA g w m ad S := ⟨h1, h2, h3, h4, h5⟩
  refine ⟨⟨wst_s _ _ _, fun j hj => ?_, fun j hj => ?_, ?_, h5⟩, fun a ha hb => ?_⟩
  · rw [wst_n (Ne.symm (hM.ne (mI_A j hj))), h2 j hj]; rfl
  · rw [wst_n (Ne.symm (hM.ne (mJ_A j hj))), h3 j hj, uJ_2n (mSJ_J k hk j hj)]
  · rw [wst_n (Ne.symm (hM.ne (by decide))), h4]; rfl
  · rw [wst_n ha]; exact h6 a ha hb
theorem MB.rf {g : Gx} {w : Wd} {m : Nat} {ad : Nat → Nat} {S : Ast} (h : MA g w m ad S) : MB g w w m ad S := ⟨h, fun _ _ _ => rfl⟩
theorem MB.tr {g : Gx} {w0 w w' : Wd} {m : Nat} {ad : Nat → Nat} {S T : Ast} (h : MB g w0 w m ad S) (h' : MB g w w' m ad T) : MB g w0 w' m ad T := ⟨h'.1, fun a ha hb => (h'.2 a ha hb).trans (h.2 a ha hb)⟩
section MR
variable {K : Kx} {cc : ByteArray} {nL d : Nat} {E : Ex} {kc ks : Nat} {w0 w : Wd} {pc : Nat} {lv : List (Option Value)} {st : List Value} {m k idx n : Nat} {ad : Nat → Nat} {S : Ast} {i : Int32} {v : Value}
theorem m_get (hC : BX K RX10 cc nL d E) (hM : MB K.2.1 w0 w m ad S) (hd : decode cc pc = .ok (.getfield idx, 3)) (hfl : Cond.fieldLink RX10 idx (TX10 k).1 (TX10 k).2.1 (TX10 k).2.2.1 ∈ gtbl) (hk : k < 59) (hv : (mF ad S)[k]? = some v) (kk : J K cc E kc ks w (pc + 3) lv (v :: st)) : J K cc E kc ks w pc lv (.ref m :: st) := j_get hC cfX10 hd hfl hk hM.1.1 hv kk
theorem m_ldI (hC : BX K RX10 cc nL d E) (hM : MB K.2.1 w0 w m ad S) (hk : k ∈ mI) (hd : decode cc pc = .ok (.iaload, 1)) (hi : ix i (mLen k) n) (kk : J K cc E kc ks w (pc + 1) lv (.int (S.1 k n) :: st)) : J K cc E kc ks w pc lv (.int i :: .ref (ad k) :: st) := j_aldI hC hd (hM.1.2.1 k hk) hi kk
theorem m_ldJ (hC : BX K RX10 cc nL d E) (hM : MB K.2.1 w0 w m ad S) (hk : k ∈ mJ) (hd : decode cc pc = .ok (.laload, 1)) (hi : ix i (mLen k) n) (kk : J K cc E kc ks w (pc + 1) lv (.long (S.2 k n) :: st)) : J K cc E kc ks w pc lv (.int i :: .ref (ad k) :: st) := j_aldJ hC hd (hM.1.2.2.1 k hk) hi kk
theorem m_ldZ (hC : BX K RX10 cc nL d E) (hM : MB K.2.1 w0 w m ad S) (hd : decode cc pc = .ok (.baload, 1)) (hi : ix i 8 n) (kk : J K cc E kc ks w (pc + 1) lv (.int (S.1 30 n) :: st)) : J K cc E kc ks w pc lv (.int i :: .ref (ad 30) :: st) := j_aldZ hC hd hM.1.2.2.2.1 hi kk
theorem m_stI (hC : BX K RX10 cc nL d E) (hM : MB K.2.1 w0 w m ad S) (hk : k ∈ mI) {x : Int32} (hd : decode cc pc = .ok (.iastore, 1)) (hi : ix i (mLen k) n) (kk : ∀ w1 : Wd, MB K.2.1 w0 w1 m ad (uI S k n x) → J K cc E kc ks w1 (pc + 1) lv st) : J K cc E kc ks w pc lv (.int x :: .int i :: .ref (ad k) :: st) := j_astI hC hd (hM.1.2.1 k hk) hi (kk _ (hM.stI hk n x))
theorem m_stJ (hC : BX K RX10 cc nL d E) (hM : MB K.2.1 w0 w m ad S) (hk : k ∈ mJ) {x : Int64} (hd : decode cc pc = .ok (.lastore, 1)) (hi : ix i (mLen k) n) (kk : ∀ w1 : Wd, MB K.2.1 w0 w1 m ad (uJ S k n x) → J K cc E kc ks w1 (pc + 1) lv st) : J K cc E kc ks w pc lv (.long x :: .int i :: .ref (ad k) :: st) := j_astJ hC hd (hM.1.2.2.1 k hk) hi (kk _ (hM.stJ hk n x))
theorem m_stZ (hC : BX K RX10 cc nL d E) (hM : MB K.2.1 w0 w m ad S) {x : Int32} (hd : decode cc pc = .ok (.bastore, 1)) (hi : ix i 8 n) (hz : narrow .boolean (.int x) = .int x) (kk : ∀ w1 : Wd, MB K.2.1 w0 w1 m ad (uI S 30 n x) → J K cc E kc ks w1 (pc + 1) lv st) : J K cc E kc ks w pc lv (.int x :: .int i :: .ref (ad 30) :: st) := j_astZ hC hd hM.1.2.2.2.1 hi hz (kk _ (hM.stZ n x))
theorem m_putI (hC : BX K RX10 cc nL d E) (hM : MB K.2.1 w0 w m ad S) {x : Int32} (hk : k ∈ mSI) (hd : decode cc pc = .ok (.putfield idx, 3)) (hfl : Cond.fieldLink RX10 idx (TX10 k).1 (TX10 k).2.1 (TX10 k).2.2.1 ∈ gtbl) (hfin : (TX10 k).2.2.2 = false) (hk9 : k < 59) (hn : narrow (tyX10 k) (.int x) = .int x) (hfit : fits (tyX10 k) (.int x) = true) (hl : (mF ad S).set k (.int x) = mF ad (uI S k 0 x)) (kk : ∀ w1 : Wd, MB K.2.1 w0 w1 m ad (uI S k 0 x) → J K cc E kc ks w1 (pc + 3) lv st) : J K cc E kc ks w pc lv (.int x :: .ref m :: st) := j_put hC cfX10 hd hfl hfin hk9 hM.1.1 hn hfit hk9 hl (kk _ (hM.ptI hk x))
theorem m_putJ (hC : BX K RX10 cc nL d E) (hM : MB K.2.1 w0 w m ad S) {x : Int64} (hk : k ∈ mSJ) (hd : decode cc pc = .ok (.putfield idx, 3)) (hfl : Cond.fieldLink RX10 idx (TX10 k).1 (TX10 k).2.1 (TX10 k).2.2.1 ∈ gtbl) (hfin : (TX10 k).2.2.2 = false) (hk9 : k < 59) (hn : narrow (tyX10 k) (.long x) = .long x) (hfit : fits (tyX10 k) (.long x) = true) (hl : (mF ad S).set k (.long x) = mF ad (uJ S k 0 x)) (kk : ∀ w1 : Wd, MB K.2.1 w0 w1 m ad (uJ S k 0 x) → J K cc E kc ks w1 (pc + 3) lv st) : J K cc E kc ks w pc lv (.long x :: .ref m :: st) := j_put hC cfX10 hd hfl hfin hk9 hM.1.1 hn hfit hk9 hl (kk _ (hM.ptJ hk x))
end MR

theorem mFs_0 (ad : Nat → Nat) (S : Ast) (x : Int32) : (mF ad S).set 0 (.int x) = mF ad (uI S 0 0 x) := rfl
theorem mFs_1 (ad : Nat → Nat) (S : Ast) (x : Int32) : (mF ad S).set 1 (.int x) = mF ad (uI S 1 0 x) := rfl
theorem mFs_10 (ad : Nat → Nat) (S : Ast) (x : Int32) : (mF ad S).set 10 (.int x) = mF ad (uI S 10 0 x) := rfl
theorem mFs_18 (ad : Nat → Nat) (S : Ast) (x : Int32) : (mF ad S).set 18 (.int x) = mF ad (uI S 18 0 x) := rfl
theorem mFs_24 (ad : Nat → Nat) (S : Ast) (x : Int32) : (mF ad S).set 24 (.int x) = mF ad (uI S 24 0 x) := rfl
theorem mFs_31 (ad : Nat → Nat) (S : Ast) (x : Int32) : (mF ad S).set 31 (.int x) = mF ad (uI S 31 0 x) := rfl
theorem mFs_35 (ad : Nat → Nat) (S : Ast) (x : Int32) : (mF ad S).set 35 (.int x) = mF ad (uI S 35 0 x) := rfl
theorem mFs_40 (ad : Nat → Nat) (S : Ast) (x : Int32) : (mF ad S).set 40 (.int x) = mF ad (uI S 40 0 x) := rfl
theorem mFs_44 (ad : Nat → Nat) (S : Ast) (x : Int32) : (mF ad S).set 44 (.int x) = mF ad (uI S 44 0 x) := rfl
theorem mFs_47 (ad : Nat → Nat) (S : Ast) (x : Int32) : (mF ad S).set 47 (.int x) = mF ad (uI S 47 0 x) := rfl
theorem mFs_48 (ad : Nat → Nat) (S : Ast) (x : Int32) : (mF ad S).set 48 (.int x) = mF ad (uI S 48 0 x) := rfl
theorem mFs_49 (ad : Nat → Nat) (S : Ast) (x : Int32) : (mF ad S).set 49 (.int x) = mF ad (uI S 49 0 x) := rfl
theorem mFs_50 (ad : Nat → Nat) (S : Ast) (x : Int32) : (mF ad S).set 50 (.int x) = mF ad (uI S 50 0 x) := rfl
theorem mFs_55 (ad : Nat → Nat) (S : Ast) (x : Int32) : (mF ad S).set 55 (.int x) = mF ad (uI S 55 0 x) := rfl
theorem mFs_41 (ad : Nat → Nat) (S : Ast) (x : Int64) : (mF ad S).set 41 (.long x) = mF ad (uJ S 41 0 x) := rfl
theorem mFs_42 (ad : Nat → Nat) (S : Ast) (x : Int64) : (mF ad S).set 42 (.long x) = mF ad (uJ S 42 0 x) := rfl
theorem mFs_43 (ad : Nat → Nat) (S : Ast) (x : Int64) : (mF ad S).set 43 (.long x) = mF ad (uJ S 43 0 x) := rfl
