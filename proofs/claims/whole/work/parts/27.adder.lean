
def flds : Nat → List Nat
  | 0 => [0, 40]
  | 1 => [2, 3, 4, 5]
  | 2 => [11, 12, 13, 14]
  | 3 => [19, 20, 21]
  | 4 => [25, 26, 27, 28, 29, 30]
  | 5 => [32, 33, 34]
  | 6 => [36, 37, 38]
  | 9 => [50, 47, 55, 48, 49]
  | 10 => [45, 46]
  | 11 => [51, 52, 53, 56, 57, 58]
  | _ => []
theorem fresh_none {w : Wd} {a q : Nat} {e e2 : va_E} (hq : w q = none) (h : w a = some e2) : wst w q e a = some e2 := (wst_n (ne_of h hq)).trans h
theorem SA.fresh {g : Gx} {w : Wd} {O : Nat → Prop} {ad : Nat → Nat → Nat} {z : Zx} {np : Nat} {S : Ast} (h : SA g w O ad z np S) {q : Nat} (hq : w q = none) (e : va_E) : SA g (wst w q e) O ad z np S := by
  obtain ⟨h1, h2, h3, h4, h5⟩ := h
  refine ⟨fun k i hi => ⟨fresh_none hq (h1 k i hi).1, (h1 k i hi).2⟩, h2, fun j hj => ⟨?_, (h3 j hj).2⟩, h4, h5⟩
  obtain ⟨mc, hm⟩ := (h3 j hj).1.sz
  refine (h3 j hj).1.cong0 (wst_n (ne_of hm hq)) (fun h0 => ?_)
  obtain ⟨N, f, q3, -⟩ := (h3 j hj).1.row h0
  exact wst_n (ne_of q3 hq)
theorem SA.hel {g : Gx} {w : Wd} {O : Nat → Prop} {ad : Nat → Nat → Nat} {z : Zx} {np : Nat} {S : Ast} (h : SA g w O ad z np S) {j : Nat} (hj : j ∈ LJ) : ∀ i : Nat, i < vN S np j → ∃ (ci : Nat) (fs : List Value) (r : vw_C), w (ad j i) = some (.inr (ci, fs)) ∧ vwCl[ci]? = some r ∧ r.1 ∈ ([RX0, RX1, RX2, RX3, RX5, RX6, RX7, RX8] : List String) := by
  intro i hi
  have h1 := h.at hi
  have : j = 1 ∨ j = 2 ∨ j = 3 ∨ j = 4 ∨ j = 5 ∨ j = 6 ∨ j = 10 ∨ j = 11 := by simpa [LJ] using hj
  rcases this with rfl | rfl | rfl | rfl | rfl | rfl | rfl | rfl
  · exact ⟨_, _, _, h1, rfl, by decide⟩
  · exact ⟨_, _, _, h1, rfl, by decide⟩
  · exact ⟨_, _, _, h1, rfl, by decide⟩
  · exact ⟨_, _, _, h1, rfl, by decide⟩
  · exact ⟨_, _, _, h1, rfl, by decide⟩
  · exact ⟨_, _, _, h1, rfl, by decide⟩
  · exact ⟨_, _, _, h1, rfl, by decide⟩
  · exact ⟨_, _, _, h1, rfl, by decide⟩
theorem SA.lq {g : Gx} {w : Wd} {O : Nat → Prop} {ad : Nat → Nat → Nat} {z : Zx} {np : Nat} {S : Ast} (h : SA g w O ad z np S) {j q : Nat} (hj : j ∈ LJ) (hq : w q = none) : ad 14 j ≠ q := by
  obtain ⟨mc, hm⟩ := (h.lst hj).sz
  exact ne_of hm hq
theorem uI_u {S : Ast} {k j f i : Nat} {v : Int32} (h : f ≠ k ∨ i ≠ j) : (uI S k j v).1 f i = S.1 f i := by
  rcases h with h | h
  · rw [uI_1n h]
  · exact uI_off f i h
theorem flds_c : ∀ k, ∀ f ∈ flds k, f ≠ 1 ∧ f ≠ 10 ∧ f ≠ 18 ∧ f ≠ 24 ∧ f ≠ 31 ∧ f ≠ 35 ∧ f ≠ 44 := by
  intro k
  match k with
  | 0 => decide
  | 1 => decide
  | 2 => decide
  | 3 => decide
  | 4 => decide
  | 5 => decide
  | 6 => decide
  | 7 => decide
  | 8 => decide
  | 9 => decide
  | 10 => decide
  | 11 => decide
  | n + 12 => intro f hf; cases hf
theorem flds_d : ∀ j ∈ LJ, ∀ k, k ≠ j → ∀ f ∈ flds k, f ∉ flds j := by
  intro j hj k
  match k with
  | 0 => revert j; decide
  | 1 => revert j; decide
  | 2 => revert j; decide
  | 3 => revert j; decide
  | 4 => revert j; decide
  | 5 => revert j; decide
  | 6 => revert j; decide
  | 7 => revert j; decide
  | 8 => revert j; decide
  | 9 => revert j; decide
  | 10 => revert j; decide
  | 11 => revert j; decide
  | n + 12 => intro _ f hf; cases hf

/-- the same fields: the same cells -/
theorem cel_T (g : Gx) (ad : Nat → Nat → Nat) (z : Zx) {S T : Ast} {np : Nat} (hJ : ∀ k, k ≠ 54 → T.2 k = S.2 k) (h23 : T.1 23 = S.1 23) (hf : ∀ k, ∀ f ∈ flds k, ∀ i, i < vN S np k → T.1 f i = S.1 f i) (hg : ∀ i, i < cn S 31 → (S.1 32 i).toNatClampNeg < cn S 1) : ∀ k i, i < vN S np k → cel g ad z T k i = cel g ad z S k i := by
  intro k i hi
  match k, hi with
  | 0, hi => exact cel_0 g ad z i (hf 0 0 (by decide) 0 Nat.one_pos) (hf 0 40 (by decide) 0 Nat.one_pos) (congrFun (hJ 41 (by decide)) 0) (congrFun (hJ 42 (by decide)) 0) (congrFun (hJ 43 (by decide)) 0)
  | 1, hi => exact cel_1 g ad z i (hf 1 2 (by decide) i hi) (hf 1 3 (by decide) i hi) (hf 1 4 (by decide) i hi) (hf 1 5 (by decide) i hi) (congrFun (hJ 6 (by decide)) i) (congrFun (hJ 9 (by decide)) i) (congrFun (hJ 7 (by decide)) i) (congrFun (hJ 8 (by decide)) i)
  | 2, hi => exact cel_2 g ad z i (hf 2 11 (by decide) i hi) (hf 2 12 (by decide) i hi) (hf 2 13 (by decide) i hi) (hf 2 14 (by decide) i hi) (congrFun (hJ 15 (by decide)) i) (congrFun (hJ 16 (by decide)) i) (congrFun (hJ 17 (by decide)) i)
  | 3, hi => exact cel_3 g ad z i (hf 3 19 (by decide) i hi) (hf 3 20 (by decide) i hi) (hf 3 21 (by decide) i hi) (congrFun (hJ 22 (by decide)) i)
  | 4, hi => exact cel_4 g ad z i (hf 4 25 (by decide) i hi) (hf 4 26 (by decide) i hi) (hf 4 27 (by decide) i hi) (hf 4 28 (by decide) i hi) (hf 4 29 (by decide) i hi) (hf 4 30 (by decide) i hi)
  | 5, hi =>
    have e32 := hf 5 32 (by decide) i hi
    have e4 := hf 1 4 (by decide) _ (hg i hi)
    rw [cel_e5, cel_e5, e32, e4, hf 5 33 (by decide) i hi, hf 5 34 (by decide) i hi]
  | 6, hi => exact cel_6 g ad z i (hf 6 36 (by decide) i hi) (hf 6 37 (by decide) i hi) (hf 6 38 (by decide) i hi)
  | 7, hi => rw [cel_e7, cel_e7, h23]
  | 8, hi => rw [cel_e8, cel_e8, hJ 39 (by decide)]
  | 9, hi => exact cel_9 g ad z i (hf 9 50 (by decide) 0 Nat.one_pos) (hf 9 47 (by decide) 0 Nat.one_pos) (hf 9 55 (by decide) 0 Nat.one_pos) (hf 9 48 (by decide) 0 Nat.one_pos) (hf 9 49 (by decide) 0 Nat.one_pos)
  | 10, hi => exact cel_10 g ad z i (hf 10 45 (by decide) i hi) (hf 10 46 (by decide) i hi)
  | 11, hi => exact cel_11 g ad z i (hf 11 51 (by decide) i hi) (hf 11 52 (by decide) i hi) (hf 11 53 (by decide) i hi) (hf 11 56 (by decide) i hi) (hf 11 57 (by decide) i hi) (hf 11 58 (by decide) i hi)
  | 12, hi => exact cel_12 g ad z i
  | 13, hi => exact cel_13 g ad z i
  | n + 14, hi => rw [cel_eX, cel_eX]

theorem WSt.nds {S : Ast} (h : WSt S) : (∀ i, i < cn S 10 → (S.1 11 i).toNatClampNeg < cn S 1 ∧ (S.1 12 i).toNatClampNeg < cn S 1) ∧ (∀ i, i < cn S 18 → (S.1 19 i).toNatClampNeg < cn S 1) ∧ (∀ i, i < cn S 24 → (S.1 25 i).toNatClampNeg < cn S 1 ∧ (S.1 26 i).toNatClampNeg < cn S 1) ∧ (∀ i, i < cn S 31 → (S.1 32 i).toNatClampNeg < cn S 1) ∧ ∀ i, i < cn S 35 → (S.1 37 i).toNatClampNeg < cn S 1 := by
  obtain ⟨-, -, h2, h3, h4, h5, h6, -⟩ := h
  exact ⟨fun i hi => ⟨(h2 i hi).1.2, (h2 i hi).2.1.2⟩, fun i hi => (h3 i hi).1.2, fun i hi => ⟨(h4 i hi).1.2, (h4 i hi).2.1.2⟩, fun i hi => (h5 i hi).1.2, fun i hi => (h6 i hi).2.1.2⟩
/-- the same addresses: the same cells -/
theorem cel_ad (g : Gx) {ad ad' : Nat → Nat → Nat} (z : Zx) {S : Ast} {np : Nat} (hW : WSt S) (h1 : ∀ i, i < cn S 1 → ad' 1 i = ad 1 i) (h7 : ad' 7 = ad 7) (h8 : ad' 8 = ad 8) (h9 : ad' 9 = ad 9) (h12 : ad' 12 = ad 12) (h13 : ∀ i, i < np → ad' 13 i = ad 13 i) (h14 : ad' 14 = ad 14) : ∀ k i, i < vN S np k → cel g ad' z S k i = cel g ad z S k i := by
  obtain ⟨n2, n3, n4, n5, n6⟩ := hW.nds
  intro k i hi
  match k, hi with
  | 0, hi => rw [cel_e0, cel_e0, h7, h8, h9, h14]
  | 1, hi => rw [cel_e1, cel_e1]
  | 2, hi => rw [cel_e2, cel_e2, h1 _ (n2 i hi).1, h1 _ (n2 i hi).2]
  | 3, hi => rw [cel_e3, cel_e3, h1 _ (n3 i hi)]
  | 4, hi => rw [cel_e4, cel_e4, h1 _ (n4 i hi).1, h1 _ (n4 i hi).2]
  | 5, hi => rw [cel_e5, cel_e5, h1 _ (n5 i hi)]
  | 6, hi => rw [cel_e6, cel_e6, h1 _ (n6 i hi)]
  | 7, hi => rw [cel_e7, cel_e7]
  | 8, hi => rw [cel_e8, cel_e8]
  | 9, hi => rw [cel_e9, cel_e9, h12, h14]
  | 10, hi => rw [cel_e10, cel_e10]
  | 11, hi => rw [cel_e11, cel_e11, h13 i hi]
  | 12, hi => rw [cel_e12, cel_e12]
  | 13, hi => rw [cel_e13, cel_e13]
  | n + 14, hi => rw [cel_eX, cel_eX]
theorem vN_T {S T : Ast} {np j c : Nat} (hj : ∀ X : Ast, vN X np j = cn X c) (hc : (j, c) ∈ ([(1, 1), (2, 10), (3, 18), (4, 24), (5, 31), (6, 35), (10, 44)] : List (Nat × Nat))) (h1 : cn T c = cn S c + 1) (ho : ∀ k ∈ ([1, 10, 18, 24, 31, 35, 44] : List Nat), k ≠ c → T.1 k = S.1 k) : ∀ k, vN T np k = if k = j then cn S c + 1 else vN S np k := by
  intro k
  by_cases hk : k = j
  · rw [if_pos hk, hk, hj, h1]
  · rw [if_neg hk]
    have e : ∀ k ∈ ([1, 10, 18, 24, 31, 35, 44] : List Nat), k ≠ c → cn T k = cn S k := fun k q1 q2 => by unfold cn; rw [ho k q1 q2]
    match k, hk with
    | 0, _ => rw [vN_e0, vN_e0]
    | 7, _ => rw [vN_e7, vN_e7]
    | 8, _ => rw [vN_e8, vN_e8]
    | 9, _ => rw [vN_e9, vN_e9]
    | 11, _ => rw [vN_e11, vN_e11]
    | 12, _ => rw [vN_e12, vN_e12]
    | 13, _ => rw [vN_e13, vN_e13]
    | 1, hk => rw [vN_e1, vN_e1]; exact e 1 (by decide) (fun q => hk (by subst q; revert hc; simp; exact fun q => q.symm))
    | 2, hk => rw [vN_e2, vN_e2]; exact e 10 (by decide) (fun q => hk (by subst q; revert hc; simp; exact fun q => q.symm))
    | 3, hk => rw [vN_e3, vN_e3]; exact e 18 (by decide) (fun q => hk (by subst q; revert hc; simp; exact fun q => q.symm))
    | 4, hk => rw [vN_e4, vN_e4]; exact e 24 (by decide) (fun q => hk (by subst q; revert hc; simp; exact fun q => q.symm))
    | 5, hk => rw [vN_e5, vN_e5]; exact e 31 (by decide) (fun q => hk (by subst q; revert hc; simp; exact fun q => q.symm))
    | 6, hk => rw [vN_e6, vN_e6]; exact e 35 (by decide) (fun q => hk (by subst q; revert hc; simp; exact fun q => q.symm))
    | 10, hk => rw [vN_e10, vN_e10]; exact e 44 (by decide) (fun q => hk (by subst q; revert hc; simp; exact fun q => q.symm))
    | n + 14, _ => rw [vN_eX, vN_eX]
/-- the class's objects behind a call: they hold T; what wasn't the object's own is as before -/
def NP (S : Ast) (np : Nat) : Prop := cn S 50 ≤ np ∧ np ≤ 10 ∧ ∀ f ∈ flds 11, ∀ i, np ≤ i → S.1 f i = 0
theorem NP.cong {S T : Ast} {np : Nat} (h : NP S np) (e : ∀ k ∈ ([50, 51, 52, 53, 56, 57, 58] : List Nat), T.1 k = S.1 k) : NP T np := by
  refine ⟨by unfold cn; rw [e 50 (by decide)]; exact h.1, h.2.1, fun f hf i hi => ?_⟩
  rw [e f (by revert f; decide)]
  exact h.2.2 f hf i hi
def CQ (g : Gx) (w : Wd) (O : Nat → Prop) (x : Nat) (w' : Wd) (T : Ast) : Prop := ∃ (O' : Nat → Prop) (ad' : Nat → Nat → Nat) (z' : Zx) (np' : Nat), SA g w' O' ad' z' np' T ∧ Fr w O w' O' ∧ ad' 0 0 = x ∧ NP T np'
theorem adg_1 {ad : Nat → Nat → Nat} {j n q e i : Nat} (h : i < n) (hj : j ≠ 15) : adg ad j n q e 1 i = ad 1 i := by
  by_cases h1 : 1 = j
  · subst h1
    rw [adg_j (by decide), va_up_ne _ _ (by omega)]
  · rw [adg_n h1 (by decide)]
theorem CN.full {S : Ast} {k b : Nat} (h : CN S k b) (hb : b < 2 ^ 30) (B : Int32) (hB : B = nI b) : B ≤ S.1 k 0 ↔ S.1 k 0 = B := by
  rw [hB, h.1, nI_eq (by have := h.2; omega) (by omega)]
  constructor
  · intro q
    have := (nI_leI (by omega) (by have := h.2; omega)).mp q
    have := h.2
    omega
  · intro q
    rw [q]
    exact nI_le (Nat.le_refl _) (by omega)
theorem w2_ok {S : Ast} {a b : Int32} : ¬ w2 S a b = 0 ↔ (¬ wI a 0 (S.1 1 0 - 1) = 0 ∧ ¬ wI b 0 (S.1 1 0 - 1) = 0 ∧ ¬ a = b) := by
  unfold w2
  split
  · simp_all
  · split
    · simp_all
    · split
      · simp_all
      · simp_all

theorem w2_z {S : Ast} {a b : Int32} : w2 S a b = 0 ↔ (wI a 0 (S.1 1 0 - 1) = 0 ∨ wI b 0 (S.1 1 0 - 1) = 0 ∨ a = b) := by
  unfold w2
  split
  · simp_all
  · split
    · simp_all
    · split
      · simp_all
      · simp_all
theorem CN.lt {S : Ast} {k b : Nat} (h : CN S k b) (B : Int32) (hB : B = nI b) (hne : ¬ S.1 k 0 = B) : cn S k < b := by
  rcases Nat.lt_or_ge (cn S k) b with q | q
  · exact q
  · exfalso
    apply hne
    rw [hB, h.1, show cn S k = b by have := h.2; omega]
theorem full0 {S : Ast} (h0 : CN S 0 24) (h1 : CN S 1 24) (hle : cn S 1 ≤ cn S 0) : S.1 0 0 ≤ S.1 1 0 ↔ S.1 1 0 = S.1 0 0 := by
  have a := h0.2
  have b := h1.2
  rw [h0.1, h1.1, nI_leI (by omega) (by omega), nI_eq (by omega) (by omega)]
  omega
theorem lt0 {S : Ast} (h0 : CN S 0 24) (h1 : CN S 1 24) (hle : cn S 1 ≤ cn S 0) (hne : ¬ S.1 1 0 = S.1 0 0) : cn S 1 < 24 := by
  have a := h0.2
  rcases Nat.lt_or_ge (cn S 1) 24 with q | q
  · exact q
  · exfalso
    apply hne
    rw [h0.1, h1.1, show cn S 1 = cn S 0 by omega]
theorem cn_inc {S T : Ast} {k b : Nat} (h : CN S k b) (hb : b < 1000) (e : T.1 k 0 = S.1 k 0 + 1) : cn T k = cn S k + 1 ∧ T.1 k 0 = nI (cn T k) := by
  have e2 : T.1 k 0 = nI (cn S k + 1) := by rw [e, h.1, nI_1]
  have e3 : cn T k = cn S k + 1 := by unfold cn; rw [e2, nI_clamp (by have := h.2; omega)]; rfl
  exact ⟨e3, by rw [e2, e3]⟩

theorem sN_o {S : Ast} (g0 b0 r0 : Int32) (k : Nat) (h2 : k ≠ 2) (h3 : k ≠ 3) (h4 : k ≠ 4) (h5 : k ≠ 5) (h1 : k ≠ 1) : (sN S g0 b0 r0).1 k = S.1 k := by
  unfold sN
  rw [uI_1n h1, uI_1n h5, uI_1n h4, uI_1n h3, uI_1n h2]
theorem sN_c {S : Ast} (g0 b0 r0 : Int32) : (sN S g0 b0 r0).1 1 0 = S.1 1 0 + 1 := uI_at
theorem sN_i {S : Ast} (g0 b0 r0 : Int32) (k i : Nat) (hk : k ≠ 1) (hi : i ≠ cn S 1) : (sN S g0 b0 r0).1 k i = S.1 k i := by
  unfold sN
  rw [uI_1n hk, uI_off k i hi, uI_off k i hi, uI_off k i hi, uI_off k i hi]
theorem sN_j {S : Ast} (g0 b0 r0 : Int32) : (sN S g0 b0 r0).2 = S.2 := rfl
theorem sN_2 {S : Ast} (g0 b0 r0 : Int32) : (sN S g0 b0 r0).1 2 (cn S 1) = g0 := by
  unfold sN
  rw [uI_1n (by decide), uI_1n (by decide), uI_1n (by decide), uI_1n (by decide), uI_at]
theorem sN_3 {S : Ast} (g0 b0 r0 : Int32) : (sN S g0 b0 r0).1 3 (cn S 1) = b0 := by
  unfold sN
  rw [uI_1n (by decide), uI_1n (by decide), uI_1n (by decide), uI_at]
theorem sN_4 {S : Ast} (g0 b0 r0 : Int32) : (sN S g0 b0 r0).1 4 (cn S 1) = r0 := by
  unfold sN
  rw [uI_1n (by decide), uI_1n (by decide), uI_at]
theorem sN_5 {S : Ast} (g0 b0 r0 : Int32) : (sN S g0 b0 r0).1 5 (cn S 1) = (-1) := by
  unfold sN
  rw [uI_1n (by decide), uI_at]
theorem SA.gsN {g : Gx} {w w2 : Wd} {O : Nat → Prop} {ad : Nat → Nat → Nat} {z : Zx} {np : Nat} {S : Ast} (h : SA g w O ad z np S) (hW : WSt S)  (g0 b0 r0 : Int32) (z6 : S.2 6 (cn S 1) = 0) (z7 : S.2 7 (cn S 1) = 0) (z8 : S.2 8 (cn S 1) = 0) (z9 : S.2 9 (cn S 1) = 0) {q e' : Nat} (hq : w q = none) (hl : Lst g w2 (ad 14 1) e' (vN S np 1 + 1) (va_up (ad 1) (vN S np 1) q)) (he' : (e' = ad 15 1 ∧ 0 < vN S np 1) ∨ wst w q (oNode b0 r0 (r0.toInt64 * (g0 - b0).toInt64) 0 0 0 0 (-1)) e' = none) (hf : ∀ a, a ≠ ad 14 1 → a ≠ e' → w2 a = wst w q (oNode b0 r0 (r0.toInt64 * (g0 - b0).toInt64) 0 0 0 0 (-1)) a) :
    SA g w2 (fun a => O a ∨ a = q ∨ a = e') (adg ad 1 (vN S np 1) q e') z np (sN S g0 b0 r0) ∧ Fr w O w2 (fun a => O a ∨ a = q ∨ a = e') := by
  have hc : CN S 1 24 := hW.1.1
  refine h.grow (j := 1) (by decide) rfl hq hl he' hf (sN S g0 b0 r0) (fun k => ?_) ?_ (fun k i hi => ?_)
  · have := vN_T (S := S) (T := sN S g0 b0 r0) (np := np) (j := 1) (c := 1) (fun X => vN_e1 X np) (by decide) (cn_inc hc (by omega) (sN_c g0 b0 r0)).1 (fun k hk hne => sN_o g0 b0 r0 k (fun q => by subst q; revert hk; decide) (fun q => by subst q; revert hk; decide) (fun q => by subst q; revert hk; decide) (fun q => by subst q; revert hk; decide) hne) k
    rw [vN_e1]
    exact this
  · rw [vN_e1, cel_e1]
    simp only [ful, sN_j g0 b0 r0, sN_2 g0 b0 r0, sN_3 g0 b0 r0, sN_4 g0 b0 r0, sN_5 g0 b0 r0, z6, z7, z8, z9]
  · rw [cel_T g _ z (S := S) (np := np) (fun k _ => congrFun (sN_j g0 b0 r0) k) (sN_o g0 b0 r0 23 (by decide) (by decide) (by decide) (by decide) (by decide)) (fun k f hf i hi => ?_) hW.nds.2.2.2.1 k i hi]
    · exact cel_ad g z hW (fun i hi => adg_1 (j := 1) (n := vN S np 1) (by rw [vN_e1]; exact hi) (by decide)) (adg_n (by decide) (by decide)) (adg_n (by decide) (by decide)) (adg_n (by decide) (by decide)) (adg_n (by decide) (by decide)) (fun i _ => congrFun (adg_n (by decide) (by decide)) i) (adg_n (by decide) (by decide)) k i hi
    · have hcn := flds_c k f hf
      by_cases hk : k = 1
      · subst hk
        exact sN_i g0 b0 r0 f i (by obtain ⟨p1, p2, p3, p4, p5, p6, p7⟩ := hcn; assumption) (by rw [vN_e1] at hi; omega)
      · have hd := flds_d 1 (by decide) k hk f hf
        rw [sN_o g0 b0 r0 f (fun q => hd (by rw [q]; decide)) (fun q => hd (by rw [q]; decide)) (fun q => hd (by rw [q]; decide)) (fun q => hd (by rw [q]; decide)) (by obtain ⟨p1, p2, p3, p4, p5, p6, p7⟩ := hcn; assumption)]

theorem sP_o {S : Ast} (f0 t0 l0 x0 : Int32) (k : Nat) (h11 : k ≠ 11) (h12 : k ≠ 12) (h13 : k ≠ 13) (h14 : k ≠ 14) (h10 : k ≠ 10) : (sP S f0 t0 l0 x0).1 k = S.1 k := by
  unfold sP
  rw [uI_1n h10, uI_1n h14, uI_1n h13, uI_1n h12, uI_1n h11]
theorem sP_c {S : Ast} (f0 t0 l0 x0 : Int32) : (sP S f0 t0 l0 x0).1 10 0 = S.1 10 0 + 1 := uI_at
theorem sP_i {S : Ast} (f0 t0 l0 x0 : Int32) (k i : Nat) (hk : k ≠ 10) (hi : i ≠ cn S 10) : (sP S f0 t0 l0 x0).1 k i = S.1 k i := by
  unfold sP
  rw [uI_1n hk, uI_off k i hi, uI_off k i hi, uI_off k i hi, uI_off k i hi]
theorem sP_j {S : Ast} (f0 t0 l0 x0 : Int32) : (sP S f0 t0 l0 x0).2 = S.2 := rfl
theorem sP_11 {S : Ast} (f0 t0 l0 x0 : Int32) : (sP S f0 t0 l0 x0).1 11 (cn S 10) = f0 := by
  unfold sP
  rw [uI_1n (by decide), uI_1n (by decide), uI_1n (by decide), uI_1n (by decide), uI_at]
theorem sP_12 {S : Ast} (f0 t0 l0 x0 : Int32) : (sP S f0 t0 l0 x0).1 12 (cn S 10) = t0 := by
  unfold sP
  rw [uI_1n (by decide), uI_1n (by decide), uI_1n (by decide), uI_at]
theorem sP_13 {S : Ast} (f0 t0 l0 x0 : Int32) : (sP S f0 t0 l0 x0).1 13 (cn S 10) = l0 := by
  unfold sP
  rw [uI_1n (by decide), uI_1n (by decide), uI_at]
theorem sP_14 {S : Ast} (f0 t0 l0 x0 : Int32) : (sP S f0 t0 l0 x0).1 14 (cn S 10) = x0 := by
  unfold sP
  rw [uI_1n (by decide), uI_at]
theorem SA.gsP {g : Gx} {w w2 : Wd} {O : Nat → Prop} {ad : Nat → Nat → Nat} {z : Zx} {np : Nat} {S : Ast} (h : SA g w O ad z np S) (hW : WSt S)  (f0 t0 l0 x0 : Int32) (z15 : S.2 15 (cn S 10) = 0) (z16 : S.2 16 (cn S 10) = 0) (z17 : S.2 17 (cn S 10) = 0) {q e' : Nat} (hq : w q = none) (hl : Lst g w2 (ad 14 2) e' (vN S np 2 + 1) (va_up (ad 2) (vN S np 2) q)) (he' : (e' = ad 15 2 ∧ 0 < vN S np 2) ∨ wst w q (oPipe (ad 1 f0.toNatClampNeg) (ad 1 t0.toNatClampNeg) (x0.toInt64 * x0.toInt64) (1000 * l0.toInt64) 0 0 0) e' = none) (hf : ∀ a, a ≠ ad 14 2 → a ≠ e' → w2 a = wst w q (oPipe (ad 1 f0.toNatClampNeg) (ad 1 t0.toNatClampNeg) (x0.toInt64 * x0.toInt64) (1000 * l0.toInt64) 0 0 0) a) :
    SA g w2 (fun a => O a ∨ a = q ∨ a = e') (adg ad 2 (vN S np 2) q e') z np (sP S f0 t0 l0 x0) ∧ Fr w O w2 (fun a => O a ∨ a = q ∨ a = e') := by
  have hc : CN S 10 40 := hW.1.2.1
  refine h.grow (j := 2) (by decide) rfl hq hl he' hf (sP S f0 t0 l0 x0) (fun k => ?_) ?_ (fun k i hi => ?_)
  · have := vN_T (S := S) (T := sP S f0 t0 l0 x0) (np := np) (j := 2) (c := 10) (fun X => vN_e2 X np) (by decide) (cn_inc hc (by omega) (sP_c f0 t0 l0 x0)).1 (fun k hk hne => sP_o f0 t0 l0 x0 k (fun q => by subst q; revert hk; decide) (fun q => by subst q; revert hk; decide) (fun q => by subst q; revert hk; decide) (fun q => by subst q; revert hk; decide) hne) k
    rw [vN_e2]
    exact this
  · rw [vN_e2, cel_e2]
    simp only [adg_n (k := 1) (j := 2) (by decide) (by decide), wB, sP_j f0 t0 l0 x0, sP_11 f0 t0 l0 x0, sP_12 f0 t0 l0 x0, sP_13 f0 t0 l0 x0, sP_14 f0 t0 l0 x0, z15, z16, z17]
  · rw [cel_T g _ z (S := S) (np := np) (fun k _ => congrFun (sP_j f0 t0 l0 x0) k) (sP_o f0 t0 l0 x0 23 (by decide) (by decide) (by decide) (by decide) (by decide)) (fun k f hf i hi => ?_) hW.nds.2.2.2.1 k i hi]
    · exact cel_ad g z hW (fun i _ => congrFun (adg_n (by decide) (by decide)) i) (adg_n (by decide) (by decide)) (adg_n (by decide) (by decide)) (adg_n (by decide) (by decide)) (adg_n (by decide) (by decide)) (fun i _ => congrFun (adg_n (by decide) (by decide)) i) (adg_n (by decide) (by decide)) k i hi
    · have hcn := flds_c k f hf
      by_cases hk : k = 2
      · subst hk
        exact sP_i f0 t0 l0 x0 f i (by obtain ⟨p1, p2, p3, p4, p5, p6, p7⟩ := hcn; assumption) (by rw [vN_e2] at hi; omega)
      · have hd := flds_d 2 (by decide) k hk f hf
        rw [sP_o f0 t0 l0 x0 f (fun q => hd (by rw [q]; decide)) (fun q => hd (by rw [q]; decide)) (fun q => hd (by rw [q]; decide)) (fun q => hd (by rw [q]; decide)) (by obtain ⟨p1, p2, p3, p4, p5, p6, p7⟩ := hcn; assumption)]

theorem sA_o {S : Ast} (n0 q0 l0 : Int32) (k : Nat) (h19 : k ≠ 19) (h20 : k ≠ 20) (h21 : k ≠ 21) (h18 : k ≠ 18) : (sA S n0 q0 l0).1 k = S.1 k := by
  unfold sA
  rw [uI_1n h18, uI_1n h21, uI_1n h20, uI_1n h19]
theorem sA_c {S : Ast} (n0 q0 l0 : Int32) : (sA S n0 q0 l0).1 18 0 = S.1 18 0 + 1 := uI_at
theorem sA_i {S : Ast} (n0 q0 l0 : Int32) (k i : Nat) (hk : k ≠ 18) (hi : i ≠ cn S 18) : (sA S n0 q0 l0).1 k i = S.1 k i := by
  unfold sA
  rw [uI_1n hk, uI_off k i hi, uI_off k i hi, uI_off k i hi]
theorem sA_j {S : Ast} (n0 q0 l0 : Int32) : (sA S n0 q0 l0).2 = S.2 := rfl
theorem sA_19 {S : Ast} (n0 q0 l0 : Int32) : (sA S n0 q0 l0).1 19 (cn S 18) = n0 := by
  unfold sA
  rw [uI_1n (by decide), uI_1n (by decide), uI_1n (by decide), uI_at]
theorem sA_20 {S : Ast} (n0 q0 l0 : Int32) : (sA S n0 q0 l0).1 20 (cn S 18) = q0 := by
  unfold sA
  rw [uI_1n (by decide), uI_1n (by decide), uI_at]
theorem sA_21 {S : Ast} (n0 q0 l0 : Int32) : (sA S n0 q0 l0).1 21 (cn S 18) = l0 := by
  unfold sA
  rw [uI_1n (by decide), uI_at]
theorem SA.gsA {g : Gx} {w w2 : Wd} {O : Nat → Prop} {ad : Nat → Nat → Nat} {z : Zx} {np : Nat} {S : Ast} (h : SA g w O ad z np S) (hW : WSt S)  (n0 q0 l0 : Int32) (z22 : S.2 22 (cn S 18) = 0) {q e' : Nat} (hq : w q = none) (hl : Lst g w2 (ad 14 3) e' (vN S np 3 + 1) (va_up (ad 3) (vN S np 3) q)) (he' : (e' = ad 15 3 ∧ 0 < vN S np 3) ∨ wst w q (oArea (ad 1 n0.toNatClampNeg) (q0.toInt64 * (1000 - l0).toInt64) 0) e' = none) (hf : ∀ a, a ≠ ad 14 3 → a ≠ e' → w2 a = wst w q (oArea (ad 1 n0.toNatClampNeg) (q0.toInt64 * (1000 - l0).toInt64) 0) a) :
    SA g w2 (fun a => O a ∨ a = q ∨ a = e') (adg ad 3 (vN S np 3) q e') z np (sA S n0 q0 l0) ∧ Fr w O w2 (fun a => O a ∨ a = q ∨ a = e') := by
  have hc : CN S 18 24 := hW.1.2.2.1
  refine h.grow (j := 3) (by decide) rfl hq hl he' hf (sA S n0 q0 l0) (fun k => ?_) ?_ (fun k i hi => ?_)
  · have := vN_T (S := S) (T := sA S n0 q0 l0) (np := np) (j := 3) (c := 18) (fun X => vN_e3 X np) (by decide) (cn_inc hc (by omega) (sA_c n0 q0 l0)).1 (fun k hk hne => sA_o n0 q0 l0 k (fun q => by subst q; revert hk; decide) (fun q => by subst q; revert hk; decide) (fun q => by subst q; revert hk; decide) hne) k
    rw [vN_e3]
    exact this
  · rw [vN_e3, cel_e3]
    simp only [adg_n (k := 1) (j := 3) (by decide) (by decide), sA_j n0 q0 l0, sA_19 n0 q0 l0, sA_20 n0 q0 l0, sA_21 n0 q0 l0, z22]
  · rw [cel_T g _ z (S := S) (np := np) (fun k _ => congrFun (sA_j n0 q0 l0) k) (sA_o n0 q0 l0 23 (by decide) (by decide) (by decide) (by decide)) (fun k f hf i hi => ?_) hW.nds.2.2.2.1 k i hi]
    · exact cel_ad g z hW (fun i _ => congrFun (adg_n (by decide) (by decide)) i) (adg_n (by decide) (by decide)) (adg_n (by decide) (by decide)) (adg_n (by decide) (by decide)) (adg_n (by decide) (by decide)) (fun i _ => congrFun (adg_n (by decide) (by decide)) i) (adg_n (by decide) (by decide)) k i hi
    · have hcn := flds_c k f hf
      by_cases hk : k = 3
      · subst hk
        exact sA_i n0 q0 l0 f i (by obtain ⟨p1, p2, p3, p4, p5, p6, p7⟩ := hcn; assumption) (by rw [vN_e3] at hi; omega)
      · have hd := flds_d 3 (by decide) k hk f hf
        rw [sA_o n0 q0 l0 f (fun q => hd (by rw [q]; decide)) (fun q => hd (by rw [q]; decide)) (fun q => hd (by rw [q]; decide)) (by obtain ⟨p1, p2, p3, p4, p5, p6, p7⟩ := hcn; assumption)]

theorem sU_o {S : Ast} (n0 t0 o0 f0 r0 : Int32) (k : Nat) (h25 : k ≠ 25) (h26 : k ≠ 26) (h27 : k ≠ 27) (h28 : k ≠ 28) (h29 : k ≠ 29) (h24 : k ≠ 24) : (sU S n0 t0 o0 f0 r0).1 k = S.1 k := by
  unfold sU
  rw [uI_1n h24, uI_1n h29, uI_1n h28, uI_1n h27, uI_1n h26, uI_1n h25]
theorem sU_c {S : Ast} (n0 t0 o0 f0 r0 : Int32) : (sU S n0 t0 o0 f0 r0).1 24 0 = S.1 24 0 + 1 := uI_at
theorem sU_i {S : Ast} (n0 t0 o0 f0 r0 : Int32) (k i : Nat) (hk : k ≠ 24) (hi : i ≠ cn S 24) : (sU S n0 t0 o0 f0 r0).1 k i = S.1 k i := by
  unfold sU
  rw [uI_1n hk, uI_off k i hi, uI_off k i hi, uI_off k i hi, uI_off k i hi, uI_off k i hi]
theorem sU_j {S : Ast} (n0 t0 o0 f0 r0 : Int32) : (sU S n0 t0 o0 f0 r0).2 = S.2 := rfl
theorem sU_25 {S : Ast} (n0 t0 o0 f0 r0 : Int32) : (sU S n0 t0 o0 f0 r0).1 25 (cn S 24) = n0 := by
  unfold sU
  rw [uI_1n (by decide), uI_1n (by decide), uI_1n (by decide), uI_1n (by decide), uI_1n (by decide), uI_at]
theorem sU_26 {S : Ast} (n0 t0 o0 f0 r0 : Int32) : (sU S n0 t0 o0 f0 r0).1 26 (cn S 24) = t0 := by
  unfold sU
  rw [uI_1n (by decide), uI_1n (by decide), uI_1n (by decide), uI_1n (by decide), uI_at]
theorem sU_27 {S : Ast} (n0 t0 o0 f0 r0 : Int32) : (sU S n0 t0 o0 f0 r0).1 27 (cn S 24) = o0 := by
  unfold sU
  rw [uI_1n (by decide), uI_1n (by decide), uI_1n (by decide), uI_at]
theorem sU_28 {S : Ast} (n0 t0 o0 f0 r0 : Int32) : (sU S n0 t0 o0 f0 r0).1 28 (cn S 24) = f0 := by
  unfold sU
  rw [uI_1n (by decide), uI_1n (by decide), uI_at]
theorem sU_29 {S : Ast} (n0 t0 o0 f0 r0 : Int32) : (sU S n0 t0 o0 f0 r0).1 29 (cn S 24) = r0 := by
  unfold sU
  rw [uI_1n (by decide), uI_at]
theorem SA.gsU {g : Gx} {w w2 : Wd} {O : Nat → Prop} {ad : Nat → Nat → Nat} {z : Zx} {np : Nat} {S : Ast} (h : SA g w O ad z np S) (hW : WSt S)  (n0 t0 o0 f0 r0 : Int32) (z30 : S.1 30 (cn S 24) = 0) {q e' : Nat} (hq : w q = none) (hl : Lst g w2 (ad 14 4) e' (vN S np 4 + 1) (va_up (ad 4) (vN S np 4) q)) (he' : (e' = ad 15 4 ∧ 0 < vN S np 4) ∨ wst w q (oPump (ad 1 n0.toNatClampNeg) (ad 1 t0.toNatClampNeg) o0 f0 r0 0) e' = none) (hf : ∀ a, a ≠ ad 14 4 → a ≠ e' → w2 a = wst w q (oPump (ad 1 n0.toNatClampNeg) (ad 1 t0.toNatClampNeg) o0 f0 r0 0) a) :
    SA g w2 (fun a => O a ∨ a = q ∨ a = e') (adg ad 4 (vN S np 4) q e') z np (sU S n0 t0 o0 f0 r0) ∧ Fr w O w2 (fun a => O a ∨ a = q ∨ a = e') := by
  have hc : CN S 24 8 := hW.1.2.2.2.1
  refine h.grow (j := 4) (by decide) rfl hq hl he' hf (sU S n0 t0 o0 f0 r0) (fun k => ?_) ?_ (fun k i hi => ?_)
  · have := vN_T (S := S) (T := sU S n0 t0 o0 f0 r0) (np := np) (j := 4) (c := 24) (fun X => vN_e4 X np) (by decide) (cn_inc hc (by omega) (sU_c n0 t0 o0 f0 r0)).1 (fun k hk hne => sU_o n0 t0 o0 f0 r0 k (fun q => by subst q; revert hk; decide) (fun q => by subst q; revert hk; decide) (fun q => by subst q; revert hk; decide) (fun q => by subst q; revert hk; decide) (fun q => by subst q; revert hk; decide) hne) k
    rw [vN_e4]
    exact this
  · rw [vN_e4, cel_e4]
    simp only [adg_n (k := 1) (j := 4) (by decide) (by decide), sU_j n0 t0 o0 f0 r0, sU_25 n0 t0 o0 f0 r0, sU_26 n0 t0 o0 f0 r0, sU_27 n0 t0 o0 f0 r0, sU_28 n0 t0 o0 f0 r0, sU_29 n0 t0 o0 f0 r0, sU_o n0 t0 o0 f0 r0 30 (by decide) (by decide) (by decide) (by decide) (by decide) (by decide), z30]
  · rw [cel_T g _ z (S := S) (np := np) (fun k _ => congrFun (sU_j n0 t0 o0 f0 r0) k) (sU_o n0 t0 o0 f0 r0 23 (by decide) (by decide) (by decide) (by decide) (by decide) (by decide)) (fun k f hf i hi => ?_) hW.nds.2.2.2.1 k i hi]
    · exact cel_ad g z hW (fun i _ => congrFun (adg_n (by decide) (by decide)) i) (adg_n (by decide) (by decide)) (adg_n (by decide) (by decide)) (adg_n (by decide) (by decide)) (adg_n (by decide) (by decide)) (fun i _ => congrFun (adg_n (by decide) (by decide)) i) (adg_n (by decide) (by decide)) k i hi
    · have hcn := flds_c k f hf
      by_cases hk : k = 4
      · subst hk
        exact sU_i n0 t0 o0 f0 r0 f i (by obtain ⟨p1, p2, p3, p4, p5, p6, p7⟩ := hcn; assumption) (by rw [vN_e4] at hi; omega)
      · have hd := flds_d 4 (by decide) k hk f hf
        rw [sU_o n0 t0 o0 f0 r0 f (fun q => hd (by rw [q]; decide)) (fun q => hd (by rw [q]; decide)) (fun q => hd (by rw [q]; decide)) (fun q => hd (by rw [q]; decide)) (fun q => hd (by rw [q]; decide)) (by obtain ⟨p1, p2, p3, p4, p5, p6, p7⟩ := hcn; assumption)]

theorem sG_o {S : Ast} (n0 h0 r0 : Int32) (k : Nat) (h32 : k ≠ 32) (h33 : k ≠ 33) (h34 : k ≠ 34) (h31 : k ≠ 31) : (sG S n0 h0 r0).1 k = S.1 k := by
  unfold sG
  rw [uI_1n h31, uI_1n h34, uI_1n h33, uI_1n h32]
theorem sG_c {S : Ast} (n0 h0 r0 : Int32) : (sG S n0 h0 r0).1 31 0 = S.1 31 0 + 1 := uI_at
theorem sG_i {S : Ast} (n0 h0 r0 : Int32) (k i : Nat) (hk : k ≠ 31) (hi : i ≠ cn S 31) : (sG S n0 h0 r0).1 k i = S.1 k i := by
  unfold sG
  rw [uI_1n hk, uI_off k i hi, uI_off k i hi, uI_off k i hi]
theorem sG_j {S : Ast} (n0 h0 r0 : Int32) : (sG S n0 h0 r0).2 = S.2 := rfl
theorem sG_32 {S : Ast} (n0 h0 r0 : Int32) : (sG S n0 h0 r0).1 32 (cn S 31) = n0 := by
  unfold sG
  rw [uI_1n (by decide), uI_1n (by decide), uI_1n (by decide), uI_at]
theorem sG_33 {S : Ast} (n0 h0 r0 : Int32) : (sG S n0 h0 r0).1 33 (cn S 31) = h0 := by
  unfold sG
  rw [uI_1n (by decide), uI_1n (by decide), uI_at]
theorem sG_34 {S : Ast} (n0 h0 r0 : Int32) : (sG S n0 h0 r0).1 34 (cn S 31) = r0 := by
  unfold sG
  rw [uI_1n (by decide), uI_at]
theorem SA.gsG {g : Gx} {w w2 : Wd} {O : Nat → Prop} {ad : Nat → Nat → Nat} {z : Zx} {np : Nat} {S : Ast} (h : SA g w O ad z np S) (hW : WSt S)  (n0 h0 r0 : Int32)  {q e' : Nat} (hq : w q = none) (hl : Lst g w2 (ad 14 5) e' (vN S np 5 + 1) (va_up (ad 5) (vN S np 5) q)) (he' : (e' = ad 15 5 ∧ 0 < vN S np 5) ∨ wst w q (oGate (ad 1 n0.toNatClampNeg) (h0.toInt64 * (S.1 4 n0.toNatClampNeg).toInt64) r0) e' = none) (hf : ∀ a, a ≠ ad 14 5 → a ≠ e' → w2 a = wst w q (oGate (ad 1 n0.toNatClampNeg) (h0.toInt64 * (S.1 4 n0.toNatClampNeg).toInt64) r0) a) :
    SA g w2 (fun a => O a ∨ a = q ∨ a = e') (adg ad 5 (vN S np 5) q e') z np (sG S n0 h0 r0) ∧ Fr w O w2 (fun a => O a ∨ a = q ∨ a = e') := by
  have hc : CN S 31 8 := hW.1.2.2.2.2.1
  refine h.grow (j := 5) (by decide) rfl hq hl he' hf (sG S n0 h0 r0) (fun k => ?_) ?_ (fun k i hi => ?_)
  · have := vN_T (S := S) (T := sG S n0 h0 r0) (np := np) (j := 5) (c := 31) (fun X => vN_e5 X np) (by decide) (cn_inc hc (by omega) (sG_c n0 h0 r0)).1 (fun k hk hne => sG_o n0 h0 r0 k (fun q => by subst q; revert hk; decide) (fun q => by subst q; revert hk; decide) (fun q => by subst q; revert hk; decide) hne) k
    rw [vN_e5]
    exact this
  · rw [vN_e5, cel_e5]
    simp only [adg_n (k := 1) (j := 5) (by decide) (by decide), sG_j n0 h0 r0, sG_32 n0 h0 r0, sG_33 n0 h0 r0, sG_34 n0 h0 r0, sG_o n0 h0 r0 4 (by decide) (by decide) (by decide) (by decide)]
  · rw [cel_T g _ z (S := S) (np := np) (fun k _ => congrFun (sG_j n0 h0 r0) k) (sG_o n0 h0 r0 23 (by decide) (by decide) (by decide) (by decide)) (fun k f hf i hi => ?_) hW.nds.2.2.2.1 k i hi]
    · exact cel_ad g z hW (fun i _ => congrFun (adg_n (by decide) (by decide)) i) (adg_n (by decide) (by decide)) (adg_n (by decide) (by decide)) (adg_n (by decide) (by decide)) (adg_n (by decide) (by decide)) (fun i _ => congrFun (adg_n (by decide) (by decide)) i) (adg_n (by decide) (by decide)) k i hi
    · have hcn := flds_c k f hf
      by_cases hk : k = 5
      · subst hk
        exact sG_i n0 h0 r0 f i (by obtain ⟨p1, p2, p3, p4, p5, p6, p7⟩ := hcn; assumption) (by rw [vN_e5] at hi; omega)
      · have hd := flds_d 5 (by decide) k hk f hf
        rw [sG_o n0 h0 r0 f (fun q => hd (by rw [q]; decide)) (fun q => hd (by rw [q]; decide)) (fun q => hd (by rw [q]; decide)) (by obtain ⟨p1, p2, p3, p4, p5, p6, p7⟩ := hcn; assumption)]

theorem sL_o {S : Ast} (c0 n0 r0 : Int32) (k : Nat) (h36 : k ≠ 36) (h37 : k ≠ 37) (h38 : k ≠ 38) (h35 : k ≠ 35) : (sL S c0 n0 r0).1 k = S.1 k := by
  unfold sL
  rw [uI_1n h35, uI_1n h38, uI_1n h37, uI_1n h36]
theorem sL_c {S : Ast} (c0 n0 r0 : Int32) : (sL S c0 n0 r0).1 35 0 = S.1 35 0 + 1 := uI_at
theorem sL_i {S : Ast} (c0 n0 r0 : Int32) (k i : Nat) (hk : k ≠ 35) (hi : i ≠ cn S 35) : (sL S c0 n0 r0).1 k i = S.1 k i := by
  unfold sL
  rw [uI_1n hk, uI_off k i hi, uI_off k i hi, uI_off k i hi]
theorem sL_j {S : Ast} (c0 n0 r0 : Int32) : (sL S c0 n0 r0).2 = S.2 := rfl
theorem sL_36 {S : Ast} (c0 n0 r0 : Int32) : (sL S c0 n0 r0).1 36 (cn S 35) = c0 := by
  unfold sL
  rw [uI_1n (by decide), uI_1n (by decide), uI_1n (by decide), uI_at]
theorem sL_37 {S : Ast} (c0 n0 r0 : Int32) : (sL S c0 n0 r0).1 37 (cn S 35) = n0 := by
  unfold sL
  rw [uI_1n (by decide), uI_1n (by decide), uI_at]
theorem sL_38 {S : Ast} (c0 n0 r0 : Int32) : (sL S c0 n0 r0).1 38 (cn S 35) = r0 := by
  unfold sL
  rw [uI_1n (by decide), uI_at]
theorem SA.gsL {g : Gx} {w w2 : Wd} {O : Nat → Prop} {ad : Nat → Nat → Nat} {z : Zx} {np : Nat} {S : Ast} (h : SA g w O ad z np S) (hW : WSt S)  (c0 n0 r0 : Int32)  {q e' : Nat} (hq : w q = none) (hl : Lst g w2 (ad 14 6) e' (vN S np 6 + 1) (va_up (ad 6) (vN S np 6) q)) (he' : (e' = ad 15 6 ∧ 0 < vN S np 6) ∨ wst w q (oGully c0 (ad 1 n0.toNatClampNeg) r0) e' = none) (hf : ∀ a, a ≠ ad 14 6 → a ≠ e' → w2 a = wst w q (oGully c0 (ad 1 n0.toNatClampNeg) r0) a) :
    SA g w2 (fun a => O a ∨ a = q ∨ a = e') (adg ad 6 (vN S np 6) q e') z np (sL S c0 n0 r0) ∧ Fr w O w2 (fun a => O a ∨ a = q ∨ a = e') := by
  have hc : CN S 35 8 := hW.1.2.2.2.2.2
  refine h.grow (j := 6) (by decide) rfl hq hl he' hf (sL S c0 n0 r0) (fun k => ?_) ?_ (fun k i hi => ?_)
  · have := vN_T (S := S) (T := sL S c0 n0 r0) (np := np) (j := 6) (c := 35) (fun X => vN_e6 X np) (by decide) (cn_inc hc (by omega) (sL_c c0 n0 r0)).1 (fun k hk hne => sL_o c0 n0 r0 k (fun q => by subst q; revert hk; decide) (fun q => by subst q; revert hk; decide) (fun q => by subst q; revert hk; decide) hne) k
    rw [vN_e6]
    exact this
  · rw [vN_e6, cel_e6]
    simp only [adg_n (k := 1) (j := 6) (by decide) (by decide), sL_j c0 n0 r0, sL_36 c0 n0 r0, sL_37 c0 n0 r0, sL_38 c0 n0 r0]
  · rw [cel_T g _ z (S := S) (np := np) (fun k _ => congrFun (sL_j c0 n0 r0) k) (sL_o c0 n0 r0 23 (by decide) (by decide) (by decide) (by decide)) (fun k f hf i hi => ?_) hW.nds.2.2.2.1 k i hi]
    · exact cel_ad g z hW (fun i _ => congrFun (adg_n (by decide) (by decide)) i) (adg_n (by decide) (by decide)) (adg_n (by decide) (by decide)) (adg_n (by decide) (by decide)) (adg_n (by decide) (by decide)) (fun i _ => congrFun (adg_n (by decide) (by decide)) i) (adg_n (by decide) (by decide)) k i hi
    · have hcn := flds_c k f hf
      by_cases hk : k = 6
      · subst hk
        exact sL_i c0 n0 r0 f i (by obtain ⟨p1, p2, p3, p4, p5, p6, p7⟩ := hcn; assumption) (by rw [vN_e6] at hi; omega)
      · have hd := flds_d 6 (by decide) k hk f hf
        rw [sL_o c0 n0 r0 f (fun q => hd (by rw [q]; decide)) (fun q => hd (by rw [q]; decide)) (fun q => hd (by rw [q]; decide)) (by obtain ⟨p1, p2, p3, p4, p5, p6, p7⟩ := hcn; assumption)]

set_option maxRecDepth 100000 in
set_option maxHeartbeats 4000000 in
theorem c_node (K : Kx) {w : Wd} {O : Nat → Prop} {ad : Nat → Nat → Nat} {z : Zx} {np : Nat} {S : Ast} (g0 b0 r0 : Int32) (hA : SA K.2.1 w O ad z np S) (hW : WSt S) (hnp : NP S np) (h0 : CN S 0 24) (hle : cn S 1 ≤ cn S 0) (z6 : S.2 6 (cn S 1) = 0) (z7 : S.2 7 (cn S 1) = 0) (z8 : S.2 8 (cn S 1) = 0) (z9 : S.2 9 (cn S 1) = 0) : MT K mX9_node 7 2 68 [.ref (ad 0 0), .int g0, .int b0, .int r0] w (PI fun r w' => r = (if okN S g0 b0 r0 then S.1 1 0 else (-1)) ∧ CQ K.2.1 w O (ad 0 0) w' (if okN S g0 b0 r0 then sN S g0 b0 r0 else S)) := by
  refine MT.of [some (.ref (ad 0 0)), some (.int g0), some (.int b0), some (.int r0)] (by decide) rfl (nle rfl) rfl ?_
  intro E hC hR
  have hS := SB.rf hA
  have h1 := hW.1.1
  refine j_aload_n hC dX9_node_0 rfl ?_
  refine j_get hC cfX9 dX9_node_1 fX9_10 (by decide) hS.1.x rfl ?_
  obtain ⟨mc1, hl1⟩ := (hS.1.lst (j := 1) (by decide)).sz
  refine j_callv (kc' := 2) (ks' := 68) (r := (RJx4a65c, TJx4a65c, 3)) hC (c_lsize K (hS.1.lst (j := 1) (by decide))) dX9_node_4 wJx4a65c_size_8abf5 lX9_59 i_yJx4a65c_size_8abf5 s_yJx4a65c_size_8abf5 hl1 rfl rfl rfl (nle rfl) rfl (by decide) (by decide) (by decide) (kI fun r w' hp => ?_)
  obtain ⟨rfl, hw⟩ := hp
  rw [hw]
  clear hw w'
  refine J.toI (y := S.1 1 0) (((congrArg nI (vN_e1 S np))).trans hW.1.1.1.symm) ?_
  refine j_aload_n hC dX9_node_7 rfl ?_
  refine j_get hC cfX9 dX9_node_8 fX9_55 (by decide) hS.1.x rfl ?_
  refine j_icmp_ge hC 28 dX9_node_11 (by decide) (fun c_11 => ?_) (fun c_11 => ?_)
  · refine j_iconst hC (-1) dX9_node_28 (by decide) ?_
    rw [full0 h0 h1 hle] at c_11
    have hok : ¬ okN S g0 b0 r0 := fun q => by first | exact q.1 c_11 | exact q.2.1 c_11 | exact q.2.2.1 c_11 | exact q.2.2.2.1 c_11 | exact q.2.2.2.2.1 c_11 | exact q.2.2.2.2.2 c_11 | exact q.2.2 c_11 | exact q.2.2.2 c_11 | exact q.2.2.2.2 c_11 | (rcases w2_z.mp c_11 with z | z | z <;> first | exact q.1 z | exact q.2.1 z | exact q.2.2.1 z | exact q.2.2.2.1 z | exact q.2.2.2.2.1 z | exact q.2.2.2.2.2 z | exact q.2.2 z | exact q.2.2.2 z | exact q.2.2.2.2 z)
    exact j_iret hC hR dX9_node_29 rfl ⟨_, rfl, by rw [if_neg hok], by rw [if_neg hok]; exact ⟨_, _, _, _, hS.1, hS.2, rfl, hnp⟩⟩
  · refine j_iload_n hC dX9_node_14 rfl ?_
    refine j_calls (kc' := 2) (ks' := 68) hC (c_isHeight K g0) dX9_node_15 wX9_isHeight lX9_63 t_yX9_isHeight rfl rfl (nle rfl) rfl (by decide) (by decide) (by decide) (kI fun r w' hp => ?_)
    obtain ⟨rfl, hw⟩ := hp
    rw [hw]
    clear hw w'
    refine j_if_eq hC 28 dX9_node_18 (by decide) (fun c_18 => ?_) (fun c_18 => ?_)
    · refine j_iconst hC (-1) dX9_node_28 (by decide) ?_
      have hok : ¬ okN S g0 b0 r0 := fun q => by first | exact q.1 c_18 | exact q.2.1 c_18 | exact q.2.2.1 c_18 | exact q.2.2.2.1 c_18 | exact q.2.2.2.2.1 c_18 | exact q.2.2.2.2.2 c_18 | exact q.2.2 c_18 | exact q.2.2.2 c_18 | exact q.2.2.2.2 c_18 | (rcases w2_z.mp c_18 with z | z | z <;> first | exact q.1 z | exact q.2.1 z | exact q.2.2.1 z | exact q.2.2.2.1 z | exact q.2.2.2.2.1 z | exact q.2.2.2.2.2 z | exact q.2.2 z | exact q.2.2.2 z | exact q.2.2.2.2 z)
      exact j_iret hC hR dX9_node_29 rfl ⟨_, rfl, by rw [if_neg hok], by rw [if_neg hok]; exact ⟨_, _, _, _, hS.1, hS.2, rfl, hnp⟩⟩
    · refine j_iload_n hC dX9_node_21 rfl ?_
      refine j_calls (kc' := 2) (ks' := 68) hC (c_isHeight K b0) dX9_node_22 wX9_isHeight lX9_63 t_yX9_isHeight rfl rfl (nle rfl) rfl (by decide) (by decide) (by decide) (kI fun r w' hp => ?_)
      obtain ⟨rfl, hw⟩ := hp
      rw [hw]
      clear hw w'
      refine j_if_ne hC 30 dX9_node_25 (by decide) (fun c_25 => ?_) (fun c_25 => ?_)
      · refine j_iload_n hC dX9_node_30 rfl ?_
        refine j_iload_n hC dX9_node_31 rfl ?_
        refine j_icmp_ge hC 45 dX9_node_32 (by decide) (fun c_32 => ?_) (fun c_32 => ?_)
        · refine j_iconst hC (-1) dX9_node_45 (by decide) ?_
          have hok : ¬ okN S g0 b0 r0 := fun q => by first | exact q.1 c_32 | exact q.2.1 c_32 | exact q.2.2.1 c_32 | exact q.2.2.2.1 c_32 | exact q.2.2.2.2.1 c_32 | exact q.2.2.2.2.2 c_32 | exact q.2.2 c_32 | exact q.2.2.2 c_32 | exact q.2.2.2.2 c_32 | (rcases w2_z.mp c_32 with z | z | z <;> first | exact q.1 z | exact q.2.1 z | exact q.2.2.1 z | exact q.2.2.2.1 z | exact q.2.2.2.2.1 z | exact q.2.2.2.2.2 z | exact q.2.2 z | exact q.2.2.2 z | exact q.2.2.2.2 z)
          exact j_iret hC hR dX9_node_46 rfl ⟨_, rfl, by rw [if_neg hok], by rw [if_neg hok]; exact ⟨_, _, _, _, hS.1, hS.2, rfl, hnp⟩⟩
        · refine j_iload_n hC dX9_node_35 rfl ?_
          refine j_iconst hC (1) dX9_node_36 (by decide) ?_
          refine j_ldc hC dX9_node_37 nX9_67 ?_
          refine j_calls (kc' := 2) (ks' := 68) hC (c_isWithin K r0 1 100000) dX9_node_39 wX9_isWithin lX9_68 t_yX9_isWithin rfl rfl (nle rfl) rfl (by decide) (by decide) (by decide) (kI fun r w' hp => ?_)
          obtain ⟨rfl, hw⟩ := hp
          rw [hw]
          clear hw w'
          refine j_if_ne hC 47 dX9_node_42 (by decide) (fun c_42 => ?_) (fun c_42 => ?_)
          · refine j_aload_n hC dX9_node_47 rfl ?_
            refine j_get hC cfX9 dX9_node_48 fX9_10 (by decide) hS.1.x rfl ?_
            refine j_new (kc' := 1) (ks' := 60) (fs := [.int 0, .int 0, .long 0, .long 0, .long 0, .long 0, .long 0, .int 0]) hC cfX5 dX9_node_51 kX9_72 ibX5 inX5 (fun j hj => by rcases (show j = 0 ∨ j = 1 ∨ j = 2 ∨ j = 3 ∨ j = 4 ∨ j = 5 ∨ j = 6 ∨ j = 7 by omega) with rfl | rfl | rfl | rfl | rfl | rfl | rfl | rfl <;> rfl) (by decide) (by decide) (fun q51 hq51 => ?_)
            refine j_dup hC dX9_node_54 rfl ?_
            refine j_iload_n hC dX9_node_55 rfl ?_
            refine j_iload_n hC dX9_node_56 rfl ?_
            refine j_iload_n hC dX9_node_57 rfl ?_
            refine j_calli (kc' := 1) (ks' := 60) hC (c_Node K g0 b0 r0 (wst_s _ _ _)) dX9_node_58 wX5_init lX9_74 i_yX5_init rfl rfl rfl (nle rfl) rfl (by decide) (by decide) (by decide) (kV fun w' hp => ?_)
            rw [hp, wst_wst]
            clear hp w'
            obtain ⟨mc2, hl2⟩ := (hS.1.lst (j := 1) (by decide)).sz
            refine j_callv (kc' := 0) (ks' := 0) (r := (RJx4a65c, TJx4a65c, 3)) hC (c_add K ((hS.1.fresh hq51 _).lst (j := 1) (by decide)) (by rw [vN_e1]; have := hW.1.1.2; omega) (hS.1.lq (by decide) hq51) ((hS.1.fresh hq51 _).hel (by decide)) (wst_s _ _ _) rfl (by decide)) dX9_node_61 wJx4a65c_add_9ea2d lX9_77 i_yJx4a65c_add_9ea2d s_yJx4a65c_add_9ea2d (fresh_none hq51 hl2) rfl rfl rfl (nle rfl) rfl (by decide) (by decide) (by decide) (kI fun r w' hp => ?_)
            obtain ⟨rfl, e', hl', he', hf'⟩ := hp
            obtain ⟨hA2, hF2⟩ := hS.1.gsN hW g0 b0 r0 z6 z7 z8 z9 hq51 hl' he' hf'
            have hx := hA2.x
            simp only [adg_n (k := 0) (show 0 ≠ 1 by decide) (by decide), adg_n (k := 14) (show 14 ≠ 1 by decide) (by decide)] at hx
            refine j_pop hC dX9_node_64 rfl ?_
            refine j_aload_n hC dX9_node_65 rfl ?_
            refine j_get hC cfX9 dX9_node_66 fX9_10 (by decide) hx rfl ?_
            obtain ⟨mc9, hl9⟩ := hl'.sz
            refine j_callv (kc' := 0) (ks' := 0) (r := (RJx4a65c, TJx4a65c, 3)) hC (c_lsize K hl') dX9_node_69 wJx4a65c_size_8abf5 lX9_59 i_yJx4a65c_size_8abf5 s_yJx4a65c_size_8abf5 hl9 rfl rfl rfl (nle rfl) rfl (by decide) (by decide) (by decide) (kI fun r w2 hp => ?_)
            obtain ⟨rfl, hw⟩ := hp
            rw [hw]
            clear hw w2
            refine j_iconst hC (1) dX9_node_72 (by decide) ?_
            refine j_isub hC dX9_node_73 ?_
            have hok : okN S g0 b0 r0 := ⟨fun q => c_11 ((full0 h0 h1 hle).mpr q), c_18, c_25, c_32, c_42⟩
            exact j_iret hC hR dX9_node_74 rfl ⟨_, rfl, by rw [if_pos hok, nI_pred, vN_e1]; exact hW.1.1.1.symm, by rw [if_pos hok]; exact ⟨_, _, _, _, hA2, hF2, congrFun (adg_n (by decide) (by decide)) 0, hnp.cong (fun k hk => sN_o g0 b0 r0 k (fun q => by subst q; revert hk; decide) (fun q => by subst q; revert hk; decide) (fun q => by subst q; revert hk; decide) (fun q => by subst q; revert hk; decide) (fun q => by subst q; revert hk; decide))⟩⟩
          · refine j_iconst hC (-1) dX9_node_45 (by decide) ?_
            have hok : ¬ okN S g0 b0 r0 := fun q => by first | exact q.1 c_42 | exact q.2.1 c_42 | exact q.2.2.1 c_42 | exact q.2.2.2.1 c_42 | exact q.2.2.2.2.1 c_42 | exact q.2.2.2.2.2 c_42 | exact q.2.2 c_42 | exact q.2.2.2 c_42 | exact q.2.2.2.2 c_42 | (rcases w2_z.mp c_42 with z | z | z <;> first | exact q.1 z | exact q.2.1 z | exact q.2.2.1 z | exact q.2.2.2.1 z | exact q.2.2.2.2.1 z | exact q.2.2.2.2.2 z | exact q.2.2 z | exact q.2.2.2 z | exact q.2.2.2.2 z)
            exact j_iret hC hR dX9_node_46 rfl ⟨_, rfl, by rw [if_neg hok], by rw [if_neg hok]; exact ⟨_, _, _, _, hS.1, hS.2, rfl, hnp⟩⟩
      · refine j_iconst hC (-1) dX9_node_28 (by decide) ?_
        have hok : ¬ okN S g0 b0 r0 := fun q => by first | exact q.1 c_25 | exact q.2.1 c_25 | exact q.2.2.1 c_25 | exact q.2.2.2.1 c_25 | exact q.2.2.2.2.1 c_25 | exact q.2.2.2.2.2 c_25 | exact q.2.2 c_25 | exact q.2.2.2 c_25 | exact q.2.2.2.2 c_25 | (rcases w2_z.mp c_25 with z | z | z <;> first | exact q.1 z | exact q.2.1 z | exact q.2.2.1 z | exact q.2.2.2.1 z | exact q.2.2.2.2.1 z | exact q.2.2.2.2.2 z | exact q.2.2 z | exact q.2.2.2 z | exact q.2.2.2.2 z)
        exact j_iret hC hR dX9_node_29 rfl ⟨_, rfl, by rw [if_neg hok], by rw [if_neg hok]; exact ⟨_, _, _, _, hS.1, hS.2, rfl, hnp⟩⟩

set_option maxRecDepth 100000 in
set_option maxHeartbeats 4000000 in
theorem c_pipe (K : Kx) {w : Wd} {O : Nat → Prop} {ad : Nat → Nat → Nat} {z : Zx} {np : Nat} {S : Ast} (f0 t0 l0 x0 : Int32) (hA : SA K.2.1 w O ad z np S) (hW : WSt S) (hnp : NP S np) (z15 : S.2 15 (cn S 10) = 0) (z16 : S.2 16 (cn S 10) = 0) (z17 : S.2 17 (cn S 10) = 0) : MT K mX9_pipe 7 2 67 [.ref (ad 0 0), .int f0, .int t0, .int l0, .int x0] w (PI fun r w' => r = (if okP S f0 t0 l0 x0 then S.1 10 0 else (-1)) ∧ CQ K.2.1 w O (ad 0 0) w' (if okP S f0 t0 l0 x0 then sP S f0 t0 l0 x0 else S)) := by
  refine MT.of [some (.ref (ad 0 0)), some (.int f0), some (.int t0), some (.int l0), some (.int x0)] (by decide) rfl (nle rfl) rfl ?_
  intro E hC hR
  have hS := SB.rf hA
  have h1 := hW.1.1
  refine j_aload_n hC dX9_pipe_0 rfl ?_
  refine j_get hC cfX9 dX9_pipe_1 fX9_16 (by decide) hS.1.x rfl ?_
  obtain ⟨mc1, hl1⟩ := (hS.1.lst (j := 2) (by decide)).sz
  refine j_callv (kc' := 2) (ks' := 67) (r := (RJx4a65c, TJx4a65c, 3)) hC (c_lsize K (hS.1.lst (j := 2) (by decide))) dX9_pipe_4 wJx4a65c_size_8abf5 lX9_59 i_yJx4a65c_size_8abf5 s_yJx4a65c_size_8abf5 hl1 rfl rfl rfl (nle rfl) rfl (by decide) (by decide) (by decide) (kI fun r w' hp => ?_)
  obtain ⟨rfl, hw⟩ := hp
  rw [hw]
  clear hw w'
  refine J.toI (y := S.1 10 0) (((congrArg nI (vN_e2 S np))).trans hW.1.2.1.1.symm) ?_
  refine j_bipush hC (40) dX9_pipe_7 (by decide) ?_
  refine j_icmp_ge hC 21 dX9_pipe_9 (by decide) (fun c_9 => ?_) (fun c_9 => ?_)
  · refine j_iconst hC (-1) dX9_pipe_21 (by decide) ?_
    rw [CN.full hW.1.2.1 (by decide) 40 (by decide)] at c_9
    have hok : ¬ okP S f0 t0 l0 x0 := fun q => by first | exact q.1 c_9 | exact q.2.1 c_9 | exact q.2.2.1 c_9 | exact q.2.2.2.1 c_9 | exact q.2.2.2.2.1 c_9 | exact q.2.2.2.2.2 c_9 | exact q.2.2 c_9 | exact q.2.2.2 c_9 | exact q.2.2.2.2 c_9 | (rcases w2_z.mp c_9 with z | z | z <;> first | exact q.1 z | exact q.2.1 z | exact q.2.2.1 z | exact q.2.2.2.1 z | exact q.2.2.2.2.1 z | exact q.2.2.2.2.2 z | exact q.2.2 z | exact q.2.2.2 z | exact q.2.2.2.2 z)
    exact j_iret hC hR dX9_pipe_22 rfl ⟨_, rfl, by rw [if_neg hok], by rw [if_neg hok]; exact ⟨_, _, _, _, hS.1, hS.2, rfl, hnp⟩⟩
  · refine j_aload_n hC dX9_pipe_12 rfl ?_
    refine j_iload_n hC dX9_pipe_13 rfl ?_
    refine j_iload_n hC dX9_pipe_14 rfl ?_
    refine j_callv (kc' := 2) (ks' := 67) (r := (RX9, TX9, 14)) hC (c_two K f0 t0 hS.1 h1) dX9_pipe_15 wX9_areTwoNodes lX9_81 i_yX9_areTwoNodes s_yX9_areTwoNodes hS.1.x rfl rfl rfl (nle rfl) rfl (by decide) (by decide) (by decide) (kI fun r w' hp => ?_)
    obtain ⟨rfl, hw⟩ := hp
    rw [hw]
    clear hw w'
    refine j_if_ne hC 23 dX9_pipe_18 (by decide) (fun c_18 => ?_) (fun c_18 => ?_)
    · refine j_iload_n hC dX9_pipe_23 rfl ?_
      refine j_iconst hC (1) dX9_pipe_24 (by decide) ?_
      refine j_sipush hC (10000) dX9_pipe_25 (by decide) ?_
      refine j_calls (kc' := 2) (ks' := 67) hC (c_isWithin K l0 1 10000) dX9_pipe_28 wX9_isWithin lX9_68 t_yX9_isWithin rfl rfl (nle rfl) rfl (by decide) (by decide) (by decide) (kI fun r w' hp => ?_)
      obtain ⟨rfl, hw⟩ := hp
      rw [hw]
      clear hw w'
      refine j_if_eq hC 47 dX9_pipe_31 (by decide) (fun c_31 => ?_) (fun c_31 => ?_)
      · refine j_iconst hC (-1) dX9_pipe_47 (by decide) ?_
        have hok : ¬ okP S f0 t0 l0 x0 := fun q => by first | exact q.1 c_31 | exact q.2.1 c_31 | exact q.2.2.1 c_31 | exact q.2.2.2.1 c_31 | exact q.2.2.2.2.1 c_31 | exact q.2.2.2.2.2 c_31 | exact q.2.2 c_31 | exact q.2.2.2 c_31 | exact q.2.2.2.2 c_31 | (rcases w2_z.mp c_31 with z | z | z <;> first | exact q.1 z | exact q.2.1 z | exact q.2.2.1 z | exact q.2.2.2.1 z | exact q.2.2.2.2.1 z | exact q.2.2.2.2.2 z | exact q.2.2 z | exact q.2.2.2 z | exact q.2.2.2.2 z)
        exact j_iret hC hR dX9_pipe_48 rfl ⟨_, rfl, by rw [if_neg hok], by rw [if_neg hok]; exact ⟨_, _, _, _, hS.1, hS.2, rfl, hnp⟩⟩
      · refine j_iload hC dX9_pipe_34 rfl ?_
        refine j_bipush hC (10) dX9_pipe_36 (by decide) ?_
        refine j_sipush hC (3000) dX9_pipe_38 (by decide) ?_
        refine j_calls (kc' := 2) (ks' := 67) hC (c_isWithin K x0 10 3000) dX9_pipe_41 wX9_isWithin lX9_68 t_yX9_isWithin rfl rfl (nle rfl) rfl (by decide) (by decide) (by decide) (kI fun r w' hp => ?_)
        obtain ⟨rfl, hw⟩ := hp
        rw [hw]
        clear hw w'
        refine j_if_ne hC 49 dX9_pipe_44 (by decide) (fun c_44 => ?_) (fun c_44 => ?_)
        · obtain ⟨hk1, hlt1, hx1⟩ := isn h1 (w2_ok.mp c_18).1
          obtain ⟨hk2, hlt2, hx2⟩ := isn h1 (w2_ok.mp c_18).2.1
          refine j_aload_n hC dX9_pipe_49 rfl ?_
          refine j_get hC cfX9 dX9_pipe_50 fX9_16 (by decide) hS.1.x rfl ?_
          refine j_new (kc' := 1) (ks' := 60) (fs := [.null, .null, .long 0, .long 0, .long 0, .long 0, .long 0]) hC cfX7 dX9_pipe_53 kX9_85 ibX7 inX7 (fun j hj => by rcases (show j = 0 ∨ j = 1 ∨ j = 2 ∨ j = 3 ∨ j = 4 ∨ j = 5 ∨ j = 6 by omega) with rfl | rfl | rfl | rfl | rfl | rfl | rfl <;> rfl) (by decide) (by decide) (fun q53 hq53 => ?_)
          refine j_dup hC dX9_pipe_56 rfl ?_
          refine j_aload_n hC dX9_pipe_57 rfl ?_
          refine j_get hC cfX9 dX9_pipe_58 fX9_10 (by decide) ((wst_n (ne_of hS.1.x hq53)).trans hS.1.x) rfl ?_
          refine j_iload_n hC dX9_pipe_61 rfl ?_
          refine J.toI hk1 ?_
          obtain ⟨mc2, hl2⟩ := ((hS.1.fresh hq53 _).lst (j := 1) (by decide)).sz
          refine j_callv (kc' := 1) (ks' := 60) (r := (RJx4a65c, TJx4a65c, 3)) hC (c_get K ((hS.1.fresh hq53 _).lst (j := 1) (by decide)) (by rw [vN_e1]; exact hlt1)) dX9_pipe_62 wJx4a65c_get_915e3 lX9_87 i_yJx4a65c_get_915e3 s_yJx4a65c_get_915e3 hl2 rfl rfl rfl (nle rfl) rfl (by decide) (by decide) (by decide) (kA fun r w' hp => ?_)
          obtain ⟨rfl, hw⟩ := hp
          rw [hw]
          clear hw w'
          refine j_cast (r := (RX5, TX5, 8)) hC dX9_pipe_65 kX9_72 ((hS.1.fresh hq53 _).node hlt1) rfl ?_
          refine j_aload_n hC dX9_pipe_68 rfl ?_
          refine j_get hC cfX9 dX9_pipe_69 fX9_10 (by decide) ((wst_n (ne_of hS.1.x hq53)).trans hS.1.x) rfl ?_
          refine j_iload_n hC dX9_pipe_72 rfl ?_
          refine J.toI hk2 ?_
          obtain ⟨mc3, hl3⟩ := ((hS.1.fresh hq53 _).lst (j := 1) (by decide)).sz
          refine j_callv (kc' := 1) (ks' := 60) (r := (RJx4a65c, TJx4a65c, 3)) hC (c_get K ((hS.1.fresh hq53 _).lst (j := 1) (by decide)) (by rw [vN_e1]; exact hlt2)) dX9_pipe_73 wJx4a65c_get_915e3 lX9_87 i_yJx4a65c_get_915e3 s_yJx4a65c_get_915e3 hl3 rfl rfl rfl (nle rfl) rfl (by decide) (by decide) (by decide) (kA fun r w' hp => ?_)
          obtain ⟨rfl, hw⟩ := hp
          rw [hw]
          clear hw w'
          refine j_cast (r := (RX5, TX5, 8)) hC dX9_pipe_76 kX9_72 ((hS.1.fresh hq53 _).node hlt2) rfl ?_
          refine j_iload_n hC dX9_pipe_79 rfl ?_
          refine j_iload hC dX9_pipe_80 rfl ?_
          refine j_calli (kc' := 1) (ks' := 60) hC (c_Pipe K l0 x0 (wst_s _ _ _)) dX9_pipe_82 wX7_init lX9_91 i_yX7_init rfl rfl rfl (nle rfl) rfl (by decide) (by decide) (by decide) (kV fun w' hp => ?_)
          rw [hp, wst_wst]
          clear hp w'
          obtain ⟨mc4, hl4⟩ := (hS.1.lst (j := 2) (by decide)).sz
          refine j_callv (kc' := 0) (ks' := 0) (r := (RJx4a65c, TJx4a65c, 3)) hC (c_add K ((hS.1.fresh hq53 _).lst (j := 2) (by decide)) (by rw [vN_e2]; have := hW.1.2.1.2; omega) (hS.1.lq (by decide) hq53) ((hS.1.fresh hq53 _).hel (by decide)) (wst_s _ _ _) rfl (by decide)) dX9_pipe_85 wJx4a65c_add_9ea2d lX9_77 i_yJx4a65c_add_9ea2d s_yJx4a65c_add_9ea2d (fresh_none hq53 hl4) rfl rfl rfl (nle rfl) rfl (by decide) (by decide) (by decide) (kI fun r w' hp => ?_)
          obtain ⟨rfl, e', hl', he', hf'⟩ := hp
          obtain ⟨hA2, hF2⟩ := hS.1.gsP hW f0 t0 l0 x0 z15 z16 z17 hq53 hl' he' hf'
          have hx := hA2.x
          simp only [adg_n (k := 0) (show 0 ≠ 2 by decide) (by decide), adg_n (k := 14) (show 14 ≠ 2 by decide) (by decide)] at hx
          refine j_pop hC dX9_pipe_88 rfl ?_
          refine j_aload_n hC dX9_pipe_89 rfl ?_
          refine j_get hC cfX9 dX9_pipe_90 fX9_16 (by decide) hx rfl ?_
          obtain ⟨mc9, hl9⟩ := hl'.sz
          refine j_callv (kc' := 0) (ks' := 0) (r := (RJx4a65c, TJx4a65c, 3)) hC (c_lsize K hl') dX9_pipe_93 wJx4a65c_size_8abf5 lX9_59 i_yJx4a65c_size_8abf5 s_yJx4a65c_size_8abf5 hl9 rfl rfl rfl (nle rfl) rfl (by decide) (by decide) (by decide) (kI fun r w2 hp => ?_)
          obtain ⟨rfl, hw⟩ := hp
          rw [hw]
          clear hw w2
          refine j_iconst hC (1) dX9_pipe_96 (by decide) ?_
          refine j_isub hC dX9_pipe_97 ?_
          have hok : okP S f0 t0 l0 x0 := ⟨fun q => c_9 ((CN.full hW.1.2.1 (by decide) 40 (by decide)).mpr q), (w2_ok.mp c_18).1, (w2_ok.mp c_18).2.1, (w2_ok.mp c_18).2.2, c_31, c_44⟩
          exact j_iret hC hR dX9_pipe_98 rfl ⟨_, rfl, by rw [if_pos hok, nI_pred, vN_e2]; exact hW.1.2.1.1.symm, by rw [if_pos hok]; exact ⟨_, _, _, _, hA2, hF2, congrFun (adg_n (by decide) (by decide)) 0, hnp.cong (fun k hk => sP_o f0 t0 l0 x0 k (fun q => by subst q; revert hk; decide) (fun q => by subst q; revert hk; decide) (fun q => by subst q; revert hk; decide) (fun q => by subst q; revert hk; decide) (fun q => by subst q; revert hk; decide))⟩⟩
        · refine j_iconst hC (-1) dX9_pipe_47 (by decide) ?_
          have hok : ¬ okP S f0 t0 l0 x0 := fun q => by first | exact q.1 c_44 | exact q.2.1 c_44 | exact q.2.2.1 c_44 | exact q.2.2.2.1 c_44 | exact q.2.2.2.2.1 c_44 | exact q.2.2.2.2.2 c_44 | exact q.2.2 c_44 | exact q.2.2.2 c_44 | exact q.2.2.2.2 c_44 | (rcases w2_z.mp c_44 with z | z | z <;> first | exact q.1 z | exact q.2.1 z | exact q.2.2.1 z | exact q.2.2.2.1 z | exact q.2.2.2.2.1 z | exact q.2.2.2.2.2 z | exact q.2.2 z | exact q.2.2.2 z | exact q.2.2.2.2 z)
          exact j_iret hC hR dX9_pipe_48 rfl ⟨_, rfl, by rw [if_neg hok], by rw [if_neg hok]; exact ⟨_, _, _, _, hS.1, hS.2, rfl, hnp⟩⟩
    · refine j_iconst hC (-1) dX9_pipe_21 (by decide) ?_
      have hok : ¬ okP S f0 t0 l0 x0 := fun q => by first | exact q.1 c_18 | exact q.2.1 c_18 | exact q.2.2.1 c_18 | exact q.2.2.2.1 c_18 | exact q.2.2.2.2.1 c_18 | exact q.2.2.2.2.2 c_18 | exact q.2.2 c_18 | exact q.2.2.2 c_18 | exact q.2.2.2.2 c_18 | (rcases w2_z.mp c_18 with z | z | z <;> first | exact q.1 z | exact q.2.1 z | exact q.2.2.1 z | exact q.2.2.2.1 z | exact q.2.2.2.2.1 z | exact q.2.2.2.2.2 z | exact q.2.2 z | exact q.2.2.2 z | exact q.2.2.2.2 z)
      exact j_iret hC hR dX9_pipe_22 rfl ⟨_, rfl, by rw [if_neg hok], by rw [if_neg hok]; exact ⟨_, _, _, _, hS.1, hS.2, rfl, hnp⟩⟩

set_option maxRecDepth 100000 in
set_option maxHeartbeats 4000000 in
theorem c_area (K : Kx) {w : Wd} {O : Nat → Prop} {ad : Nat → Nat → Nat} {z : Zx} {np : Nat} {S : Ast} (n0 q0 l0 : Int32) (hA : SA K.2.1 w O ad z np S) (hW : WSt S) (hnp : NP S np) (z22 : S.2 22 (cn S 18) = 0) : MT K mX9_area 7 2 63 [.ref (ad 0 0), .int n0, .int q0, .int l0] w (PI fun r w' => r = (if okA S n0 q0 l0 then S.1 18 0 else (-1)) ∧ CQ K.2.1 w O (ad 0 0) w' (if okA S n0 q0 l0 then sA S n0 q0 l0 else S)) := by
  refine MT.of [some (.ref (ad 0 0)), some (.int n0), some (.int q0), some (.int l0)] (by decide) rfl (nle rfl) rfl ?_
  intro E hC hR
  have hS := SB.rf hA
  have h1 := hW.1.1
  refine j_aload_n hC dX9_area_0 rfl ?_
  refine j_get hC cfX9 dX9_area_1 fX9_19 (by decide) hS.1.x rfl ?_
  obtain ⟨mc1, hl1⟩ := (hS.1.lst (j := 3) (by decide)).sz
  refine j_callv (kc' := 2) (ks' := 63) (r := (RJx4a65c, TJx4a65c, 3)) hC (c_lsize K (hS.1.lst (j := 3) (by decide))) dX9_area_4 wJx4a65c_size_8abf5 lX9_59 i_yJx4a65c_size_8abf5 s_yJx4a65c_size_8abf5 hl1 rfl rfl rfl (nle rfl) rfl (by decide) (by decide) (by decide) (kI fun r w' hp => ?_)
  obtain ⟨rfl, hw⟩ := hp
  rw [hw]
  clear hw w'
  refine J.toI (y := S.1 18 0) (((congrArg nI (vN_e3 S np))).trans hW.1.2.2.1.1.symm) ?_
  refine j_bipush hC (24) dX9_area_7 (by decide) ?_
  refine j_icmp_ge hC 20 dX9_area_9 (by decide) (fun c_9 => ?_) (fun c_9 => ?_)
  · refine j_iconst hC (-1) dX9_area_20 (by decide) ?_
    rw [CN.full hW.1.2.2.1 (by decide) 24 (by decide)] at c_9
    have hok : ¬ okA S n0 q0 l0 := fun q => by first | exact q.1 c_9 | exact q.2.1 c_9 | exact q.2.2.1 c_9 | exact q.2.2.2.1 c_9 | exact q.2.2.2.2.1 c_9 | exact q.2.2.2.2.2 c_9 | exact q.2.2 c_9 | exact q.2.2.2 c_9 | exact q.2.2.2.2 c_9 | (rcases w2_z.mp c_9 with z | z | z <;> first | exact q.1 z | exact q.2.1 z | exact q.2.2.1 z | exact q.2.2.2.1 z | exact q.2.2.2.2.1 z | exact q.2.2.2.2.2 z | exact q.2.2 z | exact q.2.2.2 z | exact q.2.2.2.2 z)
    exact j_iret hC hR dX9_area_21 rfl ⟨_, rfl, by rw [if_neg hok], by rw [if_neg hok]; exact ⟨_, _, _, _, hS.1, hS.2, rfl, hnp⟩⟩
  · refine j_aload_n hC dX9_area_12 rfl ?_
    refine j_iload_n hC dX9_area_13 rfl ?_
    refine j_callv (kc' := 2) (ks' := 63) (r := (RX9, TX9, 14)) hC (c_isNode K n0 hS.1 h1) dX9_area_14 wX9_isNode lX9_94 i_yX9_isNode s_yX9_isNode hS.1.x rfl rfl rfl (nle rfl) rfl (by decide) (by decide) (by decide) (kI fun r w' hp => ?_)
    obtain ⟨rfl, hw⟩ := hp
    rw [hw]
    clear hw w'
    refine j_if_ne hC 22 dX9_area_17 (by decide) (fun c_17 => ?_) (fun c_17 => ?_)
    · refine j_iload_n hC dX9_area_22 rfl ?_
      refine j_iconst hC (1) dX9_area_23 (by decide) ?_
      refine j_ldc hC dX9_area_24 nX9_97 ?_
      refine j_calls (kc' := 2) (ks' := 63) hC (c_isWithin K q0 1 1000000) dX9_area_26 wX9_isWithin lX9_68 t_yX9_isWithin rfl rfl (nle rfl) rfl (by decide) (by decide) (by decide) (kI fun r w' hp => ?_)
      obtain ⟨rfl, hw⟩ := hp
      rw [hw]
      clear hw w'
      refine j_if_eq hC 43 dX9_area_29 (by decide) (fun c_29 => ?_) (fun c_29 => ?_)
      · refine j_iconst hC (-1) dX9_area_43 (by decide) ?_
        have hok : ¬ okA S n0 q0 l0 := fun q => by first | exact q.1 c_29 | exact q.2.1 c_29 | exact q.2.2.1 c_29 | exact q.2.2.2.1 c_29 | exact q.2.2.2.2.1 c_29 | exact q.2.2.2.2.2 c_29 | exact q.2.2 c_29 | exact q.2.2.2 c_29 | exact q.2.2.2.2 c_29 | (rcases w2_z.mp c_29 with z | z | z <;> first | exact q.1 z | exact q.2.1 z | exact q.2.2.1 z | exact q.2.2.2.1 z | exact q.2.2.2.2.1 z | exact q.2.2.2.2.2 z | exact q.2.2 z | exact q.2.2.2 z | exact q.2.2.2.2 z)
        exact j_iret hC hR dX9_area_44 rfl ⟨_, rfl, by rw [if_neg hok], by rw [if_neg hok]; exact ⟨_, _, _, _, hS.1, hS.2, rfl, hnp⟩⟩
      · refine j_iload_n hC dX9_area_32 rfl ?_
        refine j_iconst hC (0) dX9_area_33 (by decide) ?_
        refine j_sipush hC (1000) dX9_area_34 (by decide) ?_
        refine j_calls (kc' := 2) (ks' := 63) hC (c_isWithin K l0 0 1000) dX9_area_37 wX9_isWithin lX9_68 t_yX9_isWithin rfl rfl (nle rfl) rfl (by decide) (by decide) (by decide) (kI fun r w' hp => ?_)
        obtain ⟨rfl, hw⟩ := hp
        rw [hw]
        clear hw w'
        refine j_if_ne hC 45 dX9_area_40 (by decide) (fun c_40 => ?_) (fun c_40 => ?_)
        · obtain ⟨hk1, hlt1, hx1⟩ := isn h1 c_17
          refine j_aload_n hC dX9_area_45 rfl ?_
          refine j_get hC cfX9 dX9_area_46 fX9_19 (by decide) hS.1.x rfl ?_
          refine j_new (kc' := 1) (ks' := 60) (fs := [.null, .long 0, .long 0]) hC cfX0 dX9_area_49 kX9_98 ibX0 inX0 (fun j hj => by rcases (show j = 0 ∨ j = 1 ∨ j = 2 by omega) with rfl | rfl | rfl <;> rfl) (by decide) (by decide) (fun q49 hq49 => ?_)
          refine j_dup hC dX9_area_52 rfl ?_
          refine j_aload_n hC dX9_area_53 rfl ?_
          refine j_get hC cfX9 dX9_area_54 fX9_10 (by decide) ((wst_n (ne_of hS.1.x hq49)).trans hS.1.x) rfl ?_
          refine j_iload_n hC dX9_area_57 rfl ?_
          refine J.toI hk1 ?_
          obtain ⟨mc2, hl2⟩ := ((hS.1.fresh hq49 _).lst (j := 1) (by decide)).sz
          refine j_callv (kc' := 1) (ks' := 60) (r := (RJx4a65c, TJx4a65c, 3)) hC (c_get K ((hS.1.fresh hq49 _).lst (j := 1) (by decide)) (by rw [vN_e1]; exact hlt1)) dX9_area_58 wJx4a65c_get_915e3 lX9_87 i_yJx4a65c_get_915e3 s_yJx4a65c_get_915e3 hl2 rfl rfl rfl (nle rfl) rfl (by decide) (by decide) (by decide) (kA fun r w' hp => ?_)
          obtain ⟨rfl, hw⟩ := hp
          rw [hw]
          clear hw w'
          refine j_cast (r := (RX5, TX5, 8)) hC dX9_area_61 kX9_72 ((hS.1.fresh hq49 _).node hlt1) rfl ?_
          refine j_iload_n hC dX9_area_64 rfl ?_
          refine j_iload_n hC dX9_area_65 rfl ?_
          refine j_calli (kc' := 1) (ks' := 60) hC (c_Area K q0 l0 (wst_s _ _ _)) dX9_area_66 wX0_init lX9_100 i_yX0_init rfl rfl rfl (nle rfl) rfl (by decide) (by decide) (by decide) (kV fun w' hp => ?_)
          rw [hp, wst_wst]
          clear hp w'
          obtain ⟨mc3, hl3⟩ := (hS.1.lst (j := 3) (by decide)).sz
          refine j_callv (kc' := 0) (ks' := 0) (r := (RJx4a65c, TJx4a65c, 3)) hC (c_add K ((hS.1.fresh hq49 _).lst (j := 3) (by decide)) (by rw [vN_e3]; have := hW.1.2.2.1.2; omega) (hS.1.lq (by decide) hq49) ((hS.1.fresh hq49 _).hel (by decide)) (wst_s _ _ _) rfl (by decide)) dX9_area_69 wJx4a65c_add_9ea2d lX9_77 i_yJx4a65c_add_9ea2d s_yJx4a65c_add_9ea2d (fresh_none hq49 hl3) rfl rfl rfl (nle rfl) rfl (by decide) (by decide) (by decide) (kI fun r w' hp => ?_)
          obtain ⟨rfl, e', hl', he', hf'⟩ := hp
          obtain ⟨hA2, hF2⟩ := hS.1.gsA hW n0 q0 l0 z22 hq49 hl' he' hf'
          have hx := hA2.x
          simp only [adg_n (k := 0) (show 0 ≠ 3 by decide) (by decide), adg_n (k := 14) (show 14 ≠ 3 by decide) (by decide)] at hx
          refine j_pop hC dX9_area_72 rfl ?_
          refine j_aload_n hC dX9_area_73 rfl ?_
          refine j_get hC cfX9 dX9_area_74 fX9_19 (by decide) hx rfl ?_
          obtain ⟨mc9, hl9⟩ := hl'.sz
          refine j_callv (kc' := 0) (ks' := 0) (r := (RJx4a65c, TJx4a65c, 3)) hC (c_lsize K hl') dX9_area_77 wJx4a65c_size_8abf5 lX9_59 i_yJx4a65c_size_8abf5 s_yJx4a65c_size_8abf5 hl9 rfl rfl rfl (nle rfl) rfl (by decide) (by decide) (by decide) (kI fun r w2 hp => ?_)
          obtain ⟨rfl, hw⟩ := hp
          rw [hw]
          clear hw w2
          refine j_iconst hC (1) dX9_area_80 (by decide) ?_
          refine j_isub hC dX9_area_81 ?_
          have hok : okA S n0 q0 l0 := ⟨fun q => c_9 ((CN.full hW.1.2.2.1 (by decide) 24 (by decide)).mpr q), c_17, c_29, c_40⟩
          exact j_iret hC hR dX9_area_82 rfl ⟨_, rfl, by rw [if_pos hok, nI_pred, vN_e3]; exact hW.1.2.2.1.1.symm, by rw [if_pos hok]; exact ⟨_, _, _, _, hA2, hF2, congrFun (adg_n (by decide) (by decide)) 0, hnp.cong (fun k hk => sA_o n0 q0 l0 k (fun q => by subst q; revert hk; decide) (fun q => by subst q; revert hk; decide) (fun q => by subst q; revert hk; decide) (fun q => by subst q; revert hk; decide))⟩⟩
        · refine j_iconst hC (-1) dX9_area_43 (by decide) ?_
          have hok : ¬ okA S n0 q0 l0 := fun q => by first | exact q.1 c_40 | exact q.2.1 c_40 | exact q.2.2.1 c_40 | exact q.2.2.2.1 c_40 | exact q.2.2.2.2.1 c_40 | exact q.2.2.2.2.2 c_40 | exact q.2.2 c_40 | exact q.2.2.2 c_40 | exact q.2.2.2.2 c_40 | (rcases w2_z.mp c_40 with z | z | z <;> first | exact q.1 z | exact q.2.1 z | exact q.2.2.1 z | exact q.2.2.2.1 z | exact q.2.2.2.2.1 z | exact q.2.2.2.2.2 z | exact q.2.2 z | exact q.2.2.2 z | exact q.2.2.2.2 z)
          exact j_iret hC hR dX9_area_44 rfl ⟨_, rfl, by rw [if_neg hok], by rw [if_neg hok]; exact ⟨_, _, _, _, hS.1, hS.2, rfl, hnp⟩⟩
    · refine j_iconst hC (-1) dX9_area_20 (by decide) ?_
      have hok : ¬ okA S n0 q0 l0 := fun q => by first | exact q.1 c_17 | exact q.2.1 c_17 | exact q.2.2.1 c_17 | exact q.2.2.2.1 c_17 | exact q.2.2.2.2.1 c_17 | exact q.2.2.2.2.2 c_17 | exact q.2.2 c_17 | exact q.2.2.2 c_17 | exact q.2.2.2.2 c_17 | (rcases w2_z.mp c_17 with z | z | z <;> first | exact q.1 z | exact q.2.1 z | exact q.2.2.1 z | exact q.2.2.2.1 z | exact q.2.2.2.2.1 z | exact q.2.2.2.2.2 z | exact q.2.2 z | exact q.2.2.2 z | exact q.2.2.2.2 z)
      exact j_iret hC hR dX9_area_21 rfl ⟨_, rfl, by rw [if_neg hok], by rw [if_neg hok]; exact ⟨_, _, _, _, hS.1, hS.2, rfl, hnp⟩⟩

set_option maxRecDepth 100000 in
set_option maxHeartbeats 4000000 in
theorem c_pump (K : Kx) {w : Wd} {O : Nat → Prop} {ad : Nat → Nat → Nat} {z : Zx} {np : Nat} {S : Ast} (n0 t0 o0 f0 r0 : Int32) (hA : SA K.2.1 w O ad z np S) (hW : WSt S) (hnp : NP S np) (z30 : S.1 30 (cn S 24) = 0) : MT K mX9_pump 7 2 66 [.ref (ad 0 0), .int n0, .int t0, .int o0, .int f0, .int r0] w (PI fun r w' => r = (if okU S n0 t0 o0 f0 r0 then S.1 24 0 else (-1)) ∧ CQ K.2.1 w O (ad 0 0) w' (if okU S n0 t0 o0 f0 r0 then sU S n0 t0 o0 f0 r0 else S)) := by
  refine MT.of [some (.ref (ad 0 0)), some (.int n0), some (.int t0), some (.int o0), some (.int f0), some (.int r0)] (by decide) rfl (nle rfl) rfl ?_
  intro E hC hR
  have hS := SB.rf hA
  have h1 := hW.1.1
  refine j_aload_n hC dX9_pump_0 rfl ?_
  refine j_get hC cfX9 dX9_pump_1 fX9_22 (by decide) hS.1.x rfl ?_
  obtain ⟨mc1, hl1⟩ := (hS.1.lst (j := 4) (by decide)).sz
  refine j_callv (kc' := 2) (ks' := 66) (r := (RJx4a65c, TJx4a65c, 3)) hC (c_lsize K (hS.1.lst (j := 4) (by decide))) dX9_pump_4 wJx4a65c_size_8abf5 lX9_59 i_yJx4a65c_size_8abf5 s_yJx4a65c_size_8abf5 hl1 rfl rfl rfl (nle rfl) rfl (by decide) (by decide) (by decide) (kI fun r w' hp => ?_)
  obtain ⟨rfl, hw⟩ := hp
  rw [hw]
  clear hw w'
  refine J.toI (y := S.1 24 0) (((congrArg nI (vN_e4 S np))).trans hW.1.2.2.2.1.1.symm) ?_
  refine j_bipush hC (8) dX9_pump_7 (by decide) ?_
  refine j_icmp_ge hC 21 dX9_pump_9 (by decide) (fun c_9 => ?_) (fun c_9 => ?_)
  · refine j_iconst hC (-1) dX9_pump_21 (by decide) ?_
    rw [CN.full hW.1.2.2.2.1 (by decide) 8 (by decide)] at c_9
    have hok : ¬ okU S n0 t0 o0 f0 r0 := fun q => by first | exact q.1 c_9 | exact q.2.1 c_9 | exact q.2.2.1 c_9 | exact q.2.2.2.1 c_9 | exact q.2.2.2.2.1 c_9 | exact q.2.2.2.2.2 c_9 | exact q.2.2 c_9 | exact q.2.2.2 c_9 | exact q.2.2.2.2 c_9 | (rcases w2_z.mp c_9 with z | z | z <;> first | exact q.1 z | exact q.2.1 z | exact q.2.2.1 z | exact q.2.2.2.1 z | exact q.2.2.2.2.1 z | exact q.2.2.2.2.2 z | exact q.2.2 z | exact q.2.2.2 z | exact q.2.2.2.2 z)
    exact j_iret hC hR dX9_pump_22 rfl ⟨_, rfl, by rw [if_neg hok], by rw [if_neg hok]; exact ⟨_, _, _, _, hS.1, hS.2, rfl, hnp⟩⟩
  · refine j_aload_n hC dX9_pump_12 rfl ?_
    refine j_iload_n hC dX9_pump_13 rfl ?_
    refine j_iload_n hC dX9_pump_14 rfl ?_
    refine j_callv (kc' := 2) (ks' := 66) (r := (RX9, TX9, 14)) hC (c_two K n0 t0 hS.1 h1) dX9_pump_15 wX9_areTwoNodes lX9_81 i_yX9_areTwoNodes s_yX9_areTwoNodes hS.1.x rfl rfl rfl (nle rfl) rfl (by decide) (by decide) (by decide) (kI fun r w' hp => ?_)
    obtain ⟨rfl, hw⟩ := hp
    rw [hw]
    clear hw w'
    refine j_if_ne hC 23 dX9_pump_18 (by decide) (fun c_18 => ?_) (fun c_18 => ?_)
    · refine j_iload_n hC dX9_pump_23 rfl ?_
      refine j_iload hC dX9_pump_24 rfl ?_
      refine j_icmp_le hC 40 dX9_pump_26 (by decide) (fun c_26 => ?_) (fun c_26 => ?_)
      · refine j_iconst hC (-1) dX9_pump_40 (by decide) ?_
        have hok : ¬ okU S n0 t0 o0 f0 r0 := fun q => by first | exact q.1 c_26 | exact q.2.1 c_26 | exact q.2.2.1 c_26 | exact q.2.2.2.1 c_26 | exact q.2.2.2.2.1 c_26 | exact q.2.2.2.2.2 c_26 | exact q.2.2 c_26 | exact q.2.2.2 c_26 | exact q.2.2.2.2 c_26 | (rcases w2_z.mp c_26 with z | z | z <;> first | exact q.1 z | exact q.2.1 z | exact q.2.2.1 z | exact q.2.2.2.1 z | exact q.2.2.2.2.1 z | exact q.2.2.2.2.2 z | exact q.2.2 z | exact q.2.2.2 z | exact q.2.2.2.2 z)
        exact j_iret hC hR dX9_pump_41 rfl ⟨_, rfl, by rw [if_neg hok], by rw [if_neg hok]; exact ⟨_, _, _, _, hS.1, hS.2, rfl, hnp⟩⟩
      · refine j_iload hC dX9_pump_29 rfl ?_
        refine j_iconst hC (1) dX9_pump_31 (by decide) ?_
        refine j_ldc hC dX9_pump_32 nX9_67 ?_
        refine j_calls (kc' := 2) (ks' := 66) hC (c_isWithin K r0 1 100000) dX9_pump_34 wX9_isWithin lX9_68 t_yX9_isWithin rfl rfl (nle rfl) rfl (by decide) (by decide) (by decide) (kI fun r w' hp => ?_)
        obtain ⟨rfl, hw⟩ := hp
        rw [hw]
        clear hw w'
        refine j_if_ne hC 42 dX9_pump_37 (by decide) (fun c_37 => ?_) (fun c_37 => ?_)
        · obtain ⟨hk1, hlt1, hx1⟩ := isn h1 (w2_ok.mp c_18).1
          obtain ⟨hk2, hlt2, hx2⟩ := isn h1 (w2_ok.mp c_18).2.1
          refine j_aload_n hC dX9_pump_42 rfl ?_
          refine j_get hC cfX9 dX9_pump_43 fX9_22 (by decide) hS.1.x rfl ?_
          refine j_new (kc' := 1) (ks' := 60) (fs := [.null, .null, .int 0, .int 0, .int 0, .int 0]) hC cfX8 dX9_pump_46 kX9_103 ibX8 inX8 (fun j hj => by rcases (show j = 0 ∨ j = 1 ∨ j = 2 ∨ j = 3 ∨ j = 4 ∨ j = 5 by omega) with rfl | rfl | rfl | rfl | rfl | rfl <;> rfl) (by decide) (by decide) (fun q46 hq46 => ?_)
          refine j_dup hC dX9_pump_49 rfl ?_
          refine j_aload_n hC dX9_pump_50 rfl ?_
          refine j_get hC cfX9 dX9_pump_51 fX9_10 (by decide) ((wst_n (ne_of hS.1.x hq46)).trans hS.1.x) rfl ?_
          refine j_iload_n hC dX9_pump_54 rfl ?_
          refine J.toI hk1 ?_
          obtain ⟨mc2, hl2⟩ := ((hS.1.fresh hq46 _).lst (j := 1) (by decide)).sz
          refine j_callv (kc' := 1) (ks' := 60) (r := (RJx4a65c, TJx4a65c, 3)) hC (c_get K ((hS.1.fresh hq46 _).lst (j := 1) (by decide)) (by rw [vN_e1]; exact hlt1)) dX9_pump_55 wJx4a65c_get_915e3 lX9_87 i_yJx4a65c_get_915e3 s_yJx4a65c_get_915e3 hl2 rfl rfl rfl (nle rfl) rfl (by decide) (by decide) (by decide) (kA fun r w' hp => ?_)
          obtain ⟨rfl, hw⟩ := hp
          rw [hw]
          clear hw w'
          refine j_cast (r := (RX5, TX5, 8)) hC dX9_pump_58 kX9_72 ((hS.1.fresh hq46 _).node hlt1) rfl ?_
          refine j_aload_n hC dX9_pump_61 rfl ?_
          refine j_get hC cfX9 dX9_pump_62 fX9_10 (by decide) ((wst_n (ne_of hS.1.x hq46)).trans hS.1.x) rfl ?_
          refine j_iload_n hC dX9_pump_65 rfl ?_
          refine J.toI hk2 ?_
          obtain ⟨mc3, hl3⟩ := ((hS.1.fresh hq46 _).lst (j := 1) (by decide)).sz
          refine j_callv (kc' := 1) (ks' := 60) (r := (RJx4a65c, TJx4a65c, 3)) hC (c_get K ((hS.1.fresh hq46 _).lst (j := 1) (by decide)) (by rw [vN_e1]; exact hlt2)) dX9_pump_66 wJx4a65c_get_915e3 lX9_87 i_yJx4a65c_get_915e3 s_yJx4a65c_get_915e3 hl3 rfl rfl rfl (nle rfl) rfl (by decide) (by decide) (by decide) (kA fun r w' hp => ?_)
          obtain ⟨rfl, hw⟩ := hp
          rw [hw]
          clear hw w'
          refine j_cast (r := (RX5, TX5, 8)) hC dX9_pump_69 kX9_72 ((hS.1.fresh hq46 _).node hlt2) rfl ?_
          refine j_iload_n hC dX9_pump_72 rfl ?_
          refine j_iload hC dX9_pump_73 rfl ?_
          refine j_iload hC dX9_pump_75 rfl ?_
          refine j_calli (kc' := 1) (ks' := 60) hC (c_Pump K o0 f0 r0 (wst_s _ _ _)) dX9_pump_77 wX8_init lX9_105 i_yX8_init rfl rfl rfl (nle rfl) rfl (by decide) (by decide) (by decide) (kV fun w' hp => ?_)
          rw [hp, wst_wst]
          clear hp w'
          obtain ⟨mc4, hl4⟩ := (hS.1.lst (j := 4) (by decide)).sz
          refine j_callv (kc' := 0) (ks' := 0) (r := (RJx4a65c, TJx4a65c, 3)) hC (c_add K ((hS.1.fresh hq46 _).lst (j := 4) (by decide)) (by rw [vN_e4]; have := hW.1.2.2.2.1.2; omega) (hS.1.lq (by decide) hq46) ((hS.1.fresh hq46 _).hel (by decide)) (wst_s _ _ _) rfl (by decide)) dX9_pump_80 wJx4a65c_add_9ea2d lX9_77 i_yJx4a65c_add_9ea2d s_yJx4a65c_add_9ea2d (fresh_none hq46 hl4) rfl rfl rfl (nle rfl) rfl (by decide) (by decide) (by decide) (kI fun r w' hp => ?_)
          obtain ⟨rfl, e', hl', he', hf'⟩ := hp
          obtain ⟨hA2, hF2⟩ := hS.1.gsU hW n0 t0 o0 f0 r0 z30 hq46 hl' he' hf'
          have hx := hA2.x
          simp only [adg_n (k := 0) (show 0 ≠ 4 by decide) (by decide), adg_n (k := 14) (show 14 ≠ 4 by decide) (by decide)] at hx
          refine j_pop hC dX9_pump_83 rfl ?_
          refine j_aload_n hC dX9_pump_84 rfl ?_
          refine j_get hC cfX9 dX9_pump_85 fX9_22 (by decide) hx rfl ?_
          obtain ⟨mc9, hl9⟩ := hl'.sz
          refine j_callv (kc' := 0) (ks' := 0) (r := (RJx4a65c, TJx4a65c, 3)) hC (c_lsize K hl') dX9_pump_88 wJx4a65c_size_8abf5 lX9_59 i_yJx4a65c_size_8abf5 s_yJx4a65c_size_8abf5 hl9 rfl rfl rfl (nle rfl) rfl (by decide) (by decide) (by decide) (kI fun r w2 hp => ?_)
          obtain ⟨rfl, hw⟩ := hp
          rw [hw]
          clear hw w2
          refine j_iconst hC (1) dX9_pump_91 (by decide) ?_
          refine j_isub hC dX9_pump_92 ?_
          have hok : okU S n0 t0 o0 f0 r0 := ⟨fun q => c_9 ((CN.full hW.1.2.2.2.1 (by decide) 8 (by decide)).mpr q), (w2_ok.mp c_18).1, (w2_ok.mp c_18).2.1, (w2_ok.mp c_18).2.2, c_26, c_37⟩
          exact j_iret hC hR dX9_pump_93 rfl ⟨_, rfl, by rw [if_pos hok, nI_pred, vN_e4]; exact hW.1.2.2.2.1.1.symm, by rw [if_pos hok]; exact ⟨_, _, _, _, hA2, hF2, congrFun (adg_n (by decide) (by decide)) 0, hnp.cong (fun k hk => sU_o n0 t0 o0 f0 r0 k (fun q => by subst q; revert hk; decide) (fun q => by subst q; revert hk; decide) (fun q => by subst q; revert hk; decide) (fun q => by subst q; revert hk; decide) (fun q => by subst q; revert hk; decide) (fun q => by subst q; revert hk; decide))⟩⟩
        · refine j_iconst hC (-1) dX9_pump_40 (by decide) ?_
          have hok : ¬ okU S n0 t0 o0 f0 r0 := fun q => by first | exact q.1 c_37 | exact q.2.1 c_37 | exact q.2.2.1 c_37 | exact q.2.2.2.1 c_37 | exact q.2.2.2.2.1 c_37 | exact q.2.2.2.2.2 c_37 | exact q.2.2 c_37 | exact q.2.2.2 c_37 | exact q.2.2.2.2 c_37 | (rcases w2_z.mp c_37 with z | z | z <;> first | exact q.1 z | exact q.2.1 z | exact q.2.2.1 z | exact q.2.2.2.1 z | exact q.2.2.2.2.1 z | exact q.2.2.2.2.2 z | exact q.2.2 z | exact q.2.2.2 z | exact q.2.2.2.2 z)
          exact j_iret hC hR dX9_pump_41 rfl ⟨_, rfl, by rw [if_neg hok], by rw [if_neg hok]; exact ⟨_, _, _, _, hS.1, hS.2, rfl, hnp⟩⟩
    · refine j_iconst hC (-1) dX9_pump_21 (by decide) ?_
      have hok : ¬ okU S n0 t0 o0 f0 r0 := fun q => by first | exact q.1 c_18 | exact q.2.1 c_18 | exact q.2.2.1 c_18 | exact q.2.2.2.1 c_18 | exact q.2.2.2.2.1 c_18 | exact q.2.2.2.2.2 c_18 | exact q.2.2 c_18 | exact q.2.2.2 c_18 | exact q.2.2.2.2 c_18 | (rcases w2_z.mp c_18 with z | z | z <;> first | exact q.1 z | exact q.2.1 z | exact q.2.2.1 z | exact q.2.2.2.1 z | exact q.2.2.2.2.1 z | exact q.2.2.2.2.2 z | exact q.2.2 z | exact q.2.2.2 z | exact q.2.2.2.2 z)
      exact j_iret hC hR dX9_pump_22 rfl ⟨_, rfl, by rw [if_neg hok], by rw [if_neg hok]; exact ⟨_, _, _, _, hS.1, hS.2, rfl, hnp⟩⟩

set_option maxRecDepth 100000 in
set_option maxHeartbeats 4000000 in
theorem c_gate (K : Kx) {w : Wd} {O : Nat → Prop} {ad : Nat → Nat → Nat} {z : Zx} {np : Nat} {S : Ast} (n0 h0 r0 : Int32) (hA : SA K.2.1 w O ad z np S) (hW : WSt S) (hnp : NP S np)  : MT K mX9_gate 7 2 63 [.ref (ad 0 0), .int n0, .int h0, .int r0] w (PI fun r w' => r = (if okG S n0 h0 r0 then S.1 31 0 else (-1)) ∧ CQ K.2.1 w O (ad 0 0) w' (if okG S n0 h0 r0 then sG S n0 h0 r0 else S)) := by
  refine MT.of [some (.ref (ad 0 0)), some (.int n0), some (.int h0), some (.int r0)] (by decide) rfl (nle rfl) rfl ?_
  intro E hC hR
  have hS := SB.rf hA
  have h1 := hW.1.1
  refine j_aload_n hC dX9_gate_0 rfl ?_
  refine j_get hC cfX9 dX9_gate_1 fX9_25 (by decide) hS.1.x rfl ?_
  obtain ⟨mc1, hl1⟩ := (hS.1.lst (j := 5) (by decide)).sz
  refine j_callv (kc' := 2) (ks' := 63) (r := (RJx4a65c, TJx4a65c, 3)) hC (c_lsize K (hS.1.lst (j := 5) (by decide))) dX9_gate_4 wJx4a65c_size_8abf5 lX9_59 i_yJx4a65c_size_8abf5 s_yJx4a65c_size_8abf5 hl1 rfl rfl rfl (nle rfl) rfl (by decide) (by decide) (by decide) (kI fun r w' hp => ?_)
  obtain ⟨rfl, hw⟩ := hp
  rw [hw]
  clear hw w'
  refine J.toI (y := S.1 31 0) (((congrArg nI (vN_e5 S np))).trans hW.1.2.2.2.2.1.1.symm) ?_
  refine j_bipush hC (8) dX9_gate_7 (by decide) ?_
  refine j_icmp_ge hC 20 dX9_gate_9 (by decide) (fun c_9 => ?_) (fun c_9 => ?_)
  · refine j_iconst hC (-1) dX9_gate_20 (by decide) ?_
    rw [CN.full hW.1.2.2.2.2.1 (by decide) 8 (by decide)] at c_9
    have hok : ¬ okG S n0 h0 r0 := fun q => by first | exact q.1 c_9 | exact q.2.1 c_9 | exact q.2.2.1 c_9 | exact q.2.2.2.1 c_9 | exact q.2.2.2.2.1 c_9 | exact q.2.2.2.2.2 c_9 | exact q.2.2 c_9 | exact q.2.2.2 c_9 | exact q.2.2.2.2 c_9 | (rcases w2_z.mp c_9 with z | z | z <;> first | exact q.1 z | exact q.2.1 z | exact q.2.2.1 z | exact q.2.2.2.1 z | exact q.2.2.2.2.1 z | exact q.2.2.2.2.2 z | exact q.2.2 z | exact q.2.2.2 z | exact q.2.2.2.2 z)
    exact j_iret hC hR dX9_gate_21 rfl ⟨_, rfl, by rw [if_neg hok], by rw [if_neg hok]; exact ⟨_, _, _, _, hS.1, hS.2, rfl, hnp⟩⟩
  · refine j_aload_n hC dX9_gate_12 rfl ?_
    refine j_iload_n hC dX9_gate_13 rfl ?_
    refine j_callv (kc' := 2) (ks' := 63) (r := (RX9, TX9, 14)) hC (c_isNode K n0 hS.1 h1) dX9_gate_14 wX9_isNode lX9_94 i_yX9_isNode s_yX9_isNode hS.1.x rfl rfl rfl (nle rfl) rfl (by decide) (by decide) (by decide) (kI fun r w' hp => ?_)
    obtain ⟨rfl, hw⟩ := hp
    rw [hw]
    clear hw w'
    refine j_if_ne hC 22 dX9_gate_17 (by decide) (fun c_17 => ?_) (fun c_17 => ?_)
    · refine j_iload_n hC dX9_gate_22 rfl ?_
      refine j_iconst hC (0) dX9_gate_23 (by decide) ?_
      refine j_ldc hC dX9_gate_24 nX9_108 ?_
      refine j_calls (kc' := 2) (ks' := 63) hC (c_isWithin K h0 0 200000) dX9_gate_26 wX9_isWithin lX9_68 t_yX9_isWithin rfl rfl (nle rfl) rfl (by decide) (by decide) (by decide) (kI fun r w' hp => ?_)
      obtain ⟨rfl, hw⟩ := hp
      rw [hw]
      clear hw w'
      refine j_if_eq hC 42 dX9_gate_29 (by decide) (fun c_29 => ?_) (fun c_29 => ?_)
      · refine j_iconst hC (-1) dX9_gate_42 (by decide) ?_
        have hok : ¬ okG S n0 h0 r0 := fun q => by first | exact q.1 c_29 | exact q.2.1 c_29 | exact q.2.2.1 c_29 | exact q.2.2.2.1 c_29 | exact q.2.2.2.2.1 c_29 | exact q.2.2.2.2.2 c_29 | exact q.2.2 c_29 | exact q.2.2.2 c_29 | exact q.2.2.2.2 c_29 | (rcases w2_z.mp c_29 with z | z | z <;> first | exact q.1 z | exact q.2.1 z | exact q.2.2.1 z | exact q.2.2.2.1 z | exact q.2.2.2.2.1 z | exact q.2.2.2.2.2 z | exact q.2.2 z | exact q.2.2.2 z | exact q.2.2.2.2 z)
        exact j_iret hC hR dX9_gate_43 rfl ⟨_, rfl, by rw [if_neg hok], by rw [if_neg hok]; exact ⟨_, _, _, _, hS.1, hS.2, rfl, hnp⟩⟩
      · refine j_iload_n hC dX9_gate_32 rfl ?_
        refine j_iconst hC (1) dX9_gate_33 (by decide) ?_
        refine j_ldc hC dX9_gate_34 nX9_97 ?_
        refine j_calls (kc' := 2) (ks' := 63) hC (c_isWithin K r0 1 1000000) dX9_gate_36 wX9_isWithin lX9_68 t_yX9_isWithin rfl rfl (nle rfl) rfl (by decide) (by decide) (by decide) (kI fun r w' hp => ?_)
        obtain ⟨rfl, hw⟩ := hp
        rw [hw]
        clear hw w'
        refine j_if_ne hC 44 dX9_gate_39 (by decide) (fun c_39 => ?_) (fun c_39 => ?_)
        · obtain ⟨hk1, hlt1, hx1⟩ := isn h1 c_17
          refine j_aload_n hC dX9_gate_44 rfl ?_
          refine j_get hC cfX9 dX9_gate_45 fX9_25 (by decide) hS.1.x rfl ?_
          refine j_new (kc' := 1) (ks' := 60) (fs := [.null, .long 0, .int 0]) hC cfX2 dX9_gate_48 kX9_109 ibX2 inX2 (fun j hj => by rcases (show j = 0 ∨ j = 1 ∨ j = 2 by omega) with rfl | rfl | rfl <;> rfl) (by decide) (by decide) (fun q48 hq48 => ?_)
          refine j_dup hC dX9_gate_51 rfl ?_
          refine j_aload_n hC dX9_gate_52 rfl ?_
          refine j_get hC cfX9 dX9_gate_53 fX9_10 (by decide) ((wst_n (ne_of hS.1.x hq48)).trans hS.1.x) rfl ?_
          refine j_iload_n hC dX9_gate_56 rfl ?_
          refine J.toI hk1 ?_
          obtain ⟨mc2, hl2⟩ := ((hS.1.fresh hq48 _).lst (j := 1) (by decide)).sz
          refine j_callv (kc' := 1) (ks' := 60) (r := (RJx4a65c, TJx4a65c, 3)) hC (c_get K ((hS.1.fresh hq48 _).lst (j := 1) (by decide)) (by rw [vN_e1]; exact hlt1)) dX9_gate_57 wJx4a65c_get_915e3 lX9_87 i_yJx4a65c_get_915e3 s_yJx4a65c_get_915e3 hl2 rfl rfl rfl (nle rfl) rfl (by decide) (by decide) (by decide) (kA fun r w' hp => ?_)
          obtain ⟨rfl, hw⟩ := hp
          rw [hw]
          clear hw w'
          refine j_cast (r := (RX5, TX5, 8)) hC dX9_gate_60 kX9_72 ((hS.1.fresh hq48 _).node hlt1) rfl ?_
          refine j_iload_n hC dX9_gate_63 rfl ?_
          refine j_iload_n hC dX9_gate_64 rfl ?_
          refine j_calli (kc' := 1) (ks' := 60) hC (c_Gate K h0 r0 (wst_s _ _ _) ((hS.1.fresh hq48 _).node hlt1)) dX9_gate_65 wX2_init lX9_111 i_yX2_init rfl rfl rfl (nle rfl) rfl (by decide) (by decide) (by decide) (kV fun w' hp => ?_)
          rw [hp, wst_wst]
          clear hp w'
          obtain ⟨mc3, hl3⟩ := (hS.1.lst (j := 5) (by decide)).sz
          refine j_callv (kc' := 0) (ks' := 0) (r := (RJx4a65c, TJx4a65c, 3)) hC (c_add K ((hS.1.fresh hq48 _).lst (j := 5) (by decide)) (by rw [vN_e5]; have := hW.1.2.2.2.2.1.2; omega) (hS.1.lq (by decide) hq48) ((hS.1.fresh hq48 _).hel (by decide)) (wst_s _ _ _) rfl (by decide)) dX9_gate_68 wJx4a65c_add_9ea2d lX9_77 i_yJx4a65c_add_9ea2d s_yJx4a65c_add_9ea2d (fresh_none hq48 hl3) rfl rfl rfl (nle rfl) rfl (by decide) (by decide) (by decide) (kI fun r w' hp => ?_)
          obtain ⟨rfl, e', hl', he', hf'⟩ := hp
          obtain ⟨hA2, hF2⟩ := hS.1.gsG hW n0 h0 r0  hq48 hl' he' hf'
          have hx := hA2.x
          simp only [adg_n (k := 0) (show 0 ≠ 5 by decide) (by decide), adg_n (k := 14) (show 14 ≠ 5 by decide) (by decide)] at hx
          refine j_pop hC dX9_gate_71 rfl ?_
          refine j_aload_n hC dX9_gate_72 rfl ?_
          refine j_get hC cfX9 dX9_gate_73 fX9_25 (by decide) hx rfl ?_
          obtain ⟨mc9, hl9⟩ := hl'.sz
          refine j_callv (kc' := 0) (ks' := 0) (r := (RJx4a65c, TJx4a65c, 3)) hC (c_lsize K hl') dX9_gate_76 wJx4a65c_size_8abf5 lX9_59 i_yJx4a65c_size_8abf5 s_yJx4a65c_size_8abf5 hl9 rfl rfl rfl (nle rfl) rfl (by decide) (by decide) (by decide) (kI fun r w2 hp => ?_)
          obtain ⟨rfl, hw⟩ := hp
          rw [hw]
          clear hw w2
          refine j_iconst hC (1) dX9_gate_79 (by decide) ?_
          refine j_isub hC dX9_gate_80 ?_
          have hok : okG S n0 h0 r0 := ⟨fun q => c_9 ((CN.full hW.1.2.2.2.2.1 (by decide) 8 (by decide)).mpr q), c_17, c_29, c_39⟩
          exact j_iret hC hR dX9_gate_81 rfl ⟨_, rfl, by rw [if_pos hok, nI_pred, vN_e5]; exact hW.1.2.2.2.2.1.1.symm, by rw [if_pos hok]; exact ⟨_, _, _, _, hA2, hF2, congrFun (adg_n (by decide) (by decide)) 0, hnp.cong (fun k hk => sG_o n0 h0 r0 k (fun q => by subst q; revert hk; decide) (fun q => by subst q; revert hk; decide) (fun q => by subst q; revert hk; decide) (fun q => by subst q; revert hk; decide))⟩⟩
        · refine j_iconst hC (-1) dX9_gate_42 (by decide) ?_
          have hok : ¬ okG S n0 h0 r0 := fun q => by first | exact q.1 c_39 | exact q.2.1 c_39 | exact q.2.2.1 c_39 | exact q.2.2.2.1 c_39 | exact q.2.2.2.2.1 c_39 | exact q.2.2.2.2.2 c_39 | exact q.2.2 c_39 | exact q.2.2.2 c_39 | exact q.2.2.2.2 c_39 | (rcases w2_z.mp c_39 with z | z | z <;> first | exact q.1 z | exact q.2.1 z | exact q.2.2.1 z | exact q.2.2.2.1 z | exact q.2.2.2.2.1 z | exact q.2.2.2.2.2 z | exact q.2.2 z | exact q.2.2.2 z | exact q.2.2.2.2 z)
          exact j_iret hC hR dX9_gate_43 rfl ⟨_, rfl, by rw [if_neg hok], by rw [if_neg hok]; exact ⟨_, _, _, _, hS.1, hS.2, rfl, hnp⟩⟩
    · refine j_iconst hC (-1) dX9_gate_20 (by decide) ?_
      have hok : ¬ okG S n0 h0 r0 := fun q => by first | exact q.1 c_17 | exact q.2.1 c_17 | exact q.2.2.1 c_17 | exact q.2.2.2.1 c_17 | exact q.2.2.2.2.1 c_17 | exact q.2.2.2.2.2 c_17 | exact q.2.2 c_17 | exact q.2.2.2 c_17 | exact q.2.2.2.2 c_17 | (rcases w2_z.mp c_17 with z | z | z <;> first | exact q.1 z | exact q.2.1 z | exact q.2.2.1 z | exact q.2.2.2.1 z | exact q.2.2.2.2.1 z | exact q.2.2.2.2.2 z | exact q.2.2 z | exact q.2.2.2 z | exact q.2.2.2.2 z)
      exact j_iret hC hR dX9_gate_21 rfl ⟨_, rfl, by rw [if_neg hok], by rw [if_neg hok]; exact ⟨_, _, _, _, hS.1, hS.2, rfl, hnp⟩⟩

set_option maxRecDepth 100000 in
set_option maxHeartbeats 4000000 in
theorem c_gully (K : Kx) {w : Wd} {O : Nat → Prop} {ad : Nat → Nat → Nat} {z : Zx} {np : Nat} {S : Ast} (c0 n0 r0 : Int32) (hA : SA K.2.1 w O ad z np S) (hW : WSt S) (hnp : NP S np)  : MT K mX9_gully 7 2 63 [.ref (ad 0 0), .int c0, .int n0, .int r0] w (PI fun r w' => r = (if okL S c0 n0 r0 then S.1 35 0 else (-1)) ∧ CQ K.2.1 w O (ad 0 0) w' (if okL S c0 n0 r0 then sL S c0 n0 r0 else S)) := by
  refine MT.of [some (.ref (ad 0 0)), some (.int c0), some (.int n0), some (.int r0)] (by decide) rfl (nle rfl) rfl ?_
  intro E hC hR
  have hS := SB.rf hA
  have h1 := hW.1.1
  refine j_aload_n hC dX9_gully_0 rfl ?_
  refine j_get hC cfX9 dX9_gully_1 fX9_28 (by decide) hS.1.x rfl ?_
  obtain ⟨mc1, hl1⟩ := (hS.1.lst (j := 6) (by decide)).sz
  refine j_callv (kc' := 2) (ks' := 63) (r := (RJx4a65c, TJx4a65c, 3)) hC (c_lsize K (hS.1.lst (j := 6) (by decide))) dX9_gully_4 wJx4a65c_size_8abf5 lX9_59 i_yJx4a65c_size_8abf5 s_yJx4a65c_size_8abf5 hl1 rfl rfl rfl (nle rfl) rfl (by decide) (by decide) (by decide) (kI fun r w' hp => ?_)
  obtain ⟨rfl, hw⟩ := hp
  rw [hw]
  clear hw w'
  refine J.toI (y := S.1 35 0) (((congrArg nI (vN_e6 S np))).trans hW.1.2.2.2.2.2.1.symm) ?_
  refine j_bipush hC (8) dX9_gully_7 (by decide) ?_
  refine j_icmp_ge hC 27 dX9_gully_9 (by decide) (fun c_9 => ?_) (fun c_9 => ?_)
  · refine j_iconst hC (-1) dX9_gully_27 (by decide) ?_
    rw [CN.full hW.1.2.2.2.2.2 (by decide) 8 (by decide)] at c_9
    have hok : ¬ okL S c0 n0 r0 := fun q => by first | exact q.1 c_9 | exact q.2.1 c_9 | exact q.2.2.1 c_9 | exact q.2.2.2.1 c_9 | exact q.2.2.2.2.1 c_9 | exact q.2.2.2.2.2 c_9 | exact q.2.2 c_9 | exact q.2.2.2 c_9 | exact q.2.2.2.2 c_9 | (rcases w2_z.mp c_9 with z | z | z <;> first | exact q.1 z | exact q.2.1 z | exact q.2.2.1 z | exact q.2.2.2.1 z | exact q.2.2.2.2.1 z | exact q.2.2.2.2.2 z | exact q.2.2 z | exact q.2.2.2 z | exact q.2.2.2.2 z)
    exact j_iret hC hR dX9_gully_28 rfl ⟨_, rfl, by rw [if_neg hok], by rw [if_neg hok]; exact ⟨_, _, _, _, hS.1, hS.2, rfl, hnp⟩⟩
  · refine j_iload_n hC dX9_gully_12 rfl ?_
    refine j_calls (kc' := 2) (ks' := 63) hC (c_isCell K c0) dX9_gully_13 wX9_isCell lX9_112 t_yX9_isCell rfl rfl (nle rfl) rfl (by decide) (by decide) (by decide) (kI fun r w' hp => ?_)
    obtain ⟨rfl, hw⟩ := hp
    rw [hw]
    clear hw w'
    refine j_if_eq hC 27 dX9_gully_16 (by decide) (fun c_16 => ?_) (fun c_16 => ?_)
    · refine j_iconst hC (-1) dX9_gully_27 (by decide) ?_
      have hok : ¬ okL S c0 n0 r0 := fun q => by first | exact q.1 c_16 | exact q.2.1 c_16 | exact q.2.2.1 c_16 | exact q.2.2.2.1 c_16 | exact q.2.2.2.2.1 c_16 | exact q.2.2.2.2.2 c_16 | exact q.2.2 c_16 | exact q.2.2.2 c_16 | exact q.2.2.2.2 c_16 | (rcases w2_z.mp c_16 with z | z | z <;> first | exact q.1 z | exact q.2.1 z | exact q.2.2.1 z | exact q.2.2.2.1 z | exact q.2.2.2.2.1 z | exact q.2.2.2.2.2 z | exact q.2.2 z | exact q.2.2.2 z | exact q.2.2.2.2 z)
      exact j_iret hC hR dX9_gully_28 rfl ⟨_, rfl, by rw [if_neg hok], by rw [if_neg hok]; exact ⟨_, _, _, _, hS.1, hS.2, rfl, hnp⟩⟩
    · refine j_aload_n hC dX9_gully_19 rfl ?_
      refine j_iload_n hC dX9_gully_20 rfl ?_
      refine j_callv (kc' := 2) (ks' := 63) (r := (RX9, TX9, 14)) hC (c_isNode K n0 hS.1 h1) dX9_gully_21 wX9_isNode lX9_94 i_yX9_isNode s_yX9_isNode hS.1.x rfl rfl rfl (nle rfl) rfl (by decide) (by decide) (by decide) (kI fun r w' hp => ?_)
      obtain ⟨rfl, hw⟩ := hp
      rw [hw]
      clear hw w'
      refine j_if_ne hC 29 dX9_gully_24 (by decide) (fun c_24 => ?_) (fun c_24 => ?_)
      · refine j_iload_n hC dX9_gully_29 rfl ?_
        refine j_iconst hC (1) dX9_gully_30 (by decide) ?_
        refine j_ldc hC dX9_gully_31 nX9_67 ?_
        refine j_calls (kc' := 2) (ks' := 63) hC (c_isWithin K r0 1 100000) dX9_gully_33 wX9_isWithin lX9_68 t_yX9_isWithin rfl rfl (nle rfl) rfl (by decide) (by decide) (by decide) (kI fun r w' hp => ?_)
        obtain ⟨rfl, hw⟩ := hp
        rw [hw]
        clear hw w'
        refine j_if_ne hC 41 dX9_gully_36 (by decide) (fun c_36 => ?_) (fun c_36 => ?_)
        · obtain ⟨hk1, hlt1, hx1⟩ := isn h1 c_24
          refine j_aload_n hC dX9_gully_41 rfl ?_
          refine j_get hC cfX9 dX9_gully_42 fX9_28 (by decide) hS.1.x rfl ?_
          refine j_new (kc' := 1) (ks' := 60) (fs := [.int 0, .null, .int 0]) hC cfX3 dX9_gully_45 kX9_115 ibX3 inX3 (fun j hj => by rcases (show j = 0 ∨ j = 1 ∨ j = 2 by omega) with rfl | rfl | rfl <;> rfl) (by decide) (by decide) (fun q45 hq45 => ?_)
          refine j_dup hC dX9_gully_48 rfl ?_
          refine j_iload_n hC dX9_gully_49 rfl ?_
          refine j_aload_n hC dX9_gully_50 rfl ?_
          refine j_get hC cfX9 dX9_gully_51 fX9_10 (by decide) ((wst_n (ne_of hS.1.x hq45)).trans hS.1.x) rfl ?_
          refine j_iload_n hC dX9_gully_54 rfl ?_
          refine J.toI hk1 ?_
          obtain ⟨mc2, hl2⟩ := ((hS.1.fresh hq45 _).lst (j := 1) (by decide)).sz
          refine j_callv (kc' := 1) (ks' := 60) (r := (RJx4a65c, TJx4a65c, 3)) hC (c_get K ((hS.1.fresh hq45 _).lst (j := 1) (by decide)) (by rw [vN_e1]; exact hlt1)) dX9_gully_55 wJx4a65c_get_915e3 lX9_87 i_yJx4a65c_get_915e3 s_yJx4a65c_get_915e3 hl2 rfl rfl rfl (nle rfl) rfl (by decide) (by decide) (by decide) (kA fun r w' hp => ?_)
          obtain ⟨rfl, hw⟩ := hp
          rw [hw]
          clear hw w'
          refine j_cast (r := (RX5, TX5, 8)) hC dX9_gully_58 kX9_72 ((hS.1.fresh hq45 _).node hlt1) rfl ?_
          refine j_iload_n hC dX9_gully_61 rfl ?_
          refine j_calli (kc' := 1) (ks' := 60) hC (c_Gully K c0 r0 (wst_s _ _ _)) dX9_gully_62 wX3_init lX9_117 i_yX3_init rfl rfl rfl (nle rfl) rfl (by decide) (by decide) (by decide) (kV fun w' hp => ?_)
          rw [hp, wst_wst]
          clear hp w'
          obtain ⟨mc3, hl3⟩ := (hS.1.lst (j := 6) (by decide)).sz
          refine j_callv (kc' := 0) (ks' := 0) (r := (RJx4a65c, TJx4a65c, 3)) hC (c_add K ((hS.1.fresh hq45 _).lst (j := 6) (by decide)) (by rw [vN_e6]; have := hW.1.2.2.2.2.2.2; omega) (hS.1.lq (by decide) hq45) ((hS.1.fresh hq45 _).hel (by decide)) (wst_s _ _ _) rfl (by decide)) dX9_gully_65 wJx4a65c_add_9ea2d lX9_77 i_yJx4a65c_add_9ea2d s_yJx4a65c_add_9ea2d (fresh_none hq45 hl3) rfl rfl rfl (nle rfl) rfl (by decide) (by decide) (by decide) (kI fun r w' hp => ?_)
          obtain ⟨rfl, e', hl', he', hf'⟩ := hp
          obtain ⟨hA2, hF2⟩ := hS.1.gsL hW c0 n0 r0  hq45 hl' he' hf'
          have hx := hA2.x
          simp only [adg_n (k := 0) (show 0 ≠ 6 by decide) (by decide), adg_n (k := 14) (show 14 ≠ 6 by decide) (by decide)] at hx
          refine j_pop hC dX9_gully_68 rfl ?_
          refine j_aload_n hC dX9_gully_69 rfl ?_
          refine j_get hC cfX9 dX9_gully_70 fX9_28 (by decide) hx rfl ?_
          obtain ⟨mc9, hl9⟩ := hl'.sz
          refine j_callv (kc' := 0) (ks' := 0) (r := (RJx4a65c, TJx4a65c, 3)) hC (c_lsize K hl') dX9_gully_73 wJx4a65c_size_8abf5 lX9_59 i_yJx4a65c_size_8abf5 s_yJx4a65c_size_8abf5 hl9 rfl rfl rfl (nle rfl) rfl (by decide) (by decide) (by decide) (kI fun r w2 hp => ?_)
          obtain ⟨rfl, hw⟩ := hp
          rw [hw]
          clear hw w2
          refine j_iconst hC (1) dX9_gully_76 (by decide) ?_
          refine j_isub hC dX9_gully_77 ?_
          have hok : okL S c0 n0 r0 := ⟨fun q => c_9 ((CN.full hW.1.2.2.2.2.2 (by decide) 8 (by decide)).mpr q), c_16, c_24, c_36⟩
          exact j_iret hC hR dX9_gully_78 rfl ⟨_, rfl, by rw [if_pos hok, nI_pred, vN_e6]; exact hW.1.2.2.2.2.2.1.symm, by rw [if_pos hok]; exact ⟨_, _, _, _, hA2, hF2, congrFun (adg_n (by decide) (by decide)) 0, hnp.cong (fun k hk => sL_o c0 n0 r0 k (fun q => by subst q; revert hk; decide) (fun q => by subst q; revert hk; decide) (fun q => by subst q; revert hk; decide) (fun q => by subst q; revert hk; decide))⟩⟩
        · refine j_iconst hC (-1) dX9_gully_39 (by decide) ?_
          have hok : ¬ okL S c0 n0 r0 := fun q => by first | exact q.1 c_36 | exact q.2.1 c_36 | exact q.2.2.1 c_36 | exact q.2.2.2.1 c_36 | exact q.2.2.2.2.1 c_36 | exact q.2.2.2.2.2 c_36 | exact q.2.2 c_36 | exact q.2.2.2 c_36 | exact q.2.2.2.2 c_36 | (rcases w2_z.mp c_36 with z | z | z <;> first | exact q.1 z | exact q.2.1 z | exact q.2.2.1 z | exact q.2.2.2.1 z | exact q.2.2.2.2.1 z | exact q.2.2.2.2.2 z | exact q.2.2 z | exact q.2.2.2 z | exact q.2.2.2.2 z)
          exact j_iret hC hR dX9_gully_40 rfl ⟨_, rfl, by rw [if_neg hok], by rw [if_neg hok]; exact ⟨_, _, _, _, hS.1, hS.2, rfl, hnp⟩⟩
      · refine j_iconst hC (-1) dX9_gully_27 (by decide) ?_
        have hok : ¬ okL S c0 n0 r0 := fun q => by first | exact q.1 c_24 | exact q.2.1 c_24 | exact q.2.2.1 c_24 | exact q.2.2.2.1 c_24 | exact q.2.2.2.2.1 c_24 | exact q.2.2.2.2.2 c_24 | exact q.2.2 c_24 | exact q.2.2.2 c_24 | exact q.2.2.2.2 c_24 | (rcases w2_z.mp c_24 with z | z | z <;> first | exact q.1 z | exact q.2.1 z | exact q.2.2.1 z | exact q.2.2.2.1 z | exact q.2.2.2.2.1 z | exact q.2.2.2.2.2 z | exact q.2.2 z | exact q.2.2.2 z | exact q.2.2.2.2 z)
        exact j_iret hC hR dX9_gully_28 rfl ⟨_, rfl, by rw [if_neg hok], by rw [if_neg hok]; exact ⟨_, _, _, _, hS.1, hS.2, rfl, hnp⟩⟩

