
def itn {α : Type} (f : Nat → α → α) : Nat → α → α
  | 0, s => s
  | n + 1, s => f n (itn f n s)
def fLev (S : Ast) (k : Nat) : Ast := uJ S 9 k (lvl S k)
/-- the minute of a second -/
def mn (S : Ast) : Nat := (S.1 40 0 / 60).toNatClampNeg
def q1 (S : Ast) : Ast := itn (fun k T => fRain T k (mn S)) (cn S 18) S
def q2 (S : Ast) : Ast := itn (fun k T => fLev T k) (cn S 1) (q1 S)
def q3 (S : Ast) : Ast := itn (fun k T => fFlow T k) (cn S 10) (q2 S)
def q4 (S : Ast) : Ast := itn (fun k T => fPump T k) (cn S 24) (q3 S)
def q5 (S : Ast) : Ast := itn (fun k T => fGate T k) (cn S 31) (q4 S)
def q6 (S : Ast) : Ast := itn (fun k T => fGully T k) (cn S 35) (q5 S)
def q7 (S : Ast) : Ast := itn (fun k T => fNode T k) (cn S 1) (q6 S)
def fSec (S : Ast) : Ast := uI (q7 S) 40 0 (S.1 40 0 + 1)
def fRun (S : Ast) (n : Nat) : Ast := itn (fun _ T => fSec T) n S
theorem itn_1 {f : Nat → Ast → Ast} (h : ∀ k T, (f k T).1 = T.1) (n : Nat) (S : Ast) : (itn f n S).1 = S.1 := by
  induction n with
  | zero => rfl
  | succ n ih => exact (h n _).trans ih
theorem fNode_1 (S : Ast) (k : Nat) : (fNode S k).1 = S.1 := by
  unfold fNode
  split <;> rfl
theorem q1_1 (S : Ast) : (q1 S).1 = S.1 := itn_1 (f := fun k T => fRain T k (mn S)) (fun _ _ => rfl) _ _
theorem q2_1 (S : Ast) : (q2 S).1 = S.1 := (itn_1 (f := fun k T => fLev T k) (fun _ _ => rfl) _ _).trans (q1_1 S)
theorem q3_1 (S : Ast) : (q3 S).1 = S.1 := (itn_1 (f := fun k T => fFlow T k) (fun _ _ => rfl) _ _).trans (q2_1 S)
theorem itP_1 (n : Nat) (S : Ast) {j : Nat} (hj : j ≠ 30) : (itn (fun k T => fPump T k) n S).1 j = S.1 j := by
  induction n with
  | zero => rfl
  | succ n ih => exact (uI_1n hj).trans ih
theorem q4_1 (S : Ast) {j : Nat} (hj : j ≠ 30) : (q4 S).1 j = S.1 j := by
  unfold q4
  rw [itP_1 _ _ hj, q3_1]
theorem q5_1 (S : Ast) {j : Nat} (hj : j ≠ 30) : (q5 S).1 j = S.1 j := by
  unfold q5
  rw [itn_1 (f := fun k T => fGate T k) (fun _ _ => rfl), q4_1 S hj]
theorem q6_1 (S : Ast) {j : Nat} (hj : j ≠ 30) : (q6 S).1 j = S.1 j := by
  unfold q6
  rw [itn_1 (f := fun k T => fGully T k) (fun _ _ => rfl), q5_1 S hj]
theorem q7_1 (S : Ast) {j : Nat} (hj : j ≠ 30) : (q7 S).1 j = S.1 j := by
  unfold q7
  rw [itn_1 (fun k T => fNode_1 T k), q6_1 S hj]
theorem fSec_1 (S : Ast) {j : Nat} (hj : j ≠ 30) (h4 : j ≠ 40) : (fSec S).1 j = S.1 j := by
  unfold fSec
  rw [uI_1n h4, q7_1 S hj]
theorem fSec_40 (S : Ast) : (fSec S).1 40 0 = S.1 40 0 + 1 := uI_at
theorem fRun_1 (S : Ast) (n : Nat) {j : Nat} (hj : j ≠ 30) (h4 : j ≠ 40) : (fRun S n).1 j = S.1 j := by
  induction n with
  | zero => rfl
  | succ n ih => exact (fSec_1 _ hj h4).trans ih
theorem fRun_40 (S : Ast) {s : Nat} (h : S.1 40 0 = nI s) (n : Nat) : (fRun S n).1 40 0 = nI (s + n) := by
  induction n with
  | zero => exact h
  | succ n ih =>
    show (fSec (fRun S n)).1 40 0 = _
    rw [fSec_40, ih, nI_1]
    rfl
def rg (v : Int32) (lo hi : Int) : Prop := lo ≤ v.toInt ∧ v.toInt ≤ hi
def nodeOK (S : Ast) (i : Nat) : Prop := rg (S.1 2 i) (-100000) 100000 ∧ rg (S.1 3 i) (-100000) 100000 ∧ (S.1 3 i).toInt < (S.1 2 i).toInt ∧ rg (S.1 4 i) 1 100000 ∧ (S.1 5 i = -1 ∨ ix (S.1 5 i) 8 (S.1 5 i).toNatClampNeg)
def pipeOK (S : Ast) (i : Nat) : Prop := nd S (S.1 11 i) ∧ nd S (S.1 12 i) ∧ (S.1 12 i).toNatClampNeg ≠ (S.1 11 i).toNatClampNeg ∧ rg (S.1 13 i) 1 10000 ∧ rg (S.1 14 i) 10 3000
def areaOK (S : Ast) (i : Nat) : Prop := nd S (S.1 19 i) ∧ rg (S.1 20 i) 1 1000000 ∧ rg (S.1 21 i) 0 1000
def pumpOK (S : Ast) (i : Nat) : Prop := nd S (S.1 25 i) ∧ nd S (S.1 26 i) ∧ (S.1 26 i).toNatClampNeg ≠ (S.1 25 i).toNatClampNeg ∧ rg (S.1 29 i) 1 100000
def gateOK (S : Ast) (i : Nat) : Prop := nd S (S.1 32 i) ∧ rg (S.1 33 i) 0 200000 ∧ rg (S.1 34 i) 1 1000000
def gullyOK (S : Ast) (i : Nat) : Prop := ix (S.1 36 i) 8 (S.1 36 i).toNatClampNeg ∧ nd S (S.1 37 i) ∧ rg (S.1 38 i) 1 100000
/-- what the drains' whole numbers are -/
def WSt (S : Ast) : Prop := (CN S 1 24 ∧ CN S 10 40 ∧ CN S 18 24 ∧ CN S 24 8 ∧ CN S 31 8 ∧ CN S 35 8) ∧ (∀ i, i < cn S 1 → nodeOK S i) ∧ (∀ i, i < cn S 10 → pipeOK S i) ∧ (∀ i, i < cn S 18 → areaOK S i) ∧ (∀ i, i < cn S 24 → pumpOK S i) ∧ (∀ i, i < cn S 31 → gateOK S i) ∧ (∀ i, i < cn S 35 → gullyOK S i) ∧ (∀ i, i < 1440 → rg (S.1 23 i) 0 20000)
theorem WSt.cong {S T : Ast} (h : ∀ k, k ≠ 30 → k ≠ 40 → T.1 k = S.1 k) (hS : WSt S) : WSt T := by

  have e1 := h 1 (by decide) (by decide)
  have e10 := h 10 (by decide) (by decide)
  have e18 := h 18 (by decide) (by decide)
  have e24 := h 24 (by decide) (by decide)
  have e31 := h 31 (by decide) (by decide)
  have e35 := h 35 (by decide) (by decide)
  have e2 := h 2 (by decide) (by decide)
  have e3 := h 3 (by decide) (by decide)
  have e4 := h 4 (by decide) (by decide)
  have e5 := h 5 (by decide) (by decide)
  have e11 := h 11 (by decide) (by decide)
  have e12 := h 12 (by decide) (by decide)
  have e13 := h 13 (by decide) (by decide)
  have e14 := h 14 (by decide) (by decide)
  have e19 := h 19 (by decide) (by decide)
  have e20 := h 20 (by decide) (by decide)
  have e21 := h 21 (by decide) (by decide)
  have e23 := h 23 (by decide) (by decide)
  have e25 := h 25 (by decide) (by decide)
  have e26 := h 26 (by decide) (by decide)
  have e29 := h 29 (by decide) (by decide)
  have e32 := h 32 (by decide) (by decide)
  have e33 := h 33 (by decide) (by decide)
  have e34 := h 34 (by decide) (by decide)
  have e36 := h 36 (by decide) (by decide)
  have e37 := h 37 (by decide) (by decide)
  have e38 := h 38 (by decide) (by decide)
  simp only [WSt, CN, cn, nd, nodeOK, pipeOK, areaOK, pumpOK, gateOK, gullyOK, e1, e10, e18, e24, e31, e35, e2, e3, e4, e5, e11, e12, e13, e14, e19, e20, e21, e23, e25, e26, e29, e32, e33, e34, e36, e37, e38] at hS ⊢
  exact hS

theorem WSt.run {S : Ast} (h : WSt S) (n : Nat) : WSt (fRun S n) := h.cong (fun k h1 h2 => fRun_1 S n h1 h2)
theorem i64_ne {v : Int32} (h : v.toInt ≠ 0) : ¬ v.toInt64 = 0 := by
  intro q
  apply h
  rw [← Int32.toInt_toInt64, q]
  decide
theorem i64_pos {v : Int32} (h : 0 < v.toInt) : 0 < v.toInt64 := by
  rw [Int64.lt_iff_toInt_lt, Int32.toInt_toInt64, l0]
  exact h
theorem i64_nn {v : Int32} (h : 0 ≤ v.toInt) : 0 ≤ v.toInt64 := by
  rw [Int64.le_iff_toInt_le, Int32.toInt_toInt64, l0]
  exact h
theorem bmod_id {x : Int} (h1 : -9223372036854775808 ≤ x) (h2 : x < 9223372036854775808) : x.bmod (2 ^ 64) = x := by
  apply Int.bmod_eq_of_le <;> omega
theorem l_mul {a b : Int64} (h1 : -9223372036854775808 ≤ a.toInt * b.toInt) (h2 : a.toInt * b.toInt < 9223372036854775808) : (a * b).toInt = a.toInt * b.toInt := by
  rw [Int64.toInt_mul, bmod_id h1 h2]
theorem l_add {a b : Int64} (h1 : -9223372036854775808 ≤ a.toInt + b.toInt) (h2 : a.toInt + b.toInt < 9223372036854775808) : (a + b).toInt = a.toInt + b.toInt := by
  rw [Int64.toInt_add, bmod_id h1 h2]
theorem l_sub {a b : Int64} (h1 : -9223372036854775808 ≤ a.toInt - b.toInt) (h2 : a.toInt - b.toInt < 9223372036854775808) : (a - b).toInt = a.toInt - b.toInt := by
  rw [Int64.toInt_sub, bmod_id h1 h2]
theorem l1000 : (1000 : Int64).toInt = 1000 := by decide
theorem wB_int {S : Ast} {k : Nat} (h : rg (S.1 13 k) 1 10000) : (wB S k).toInt = 1000 * (S.1 13 k).toInt := by
  unfold wB
  have h1 := h.1
  have h2 := h.2
  rw [l_mul] <;> rw [l1000, Int32.toInt_toInt64] <;> omega
theorem wB_ne {S : Ast} {k : Nat} (h : rg (S.1 13 k) 1 10000) : ¬ wB S k = 0 := by
  intro q
  have h1 := wB_int h
  rw [q, l0] at h1
  have := h.1
  omega
theorem WSt.ro {S : Ast} (h : WSt S) {i : Nat} (hi : i < cn S 1) : ¬ (S.1 4 i).toInt64 = 0 := by
  apply i64_ne
  have := (h.2.1 i hi).2.2.2.1.1
  omega
/-- the cells hold no less than nothing -/
def NVc (S : Ast) : Prop := ∀ c, c < 8 → 0 ≤ S.2 39 c
theorem gTake_in {ra hd lf : Int64} (hr : 0 ≤ ra) (hh : 0 ≤ hd) : 0 ≤ gTake ra hd lf ∧ gTake ra hd lf ≤ hd := by
  have h2 := Int64.le_iff_toInt_le.mp hr
  have h3 := Int64.le_iff_toInt_le.mp hh
  rw [l0] at h2 h3
  rw [Int64.le_iff_toInt_le, Int64.le_iff_toInt_le, l0]
  unfold gTake
  have hq : 0 ≤ (if hd < ra then hd else ra).toInt ∧ (if hd < ra then hd else ra).toInt ≤ hd.toInt := by
    by_cases h4 : hd < ra
    · rw [if_pos h4]; omega
    · rw [if_neg h4]
      have := Int64.le_iff_toInt_le.mp (Int64.not_lt.mp h4)
      omega
  generalize (if hd < ra then hd else ra) = q at hq
  have hl : 0 ≤ (if lf < 0 then 0 else lf).toInt := by
    by_cases h4 : lf < 0
    · rw [if_pos h4, l0]; omega
    · rw [if_neg h4]
      have := Int64.le_iff_toInt_le.mp (Int64.not_lt.mp h4)
      rw [l0] at this
      exact this
  generalize (if lf < 0 then 0 else lf) = p at hl
  by_cases h5 : p < q
  · rw [if_pos h5]
    have := Int64.lt_iff_toInt_lt.mp h5
    omega
  · rw [if_neg h5]; exact hq
theorem NVc.gully {S : Ast} {k : Nat} (h : NVc S) (hk : gullyOK S k) : NVc (fGully S k) := by
  have hc : (S.1 36 k).toNatClampNeg < 8 := Nat.not_le.mp fun q => hk.1.1 (Or.inr q)
  have hr : 0 ≤ (S.1 38 k).toInt64 := i64_nn (by have := hk.2.2.1; omega)
  intro c hc8
  unfold fGully
  rw [uJ_2n (by decide)]
  by_cases he : c = (S.1 36 k).toNatClampNeg
  · rw [he, uJ_at]
    obtain ⟨h1, h2⟩ := gTake_in (lf := ful S (S.1 37 k).toNatClampNeg - S.2 6 (S.1 37 k).toNatClampNeg) hr (h _ hc)
    have h3 := h _ hc
    rw [Int64.le_iff_toInt_le] at h1 h2 h3 ⊢
    rw [l0] at h1 h3 ⊢
    show 0 ≤ (S.2 39 _ - gTake _ _ _).toInt
    have := Int64.toInt_lt (S.2 39 (S.1 36 k).toNatClampNeg)
    rw [l_sub] <;> omega
  · rw [uJ_i he]; exact h c hc8
theorem it_39 {f : Nat → Ast → Ast} (h : ∀ k T, (f k T).2 39 = T.2 39) (n : Nat) (S : Ast) : (itn f n S).2 39 = S.2 39 := by
  induction n with
  | zero => rfl
  | succ n ih => exact (h n _).trans ih
theorem q5_39 (S : Ast) : (q5 S).2 39 = S.2 39 := by
  unfold q5 q4 q3 q2 q1
  rw [it_39 (fun k T => ?_), it_39 (fun k T => ?_), it_39 (fun k T => ?_), it_39 (fun k T => ?_), it_39 (fun k T => ?_)]
  · unfold fRain; rw [uJ_2n (by decide), uJ_2n (by decide), uJ_2n (by decide)]
  · unfold fLev; rw [uJ_2n (by decide)]
  · unfold fFlow; rw [uJ_2n (by decide), uJ_2n (by decide), uJ_2n (by decide), uJ_2n (by decide), uJ_2n (by decide)]
  · unfold fPump; rw [uJ_2n (by decide), uJ_2n (by decide)]; rfl
  · unfold fGate; rw [uJ_2n (by decide), uJ_2n (by decide), uJ_2n (by decide)]

