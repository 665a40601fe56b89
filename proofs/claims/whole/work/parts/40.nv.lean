
def smI (f : Nat → Int64) : Nat → Int
  | 0 => 0
  | n + 1 => smI f n + (f n).toInt
theorem smI_s (f : Nat → Int64) (n : Nat) : smI f (n + 1) = smI f n + (f n).toInt := rfl
theorem smI_ge (f : Nat → Int64) (i : Nat) (v : Int64) : ∀ n, n ≤ i → smI (va_up f i v) n = smI f n
  | 0, _ => rfl
  | n + 1, h => by rw [smI_s, smI_s, smI_ge f i v n (by omega), va_up_ne _ _ (by omega)]
theorem smI_up (f : Nat → Int64) (i : Nat) (v : Int64) : ∀ n, i < n → smI (va_up f i v) n = smI f n - (f i).toInt + v.toInt
  | 0, h => by omega
  | n + 1, h => by
    rw [smI_s, smI_s]
    by_cases hi : i = n
    · subst hi
      rw [smI_ge f i v i (Nat.le_refl _), va_up_self]
      omega
    · rw [smI_up f i v n (by omega), va_up_ne _ _ (by omega)]
      omega
theorem smI_nn (f : Nat → Int64) : ∀ n, (∀ i, i < n → 0 ≤ (f i).toInt) → 0 ≤ smI f n
  | 0, _ => Int.le_refl _
  | n + 1, h => by
    have h1 := smI_nn f n (fun i hi => h i (by omega))
    have h2 := h n (by omega)
    rw [smI_s]
    omega
theorem smI_le (f : Nat → Int64) : ∀ n, (∀ i, i < n → 0 ≤ (f i).toInt) → ∀ i, i < n → (f i).toInt ≤ smI f n
  | 0, _, i, hi => by omega
  | n + 1, h, i, hi => by
    rw [smI_s]
    by_cases hin : i = n
    · subst hin
      have := smI_nn f i (fun j hj => h j (by omega))
      omega
    · have := smI_le f n (fun j hj => h j (by omega)) i (by omega)
      have h2 := h n (by omega)
      omega
/-- no litre is less than nothing; all of them are at most B -/
def NV (S : Ast) (B : Int) : Prop := (∀ i, i < cn S 1 → 0 ≤ (S.2 6 i).toInt) ∧ (∀ c, c < 8 → 0 ≤ (S.2 39 c).toInt) ∧ (∀ k, k < cn S 18 → 0 ≤ (S.2 22 k).toInt ∧ (S.2 22 k).toInt < 60000000) ∧ smI (S.2 6) (cn S 1) + smI (S.2 39) 8 ≤ B
theorem NV.c {S : Ast} {B : Int} (h : NV S B) : NVc S := fun c hc => Int64.le_iff_toInt_le.mpr (by rw [l0]; exact h.2.1 c hc)
theorem NV.w {S : Ast} {B : Int} (h : NV S B) {i : Nat} (hi : i < cn S 1) : 0 ≤ (S.2 6 i).toInt ∧ (S.2 6 i).toInt ≤ B := by
  have h1 := smI_le (S.2 6) (cn S 1) h.1 i hi
  have h2 := smI_nn (S.2 39) 8 h.2.1
  have h3 := h.2.2.2
  exact ⟨h.1 i hi, by omega⟩
theorem NV.e {S : Ast} {B : Int} (h : NV S B) {c : Nat} (hc : c < 8) : 0 ≤ (S.2 39 c).toInt ∧ (S.2 39 c).toInt ≤ B := by
  have h1 := smI_le (S.2 39) 8 h.2.1 c hc
  have h2 := smI_nn (S.2 6) (cn S 1) h.1
  have h3 := h.2.2.2
  exact ⟨h.2.1 c hc, by omega⟩
theorem NV.mono {S : Ast} {B B' : Int} (h : NV S B) (hb : B ≤ B') : NV S B' := ⟨h.1, h.2.1, h.2.2.1, by have := h.2.2.2; omega⟩
theorem NV.cong {S T : Ast} {B : Int} (h : NV S B) (e1 : T.1 1 = S.1 1) (e18 : T.1 18 = S.1 18) (e6 : T.2 6 = S.2 6) (e39 : T.2 39 = S.2 39) (e22 : T.2 22 = S.2 22) : NV T B := by
  unfold NV cn
  rw [e1, e18, e6, e39, e22]
  exact h
/-- two nodes' litres change, their sum doesn't -/
theorem NV.two {S T : Ast} {B : Int} (h : NV S B) {a b : Nat} {x y : Int64} (e1 : T.1 1 = S.1 1) (e18 : T.1 18 = S.1 18) (e6 : T.2 6 = va_up (va_up (S.2 6) a x) b y) (e39 : T.2 39 = S.2 39) (e22 : T.2 22 = S.2 22) (ha : a < cn S 1) (hb : b < cn S 1) (hab : b ≠ a) (hx : 0 ≤ x.toInt) (hy : 0 ≤ y.toInt) (hs : x.toInt + y.toInt = (S.2 6 a).toInt + (S.2 6 b).toInt) : NV T B := by
  obtain ⟨h1, h2, h3, h4⟩ := h
  have c1 : cn T 1 = cn S 1 := by unfold cn; rw [e1]
  have c18 : cn T 18 = cn S 18 := by unfold cn; rw [e18]
  refine ⟨fun i hi => ?_, by rw [e39]; exact h2, by rw [c18, e22]; exact h3, ?_⟩
  · rw [c1] at hi
    rw [e6]
    by_cases q1 : i = b
    · subst q1; rw [va_up_self]; exact hy
    · rw [va_up_ne _ _ q1]
      by_cases q2 : i = a
      · subst q2; rw [va_up_self]; exact hx
      · rw [va_up_ne _ _ q2]; exact h1 i hi
  · rw [c1, e6, e39, smI_up _ _ _ _ hb, smI_up _ _ _ _ ha, va_up_ne _ _ hab]
    omega
/-- one node's litres and one cell's change -/
theorem NV.one {S T : Ast} {B B' : Int} (h : NV S B) {a c : Nat} {x y : Int64} (e1 : T.1 1 = S.1 1) (e18 : T.1 18 = S.1 18) (e6 : T.2 6 = va_up (S.2 6) a x) (e39 : T.2 39 = va_up (S.2 39) c y) (e22 : T.2 22 = S.2 22) (ha : a < cn S 1) (hc : c < 8) (hx : 0 ≤ x.toInt) (hy : 0 ≤ y.toInt) (hs : x.toInt + y.toInt ≤ (S.2 6 a).toInt + (S.2 39 c).toInt) : NV T B := by
  obtain ⟨h1, h2, h3, h4⟩ := h
  have c1 : cn T 1 = cn S 1 := by unfold cn; rw [e1]
  have c18 : cn T 18 = cn S 18 := by unfold cn; rw [e18]
  refine ⟨fun i hi => ?_, fun i hi => ?_, by rw [c18, e22]; exact h3, ?_⟩
  · rw [c1] at hi
    rw [e6]
    by_cases q1 : i = a
    · subst q1; rw [va_up_self]; exact hx
    · rw [va_up_ne _ _ q1]; exact h1 i hi
  · rw [e39]
    by_cases q1 : i = c
    · subst q1; rw [va_up_self]; exact hy
    · rw [va_up_ne _ _ q1]; exact h2 i hi
  · rw [c1, e6, e39, smI_up _ _ _ _ ha, smI_up _ _ _ _ hc]
    omega
/-- one node's litres and one area's rest change -/
theorem NV.nod {S T : Ast} {B : Int} (h : NV S B) {a k : Nat} {x r : Int64} {d : Int} (e1 : T.1 1 = S.1 1) (e18 : T.1 18 = S.1 18) (e6 : T.2 6 = va_up (S.2 6) a x) (e39 : T.2 39 = S.2 39) (e22 : T.2 22 = va_up (S.2 22) k r) (ha : a < cn S 1) (hx : 0 ≤ x.toInt) (hs : x.toInt ≤ (S.2 6 a).toInt + d) (hr : 0 ≤ r.toInt ∧ r.toInt < 60000000) : NV T (B + d) := by
  obtain ⟨h1, h2, h3, h4⟩ := h
  have c1 : cn T 1 = cn S 1 := by unfold cn; rw [e1]
  have c18 : cn T 18 = cn S 18 := by unfold cn; rw [e18]
  refine ⟨fun i hi => ?_, by rw [e39]; exact h2, fun j hj => ?_, ?_⟩
  · rw [c1] at hi
    rw [e6]
    by_cases q1 : i = a
    · subst q1; rw [va_up_self]; exact hx
    · rw [va_up_ne _ _ q1]; exact h1 i hi
  · rw [c18] at hj
    rw [e22]
    by_cases q1 : j = k
    · subst q1; rw [va_up_self]; exact hr
    · rw [va_up_ne _ _ q1]; exact h3 j hj
  · rw [c1, e6, e39, smI_up _ _ _ _ ha]
    omega
theorem tdiv_rg {a b : Int} (hb : 1000 ≤ b) (h1 : -9223372036854775808 ≤ a) (h2 : a < 9223372036854775808) : -4611686018427387904 ≤ a.tdiv b ∧ a.tdiv b < 9223372036854775808 := by
  by_cases ha : 0 ≤ a
  · rw [Int.tdiv_eq_ediv_of_nonneg ha]
    have q1 : 0 ≤ a / b := Int.ediv_nonneg ha (by omega)
    have q2 : a / b ≤ a := Int.ediv_le_self _ ha
    omega
  · obtain ⟨m, hm⟩ : ∃ m, a = -m := ⟨-a, by omega⟩
    subst hm
    rw [Int.neg_tdiv, Int.tdiv_eq_ediv_of_nonneg (by omega)]
    have q1 : 0 ≤ m / b := Int.ediv_nonneg (by omega) (by omega)
    have q2 : m / b < 4611686018427387904 := (Int.ediv_lt_iff_lt_mul (by omega)).mpr (by omega)
    omega
theorem l_neg {a : Int64} (h : -9223372036854775808 < a.toInt) : (-a).toInt = -a.toInt := by
  have := Int64.toInt_lt a
  rw [Int64.toInt_neg, bmod_id (by omega) (by omega)]
theorem pMv_rg {x a b : Int64} (ha : 0 ≤ a.toInt) (hb : 0 ≤ b.toInt) (hx : -4611686018427387904 ≤ x.toInt) : -b.toInt ≤ (pMv x a b).toInt ∧ (pMv x a b).toInt ≤ a.toInt := by
  have hn := l_neg (a := x) (by omega)
  have hbl := Int64.toInt_lt b
  unfold pMv
  by_cases h0 : x < 0
  · rw [if_pos h0]
    rw [Int64.lt_iff_toInt_lt, l0] at h0
    have hq : 0 ≤ (if b < -x then b else -x).toInt ∧ (if b < -x then b else -x).toInt ≤ b.toInt := by
      by_cases h1 : b < -x
      · rw [if_pos h1]; omega
      · rw [if_neg h1]
        rw [Int64.lt_iff_toInt_lt] at h1
        omega
    rw [l_neg (by omega)]
    omega
  · rw [if_neg h0]
    rw [Int64.lt_iff_toInt_lt, l0] at h0
    by_cases h1 : a < x
    · rw [if_pos h1]; omega
    · rw [if_neg h1]
      rw [Int64.lt_iff_toInt_lt] at h1
      omega
theorem pGv_rg {io : Int32} {ra li : Int64} (hr : 0 ≤ ra.toInt) (hl : 0 ≤ li.toInt) : 0 ≤ (pGv io ra li).toInt ∧ (pGv io ra li).toInt ≤ li.toInt := by
  unfold pGv
  split
  · rw [l0]; omega
  · split
    · omega
    · rename_i h
      rw [Int64.lt_iff_toInt_lt] at h
      omega
theorem gOut_rg {ra ab : Int64} : 0 ≤ (gOut ra ab).toInt ∧ ((gOut ra ab).toInt = 0 ∨ (gOut ra ab).toInt ≤ ab.toInt) := by
  unfold gOut
  by_cases h2 : ab < ra
  · rw [if_pos h2]
    by_cases h : ab < 0
    · rw [if_pos h, l0]; omega
    · rw [if_neg h]
      rw [Int64.lt_iff_toInt_lt, l0] at h
      omega
  · rw [if_neg h2]
    rw [Int64.lt_iff_toInt_lt] at h2
    by_cases h : ra < 0
    · rw [if_pos h, l0]; omega
    · rw [if_neg h]
      rw [Int64.lt_iff_toInt_lt, l0] at h
      omega
theorem rain_q {X : Int} (h0 : 0 ≤ X) (h1 : X < 20000060000000) : 0 ≤ X / 60000000 ∧ X / 60000000 ≤ 333335 ∧ 0 ≤ X - X / 60000000 * 60000000 ∧ X - X / 60000000 * 60000000 < 60000000 := by omega
theorem nd_lt {S : Ast} {v : Int32} (h : nd S v) : v.toNatClampNeg < cn S 1 := h.2
def BIG : Int := 1000000000000
theorem NV.flow {S : Ast} {B : Int} (h : NV S B) (hB : B ≤ BIG) {k : Nat} (hk : pipeOK S k) : NV (fFlow S k) B := by
  unfold BIG at hB
  have hf := hk.1.2
  have ht := hk.2.1.2
  have h1 := h.w hf
  have h2 := h.w ht
  have hb := wB_int hk.2.2.2.1
  have hb1 := hk.2.2.2.1.1
  have hb2 := hk.2.2.2.1.2
  have hq : -4611686018427387904 ≤ (wR S k / wB S k).toInt := by
    have q := tdiv_rg (a := (wR S k).toInt) (b := (wB S k).toInt) (by omega) (Int64.le_toInt _) (Int64.toInt_lt _)
    rw [Int64.toInt_div, bmod_id (by omega) q.2]
    exact q.1
  have hm : -(S.2 6 (S.1 12 k).toNatClampNeg).toInt ≤ (wM S k).toInt ∧ (wM S k).toInt ≤ (S.2 6 (S.1 11 k).toNatClampNeg).toInt := pMv_rg h1.1 h2.1 hq
  have hx : (S.2 6 (S.1 11 k).toNatClampNeg - wM S k).toInt = (S.2 6 (S.1 11 k).toNatClampNeg).toInt - (wM S k).toInt := l_sub (by omega) (by omega)
  have hy : (S.2 6 (S.1 12 k).toNatClampNeg + wM S k).toInt = (S.2 6 (S.1 12 k).toNatClampNeg).toInt + (wM S k).toInt := l_add (by omega) (by omega)
  refine h.two (a := (S.1 11 k).toNatClampNeg) (b := (S.1 12 k).toNatClampNeg) (x := S.2 6 (S.1 11 k).toNatClampNeg - wM S k) (y := S.2 6 (S.1 12 k).toNatClampNeg + wM S k) rfl rfl ?_ ?_ ?_ hf ht hk.2.2.1 (by omega) (by omega) (by omega)
  · unfold fFlow; rw [uJ_2n (by decide), uJ_2n (by decide), uJ_2s, uJ_2s, uJ_2n (by decide)]
  · unfold fFlow; rw [uJ_2n (by decide), uJ_2n (by decide), uJ_2n (by decide), uJ_2n (by decide), uJ_2n (by decide)]
  · unfold fFlow; rw [uJ_2n (by decide), uJ_2n (by decide), uJ_2n (by decide), uJ_2n (by decide), uJ_2n (by decide)]
theorem NV.pump {S : Ast} {B : Int} (h : NV S B) (hB : B ≤ BIG) {k : Nat} (hk : pumpOK S k) : NV (fPump S k) B := by
  unfold BIG at hB
  have hf := hk.1.2
  have ht := hk.2.1.2
  have h1 := h.w hf
  have h2 := h.w ht
  have hr := hk.2.2.2.1
  have hm : 0 ≤ (uG S k).toInt ∧ (uG S k).toInt ≤ (S.2 6 (S.1 25 k).toNatClampNeg).toInt := pGv_rg (by rw [Int32.toInt_toInt64]; omega) h1.1
  have hx : (S.2 6 (S.1 25 k).toNatClampNeg - uG S k).toInt = (S.2 6 (S.1 25 k).toNatClampNeg).toInt - (uG S k).toInt := l_sub (by omega) (by omega)
  have hy : (S.2 6 (S.1 26 k).toNatClampNeg + uG S k).toInt = (S.2 6 (S.1 26 k).toNatClampNeg).toInt + (uG S k).toInt := l_add (by omega) (by omega)
  refine h.two (a := (S.1 25 k).toNatClampNeg) (b := (S.1 26 k).toNatClampNeg) (x := S.2 6 (S.1 25 k).toNatClampNeg - uG S k) (y := S.2 6 (S.1 26 k).toNatClampNeg + uG S k) (show (uI S 30 k (uO S k)).1 1 = S.1 1 from uI_1n (by decide)) (show (uI S 30 k (uO S k)).1 18 = S.1 18 from uI_1n (by decide)) ?_ ?_ ?_ hf ht hk.2.2.1 (by omega) (by omega) (by omega)
  · unfold fPump; rw [uJ_2s, uJ_2s]; rfl
  · unfold fPump; rw [uJ_2n (by decide), uJ_2n (by decide)]; rfl
  · unfold fPump; rw [uJ_2n (by decide), uJ_2n (by decide)]; rfl
theorem NV.gate {S : Ast} {B : Int} (h : NV S B) (hB : B ≤ BIG) {k : Nat} (hk : gateOK S k) (hn : nodeOK S (S.1 32 k).toNatClampNeg) : NV (fGate S k) B := by
  unfold BIG at hB
  have hf := hk.1.2
  have h1 := h.w hf
  have r := hn.2.2.2.1
  have r1 := r.1
  have r2 := r.2
  have g1 := hk.2.1.1
  have g2 := hk.2.1.2
  have q := mul_rg (a := (S.1 33 k).toInt) (b := (S.1 4 (S.1 32 k).toNatClampNeg).toInt) g1 g2 (by omega) r2
  have e1 : ((S.1 33 k).toInt64 * (S.1 4 (S.1 32 k).toNatClampNeg).toInt64).toInt = (S.1 33 k).toInt * (S.1 4 (S.1 32 k).toNatClampNeg).toInt := by
    rw [l_mul] <;> rw [Int32.toInt_toInt64, Int32.toInt_toInt64] <;> omega
  have e2 : (S.2 6 (S.1 32 k).toNatClampNeg - (S.1 33 k).toInt64 * (S.1 4 (S.1 32 k).toNatClampNeg).toInt64).toInt = (S.2 6 (S.1 32 k).toNatClampNeg).toInt - (S.1 33 k).toInt * (S.1 4 (S.1 32 k).toNatClampNeg).toInt := by
    rw [l_sub] <;> rw [e1] <;> omega
  have hg : 0 ≤ (gG S k).toInt ∧ ((gG S k).toInt = 0 ∨ (gG S k).toInt ≤ (S.2 6 (S.1 32 k).toNatClampNeg - (S.1 33 k).toInt64 * (S.1 4 (S.1 32 k).toNatClampNeg).toInt64).toInt) := gOut_rg
  rw [e2] at hg
  have hx : (S.2 6 (S.1 32 k).toNatClampNeg - gG S k).toInt = (S.2 6 (S.1 32 k).toNatClampNeg).toInt - (gG S k).toInt := l_sub (by omega) (by omega)
  have hc := h.e (c := 0) (by omega)
  refine h.one (B' := B) (a := (S.1 32 k).toNatClampNeg) (c := 0) (x := S.2 6 (S.1 32 k).toNatClampNeg - gG S k) (y := S.2 39 0) rfl rfl ?_ ?_ ?_ hf (by omega) (by omega) hc.1 (by omega)
  · unfold fGate; rw [uJ_2n (by decide), uJ_2n (by decide), uJ_2s]
  · unfold fGate; rw [uJ_2n (by decide), uJ_2n (by decide), uJ_2n (by decide)]
    funext i
    by_cases hi : i = 0
    · subst hi; rw [va_up_self]
    · rw [va_up_ne _ _ hi]
  · unfold fGate; rw [uJ_2n (by decide), uJ_2n (by decide), uJ_2n (by decide)]
theorem NV.gully {S : Ast} {B : Int} (h : NV S B) (hB : B ≤ BIG) {k : Nat} (hk : gullyOK S k) : NV (fGully S k) B := by
  unfold BIG at hB
  have hf := hk.2.1.2
  have hc : (S.1 36 k).toNatClampNeg < 8 := Nat.not_le.mp fun q => hk.1.1 (Or.inr q)
  have h1 := h.w hf
  have h2 := h.e hc
  have hr : 0 ≤ (S.1 38 k).toInt64 := i64_nn (by have := hk.2.2.1; omega)
  have hl : 0 ≤ lG S k ∧ lG S k ≤ S.2 39 (S.1 36 k).toNatClampNeg := gTake_in hr (h.c _ hc)
  rw [Int64.le_iff_toInt_le, Int64.le_iff_toInt_le, l0] at hl
  have hx : (S.2 39 (S.1 36 k).toNatClampNeg - lG S k).toInt = (S.2 39 (S.1 36 k).toNatClampNeg).toInt - (lG S k).toInt := l_sub (by omega) (by omega)
  have hy : (S.2 6 (S.1 37 k).toNatClampNeg + lG S k).toInt = (S.2 6 (S.1 37 k).toNatClampNeg).toInt + (lG S k).toInt := l_add (by omega) (by omega)
  refine h.one (B' := B) (a := (S.1 37 k).toNatClampNeg) (c := (S.1 36 k).toNatClampNeg) (x := S.2 6 (S.1 37 k).toNatClampNeg + lG S k) (y := S.2 39 (S.1 36 k).toNatClampNeg - lG S k) rfl rfl ?_ ?_ ?_ hf hc (by omega) (by omega) (by omega)
  · unfold fGully; rw [uJ_2s, uJ_2n (by decide)]
  · unfold fGully; rw [uJ_2n (by decide), uJ_2s]
  · unfold fGully; rw [uJ_2n (by decide), uJ_2n (by decide)]
theorem NV.node {S : Ast} {B : Int} (h : NV S B) (hB : B ≤ BIG) {k : Nat} (hk : k < cn S 1) (hn : nodeOK S k) : NV (fNode S k) B := by
  unfold BIG at hB
  have h1 := h.w hk
  have ⟨⟨a1, a2⟩, ⟨b1, b2⟩, b3, ⟨r1, r2⟩, hst⟩ := hn
  have e0 : (S.1 2 k - S.1 3 k).toInt = (S.1 2 k).toInt - (S.1 3 k).toInt := i_sub (by omega) (by omega)
  have q := mul_rg (a := (S.1 4 k).toInt) (b := (S.1 2 k).toInt - (S.1 3 k).toInt) (A := 100000) (B := 200000) (by omega) r2 (by omega) (by omega)
  have e1 : (ful S k).toInt = (S.1 4 k).toInt * ((S.1 2 k).toInt - (S.1 3 k).toInt) := by
    unfold ful
    rw [l_mul] <;> rw [Int32.toInt_toInt64, Int32.toInt_toInt64, e0] <;> omega
  have e2 : (S.2 6 k - ful S k).toInt = (S.2 6 k).toInt - (S.1 4 k).toInt * ((S.1 2 k).toInt - (S.1 3 k).toInt) := by
    rw [l_sub] <;> rw [e1] <;> omega
  have hs : 0 ≤ (nS S k).toInt ∧ (nS S k).toInt ≤ (S.2 6 k).toInt := by
    unfold nS
    split
    · rw [l0]; omega
    · rename_i z
      rw [Int64.lt_iff_toInt_lt, l0, e2] at z
      rw [e2]
      omega
  have hx : (S.2 6 k - nS S k).toInt = (S.2 6 k).toInt - (nS S k).toInt := l_sub (by omega) (by omega)
  unfold fNode
  by_cases h5 : S.1 5 k < 0
  · rw [if_pos h5]
    have hc := h.e (c := 0) (by omega)
    refine h.one (B' := B) (a := k) (c := 0) (x := S.2 6 k - nS S k) (y := S.2 39 0) rfl rfl ?_ ?_ ?_ hk (by omega) (by omega) hc.1 (by omega)
    · rw [uJ_2n (by decide), uJ_2n (by decide), uJ_2s]
    · rw [uJ_2n (by decide), uJ_2n (by decide), uJ_2n (by decide)]
      funext i
      by_cases hi : i = 0
      · subst hi; rw [va_up_self]
      · rw [va_up_ne _ _ hi]
    · rw [uJ_2n (by decide), uJ_2n (by decide), uJ_2n (by decide)]
  · rw [if_neg h5]
    have hc8 : (S.1 5 k).toNatClampNeg < 8 := by
      rcases hst with z | z
      · rw [z] at h5; exact absurd (by decide) h5
      · exact Nat.not_le.mp fun q => z.1 (Or.inr q)
    have hc := h.e hc8
    have hy : (S.2 39 (S.1 5 k).toNatClampNeg + nS S k).toInt = (S.2 39 (S.1 5 k).toNatClampNeg).toInt + (nS S k).toInt := l_add (by omega) (by omega)
    refine h.one (B' := B) (a := k) (c := (S.1 5 k).toNatClampNeg) (x := S.2 6 k - nS S k) (y := S.2 39 (S.1 5 k).toNatClampNeg + nS S k) rfl rfl ?_ ?_ ?_ hk hc8 (by omega) (by omega) (by omega)
    · rw [uJ_2n (by decide), uJ_2n (by decide), uJ_2s]
    · rw [uJ_2s, uJ_2n (by decide), uJ_2n (by decide)]
    · rw [uJ_2n (by decide), uJ_2n (by decide), uJ_2n (by decide)]
theorem NV.rain {S : Ast} {B : Int} (h : NV S B) (hB : B ≤ BIG) {k j : Nat} (hk : areaOK S k) (hk18 : k < cn S 18) (hj : rg (S.1 23 j) 0 20000) : NV (fRain S k j) (B + 333335) := by
  unfold BIG at hB
  have hf := hk.1.2
  have h1 := h.w hf
  have h2 := h.2.2.1 k hk18
  have ⟨s1, s2⟩ := hk.2.1
  have ⟨t1, t2⟩ := hk.2.2
  have ⟨j1, j2⟩ := hj
  have m1 : (1000 : Int32).toInt = 1000 := by decide
  have e0 : (1000 - S.1 21 k).toInt = 1000 - (S.1 21 k).toInt := by rw [i_sub] <;> rw [m1] <;> omega
  have q := mul_rg (a := (S.1 20 k).toInt) (b := (S.1 23 j).toInt) (A := 1000000) (B := 20000) (by omega) s2 j1 j2
  have e1 : ((S.1 20 k).toInt64 * (S.1 23 j).toInt64).toInt = (S.1 20 k).toInt * (S.1 23 j).toInt := by
    rw [l_mul] <;> rw [Int32.toInt_toInt64, Int32.toInt_toInt64] <;> omega
  have q2 := mul_rg (a := (S.1 20 k).toInt * (S.1 23 j).toInt) (b := 1000 - (S.1 21 k).toInt) (A := 20000000000) (B := 1000) q.1 (by omega) (by omega) (by omega)
  have e2 : ((S.1 20 k).toInt64 * (S.1 23 j).toInt64 * (1000 - S.1 21 k).toInt64).toInt = (S.1 20 k).toInt * (S.1 23 j).toInt * (1000 - (S.1 21 k).toInt) := by
    rw [l_mul] <;> rw [e1, Int32.toInt_toInt64, e0] <;> omega
  generalize hX : S.2 22 k + (S.1 20 k).toInt64 * (S.1 23 j).toInt64 * (1000 - S.1 21 k).toInt64 = X
  have e3 : X.toInt = (S.2 22 k).toInt + (S.1 20 k).toInt * (S.1 23 j).toInt * (1000 - (S.1 21 k).toInt) := by
    rw [← hX, l_add] <;> rw [e2] <;> omega
  have hX0 : 0 ≤ X.toInt ∧ X.toInt < 20000060000000 := by omega
  clear e3 e2 q2 e1 q e0
  have l6 : (60000000 : Int64).toInt = 60000000 := by decide
  have p := rain_q hX0.1 hX0.2
  have e4 : (X / 60000000).toInt = X.toInt / 60000000 := by
    rw [Int64.toInt_div, l6, Int.tdiv_eq_ediv_of_nonneg hX0.1]
    generalize X.toInt / 60000000 = Q at p
    exact bmod_id (by omega) (by omega)
  generalize X.toInt / 60000000 = Q at p e4
  have e5 : (X / 60000000 * 60000000).toInt = Q * 60000000 := by
    rw [l_mul] <;> rw [e4, l6] <;> omega
  have e6 : (X - X / 60000000 * 60000000).toInt = X.toInt - Q * 60000000 := by
    rw [l_sub] <;> rw [e5] <;> omega
  have e7 : (S.2 6 (S.1 19 k).toNatClampNeg + X / 60000000).toInt = (S.2 6 (S.1 19 k).toNatClampNeg).toInt + Q := by
    rw [l_add] <;> rw [e4] <;> omega
  clear e4 e5 l6
  obtain ⟨xv, hxv⟩ : ∃ y : Int64, y = S.2 6 (S.1 19 k).toNatClampNeg + X / 60000000 := ⟨_, rfl⟩
  obtain ⟨rv, hrv⟩ : ∃ y : Int64, y = X - X / 60000000 * 60000000 := ⟨_, rfl⟩
  rw [← hxv] at e7
  rw [← hrv] at e6
  have b1 : 0 ≤ xv.toInt ∧ xv.toInt ≤ (S.2 6 (S.1 19 k).toNatClampNeg).toInt + 333335 := by
    rw [e7]
    exact ⟨by omega, by omega⟩
  have b2 : 0 ≤ rv.toInt ∧ rv.toInt < 60000000 := by
    rw [e6]
    exact ⟨p.2.2.1, p.2.2.2⟩
  refine h.nod (a := (S.1 19 k).toNatClampNeg) (k := k) (x := xv) (r := rv) (d := 333335) rfl rfl ?_ ?_ ?_ hf b1.1 b1.2 b2
  · unfold fRain; rw [hX, hxv, uJ_2n (by decide), uJ_2s, uJ_2n (by decide)]
  · unfold fRain; rw [hX, uJ_2n (by decide), uJ_2n (by decide), uJ_2n (by decide)]
  · unfold fRain; rw [hX, hrv, uJ_2n (by decide), uJ_2n (by decide), uJ_2s]
theorem NV.lev {S : Ast} {B : Int} (h : NV S B) (k : Nat) : NV (fLev S k) B := by
  refine h.cong rfl rfl ?_ ?_ ?_ <;> unfold fLev <;> rw [uJ_2n (by decide)]

