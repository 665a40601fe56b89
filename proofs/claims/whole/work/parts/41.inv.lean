
theorem itn_ind {f : Nat → Ast → Ast} {P : Nat → Ast → Prop} {S : Ast} (h0 : P 0 S) : ∀ n, (∀ k, k < n → ∀ T, P k T → P (k + 1) (f k T)) → P n (itn f n S)
  | 0, _ => h0
  | n + 1, hs => hs n (by omega) _ (itn_ind h0 n (fun k hk => hs k (by omega)))
def fl : Nat → Nat
  | 6 => 1
  | 7 => 1
  | 8 => 1
  | 9 => 1
  | 15 => 10
  | 16 => 10
  | 17 => 10
  | _ => 18
def FJ : List Nat := [6, 7, 8, 9, 15, 16, 17, 22]
theorem fl_30 : ∀ k ∈ FJ, fl k ≠ 30 := by decide
theorem fl_in : ∀ k ∈ FJ, fl k ∈ ([1, 10, 18, 24] : List Nat) := by decide
theorem FJ_54 : ∀ k ∈ FJ, k ≠ 54 := by decide
/-- nothing beyond the counts -/
def FZ (S : Ast) : Prop := (∀ k ∈ FJ, ∀ i, cn S (fl k) ≤ i → S.2 k i = 0) ∧ ∀ i, cn S 24 ≤ i → S.1 30 i = 0
theorem FZ.uJ {S : Ast} (h : FZ S) {k i : Nat} {v : Int64} (hk : k ∈ FJ → i < cn S (fl k)) : FZ (uJ S k i v) := by
  refine ⟨fun j hj n hn => ?_, h.2⟩
  have hn : cn S (fl j) ≤ n := hn
  by_cases q : j = k
  · subst q
    have h1 := hk hj
    rw [uJ_2s, va_up_ne _ _ (by omega)]
    exact h.1 j hj n hn
  · rw [uJ_2n q]
    exact h.1 j hj n hn
theorem FZ.u30 {S : Ast} (h : FZ S) {i : Nat} {v : Int32} (hi : i < cn S 24) : FZ (uI S 30 i v) := by
  have e : ∀ c, c ≠ 30 → cn (uI S 30 i v) c = cn S c := fun c hc => by unfold cn; rw [uI_1n hc]
  refine ⟨fun j hj n hn => ?_, fun n hn => ?_⟩
  · rw [e _ (fl_30 j hj)] at hn
    exact h.1 j hj n hn
  · rw [e 24 (by decide)] at hn
    rw [uI_1s, va_up_ne _ _ (by omega)]
    exact h.2 n hn
theorem FZ.grow {S T : Ast} (h : FZ S) (hJ : ∀ k, k ≠ 54 → T.2 k = S.2 k) (h30 : T.1 30 = S.1 30) (hc : ∀ c ∈ ([1, 10, 18, 24] : List Nat), cn S c ≤ cn T c) : FZ T := by
  refine ⟨fun j hj n hn => ?_, fun n hn => ?_⟩
  · rw [hJ j (FJ_54 j hj)]
    exact h.1 j hj n (Nat.le_trans (hc _ (fl_in j hj)) hn)
  · rw [h30]
    exact h.2 n (Nat.le_trans (hc 24 (by decide)) hn)
theorem smI_zero (f : Nat → Int64) (n : Nat) (hz : ∀ i, n ≤ i → f i = 0) : ∀ d, smI f (n + d) = smI f n
  | 0 => rfl
  | d + 1 => by
    show smI f (n + d + 1) = smI f n
    rw [smI_s, smI_zero f n hz d, hz (n + d) (by omega), l0]
    omega
theorem NV.grow {S T : Ast} {B : Int} (h : NV S B) (hz : FZ S) (hJ : ∀ k, k ≠ 54 → T.2 k = S.2 k) (hc : ∀ c ∈ ([1, 10, 18, 24] : List Nat), cn S c ≤ cn T c) : NV T B := by
  obtain ⟨h1, h2, h3, h4⟩ := h
  have c1 := hc 1 (by decide)
  have z6 : ∀ i, cn S 1 ≤ i → S.2 6 i = 0 := hz.1 6 (by decide)
  have z22 : ∀ i, cn S 18 ≤ i → S.2 22 i = 0 := hz.1 22 (by decide)
  unfold NV
  rw [hJ 6 (by decide), hJ 39 (by decide), hJ 22 (by decide)]
  refine ⟨fun i hi => ?_, h2, fun k hk => ?_, ?_⟩
  · rcases Nat.lt_or_ge i (cn S 1) with q | q
    · exact h1 i q
    · rw [z6 i q, l0]; omega
  · rcases Nat.lt_or_ge k (cn S 18) with q | q
    · exact h3 k q
    · rw [z22 k q, l0]; omega
  · obtain ⟨d, hd⟩ := Nat.exists_eq_add_of_le c1
    rw [hd, smI_zero _ _ z6]
    exact h4
def RV (S : Ast) (B : Int) : Prop := WSt S ∧ FZ S ∧ NV S B
theorem WSt.same1 {S T : Ast} (h : WSt S) (e : T.1 = S.1) : WSt T := h.cong (fun k _ _ => by rw [e])
theorem FZ.i {S : Ast} {k i : Nat} (h : i < cn S (fl k)) : k ∈ FJ → i < cn S (fl k) := fun _ => h
theorem FZ.n {S : Ast} {k i : Nat} (h : k ∉ FJ) : k ∈ FJ → i < cn S (fl k) := fun q => absurd q h
theorem RV.rain {S : Ast} {B : Int} (h : RV S B) (hB : B ≤ BIG) {k j : Nat} (hk : k < cn S 18) (hj : j < 1440) : RV (fRain S k j) (B + 333335) := by
  have ha := h.1.2.2.2.1 k hk
  refine ⟨h.1.same1 rfl, ?_, h.2.2.rain hB ha hk (h.1.2.2.2.2.2.2.2 j hj)⟩
  have hn : (S.1 19 k).toNatClampNeg < cn S 1 := ha.1.2
  unfold fRain
  exact ((h.2.1.uJ (FZ.i hk)).uJ (fun _ => hn)).uJ (FZ.n (by decide))
theorem RV.lev {S : Ast} {B : Int} (h : RV S B) {k : Nat} (hk : k < cn S 1) : RV (fLev S k) B :=
  ⟨h.1.same1 rfl, h.2.1.uJ (FZ.i (k := 9) hk), h.2.2.lev k⟩
theorem RV.flow {S : Ast} {B : Int} (h : RV S B) (hB : B ≤ BIG) {k : Nat} (hk : k < cn S 10) : RV (fFlow S k) B := by
  have ha := h.1.2.2.1 k hk
  refine ⟨h.1.same1 rfl, ?_, h.2.2.flow hB ha⟩
  have hf : (S.1 11 k).toNatClampNeg < cn S 1 := ha.1.2
  have ht : (S.1 12 k).toNatClampNeg < cn S 1 := ha.2.1.2
  unfold fFlow
  exact ((((h.2.1.uJ (FZ.i (k := 15) hk)).uJ (fun _ => hf)).uJ (fun _ => ht)).uJ (fun _ => hk)).uJ (fun _ => hk)
theorem RV.pump {S : Ast} {B : Int} (h : RV S B) (hB : B ≤ BIG) {k : Nat} (hk : k < cn S 24) : RV (fPump S k) B := by
  have ha := h.1.2.2.2.2.1 k hk
  have hf : (S.1 25 k).toNatClampNeg < cn S 1 := ha.1.2
  have ht : (S.1 26 k).toNatClampNeg < cn S 1 := ha.2.1.2
  have e1 : cn (uI S 30 k (uO S k)) 1 = cn S 1 := by unfold cn; rw [uI_1n (by decide)]
  refine ⟨h.1.cong (fun j h1 _ => uI_1n h1), ?_, h.2.2.pump hB ha⟩
  unfold fPump
  refine ((h.2.1.u30 hk).uJ (fun _ => ?_)).uJ (fun _ => ?_)
  · show _ < cn (uI S 30 k (uO S k)) 1
    rw [e1]; exact hf
  · show _ < cn (uI S 30 k (uO S k)) 1
    rw [e1]; exact ht
theorem RV.gate {S : Ast} {B : Int} (h : RV S B) (hB : B ≤ BIG) {k : Nat} (hk : k < cn S 31) : RV (fGate S k) B := by
  have ha := h.1.2.2.2.2.2.1 k hk
  have hf : (S.1 32 k).toNatClampNeg < cn S 1 := ha.1.2
  refine ⟨h.1.same1 rfl, ?_, h.2.2.gate hB ha (h.1.2.1 _ hf)⟩
  unfold fGate
  exact ((h.2.1.uJ (FZ.i (k := 6) hf)).uJ (fun _ => hf)).uJ (FZ.n (by decide))
theorem RV.gully {S : Ast} {B : Int} (h : RV S B) (hB : B ≤ BIG) {k : Nat} (hk : k < cn S 35) : RV (fGully S k) B := by
  have ha := h.1.2.2.2.2.2.2.1 k hk
  have hf : (S.1 37 k).toNatClampNeg < cn S 1 := ha.2.1.2
  refine ⟨h.1.same1 rfl, ?_, h.2.2.gully hB ha⟩
  unfold fGully
  exact (h.2.1.uJ (FZ.n (by decide))).uJ (fun _ => hf)
theorem RV.node {S : Ast} {B : Int} (h : RV S B) (hB : B ≤ BIG) {k : Nat} (hk : k < cn S 1) : RV (fNode S k) B := by
  refine ⟨h.1.same1 (fNode_1 S k), ?_, h.2.2.node hB hk (h.1.2.1 k hk)⟩
  unfold fNode
  split
  · exact ((h.2.1.uJ (FZ.i (k := 6) hk)).uJ (fun _ => hk)).uJ (FZ.n (by decide))
  · exact ((h.2.1.uJ (FZ.i (k := 6) hk)).uJ (fun _ => hk)).uJ (FZ.n (by decide))
theorem cn_1 {S T : Ast} {c : Nat} (e : T.1 c = S.1 c) : cn T c = cn S c := by unfold cn; rw [e]
theorem RV.sec {S : Ast} {B : Int} (h : RV S B) {s : Nat} (h40 : S.1 40 0 = nI s) (hs : s < 86400) (hB : B + 8000040 ≤ BIG) : RV (fSec S) (B + 8000040) := by
  have hm : mn S < 1440 := by
    unfold mn
    rw [h40, div60 hs, nI_clamp (by omega)]
    omega
  have hc18 := h.1.1.2.2.1.2
  have p1 : RV (q1 S) (B + 8000040) := by
    have := itn_ind (f := fun k T => fRain T k (mn S)) (P := fun i T => RV T (B + 333335 * (i : Int)) ∧ T.1 = S.1) (S := S) ⟨by show RV S (B + 333335 * ((0 : Nat) : Int)); rw [show B + 333335 * ((0 : Nat) : Int) = B by omega]; exact h, rfl⟩ (cn S 18) (fun k hk T hT => by
      refine ⟨?_, hT.2⟩
      have := hT.1.rain (k := k) (j := mn S) (by omega) (by rw [cn_1 (S := S) (by rw [hT.2])]; exact hk) hm
      rw [show B + 333335 * ((k + 1 : Nat) : Int) = B + 333335 * (k : Int) + 333335 by omega]
      exact this)
    exact ⟨this.1.1, this.1.2.1, this.1.2.2.mono (by omega)⟩
  have g : ∀ {c : Nat}, c ≠ 30 → ∀ {T : Ast}, (∀ j, j ≠ 30 → T.1 j = S.1 j) → ∀ {i : Nat}, i < cn S c → i < cn T c := fun hc T e i hi => by rw [cn_1 (S := S) (e _ hc)]; exact hi
  have p2 : RV (q2 S) (B + 8000040) := (itn_ind (f := fun k T => fLev T k) (P := fun _ T => RV T (B + 8000040) ∧ ∀ j, j ≠ 30 → T.1 j = S.1 j) (S := q1 S) ⟨p1, fun j _ => by rw [q1_1]⟩ (cn S 1) (fun k hk T hT => ⟨hT.1.lev (g (by decide) hT.2 hk), hT.2⟩)).1
  have p3 : RV (q3 S) (B + 8000040) := (itn_ind (f := fun k T => fFlow T k) (P := fun _ T => RV T (B + 8000040) ∧ ∀ j, j ≠ 30 → T.1 j = S.1 j) (S := q2 S) ⟨p2, fun j _ => by rw [q2_1]⟩ (cn S 10) (fun k hk T hT => ⟨hT.1.flow hB (g (by decide) hT.2 hk), hT.2⟩)).1
  have p4 : RV (q4 S) (B + 8000040) := (itn_ind (f := fun k T => fPump T k) (P := fun _ T => RV T (B + 8000040) ∧ ∀ j, j ≠ 30 → T.1 j = S.1 j) (S := q3 S) ⟨p3, fun j _ => by rw [q3_1]⟩ (cn S 24) (fun k hk T hT => ⟨hT.1.pump hB (g (by decide) hT.2 hk), fun j hj => (uI_1n hj).trans (hT.2 j hj)⟩)).1
  have p5 : RV (q5 S) (B + 8000040) := (itn_ind (f := fun k T => fGate T k) (P := fun _ T => RV T (B + 8000040) ∧ ∀ j, j ≠ 30 → T.1 j = S.1 j) (S := q4 S) ⟨p4, fun j hj => q4_1 S hj⟩ (cn S 31) (fun k hk T hT => ⟨hT.1.gate hB (g (by decide) hT.2 hk), hT.2⟩)).1
  have p6 : RV (q6 S) (B + 8000040) := (itn_ind (f := fun k T => fGully T k) (P := fun _ T => RV T (B + 8000040) ∧ ∀ j, j ≠ 30 → T.1 j = S.1 j) (S := q5 S) ⟨p5, fun j hj => q5_1 S hj⟩ (cn S 35) (fun k hk T hT => ⟨hT.1.gully hB (g (by decide) hT.2 hk), hT.2⟩)).1
  have p7 : RV (q7 S) (B + 8000040) := (itn_ind (f := fun k T => fNode T k) (P := fun _ T => RV T (B + 8000040) ∧ ∀ j, j ≠ 30 → T.1 j = S.1 j) (S := q6 S) ⟨p6, fun j hj => q6_1 S hj⟩ (cn S 1) (fun k hk T hT => ⟨hT.1.node hB (g (by decide) hT.2 hk), fun j hj => by rw [fNode_1]; exact hT.2 j hj⟩)).1
  unfold fSec
  generalize hv : S.1 40 0 + 1 = v
  have e : ∀ c ∈ ([1, 10, 18, 24] : List Nat), cn (q7 S) c ≤ cn (uI (q7 S) 40 0 v) c := fun c hc => by
    rw [cn_1 (S := q7 S) (uI_1n (by intro q; subst q; revert hc; decide))]
    exact Nat.le_refl _
  exact ⟨p7.1.cong (fun k _ h2 => uI_1n h2), p7.2.1.grow (fun _ _ => rfl) (uI_1n (by decide)) e, p7.2.2.grow p7.2.1 (fun _ _ => rfl) e⟩
theorem RV.run {S : Ast} {s : Nat} (h : RV S (8000040 * (s : Int))) (h40 : S.1 40 0 = nI s) : ∀ t, s + t ≤ 86400 → RV (fRun S t) (8000040 * ((s + t : Nat) : Int))
  | 0, _ => h
  | t + 1, ht => by
    have ih := RV.run h h40 t (by omega)
    have := ih.sec (fRun_40 S h40 t) (by omega) (by unfold BIG; omega)
    rw [show 8000040 * ((s + (t + 1) : Nat) : Int) = 8000040 * ((s + t : Nat) : Int) + 8000040 by omega]
    exact this
/-- what holds between calls; s seconds have passed -/
def INV (S : Ast) (s : Nat) : Prop := WSt S ∧ LSt S ∧ CN S 0 24 ∧ cn S 1 ≤ cn S 0 ∧ S.1 40 0 = nI s ∧ s ≤ 86400 ∧ FZ S ∧ NV S (8000040 * (s : Int))
theorem INV.nv {S : Ast} {s : Nat} (h : INV S s) (n : Int32) : okRun S n → ∀ t, t < n.toNatClampNeg → NVc (fRun S t) := by
  intro hok t ht
  obtain ⟨hn, hn1, hn6, hns⟩ := okRun_n h.2.2.2.2.1 h.2.2.2.2.2.1 hok
  exact (RV.run ⟨h.1, h.2.2.2.2.2.2.1, h.2.2.2.2.2.2.2⟩ h.2.2.2.2.1 t (by omega)).2.2.c
section OUT
variable {S T : Ast} {L : List Nat} {s : Nat}
theorem cn_out (ho : ∀ k, k ∉ L → T.1 k = S.1 k) {c : Nat} (hc : c ∉ L) : cn T c = cn S c := cn_1 (ho c hc)
theorem CN.out (ho : ∀ k, k ∉ L → T.1 k = S.1 k) {c b : Nat} (hc : c ∉ L) (h : CN S c b) : CN T c b := by
  unfold CN
  rw [cn_out ho hc, ho c hc]
  exact h
def sm (T S : Ast) (M : List Nat) (i : Nat) : Prop := ∀ k ∈ M, T.1 k i = S.1 k i
theorem kin (ho : ∀ k, k ∉ L → T.1 k = S.1 k) {c : Nat} {M : List Nat} (hc : c ∉ L) (hM : ∀ k ∈ M, k ∉ L) {Q : Nat → Prop} : ∀ i, i < cn T c → (i < cn S c ∧ sm T S M i) ∨ Q i := fun i hi => Or.inl ⟨by rw [← cn_out ho hc]; exact hi, fun k hk => by rw [ho k (hM k hk)]⟩
theorem kin1 (ho : ∀ k, k ∉ L → T.1 k = S.1 k) (hr : 23 ∉ L) : ∀ i, i < 1440 → T.1 23 i = S.1 23 i ∨ rg (T.1 23 i) 0 20000 := fun i _ => Or.inl (by rw [ho 23 hr])
theorem nodeOK.sm {i : Nat} (h : sm T S [2, 3, 4, 5] i) (q : nodeOK S i) : nodeOK T i := by
  unfold nodeOK
  rw [h 2 (by decide), h 3 (by decide), h 4 (by decide), h 5 (by decide)]
  exact q
theorem pipeOK.sm (hnd : ∀ v, nd S v → nd T v) {i : Nat} (h : sm T S [11, 12, 13, 14] i) (q : pipeOK S i) : pipeOK T i := by
  unfold pipeOK
  rw [h 11 (by decide), h 12 (by decide), h 13 (by decide), h 14 (by decide)]
  exact ⟨hnd _ q.1, hnd _ q.2.1, q.2.2⟩
theorem areaOK.sm (hnd : ∀ v, nd S v → nd T v) {i : Nat} (h : sm T S [19, 20, 21] i) (q : areaOK S i) : areaOK T i := by
  unfold areaOK
  rw [h 19 (by decide), h 20 (by decide), h 21 (by decide)]
  exact ⟨hnd _ q.1, q.2⟩
theorem pumpOK.sm (hnd : ∀ v, nd S v → nd T v) {i : Nat} (h : sm T S [25, 26, 29] i) (q : pumpOK S i) : pumpOK T i := by
  unfold pumpOK
  rw [h 25 (by decide), h 26 (by decide), h 29 (by decide)]
  exact ⟨hnd _ q.1, hnd _ q.2.1, q.2.2⟩
theorem gateOK.sm (hnd : ∀ v, nd S v → nd T v) {i : Nat} (h : sm T S [32, 33, 34] i) (q : gateOK S i) : gateOK T i := by
  unfold gateOK
  rw [h 32 (by decide), h 33 (by decide), h 34 (by decide)]
  exact ⟨hnd _ q.1, q.2⟩
theorem gullyOK.sm (hnd : ∀ v, nd S v → nd T v) {i : Nat} (h : sm T S [36, 37, 38] i) (q : gullyOK S i) : gullyOK T i := by
  unfold gullyOK
  rw [h 36 (by decide), h 37 (by decide), h 38 (by decide)]
  exact ⟨q.1, hnd _ q.2.1, q.2.2⟩
theorem nd.up (h1 : cn S 1 ≤ cn T 1) (v : Int32) (h : nd S v) : nd T v := ⟨h.1, Nat.lt_of_lt_of_le h.2 h1⟩
theorem WSt.grow (h : WSt S) (hc : CN T 1 24 ∧ CN T 10 40 ∧ CN T 18 24 ∧ CN T 24 8 ∧ CN T 31 8 ∧ CN T 35 8) (h1 : cn S 1 ≤ cn T 1)
    (k1 : ∀ i, i < cn T 1 → (i < cn S 1 ∧ sm T S [2, 3, 4, 5] i) ∨ nodeOK T i)
    (k2 : ∀ i, i < cn T 10 → (i < cn S 10 ∧ sm T S [11, 12, 13, 14] i) ∨ pipeOK T i)
    (k3 : ∀ i, i < cn T 18 → (i < cn S 18 ∧ sm T S [19, 20, 21] i) ∨ areaOK T i)
    (k4 : ∀ i, i < cn T 24 → (i < cn S 24 ∧ sm T S [25, 26, 29] i) ∨ pumpOK T i)
    (k5 : ∀ i, i < cn T 31 → (i < cn S 31 ∧ sm T S [32, 33, 34] i) ∨ gateOK T i)
    (k6 : ∀ i, i < cn T 35 → (i < cn S 35 ∧ sm T S [36, 37, 38] i) ∨ gullyOK T i)
    (k7 : ∀ i, i < 1440 → T.1 23 i = S.1 23 i ∨ rg (T.1 23 i) 0 20000) : WSt T := by
  obtain ⟨-, w1, w2, w3, w4, w5, w6, w7⟩ := h
  refine ⟨hc, fun i hi => ?_, fun i hi => ?_, fun i hi => ?_, fun i hi => ?_, fun i hi => ?_, fun i hi => ?_, fun i hi => ?_⟩
  · rcases k1 i hi with q | q
    · exact (w1 i q.1).sm q.2
    · exact q
  · rcases k2 i hi with q | q
    · exact (w2 i q.1).sm (nd.up h1) q.2
    · exact q
  · rcases k3 i hi with q | q
    · exact (w3 i q.1).sm (nd.up h1) q.2
    · exact q
  · rcases k4 i hi with q | q
    · exact (w4 i q.1).sm (nd.up h1) q.2
    · exact q
  · rcases k5 i hi with q | q
    · exact (w5 i q.1).sm (nd.up h1) q.2
    · exact q
  · rcases k6 i hi with q | q
    · exact (w6 i q.1).sm (nd.up h1) q.2
    · exact q
  · rcases k7 i hi with q | q
    · rw [q]; exact w7 i hi
    · exact q
theorem LSt.out (ho : ∀ k, k ∉ L → T.1 k = S.1 k) (hd : ∀ k ∈ ([50, 44, 51, 52, 53, 45, 46, 48, 49] : List Nat), k ∉ L) (hS : LSt S) : LSt T := by
  unfold LSt CN
  rw [cn_out ho (hd 50 (by decide)), cn_out ho (hd 44 (by decide)), ho 50 (hd 50 (by decide)), ho 44 (hd 44 (by decide)), ho 48 (hd 48 (by decide)), ho 49 (hd 49 (by decide)), ho 51 (hd 51 (by decide)), ho 52 (hd 52 (by decide)), ho 53 (hd 53 (by decide)), ho 45 (hd 45 (by decide)), ho 46 (hd 46 (by decide))]
  exact hS
/-- a change of the places of L in the whole numbers (and of place 54 in the long ones) -/
theorem INV.of (h : INV S s) (ho : ∀ k, k ∉ L → T.1 k = S.1 k) (hJ : ∀ k, k ≠ 54 → T.2 k = S.2 k) (hL : 0 ∉ L ∧ 40 ∉ L ∧ 30 ∉ L) (hW : WSt T) (hl : LSt T) (hc : ∀ c ∈ ([1, 10, 18, 24] : List Nat), cn S c ≤ cn T c) (hle : cn T 1 ≤ cn T 0) : INV T s := by
  obtain ⟨h1, h2, h3, h4, h5, h6, h7, h8⟩ := h
  exact ⟨hW, hl, h3.out ho hL.1, hle, by rw [ho 40 hL.2.1]; exact h5, h6, h7.grow hJ (ho 30 hL.2.2) hc, h8.grow h7 hJ hc⟩
theorem INV.le0 (h : INV S s) (ho : ∀ k, k ∉ L → T.1 k = S.1 k) (h0 : 0 ∉ L ∧ 1 ∉ L) : cn T 1 ≤ cn T 0 := by
  rw [cn_out ho h0.1, cn_out ho h0.2]
  exact h.2.2.2.1
theorem cs_out (ho : ∀ k, k ∉ L → T.1 k = S.1 k) (hL : ∀ c ∈ ([1, 10, 18, 24] : List Nat), c ∉ L) : ∀ c ∈ ([1, 10, 18, 24] : List Nat), cn S c ≤ cn T c := fun c hc => by rw [cn_out ho (hL c hc)]; exact Nat.le_refl _
theorem cs_but {q : Nat} (ho : ∀ k, k ∉ L → T.1 k = S.1 k) (hq : cn T q = cn S q + 1) (hL : ∀ c ∈ ([1, 10, 18, 24] : List Nat), c ≠ q → c ∉ L) : ∀ c ∈ ([1, 10, 18, 24] : List Nat), cn S c ≤ cn T c := fun c hc => by
  by_cases e : c = q
  · subst e; omega
  · rw [cn_out ho (hL c hc e)]; exact Nat.le_refl _
end OUT

theorem cell8 {c : Int32} (h : ¬ wI c 0 7 = 0) : ix c 8 c.toNatClampNeg := by
  rw [show (7 : Int32) = nI 8 - 1 by decide] at h
  exact (wI_ix (Nat.le_refl _) (by decide) h).2.2
theorem INV.node {S : Ast} {s : Nat} (h : INV S s) (g b r : Int32) : INV (if okN S g b r then sN S g b r else S) s := by
  by_cases hok : okN S g b r
  · rw [if_pos hok]
    have hW := h.1
    have ho : ∀ k, k ∉ ([2, 3, 4, 5, 1] : List Nat) → (sN S g b r).1 k = S.1 k := fun k hk => by
      simp only [List.mem_cons, List.not_mem_nil, not_or, or_false] at hk
      exact sN_o g b r k hk.1 hk.2.1 hk.2.2.1 hk.2.2.2.1 hk.2.2.2.2
    have cc := hW.1.1
    have c1 := cn_inc (T := sN S g b r) cc (by omega) (sN_c g b r)
    have hlt := lt0 h.2.2.1 hW.1.1 h.2.2.2.1 hok.1
    have cC : CN (sN S g b r) 1 24 := ⟨c1.2, by rw [c1.1]; omega⟩
    have hcs := cs_but (q := 1) ho c1.1 (by decide)
    have kn : ∀ i, i < cn (sN S g b r) 1 → (i < cn S 1 ∧ sm (sN S g b r) S [2, 3, 4, 5] i) ∨ nodeOK (sN S g b r) i := fun i hi => by
      by_cases e : i = cn S 1
      · right
        subst e
        unfold nodeOK
        rw [sN_2, sN_3, sN_4, sN_5]
        exact ⟨wI_rg hok.2.1 (by decide) (by decide), wI_rg hok.2.2.1 (by decide) (by decide), by have := hok.2.2.2.1; rw [Int32.le_iff_toInt_le] at this; omega, wI_rg hok.2.2.2.2 (by decide) (by decide), Or.inl rfl⟩
      · left
        exact ⟨by rw [c1.1] at hi; omega, fun k hk => sN_i g b r k i (by intro q; subst q; revert hk; decide) e⟩
    refine h.of ho (fun _ _ => rfl) (by decide) (hW.grow ⟨cC, hW.1.2.1.out ho (by decide), hW.1.2.2.1.out ho (by decide), hW.1.2.2.2.1.out ho (by decide), hW.1.2.2.2.2.1.out ho (by decide), hW.1.2.2.2.2.2.out ho (by decide)⟩ (hcs 1 (by decide)) kn (kin ho (by decide) (by decide)) (kin ho (by decide) (by decide)) (kin ho (by decide) (by decide)) (kin ho (by decide) (by decide)) (kin ho (by decide) (by decide)) (kin1 ho (by decide))) (h.2.1.out ho (by decide)) hcs ?_
    have e0 : cn (sN S g b r) 0 = cn S 0 := cn_out ho (by decide)
    have hl := h.2.2.2.1
    have hx : cn S 1 ≠ cn S 0 := fun q => hok.1 (by rw [h.2.2.1.1, hW.1.1.1, q])
    rw [e0, c1.1]
    omega
  · rw [if_neg hok]; exact h
theorem INV.pipe {S : Ast} {s : Nat} (h : INV S s) (f t l x : Int32) : INV (if okP S f t l x then sP S f t l x else S) s := by
  by_cases hok : okP S f t l x
  · rw [if_pos hok]
    have hW := h.1
    have ho : ∀ k, k ∉ ([11, 12, 13, 14, 10] : List Nat) → (sP S f t l x).1 k = S.1 k := fun k hk => by
      simp only [List.mem_cons, List.not_mem_nil, not_or, or_false] at hk
      exact sP_o f t l x k hk.1 hk.2.1 hk.2.2.1 hk.2.2.2.1 hk.2.2.2.2
    have cc := hW.1.2.1
    have c1 := cn_inc (T := sP S f t l x) cc (by omega) (sP_c f t l x)
    have hlt := cc.lt 40 (by decide) hok.1
    have cC : CN (sP S f t l x) 10 40 := ⟨c1.2, by rw [c1.1]; omega⟩
    have hcs := cs_but (q := 10) ho c1.1 (by decide)
    have hnd : ∀ {v : Int32}, ¬ wI v 0 (S.1 1 0 - 1) = 0 → nd (sP S f t l x) v := fun hv => nd.up (hcs 1 (by decide)) _ ⟨(isn hW.1.1 hv).2.2, (isn hW.1.1 hv).2.1⟩
    have hne : ∀ {a b : Int32}, ¬ wI a 0 (S.1 1 0 - 1) = 0 → ¬ wI b 0 (S.1 1 0 - 1) = 0 → ¬ a = b → b.toNatClampNeg ≠ a.toNatClampNeg := fun ha hb hab q => hab (by rw [(isn hW.1.1 ha).1, (isn hW.1.1 hb).1, q])
    have kn : ∀ i, i < cn (sP S f t l x) 10 → (i < cn S 10 ∧ sm (sP S f t l x) S [11, 12, 13, 14] i) ∨ pipeOK (sP S f t l x) i := fun i hi => by
      by_cases e : i = cn S 10
      · right
        subst e
        unfold pipeOK
        rw [sP_11, sP_12, sP_13, sP_14]
        exact ⟨hnd hok.2.1, hnd hok.2.2.1, hne hok.2.1 hok.2.2.1 hok.2.2.2.1, wI_rg hok.2.2.2.2.1 (by decide) (by decide), wI_rg hok.2.2.2.2.2 (by decide) (by decide)⟩
      · left
        exact ⟨by rw [c1.1] at hi; omega, fun k hk => sP_i f t l x k i (by intro q; subst q; revert hk; decide) e⟩
    refine h.of ho (fun _ _ => rfl) (by decide) (hW.grow ⟨hW.1.1.out ho (by decide), cC, hW.1.2.2.1.out ho (by decide), hW.1.2.2.2.1.out ho (by decide), hW.1.2.2.2.2.1.out ho (by decide), hW.1.2.2.2.2.2.out ho (by decide)⟩ (hcs 1 (by decide)) (kin ho (by decide) (by decide)) kn (kin ho (by decide) (by decide)) (kin ho (by decide) (by decide)) (kin ho (by decide) (by decide)) (kin ho (by decide) (by decide)) (kin1 ho (by decide))) (h.2.1.out ho (by decide)) hcs ?_
    exact h.le0 ho (by decide)
  · rw [if_neg hok]; exact h
theorem INV.area {S : Ast} {s : Nat} (h : INV S s) (n q l : Int32) : INV (if okA S n q l then sA S n q l else S) s := by
  by_cases hok : okA S n q l
  · rw [if_pos hok]
    have hW := h.1
    have ho : ∀ k, k ∉ ([19, 20, 21, 18] : List Nat) → (sA S n q l).1 k = S.1 k := fun k hk => by
      simp only [List.mem_cons, List.not_mem_nil, not_or, or_false] at hk
      exact sA_o n q l k hk.1 hk.2.1 hk.2.2.1 hk.2.2.2
    have cc := hW.1.2.2.1
    have c1 := cn_inc (T := sA S n q l) cc (by omega) (sA_c n q l)
    have hlt := cc.lt 24 (by decide) hok.1
    have cC : CN (sA S n q l) 18 24 := ⟨c1.2, by rw [c1.1]; omega⟩
    have hcs := cs_but (q := 18) ho c1.1 (by decide)
    have hnd : ∀ {v : Int32}, ¬ wI v 0 (S.1 1 0 - 1) = 0 → nd (sA S n q l) v := fun hv => nd.up (hcs 1 (by decide)) _ ⟨(isn hW.1.1 hv).2.2, (isn hW.1.1 hv).2.1⟩
    have kn : ∀ i, i < cn (sA S n q l) 18 → (i < cn S 18 ∧ sm (sA S n q l) S [19, 20, 21] i) ∨ areaOK (sA S n q l) i := fun i hi => by
      by_cases e : i = cn S 18
      · right
        subst e
        unfold areaOK
        rw [sA_19, sA_20, sA_21]
        exact ⟨hnd hok.2.1, wI_rg hok.2.2.1 (by decide) (by decide), wI_rg hok.2.2.2 (by decide) (by decide)⟩
      · left
        exact ⟨by rw [c1.1] at hi; omega, fun k hk => sA_i n q l k i (by intro q; subst q; revert hk; decide) e⟩
    refine h.of ho (fun _ _ => rfl) (by decide) (hW.grow ⟨hW.1.1.out ho (by decide), hW.1.2.1.out ho (by decide), cC, hW.1.2.2.2.1.out ho (by decide), hW.1.2.2.2.2.1.out ho (by decide), hW.1.2.2.2.2.2.out ho (by decide)⟩ (hcs 1 (by decide)) (kin ho (by decide) (by decide)) (kin ho (by decide) (by decide)) kn (kin ho (by decide) (by decide)) (kin ho (by decide) (by decide)) (kin ho (by decide) (by decide)) (kin1 ho (by decide))) (h.2.1.out ho (by decide)) hcs ?_
    exact h.le0 ho (by decide)
  · rw [if_neg hok]; exact h
theorem INV.pump {S : Ast} {s : Nat} (h : INV S s) (n t on off ra : Int32) : INV (if okU S n t on off ra then sU S n t on off ra else S) s := by
  by_cases hok : okU S n t on off ra
  · rw [if_pos hok]
    have hW := h.1
    have ho : ∀ k, k ∉ ([25, 26, 27, 28, 29, 24] : List Nat) → (sU S n t on off ra).1 k = S.1 k := fun k hk => by
      simp only [List.mem_cons, List.not_mem_nil, not_or, or_false] at hk
      exact sU_o n t on off ra k hk.1 hk.2.1 hk.2.2.1 hk.2.2.2.1 hk.2.2.2.2.1 hk.2.2.2.2.2
    have cc := hW.1.2.2.2.1
    have c1 := cn_inc (T := sU S n t on off ra) cc (by omega) (sU_c n t on off ra)
    have hlt := cc.lt 8 (by decide) hok.1
    have cC : CN (sU S n t on off ra) 24 8 := ⟨c1.2, by rw [c1.1]; omega⟩
    have hcs := cs_but (q := 24) ho c1.1 (by decide)
    have hnd : ∀ {v : Int32}, ¬ wI v 0 (S.1 1 0 - 1) = 0 → nd (sU S n t on off ra) v := fun hv => nd.up (hcs 1 (by decide)) _ ⟨(isn hW.1.1 hv).2.2, (isn hW.1.1 hv).2.1⟩
    have hne : ∀ {a b : Int32}, ¬ wI a 0 (S.1 1 0 - 1) = 0 → ¬ wI b 0 (S.1 1 0 - 1) = 0 → ¬ a = b → b.toNatClampNeg ≠ a.toNatClampNeg := fun ha hb hab q => hab (by rw [(isn hW.1.1 ha).1, (isn hW.1.1 hb).1, q])
    have kn : ∀ i, i < cn (sU S n t on off ra) 24 → (i < cn S 24 ∧ sm (sU S n t on off ra) S [25, 26, 29] i) ∨ pumpOK (sU S n t on off ra) i := fun i hi => by
      by_cases e : i = cn S 24
      · right
        subst e
        unfold pumpOK
        rw [sU_25, sU_26, sU_29]
        exact ⟨hnd hok.2.1, hnd hok.2.2.1, hne hok.2.1 hok.2.2.1 hok.2.2.2.1, wI_rg hok.2.2.2.2.2 (by decide) (by decide)⟩
      · left
        exact ⟨by rw [c1.1] at hi; omega, fun k hk => sU_i n t on off ra k i (by intro q; subst q; revert hk; decide) e⟩
    refine h.of ho (fun _ _ => rfl) (by decide) (hW.grow ⟨hW.1.1.out ho (by decide), hW.1.2.1.out ho (by decide), hW.1.2.2.1.out ho (by decide), cC, hW.1.2.2.2.2.1.out ho (by decide), hW.1.2.2.2.2.2.out ho (by decide)⟩ (hcs 1 (by decide)) (kin ho (by decide) (by decide)) (kin ho (by decide) (by decide)) (kin ho (by decide) (by decide)) kn (kin ho (by decide) (by decide)) (kin ho (by decide) (by decide)) (kin1 ho (by decide))) (h.2.1.out ho (by decide)) hcs ?_
    exact h.le0 ho (by decide)
  · rw [if_neg hok]; exact h
theorem INV.gate {S : Ast} {s : Nat} (h : INV S s) (n hh ra : Int32) : INV (if okG S n hh ra then sG S n hh ra else S) s := by
  by_cases hok : okG S n hh ra
  · rw [if_pos hok]
    have hW := h.1
    have ho : ∀ k, k ∉ ([32, 33, 34, 31] : List Nat) → (sG S n hh ra).1 k = S.1 k := fun k hk => by
      simp only [List.mem_cons, List.not_mem_nil, not_or, or_false] at hk
      exact sG_o n hh ra k hk.1 hk.2.1 hk.2.2.1 hk.2.2.2
    have cc := hW.1.2.2.2.2.1
    have c1 := cn_inc (T := sG S n hh ra) cc (by omega) (sG_c n hh ra)
    have hlt := cc.lt 8 (by decide) hok.1
    have cC : CN (sG S n hh ra) 31 8 := ⟨c1.2, by rw [c1.1]; omega⟩
    have hcs := cs_but (q := 31) ho c1.1 (by decide)
    have hnd : ∀ {v : Int32}, ¬ wI v 0 (S.1 1 0 - 1) = 0 → nd (sG S n hh ra) v := fun hv => nd.up (hcs 1 (by decide)) _ ⟨(isn hW.1.1 hv).2.2, (isn hW.1.1 hv).2.1⟩
    have kn : ∀ i, i < cn (sG S n hh ra) 31 → (i < cn S 31 ∧ sm (sG S n hh ra) S [32, 33, 34] i) ∨ gateOK (sG S n hh ra) i := fun i hi => by
      by_cases e : i = cn S 31
      · right
        subst e
        unfold gateOK
        rw [sG_32, sG_33, sG_34]
        exact ⟨hnd hok.2.1, wI_rg hok.2.2.1 (by decide) (by decide), wI_rg hok.2.2.2 (by decide) (by decide)⟩
      · left
        exact ⟨by rw [c1.1] at hi; omega, fun k hk => sG_i n hh ra k i (by intro q; subst q; revert hk; decide) e⟩
    refine h.of ho (fun _ _ => rfl) (by decide) (hW.grow ⟨hW.1.1.out ho (by decide), hW.1.2.1.out ho (by decide), hW.1.2.2.1.out ho (by decide), hW.1.2.2.2.1.out ho (by decide), cC, hW.1.2.2.2.2.2.out ho (by decide)⟩ (hcs 1 (by decide)) (kin ho (by decide) (by decide)) (kin ho (by decide) (by decide)) (kin ho (by decide) (by decide)) (kin ho (by decide) (by decide)) kn (kin ho (by decide) (by decide)) (kin1 ho (by decide))) (h.2.1.out ho (by decide)) hcs ?_
    exact h.le0 ho (by decide)
  · rw [if_neg hok]; exact h
theorem INV.gully {S : Ast} {s : Nat} (h : INV S s) (c n ra : Int32) : INV (if okL S c n ra then sL S c n ra else S) s := by
  by_cases hok : okL S c n ra
  · rw [if_pos hok]
    have hW := h.1
    have ho : ∀ k, k ∉ ([36, 37, 38, 35] : List Nat) → (sL S c n ra).1 k = S.1 k := fun k hk => by
      simp only [List.mem_cons, List.not_mem_nil, not_or, or_false] at hk
      exact sL_o c n ra k hk.1 hk.2.1 hk.2.2.1 hk.2.2.2
    have cc := hW.1.2.2.2.2.2
    have c1 := cn_inc (T := sL S c n ra) cc (by omega) (sL_c c n ra)
    have hlt := cc.lt 8 (by decide) hok.1
    have cC : CN (sL S c n ra) 35 8 := ⟨c1.2, by rw [c1.1]; omega⟩
    have hcs := cs_but (q := 35) ho c1.1 (by decide)
    have hnd : ∀ {v : Int32}, ¬ wI v 0 (S.1 1 0 - 1) = 0 → nd (sL S c n ra) v := fun hv => nd.up (hcs 1 (by decide)) _ ⟨(isn hW.1.1 hv).2.2, (isn hW.1.1 hv).2.1⟩
    have kn : ∀ i, i < cn (sL S c n ra) 35 → (i < cn S 35 ∧ sm (sL S c n ra) S [36, 37, 38] i) ∨ gullyOK (sL S c n ra) i := fun i hi => by
      by_cases e : i = cn S 35
      · right
        subst e
        unfold gullyOK
        rw [sL_36, sL_37, sL_38]
        exact ⟨cell8 hok.2.1, hnd hok.2.2.1, wI_rg hok.2.2.2 (by decide) (by decide)⟩
      · left
        exact ⟨by rw [c1.1] at hi; omega, fun k hk => sL_i c n ra k i (by intro q; subst q; revert hk; decide) e⟩
    refine h.of ho (fun _ _ => rfl) (by decide) (hW.grow ⟨hW.1.1.out ho (by decide), hW.1.2.1.out ho (by decide), hW.1.2.2.1.out ho (by decide), hW.1.2.2.2.1.out ho (by decide), hW.1.2.2.2.2.1.out ho (by decide), cC⟩ (hcs 1 (by decide)) (kin ho (by decide) (by decide)) (kin ho (by decide) (by decide)) (kin ho (by decide) (by decide)) (kin ho (by decide) (by decide)) (kin ho (by decide) (by decide)) kn (kin1 ho (by decide))) (h.2.1.out ho (by decide)) hcs ?_
    exact h.le0 ho (by decide)
  · rw [if_neg hok]; exact h

theorem uI_out {S : Ast} {q i : Nat} {v : Int32} : ∀ k, k ∉ ([q] : List Nat) → (uI S q i v).1 k = S.1 k := fun k hk => uI_1n (fun e => hk (by rw [e]; exact List.mem_singleton.mpr rfl))
theorem INV.rain {S : Ast} {s : Nat} (h : INV S s) (mi v : Int32) : INV (if okR mi v then uI S 23 mi.toNatClampNeg v else S) s := by
  by_cases hok : okR mi v
  · rw [if_pos hok]
    have hW := h.1
    have ho := uI_out (S := S) (q := 23) (i := mi.toNatClampNeg) (v := v)
    refine h.of ho (fun _ _ => rfl) (by decide) (hW.grow ⟨hW.1.1.out ho (by decide), hW.1.2.1.out ho (by decide), hW.1.2.2.1.out ho (by decide), hW.1.2.2.2.1.out ho (by decide), hW.1.2.2.2.2.1.out ho (by decide), hW.1.2.2.2.2.2.out ho (by decide)⟩ (cs_out ho (by decide) 1 (by decide)) (kin ho (by decide) (by decide)) (kin ho (by decide) (by decide)) (kin ho (by decide) (by decide)) (kin ho (by decide) (by decide)) (kin ho (by decide) (by decide)) (kin ho (by decide) (by decide)) (fun i hi => ?_)) (h.2.1.out ho (by decide)) (cs_out ho (by decide)) (h.le0 ho (by decide))
    rw [uI_1s]
    by_cases e : i = mi.toNatClampNeg
    · right
      subst e
      rw [va_up_self]
      exact wI_rg hok.2 (by decide) (by decide)
    · left
      rw [va_up_ne _ _ e]
  · rw [if_neg hok]; exact h
theorem INV.street {S : Ast} {s : Nat} (h : INV S s) (n c : Int32) : INV (if okS S n c then uI S 5 n.toNatClampNeg c else S) s := by
  by_cases hok : okS S n c
  · rw [if_pos hok]
    have hW := h.1
    have ho := uI_out (S := S) (q := 5) (i := n.toNatClampNeg) (v := c)
    refine h.of ho (fun _ _ => rfl) (by decide) (hW.grow ⟨hW.1.1.out ho (by decide), hW.1.2.1.out ho (by decide), hW.1.2.2.1.out ho (by decide), hW.1.2.2.2.1.out ho (by decide), hW.1.2.2.2.2.1.out ho (by decide), hW.1.2.2.2.2.2.out ho (by decide)⟩ (cs_out ho (by decide) 1 (by decide)) (fun i hi => ?_) (kin ho (by decide) (by decide)) (kin ho (by decide) (by decide)) (kin ho (by decide) (by decide)) (kin ho (by decide) (by decide)) (kin ho (by decide) (by decide)) (kin1 ho (by decide))) (h.2.1.out ho (by decide)) (cs_out ho (by decide)) (h.le0 ho (by decide))
    rw [cn_out ho (by decide)] at hi
    right
    have hq := hW.2.1 i hi
    unfold nodeOK at hq ⊢
    rw [ho 2 (by decide), ho 3 (by decide), ho 4 (by decide), uI_1s]
    by_cases e : i = n.toNatClampNeg
    · subst e
      rw [va_up_self]
      refine ⟨hq.1, hq.2.1, hq.2.2.1, hq.2.2.2.1, ?_⟩
      by_cases e1 : c = -1
      · left; exact e1
      · right
        exact cell8 (fun q => hok.2 ((wI_m1 c).mpr ⟨e1, q⟩))
    · rw [va_up_ne _ _ e]
      exact hq
  · rw [if_neg hok]; exact h
theorem INV.run {S : Ast} {s : Nat} (h : INV S s) (n : Int32) : ∃ s', INV (if okRun S n then fRun S n.toNatClampNeg else S) s' := by
  by_cases hok : okRun S n
  · rw [if_pos hok]
    obtain ⟨hn, hn1, hn6, hns⟩ := okRun_n h.2.2.2.2.1 h.2.2.2.2.2.1 hok
    have r := RV.run ⟨h.1, h.2.2.2.2.2.2.1, h.2.2.2.2.2.2.2⟩ h.2.2.2.2.1 n.toNatClampNeg hns
    have ho : ∀ k, k ∉ ([30, 40] : List Nat) → (fRun S n.toNatClampNeg).1 k = S.1 k := fun k hk => by
      simp only [List.mem_cons, List.not_mem_nil, not_or, or_false] at hk
      exact fRun_1 S _ hk.1 hk.2
    exact ⟨s + n.toNatClampNeg, r.1, h.2.1.out ho (by decide), h.2.2.1.out ho (by decide), h.le0 ho (by decide), fRun_40 S h.2.2.2.2.1 _, hns, r.2.1, r.2.2⟩
  · rw [if_neg hok]; exact ⟨s, h⟩
theorem WSt.out {S T : Ast} {L : List Nat} (hW : WSt S) (ho : ∀ k, k ∉ L → T.1 k = S.1 k) (hd : ∀ k ∈ ([1, 2, 3, 4, 5, 10, 11, 12, 13, 14, 18, 19, 20, 21, 23, 24, 25, 26, 29, 31, 32, 33, 34, 35, 36, 37, 38] : List Nat), k ∉ L) : WSt T :=
  hW.grow ⟨hW.1.1.out ho (hd _ (by decide)), hW.1.2.1.out ho (hd _ (by decide)), hW.1.2.2.1.out ho (hd _ (by decide)), hW.1.2.2.2.1.out ho (hd _ (by decide)), hW.1.2.2.2.2.1.out ho (hd _ (by decide)), hW.1.2.2.2.2.2.out ho (hd _ (by decide))⟩ (Nat.le_of_eq (cn_out ho (hd 1 (by decide))).symm) (kin ho (hd _ (by decide)) (fun k hk => hd k (by revert k; decide))) (kin ho (hd _ (by decide)) (fun k hk => hd k (by revert k; decide))) (kin ho (hd _ (by decide)) (fun k hk => hd k (by revert k; decide))) (kin ho (hd _ (by decide)) (fun k hk => hd k (by revert k; decide))) (kin ho (hd _ (by decide)) (fun k hk => hd k (by revert k; decide))) (kin ho (hd _ (by decide)) (fun k hk => hd k (by revert k; decide))) (kin1 ho (hd _ (by decide)))
/-- a change of the line's places -/
theorem INV.line {S T : Ast} {s : Nat} {L : List Nat} (h : INV S s) (ho : ∀ k, k ∉ L → T.1 k = S.1 k) (hJ : ∀ k, k ≠ 54 → T.2 k = S.2 k) (hd : ∀ k ∈ ([0, 1, 2, 3, 4, 5, 10, 11, 12, 13, 14, 18, 19, 20, 21, 23, 24, 25, 26, 29, 30, 31, 32, 33, 34, 35, 36, 37, 38, 40] : List Nat), k ∉ L) (hl : LSt T) : INV T s :=
  h.of ho hJ ⟨hd _ (by decide), hd _ (by decide), hd _ (by decide)⟩ (h.1.out ho (fun k hk => hd k (by revert k; decide))) hl (cs_out ho (fun k hk => hd k (by revert k; decide))) (h.le0 ho ⟨hd _ (by decide), hd _ (by decide)⟩)
theorem INV.list {S : Ast} {s : Nat} (h : INV S s) (wi pr : Int32) : INV (if okLi S wi pr then sLi S wi pr else S) s := by
  by_cases hok : okLi S wi pr
  · rw [if_pos hok]
    have ho : ∀ k, k ∉ ([45, 46, 44, 55] : List Nat) → (sLi S wi pr).1 k = S.1 k := fun k hk => by
      simp only [List.mem_cons, List.not_mem_nil, not_or, or_false] at hk
      unfold sLi
      rw [uI_1n hk.2.2.2, uI_1n hk.2.2.1, uI_1n hk.2.1, uI_1n hk.1]
    have hl := h.2.1
    have e44 : (sLi S wi pr).1 44 0 = S.1 44 0 + 1 := by unfold sLi; rw [uI_1n (by decide), uI_at]
    have e45 : (sLi S wi pr).1 45 = va_up (S.1 45) (cn S 44) wi := by unfold sLi; rw [uI_1n (by decide), uI_1n (by decide), uI_1n (by decide), uI_1s]
    have e46 : (sLi S wi pr).1 46 = va_up (S.1 46) (cn S 44) pr := by unfold sLi; rw [uI_1n (by decide), uI_1n (by decide), uI_1s, uI_1n (by decide)]
    have c1 := cn_inc (T := sLi S wi pr) hl.2.1 (by omega) e44
    have hlt := hl.2.1.lt 6 (by decide) hok.1
    refine h.line ho (fun _ _ => rfl) (by decide) ⟨hl.1.out ho (by decide), ⟨c1.2, by rw [c1.1]; omega⟩, ?_, fun e he => ?_, ?_, ?_⟩
    · rw [cn_out ho (by decide), ho 51 (by decide), ho 52 (by decide), ho 53 (by decide)]; exact hl.2.2.1
    · rw [e45, e46]
      by_cases q : e = cn S 44
      · subst q
        rw [va_up_self, va_up_self]
        exact ⟨wI_rg hok.2.1 (by decide) (by decide), wI_rg hok.2.2.1 (by decide) (by decide)⟩
      · rw [va_up_ne _ _ q, va_up_ne _ _ q]
        exact hl.2.2.2.1 e (by omega)
    · rw [ho 48 (by decide)]; exact hl.2.2.2.2.1
    · rw [ho 49 (by decide)]; exact hl.2.2.2.2.2
  · rw [if_neg hok]; exact h
theorem INV.begin {S : Ast} {s : Nat} (h : INV S s) (g b : Int32) : INV (if okB g b then sB S g b else S) s := by
  by_cases hok : okB g b
  · rw [if_pos hok]
    have ho : ∀ k, k ∉ ([47, 48, 49, 50, 55] : List Nat) → (sB S g b).1 k = S.1 k := fun k hk => by
      simp only [List.mem_cons, List.not_mem_nil, not_or, or_false] at hk
      unfold sB
      rw [uI_1n hk.2.2.2.2, uI_1n hk.2.2.2.1, uI_1n hk.2.2.1, uI_1n hk.2.1, uI_1n hk.1]
    have hl := h.2.1
    have e50 : (sB S g b).1 50 0 = 0 := by unfold sB; rw [uI_1n (by decide), uI_at]
    have e49 : (sB S g b).1 49 0 = b := by unfold sB; rw [uI_1n (by decide), uI_1n (by decide), uI_at]
    have e48 : (sB S g b).1 48 0 = g := by unfold sB; rw [uI_1n (by decide), uI_1n (by decide), uI_1n (by decide), uI_at]
    have c0 : cn (sB S g b) 50 = 0 := by unfold cn; rw [e50]; decide
    refine h.line ho (fun _ _ => rfl) (by decide) ⟨⟨by rw [e50, c0, nI_0], by rw [c0]; omega⟩, hl.2.1.out ho (by decide), fun p hp => ?_, ?_, ?_, ?_⟩
    · rw [c0] at hp; omega
    · rw [cn_out ho (by decide), ho 45 (by decide), ho 46 (by decide)]; exact hl.2.2.2.1
    · rw [e48]; exact wI_rg hok.1 (by decide) (by decide)
    · rw [e49]; exact wI_rg hok.2 (by decide) (by decide)
  · rw [if_neg hok]; exact h
theorem INV.piece {S : Ast} {s : Nat} (h : INV S s) (g l e : Int32) : INV (if okPc S g l e then sPc S g l e else S) s := by
  by_cases hok : okPc S g l e
  · rw [if_pos hok]
    have ho : ∀ k, k ∉ ([51, 52, 53, 50, 55] : List Nat) → (sPc S g l e).1 k = S.1 k := fun k hk => by
      simp only [List.mem_cons, List.not_mem_nil, not_or, or_false] at hk
      unfold sPc
      rw [uI_1n hk.2.2.2.2, uI_1n hk.2.2.2.1, uI_1n hk.2.2.1, uI_1n hk.2.1, uI_1n hk.1]
    have hl := h.2.1
    have e50 : (sPc S g l e).1 50 0 = S.1 50 0 + 1 := by unfold sPc; rw [uI_1n (by decide), uI_at]
    have e51 : (sPc S g l e).1 51 = va_up (S.1 51) (cn S 50) g := by unfold sPc; rw [uI_1n (by decide), uI_1n (by decide), uI_1n (by decide), uI_1n (by decide), uI_1s]
    have e52 : (sPc S g l e).1 52 = va_up (S.1 52) (cn S 50) l := by unfold sPc; rw [uI_1n (by decide), uI_1n (by decide), uI_1n (by decide), uI_1s, uI_1n (by decide)]
    have e53 : (sPc S g l e).1 53 = va_up (S.1 53) (cn S 50) e := by unfold sPc; rw [uI_1n (by decide), uI_1n (by decide), uI_1s, uI_1n (by decide), uI_1n (by decide)]
    have c1 := cn_inc (T := sPc S g l e) hl.1 (by omega) e50
    have hlt := hl.1.lt 10 (by decide) hok.2.1
    refine h.line ho (fun _ _ => rfl) (by decide) ⟨⟨c1.2, by rw [c1.1]; omega⟩, hl.2.1.out ho (by decide), fun p hp => ?_, ?_, ?_, ?_⟩
    · rw [e51, e52, e53]
      by_cases q : p = cn S 50
      · subst q
        rw [va_up_self, va_up_self, va_up_self]
        exact ⟨wI_rg hok.2.2.1 (by decide) (by decide), wI_rg hok.2.2.2.1 (by decide) (by decide), wI_rg hok.2.2.2.2 (by decide) (by decide)⟩
      · rw [va_up_ne _ _ q, va_up_ne _ _ q, va_up_ne _ _ q]
        exact hl.2.2.1 p (by omega)
    · rw [cn_out ho (by decide), ho 45 (by decide), ho 46 (by decide)]; exact hl.2.2.2.1
    · rw [ho 48 (by decide)]; exact hl.2.2.2.2.1
    · rw [ho 49 (by decide)]; exact hl.2.2.2.2.2
  · rw [if_neg hok]; exact h
theorem sLay_o (S : Ast) (co di : Int32) : same (sLay S co di) S ∧ (sLay S co di).2 = S.2 := by
  unfold sLay
  split
  · split
    · exact ⟨TL_same S 1 co.toInt di.toInt (cn S 50) (cn S 44) (cn S 50), TL_2 _ _ _ _ _ _ _⟩
    · exact ⟨same55 S 0, rfl⟩
  · exact ⟨fun _ _ => rfl, rfl⟩
theorem INV.lay {S : Ast} {s : Nat} (h : INV S s) (co di : Int32) (F : Nat → Int64) : INV (sJ (sLay S co di) F) s := by
  obtain ⟨h1, h2⟩ := sLay_o S co di
  have ho : ∀ k, k ∉ ([55, 56, 57, 58] : List Nat) → (sJ (sLay S co di) F).1 k = S.1 k := h1
  refine h.line ho (fun k hk => ?_) (by decide) (h.2.1.out ho (by decide))
  show va_up (sLay S co di).2 54 F k = S.2 k
  rw [va_up_ne _ _ hk, h2]
theorem mo_rg (n : Int32) : 1 ≤ (mo n).toInt ∧ (mo n).toInt ≤ 24 := by
  have e1 : (1 : Int32).toInt = 1 := by decide
  have e24 : (24 : Int32).toInt = 24 := by decide
  unfold mo
  split
  · rw [e1]; omega
  · split
    · rw [e24]; omega
    · rename_i h1 h2
      rw [Int32.lt_iff_toInt_lt] at h1 h2
      omega
theorem INV.start (n : Int32) : INV (S0 (mo n)) 0 := by
  have hz : ∀ k, k ≠ 0 → ∀ i, (S0 (mo n)).1 k i = 0 := fun k hk i => by
    show (if k = 0 then mo n else 0) = 0
    rw [if_neg hk]
  have hc : ∀ k, k ≠ 0 → cn (S0 (mo n)) k = 0 := fun k hk => by
    unfold cn
    rw [hz k hk]; decide
  have hC : ∀ k b, k ≠ 0 → CN (S0 (mo n)) k b := fun k b hk => ⟨by rw [hc k hk, hz k hk, nI_0], by rw [hc k hk]; omega⟩
  have z0 : (0 : Int32).toInt = 0 := by decide
  have m := mo_rg n
  have e0 : (S0 (mo n)).1 0 0 = mo n := rfl
  have hm : ¬ mo n < 0 := by rw [Int32.lt_iff_toInt_lt]; omega
  obtain ⟨j, hj, hj2⟩ := nI_of hm
  have c0 : cn (S0 (mo n)) 0 = j := by unfold cn; rw [e0, hj2, nI_clamp hj]
  have j24 : j ≤ 24 := by
    have : ¬ nI 24 < nI j := by
      rw [← hj2, Int32.lt_iff_toInt_lt]
      have : (nI 24).toInt = 24 := by decide
      omega
    rw [nI_ltI (by omega) hj] at this
    omega
  refine ⟨⟨⟨hC 1 _ (by decide), hC 10 _ (by decide), hC 18 _ (by decide), hC 24 _ (by decide), hC 31 _ (by decide), hC 35 _ (by decide)⟩, fun i hi => ?_, fun i hi => ?_, fun i hi => ?_, fun i hi => ?_, fun i hi => ?_, fun i hi => ?_, fun i hi => ?_⟩, ⟨hC 50 _ (by decide), hC 44 _ (by decide), fun p hp => ?_, fun p hp => ?_, ?_, ?_⟩, ⟨by rw [c0, e0, hj2], by rw [c0]; exact j24⟩, by rw [hc 1 (by decide)]; omega, by rw [hz 40 (by decide), nI_0], by omega, ⟨fun _ _ _ _ => rfl, fun i _ => hz 30 (by decide) i⟩, fun i hi => ?_, fun _ _ => ?_, fun i hi => ?_, ?_⟩
  · rw [hc 1 (by decide)] at hi; omega
  · rw [hc 10 (by decide)] at hi; omega
  · rw [hc 18 (by decide)] at hi; omega
  · rw [hc 24 (by decide)] at hi; omega
  · rw [hc 31 (by decide)] at hi; omega
  · rw [hc 35 (by decide)] at hi; omega
  · rw [hz 23 (by decide)]; exact ⟨by rw [z0]; omega, by rw [z0]; omega⟩
  · rw [hc 50 (by decide)] at hp; omega
  · rw [hc 44 (by decide)] at hp; omega
  · rw [hz 48 (by decide)]; exact ⟨by rw [z0]; omega, by rw [z0]; omega⟩
  · rw [hz 49 (by decide)]; exact ⟨by rw [z0]; omega, by rw [z0]; omega⟩
  · rw [hc 1 (by decide)] at hi; omega
  · show 0 ≤ (0 : Int64).toInt
    rw [l0]; omega
  · rw [hc 18 (by decide)] at hi; omega
  · rw [hc 1 (by decide)]
    show smI (fun _ => (0 : Int64)) 0 + smI (fun _ => (0 : Int64)) 8 ≤ 8000040 * ((0 : Nat) : Int)
    decide

