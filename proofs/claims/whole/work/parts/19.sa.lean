
abbrev Zx : Type := Int32 × Int32 × (Nat → Int64) × (Nat → Nat → Int64)
def cel (g : Gx) (ad : Nat → Nat → Nat) (z : Zx) (S : Ast) : Nat → Nat → va_E
  | 0, _ => .inr (10, [.int (S.1 0 0), .ref (ad 14 1), .ref (ad 14 2), .ref (ad 14 3), .ref (ad 14 4), .ref (ad 14 5), .ref (ad 14 6), .ref (ad 7 0), .ref (ad 8 0), .ref (ad 9 0), .int (S.1 40 0), .long (S.2 41 0), .long (S.2 42 0), .long (S.2 43 0)])
  | 1, i => oNode (S.1 3 i) (S.1 4 i) (ful S i) (S.2 6 i) (S.2 9 i) (S.2 7 i) (S.2 8 i) (S.1 5 i)
  | 2, i => oPipe (ad 1 (S.1 11 i).toNatClampNeg) (ad 1 (S.1 12 i).toNatClampNeg) ((S.1 14 i).toInt64 * (S.1 14 i).toInt64) (wB S i) (S.2 15 i) (S.2 16 i) (S.2 17 i)
  | 3, i => oArea (ad 1 (S.1 19 i).toNatClampNeg) ((S.1 20 i).toInt64 * (1000 - S.1 21 i).toInt64) (S.2 22 i)
  | 4, i => oPump (ad 1 (S.1 25 i).toNatClampNeg) (ad 1 (S.1 26 i).toNatClampNeg) (S.1 27 i) (S.1 28 i) (S.1 29 i) (S.1 30 i)
  | 5, i => oGate (ad 1 (S.1 32 i).toNatClampNeg) ((S.1 33 i).toInt64 * (S.1 4 (S.1 32 i).toNatClampNeg).toInt64) (S.1 34 i)
  | 6, i => oGully (S.1 36 i) (ad 1 (S.1 37 i).toNatClampNeg) (S.1 38 i)
  | 7, _ => aI g 1440 (S.1 23)
  | 8, _ => aJ g 8 (S.2 39)
  | 9, _ => .inr (5, [.ref (ad 14 10), .ref (ad 14 11), .ref (ad 12 0), .int (S.1 50 0), .int (S.1 47 0), .int (S.1 55 0), .int (S.1 48 0), .int (S.1 49 0), .int z.1, .int z.2.1])
  | 10, i => oEntry (S.1 45 i) (S.1 46 i)
  | 11, i => oPiece (ad 13 i) (S.1 51 i) (S.1 52 i) (S.1 53 i) (S.1 56 i) (S.1 57 i) (S.1 58 i)
  | 12, _ => aJ g 401 z.2.2.1
  | 13, i => aJ g ((40 * i + 1) * 6) (z.2.2.2 i)
  | _, _ => .inr (2, [])
/-- how many of a kind there are -/
def vN (S : Ast) (np : Nat) : Nat → Nat
  | 0 => 1 | 1 => cn S 1 | 2 => cn S 10 | 3 => cn S 18 | 4 => cn S 24 | 5 => cn S 31 | 6 => cn S 35 | 7 => 1 | 8 => 1 | 9 => 1 | 10 => cn S 44 | 11 => np | 12 => 1 | 13 => np | _ => 0
def LJ : List Nat := [1, 2, 3, 4, 5, 6, 10, 11]
def vk : va_E → Nat
  | .inl (_, _, .inl _) => 1
  | .inl (_, _, .inr (.inl _)) => 2
  | .inl (_, _, .inr (.inr (.inl _))) => 3
  | .inl (_, _, .inr (.inr (.inr (.inl _)))) => 4
  | .inl (_, _, .inr (.inr (.inr (.inr _)))) => 5
  | .inr _ => 6
theorem cel_nl (g : Gx) (ad : Nat → Nat → Nat) (z : Zx) (S : Ast) (k i : Nat) : (∀ fs : List Value, cel g ad z S k i ≠ .inr (0, fs)) ∧ ∀ (n : Nat) (f : Nat → Option Nat), cel g ad z S k i ≠ aO g n f := by
  match k with
  | 0 | 1 | 2 | 3 | 4 | 5 | 6 | 9 | 10 | 11 => exact ⟨fun fs h => (by cases h), fun n f h => (by cases h)⟩
  | 7 => exact ⟨fun fs h => (by cases h), fun n f h => absurd (show (1 : Nat) = 5 from congrArg vk h) (by decide)⟩
  | 8 | 12 | 13 => exact ⟨fun fs h => (by cases h), fun n f h => absurd (show (2 : Nat) = 5 from congrArg vk h) (by decide)⟩
  | _ + 14 => exact ⟨fun fs h => (by cases h), fun n f h => (by cases h)⟩
/-- the class's objects and rows, at ad (kind) (number), hold S; O: the addresses that are its own -/
def SA (g : Gx) (w : Wd) (O : Nat → Prop) (ad : Nat → Nat → Nat) (z : Zx) (np : Nat) (S : Ast) : Prop :=
  (∀ k i, i < vN S np k → w (ad k i) = some (cel g ad z S k i) ∧ O (ad k i)) ∧ (∀ k i k' i', i < vN S np k → i' < vN S np k' → ad k i = ad k' i' → k = k' ∧ i = i') ∧
  (∀ j ∈ LJ, Lst g w (ad 14 j) (ad 15 j) (vN S np j) (ad j) ∧ O (ad 14 j) ∧ (0 < vN S np j → O (ad 15 j))) ∧ (∀ j ∈ LJ, ∀ j' ∈ LJ, ad 14 j = ad 14 j' → j = j') ∧ ∀ j ∈ LJ, ∀ j' ∈ LJ, 0 < vN S np j → 0 < vN S np j' → ad 15 j = ad 15 j' → j = j'
/-- what a call may do to the rest of the world -/
def Fr (w : Wd) (O : Nat → Prop) (w' : Wd) (O' : Nat → Prop) : Prop := (∀ a, O' a → O a ∨ w a = none) ∧ ∀ a, ¬ O a → w a ≠ none → w' a = w a
theorem Fr.rf {w : Wd} {O : Nat → Prop} : Fr w O w O := ⟨fun _ h => Or.inl h, fun _ _ _ => rfl⟩
theorem Fr.tr {w w1 w2 : Wd} {O O1 O2 : Nat → Prop} (h : Fr w O w1 O1) (h' : Fr w1 O1 w2 O2) : Fr w O w2 O2 := by
  have key : ∀ a, O1 a → O a ∨ w a = none := h.1
  refine ⟨fun a ha => ?_, fun a h1 h2 => ?_⟩
  · rcases h'.1 a ha with q | q
    · exact h.1 a q
    · by_cases h3 : O a
      · exact Or.inl h3
      · right
        cases h4 : w a with
        | none => rfl
        | some e =>
          have := h.2 a h3 (by rw [h4]; exact fun z => by cases z)
          rw [q, h4] at this
          cases this
  · have h3 := h.2 a h1 h2
    rw [← h3]
    refine h'.2 a (fun q => ?_) (by rw [h3]; exact h2)
    rcases h.1 a q with q | q
    · exact h1 q
    · exact h2 q
theorem Fr.put {w : Wd} {O : Nat → Prop} {a : Nat} {e : va_E} (ha : O a) : Fr w O (wst w a e) O := ⟨fun _ h => Or.inl h, fun q h1 _ => wst_n (fun z => h1 (by rw [z]; exact ha))⟩
theorem Lst.row {g : Gx} {w : Wd} {l e n : Nat} {f : Nat → Nat} (h : Lst g w l e n f) (hn : 0 < n) : ∃ (N : Nat) (h : Nat → Option Nat), w e = some (aO g N h) ∧ n ≤ N ∧ 10 ≤ N ∧ N ≤ 60 ∧ ∀ i, i < n → h i = some (f i) := by
  obtain ⟨mc, N, h, h1, h2⟩ := h
  rcases h2 with ⟨h2, -⟩ | h2
  · omega
  · exact ⟨N, h, h2.2⟩
theorem Lst.cong0 {g : Gx} {w w' : Wd} {l e n : Nat} {f : Nat → Nat} (h : Lst g w l e n f) (hl : w' l = w l) (he : 0 < n → w' e = w e) : Lst g w' l e n f := by
  obtain ⟨mc, N, h, h1, h2⟩ := h
  refine ⟨mc, N, h, hl.trans h1, ?_⟩
  rcases h2 with h2 | ⟨h0, h2, h3⟩
  · exact Or.inl h2
  · exact Or.inr ⟨h0, (he h0).trans h2, h3⟩
section SAs
variable {g : Gx} {w : Wd} {O : Nat → Prop} {ad : Nat → Nat → Nat} {z : Zx} {np : Nat} {S : Ast}
theorem SA.at (h : SA g w O ad z np S) {k i : Nat} (hi : i < vN S np k) : w (ad k i) = some (cel g ad z S k i) := (h.1 k i hi).1
theorem SA.own (h : SA g w O ad z np S) {k i : Nat} (hi : i < vN S np k) : O (ad k i) := (h.1 k i hi).2
theorem SA.lst (h : SA g w O ad z np S) {j : Nat} (hj : j ∈ LJ) : Lst g w (ad 14 j) (ad 15 j) (vN S np j) (ad j) := (h.2.2.1 j hj).1
/-- one cell is written -/
theorem SA.up (h : SA g w O ad z np S) {k i : Nat} (hi : i < vN S np k) {e : va_E} (T : Ast) (y : Zx) (hN : ∀ j, vN T np j = vN S np j) (he : e = cel g ad y T k i) (hc : ∀ k' i', i' < vN S np k' → ¬ (k' = k ∧ i' = i) → cel g ad y T k' i' = cel g ad z S k' i') : SA g (wst w (ad k i) e) O ad y np T := by
  obtain ⟨h1, h2, h3, h4, h5⟩ := h
  have hw := (h1 k i hi).1
  have hl : ∀ j ∈ LJ, ad 14 j ≠ ad k i := by
    intro j hj q
    obtain ⟨mc, hm⟩ := (h3 j hj).1.sz
    rw [q, hw] at hm
    exact (cel_nl g ad z S k i).1 _ (Option.some.inj hm)
  have hr : ∀ j ∈ LJ, 0 < vN S np j → (wst w (ad k i) e) (ad 15 j) = w (ad 15 j) := by
    intro j hj hn
    apply wst_n
    intro q
    obtain ⟨N, f, q1, -⟩ := (h3 j hj).1.row hn
    rw [q, hw] at q1
    exact (cel_nl g ad z S k i).2 _ _ (Option.some.inj q1)
  refine ⟨fun k' i' hi' => ?_, fun a b c d q1 q2 => h2 a b c d (by rw [← hN]; exact q1) (by rw [← hN]; exact q2), fun j hj => ?_, h4, fun j hj j' hj' q1 q2 => ?_⟩
  · rw [hN] at hi'
    refine ⟨?_, (h1 k' i' hi').2⟩
    by_cases hk : k' = k ∧ i' = i
    · obtain ⟨rfl, rfl⟩ := hk
      rw [wst_s, he]
    · rw [wst_n (fun q => hk (h2 k' i' k i hi' hi q)), (h1 k' i' hi').1, hc k' i' hi' hk]
  · rw [hN]
    exact ⟨(h3 j hj).1.cong0 (wst_n (hl j hj)) (hr j hj), (h3 j hj).2.1, (h3 j hj).2.2⟩
  · rw [hN] at q1 q2
    exact h5 j hj j' hj' q1 q2
/-- another state that the class's cells don't tell from S -/
theorem SA.cong (h : SA g w O ad z np S) (T : Ast) (hN : ∀ j, vN T np j = vN S np j) (hc : ∀ k i, i < vN S np k → cel g ad z T k i = cel g ad z S k i) : SA g w O ad z np T := by
  obtain ⟨h1, h2, h3, h4, h5⟩ := h
  refine ⟨fun k i hi => ?_, fun a b c d q1 q2 => h2 a b c d (by rw [← hN]; exact q1) (by rw [← hN]; exact q2), fun j hj => ?_, h4, fun j hj j' hj' q1 q2 => ?_⟩
  · rw [hN] at hi
    rw [hc k i hi]
    exact h1 k i hi
  · rw [hN]; exact h3 j hj
  · rw [hN] at q1 q2
    exact h5 j hj j' hj' q1 q2
/-- nothing of the class's own was touched -/
theorem SA.kept {w' : Wd} (h : SA g w O ad z np S) (hw : ∀ a, O a → w' a = w a) : SA g w' O ad z np S := by
  obtain ⟨h1, h2, h3, h4, h5⟩ := h
  refine ⟨fun k i hi => ⟨(hw _ (h1 k i hi).2).trans (h1 k i hi).1, (h1 k i hi).2⟩, h2, fun j hj => ⟨(h3 j hj).1.cong0 (hw _ (h3 j hj).2.1) (fun q => hw _ ((h3 j hj).2.2 q)), (h3 j hj).2⟩, h4, h5⟩
end SAs

