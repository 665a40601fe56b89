
def adg (ad : Nat → Nat → Nat) (j n q e : Nat) : Nat → Nat → Nat := va_up (va_up ad j (va_up (ad j) n q)) 15 (va_up (ad 15) j e)
theorem adg_j {ad : Nat → Nat → Nat} {j n q e : Nat} (h : j ≠ 15) : adg ad j n q e j = va_up (ad j) n q := by
  unfold adg
  rw [va_up_ne _ _ h, va_up_self]
theorem adg_n {ad : Nat → Nat → Nat} {j n q e k : Nat} (h : k ≠ j) (h5 : k ≠ 15) : adg ad j n q e k = ad k := by
  unfold adg
  rw [va_up_ne _ _ h5, va_up_ne _ _ h]
theorem adg_5 {ad : Nat → Nat → Nat} {j n q e : Nat} : adg ad j n q e 15 = va_up (ad 15) j e := va_up_self _ _ _
theorem LJ_15 : ∀ j ∈ LJ, j ≠ 15 ∧ j ≠ 14 := by decide
theorem vN_15 (S : Ast) (np : Nat) : vN S np 15 = 0 := rfl
theorem vN_14 (S : Ast) (np : Nat) : vN S np 14 = 0 := rfl
/-- SA with counts of its own -/
def SAc (g : Gx) (w : Wd) (O : Nat → Prop) (ad : Nat → Nat → Nat) (z : Zx) (N : Nat → Nat) (S : Ast) : Prop :=
  (∀ k i, i < N k → w (ad k i) = some (cel g ad z S k i) ∧ O (ad k i)) ∧ (∀ k i k' i', i < N k → i' < N k' → ad k i = ad k' i' → k = k' ∧ i = i') ∧
  (∀ j ∈ LJ, Lst g w (ad 14 j) (ad 15 j) (N j) (ad j) ∧ O (ad 14 j) ∧ (0 < N j → O (ad 15 j))) ∧ (∀ j ∈ LJ, ∀ j' ∈ LJ, ad 14 j = ad 14 j' → j = j') ∧ ∀ j ∈ LJ, ∀ j' ∈ LJ, 0 < N j → 0 < N j' → ad 15 j = ad 15 j' → j = j'
theorem SA.toC {g : Gx} {w : Wd} {O : Nat → Prop} {ad : Nat → Nat → Nat} {z : Zx} {np : Nat} {S : Ast} (h : SA g w O ad z np S) : SAc g w O ad z (vN S np) S := h
theorem SAc.toA {g : Gx} {w : Wd} {O : Nat → Prop} {ad : Nat → Nat → Nat} {z : Zx} {np : Nat} {S : Ast} (h : SAc g w O ad z (vN S np) S) : SA g w O ad z np S := h
theorem SAc.grow {g : Gx} {w w2 : Wd} {O : Nat → Prop} {ad : Nat → Nat → Nat} {z : Zx} {N N2 : Nat → Nat} {S : Ast} (h : SAc g w O ad z N S) (h15 : N 15 = 0) {j n q e' : Nat} (hj : j ∈ LJ) (hn : N j = n) {e : va_E} (hq : w q = none) (hl : Lst g w2 (ad 14 j) e' (n + 1) (va_up (ad j) n q)) (he' : (e' = ad 15 j ∧ 0 < n) ∨ wst w q e e' = none) (hf : ∀ a, a ≠ ad 14 j → a ≠ e' → w2 a = wst w q e a) (T : Ast) (hN : ∀ k, N2 k = if k = j then n + 1 else N k) (he : e = cel g (adg ad j n q e') z T j n) (hc : ∀ k i, i < N k → cel g (adg ad j n q e') z T k i = cel g ad z S k i) :
    SAc g w2 (fun a => O a ∨ a = q ∨ a = e') (adg ad j n q e') z N2 T ∧ Fr w O w2 (fun a => O a ∨ a = q ∨ a = e') := by
  obtain ⟨h1, h2, h3, h4, h5⟩ := h
  obtain ⟨j5, j4⟩ := LJ_15 j hj
  obtain ⟨mcj, hmj⟩ := (h3 j hj).1.sz
  have w1 : ∀ a, w a ≠ none → wst w q e a = w a := fun a ha => wst_n (fun x => ha (by rw [x]; exact hq))
  have some_ne : ∀ {a : Nat} {x : va_E}, w a = some x → w a ≠ none := fun hx => by rw [hx]; exact fun y => by cases y
  -- the row isn't any of the old cells but the list's own row
  have row_ne : ∀ a x, w a = some x → (∀ NN f, x ≠ aO g NN f) → a ≠ e' := by
    intro a x hx hno hae
    rcases he' with ⟨q1, q2⟩ | q1
    · obtain ⟨NN, f, q3, -⟩ := (h3 j hj).1.row (by rw [hn]; exact q2)
      rw [hae, q1, q3] at hx
      exact hno _ _ (Option.some.inj hx).symm
    · rw [← hae, w1 a (some_ne hx), hx] at q1
      cases q1
  have qe : q ≠ e' := by
    intro x
    rcases he' with ⟨q1, q2⟩ | q1
    · obtain ⟨NN, f, q3, -⟩ := (h3 j hj).1.row (by rw [hn]; exact q2)
      rw [← q1, ← x, hq] at q3
      cases q3
    · rw [← x, wst_s] at q1
      cases q1
  have ql : q ≠ ad 14 j := by
    intro x
    rw [← x, hq] at hmj
    cases hmj
  have old : ∀ k i, i < N k → w2 (ad k i) = w (ad k i) := by
    intro k i hi
    have hw := (h1 k i hi).1
    rw [hf _ ?_ (row_ne _ _ hw (cel_nl g ad z S k i).2), w1 _ (some_ne hw)]
    intro x
    rw [x, hmj] at hw
    exact (cel_nl g ad z S k i).1 _ (Option.some.inj hw).symm
  have k15 : ∀ k i, i < N k → k ≠ 15 := by
    intro k i hi x
    rw [x, h15] at hi
    omega
  have adk : ∀ k i, i < N k → adg ad j n q e' k i = ad k i := by
    intro k i hi
    by_cases hk : k = j
    · subst hk
      rw [adg_j j5, va_up_ne]
      rw [hn] at hi
      omega
    · rw [adg_n hk (k15 k i hi)]
  have vlt : ∀ k i, i < N2 k → (k = j ∧ i = n) ∨ i < N k := by
    intro k i hi
    rw [hN] at hi
    by_cases hk : k = j
    · rw [if_pos hk] at hi
      by_cases hin : i = n
      · exact Or.inl ⟨hk, hin⟩
      · right; rw [hk, hn]; omega
    · rw [if_neg hk] at hi
      exact Or.inr hi
  have adj : adg ad j n q e' j n = q := by rw [adg_j j5, va_up_self]
  have a14 : adg ad j n q e' 14 = ad 14 := adg_n (Ne.symm j4) (by decide)
  have rows : ∀ j' ∈ LJ, j' ≠ j → 0 < N j' → w2 (ad 15 j') = w (ad 15 j') ∧ ad 15 j' ≠ e' := by
    intro j' hj' hne h0
    obtain ⟨NN, f, q3, -⟩ := (h3 j' hj').1.row h0
    have hre : ad 15 j' ≠ e' := by
      intro x
      rcases he' with ⟨q1, q2⟩ | q1
      · exact hne (h5 j' hj' j hj h0 (by rw [hn]; exact q2) (x.trans q1))
      · rw [← x, w1 _ (some_ne q3), q3] at q1
        cases q1
    refine ⟨?_, hre⟩
    rw [hf _ ?_ hre, w1 _ (some_ne q3)]
    intro x
    rw [x, hmj] at q3
    cases q3
  refine ⟨⟨fun k i hi => ?_, fun k i k' i' hi hi' hx => ?_, fun j' hj' => ?_, fun j1 hj1 j2 hj2 hx => ?_, fun j1 hj1 j2 hj2 g1 g2 hx => ?_⟩, fun a ha => ?_, fun a ha hb => ?_⟩
  · rcases vlt k i hi with ⟨rfl, rfl⟩ | hi
    · rw [adj, hf _ ql qe, wst_s, he]
      exact ⟨rfl, Or.inr (Or.inl rfl)⟩
    · rw [adk k i hi, old k i hi, (h1 k i hi).1, hc k i hi]
      exact ⟨rfl, Or.inl (h1 k i hi).2⟩
  · rcases vlt k i hi with ⟨rfl, rfl⟩ | hi <;> rcases vlt k' i' hi' with ⟨rfl, rfl⟩ | hi'
    · exact ⟨rfl, rfl⟩
    · rw [adj, adk k' i' hi'] at hx
      have := (h1 k' i' hi').1
      rw [← hx, hq] at this
      cases this
    · rw [adj, adk k i hi] at hx
      have := (h1 k i hi).1
      rw [hx, hq] at this
      cases this
    · rw [adk k i hi, adk k' i' hi'] at hx
      exact h2 k i k' i' hi hi' hx
  · rw [a14, hN, adg_5]
    by_cases hjj : j' = j
    · subst hjj
      rw [if_pos rfl, va_up_self, adg_j j5]
      exact ⟨hl, Or.inl (h3 j' hj').2.1, fun _ => Or.inr (Or.inr rfl)⟩
    · rw [if_neg hjj, va_up_ne _ _ hjj, adg_n hjj (LJ_15 j' hj').1]
      refine ⟨(h3 j' hj').1.cong0 ?_ (fun h0 => (rows j' hj' hjj h0).1), Or.inl (h3 j' hj').2.1, fun h0 => Or.inl ((h3 j' hj').2.2 h0)⟩
      obtain ⟨mc', hm'⟩ := (h3 j' hj').1.sz
      rw [hf _ (fun x => hjj (h4 j' hj' j hj x)) (row_ne _ _ hm' (fun NN f x => by cases x)), w1 _ (some_ne hm')]
  · rw [a14] at hx
    exact h4 j1 hj1 j2 hj2 hx
  · rw [adg_5] at hx
    rw [hN] at g1 g2
    by_cases a1 : j1 = j <;> by_cases a2 : j2 = j
    · rw [a1, a2]
    · rw [if_neg a2] at g2
      rw [a1, va_up_self, va_up_ne _ _ a2] at hx
      exact absurd hx.symm (rows j2 hj2 a2 g2).2
    · rw [if_neg a1] at g1
      rw [a2, va_up_self, va_up_ne _ _ a1] at hx
      exact absurd hx (rows j1 hj1 a1 g1).2
    · rw [if_neg a1] at g1
      rw [if_neg a2] at g2
      rw [va_up_ne _ _ a1, va_up_ne _ _ a2] at hx
      exact h5 j1 hj1 j2 hj2 g1 g2 hx
  · rcases ha with ha | rfl | rfl
    · exact Or.inl ha
    · exact Or.inr hq
    · rcases he' with ⟨q1, q2⟩ | q1
      · left
        rw [q1]
        exact (h3 j hj).2.2 (by rw [hn]; exact q2)
      · right
        rw [wst_n (Ne.symm qe)] at q1
        exact q1
  · have hal : a ≠ ad 14 j := fun x => ha (by rw [x]; exact (h3 j hj).2.1)
    have hae : a ≠ e' := by
      intro x
      rcases he' with ⟨q1, q2⟩ | q1
      · exact ha (by rw [x, q1]; exact (h3 j hj).2.2 (by rw [hn]; exact q2))
      · rw [← x, w1 a hb] at q1
        exact hb q1
    rw [hf a hal hae, w1 a hb]
theorem SA.grow {g : Gx} {w w2 : Wd} {O : Nat → Prop} {ad : Nat → Nat → Nat} {z : Zx} {np : Nat} {S : Ast} (h : SA g w O ad z np S) {j n q e' : Nat} (hj : j ∈ LJ) (hn : vN S np j = n) {e : va_E} (hq : w q = none) (hl : Lst g w2 (ad 14 j) e' (n + 1) (va_up (ad j) n q)) (he' : (e' = ad 15 j ∧ 0 < n) ∨ wst w q e e' = none) (hf : ∀ a, a ≠ ad 14 j → a ≠ e' → w2 a = wst w q e a) (T : Ast) (hN : ∀ k, vN T np k = if k = j then n + 1 else vN S np k) (he : e = cel g (adg ad j n q e') z T j n) (hc : ∀ k i, i < vN S np k → cel g (adg ad j n q e') z T k i = cel g ad z S k i) :
    SA g w2 (fun a => O a ∨ a = q ∨ a = e') (adg ad j n q e') z np T ∧ Fr w O w2 (fun a => O a ∨ a = q ∨ a = e') := by
  exact SAc.grow (N := vN S np) (N2 := vN T np) h.toC (vN_15 S np) hj hn hq hl he' hf T hN he hc
theorem SAc.add13 {g : Gx} {w : Wd} {O : Nat → Prop} {ad ad' : Nat → Nat → Nat} {z z' : Zx} {N N2 : Nat → Nat} {S : Ast} (h : SAc g w O ad z N S) {q n : Nat} (hq : w q = none) (hn : N 13 = n) (ha : ad' = va_up ad 13 (va_up (ad 13) n q)) {e : va_E} (he : e = cel g ad' z' S 13 n) (hN : ∀ k, N2 k = if k = 13 then n + 1 else N k) (hc : ∀ k i, i < N k → cel g ad' z' S k i = cel g ad z S k i) :
    SAc g (wst w q e) (fun a => O a ∨ a = q) ad' z' N2 S ∧ Fr w O (wst w q e) (fun a => O a ∨ a = q) := by
  obtain ⟨h1, h2, h3, h4, h5⟩ := h
  have vlt : ∀ k i, i < N2 k → (k = 13 ∧ i = n) ∨ i < N k := by
    intro k i hi
    rw [hN] at hi
    by_cases hk : k = 13
    · rw [if_pos hk] at hi
      by_cases hin : i = n
      · exact Or.inl ⟨hk, hin⟩
      · right; rw [hk, hn]; omega
    · rw [if_neg hk] at hi
      exact Or.inr hi
  have adk : ∀ k i, i < N k → ad' k i = ad k i := by
    intro k i hi
    rw [ha]
    by_cases hk : k = 13
    · subst hk
      rw [va_up_self, va_up_ne]
      rw [hn] at hi
      omega
    · rw [va_up_ne _ _ hk]
  have adn : ad' 13 n = q := by rw [ha, va_up_self, va_up_self]
  have adj : ∀ k, k ≠ 13 → ad' k = ad k := fun k hk => by rw [ha, va_up_ne _ _ hk]
  have LJ13 : ∀ j ∈ LJ, j ≠ 13 := by decide
  have wn : ∀ {a : Nat} {x : va_E}, w a = some x → wst w q e a = w a := fun hx => wst_n (ne_of hx hq)
  refine ⟨⟨fun k i hi => ?_, fun k i k' i' hi hi' hx => ?_, fun j hj => ?_, fun j1 hj1 j2 hj2 hx => ?_, fun j1 hj1 j2 hj2 g1 g2 hx => ?_⟩, fun a ha => ?_, fun a ha hb => ?_⟩
  · rcases vlt k i hi with ⟨rfl, rfl⟩ | hi
    · rw [adn, wst_s, he]
      exact ⟨rfl, Or.inr rfl⟩
    · rw [adk k i hi, wn (h1 k i hi).1, (h1 k i hi).1, hc k i hi]
      exact ⟨rfl, Or.inl (h1 k i hi).2⟩
  · rcases vlt k i hi with ⟨rfl, rfl⟩ | hi <;> rcases vlt k' i' hi' with ⟨rfl, rfl⟩ | hi'
    · exact ⟨rfl, rfl⟩
    · rw [adn, adk k' i' hi'] at hx
      have := (h1 k' i' hi').1
      rw [← hx, hq] at this
      cases this
    · rw [adn, adk k i hi] at hx
      have := (h1 k i hi).1
      rw [hx, hq] at this
      cases this
    · rw [adk k i hi, adk k' i' hi'] at hx
      exact h2 k i k' i' hi hi' hx
  · rw [adj 14 (by decide), adj 15 (by decide), adj j (LJ13 j hj), hN, if_neg (LJ13 j hj)]
    obtain ⟨mc, hm⟩ := (h3 j hj).1.sz
    refine ⟨(h3 j hj).1.cong0 (wn hm) (fun h0 => ?_), Or.inl (h3 j hj).2.1, fun h0 => Or.inl ((h3 j hj).2.2 h0)⟩
    obtain ⟨NN, f, q3, -⟩ := (h3 j hj).1.row h0
    exact wn q3
  · rw [adj 14 (by decide)] at hx
    exact h4 j1 hj1 j2 hj2 hx
  · rw [hN, if_neg (LJ13 j1 hj1)] at g1
    rw [hN, if_neg (LJ13 j2 hj2)] at g2
    rw [adj 15 (by decide)] at hx
    exact h5 j1 hj1 j2 hj2 g1 g2 hx
  · rcases ha with ha | rfl
    · exact Or.inl ha
    · exact Or.inr hq
  · exact wst_n (fun x => hb (by rw [x]; exact hq))

