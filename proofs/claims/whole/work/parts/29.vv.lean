
theorem bmod32 {x : Int} (h1 : -2147483648 ≤ x) (h2 : x < 2147483648) : x.bmod (2 ^ 32) = x := by
  apply Int.bmod_eq_of_le <;> omega
theorem i_add {a b : Int32} (h1 : -2147483648 ≤ a.toInt + b.toInt) (h2 : a.toInt + b.toInt < 2147483648) : (a + b).toInt = a.toInt + b.toInt := by
  rw [Int32.toInt_add, bmod32 h1 h2]
theorem i_sub {a b : Int32} (h1 : -2147483648 ≤ a.toInt - b.toInt) (h2 : a.toInt - b.toInt < 2147483648) : (a - b).toInt = a.toInt - b.toInt := by
  rw [Int32.toInt_sub, bmod32 h1 h2]
theorem nI_mul (a b : Nat) : nI a * nI b = nI (a * b) := (Int32.ofNat_mul a b).symm
theorem mul_rg {a b A B : Int} (h1 : 0 ≤ a) (h2 : a ≤ A) (h3 : 0 ≤ b) (h4 : b ≤ B) : 0 ≤ a * b ∧ a * b ≤ A * B :=
  ⟨Int.mul_nonneg h1 h3, Int.mul_le_mul h2 h4 h3 (by omega)⟩
def NEV : Int := 1152921504606846976
/-- the least of b and c 0 .. c (n - 1) -/
def lea (c : Nat → Int) (b : Int) : Nat → Int
  | 0 => b
  | n + 1 => if c n < lea c b n then c n else lea c b n
theorem lea_b (c : Nat → Int) (b : Int) : ∀ n, lea c b n ≤ b
  | 0 => Int.le_refl _
  | n + 1 => by
    have := lea_b c b n
    unfold lea
    split <;> omega
theorem lea_le (c : Nat → Int) (b : Int) : ∀ n t, t < n → lea c b n ≤ c t
  | 0, t, h => by omega
  | n + 1, t, h => by
    unfold lea
    by_cases ht : t = n
    · subst ht; split <;> omega
    · have := lea_le c b n t (by omega)
      split <;> omega
theorem lea_mem (c : Nat → Int) (b : Int) : ∀ n, lea c b n = b ∨ ∃ t, t < n ∧ lea c b n = c t
  | 0 => Or.inl rfl
  | n + 1 => by
    unfold lea
    split
    · exact Or.inr ⟨n, by omega, rfl⟩
    · rcases lea_mem c b n with h | ⟨t, h1, h2⟩
      · exact Or.inl h
      · exact Or.inr ⟨t, by omega, h2⟩
theorem lea_add (c : Nat → Int) (b : Int) (m : Nat) : ∀ n, lea c b (m + n) = lea (fun i => c (m + i)) (lea c b m) n
  | 0 => rfl
  | n + 1 => by
    show lea c b ((m + n) + 1) = _
    unfold lea
    rw [lea_add c b m n]
theorem lea_cong {c c' : Nat → Int} {b : Int} : ∀ {n}, (∀ t, t < n → c t = c' t) → lea c b n = lea c' b n
  | 0, _ => rfl
  | n + 1, h => by
    unfold lea
    rw [lea_cong (fun t ht => h t (by omega)), h n (by omega)]
/-- a value that is the least is lea -/
theorem lea_eq {c : Nat → Int} {b v : Int} {n : Nat} (h1 : v ≤ b) (h2 : ∀ t, t < n → v ≤ c t) (h3 : v = b ∨ ∃ t, t < n ∧ v = c t) : v = lea c b n := by
  apply Int.le_antisymm
  · rcases lea_mem c b n with h | ⟨t, ht, h⟩
    · rw [h]; exact h1
    · rw [h]; exact h2 t ht
  · rcases h3 with h | ⟨t, ht, h⟩
    · rw [h]; exact lea_b c b n
    · rw [h]; exact lea_le c b n t ht
/-- what lies above a piece's begin -/
def abv (S : Ast) (p : Nat) : Int := if p = 0 then (S.1 48 0).toInt else (S.1 51 (p - 1)).toInt
abbrev fea (S : Ast) (co : Int) (p fell e f : Nat) : Prop := 1000 * (S.1 52 p).toInt * (S.1 53 p).toInt ≤ (S.1 45 e).toInt * (S.1 45 e).toInt * (f : Int) ∧ (S.1 45 e).toInt + co ≤ abv S p - (S.1 49 0).toInt + (fell : Int) ∧ (S.1 45 e).toInt + co ≤ (S.1 51 p).toInt - (S.1 49 0).toInt + ((fell + f : Nat) : Int)
def own (S : Ast) (di : Int) (p e d : Nat) : Int := (S.1 52 p).toInt * ((S.1 46 e).toInt + di * ((S.1 51 p).toInt - (S.1 49 0).toInt + (d : Int)))
def cs (S : Ast) (co di : Int) (p fell e f : Nat) (rest : Int) : Int := if fea S co p fell e f then (if NEV ≤ rest then NEV else rest + own S di p e (fell + f)) else NEV
/-- the least cost of the last r of P pieces from a depth on, with entries from e on -/
def VV (S : Ast) (co di : Int) (P N : Nat) : Nat → Nat → Nat → Int
  | 0, _, _ => 0
  | r + 1, fell, e => lea (fun t => cs S co di (P - (r + 1)) fell (N - 1 - t / 40) (t % 40 + 1) (VV S co di P N r (fell + (t % 40 + 1)) (N - 1 - t / 40))) NEV (40 * (N - e))
theorem VV_s (S : Ast) (co di : Int) (P N r fell e : Nat) : VV S co di P N (r + 1) fell e = lea (fun t => cs S co di (P - (r + 1)) fell (N - 1 - t / 40) (t % 40 + 1) (VV S co di P N r (fell + (t % 40 + 1)) (N - 1 - t / 40))) NEV (40 * (N - e)) := rfl
/-- what the line's whole numbers are -/
def LSt (S : Ast) : Prop := CN S 50 10 ∧ CN S 44 6 ∧ (∀ p, p < cn S 50 → rg (S.1 51 p) (-100000) 100000 ∧ rg (S.1 52 p) 1 10000 ∧ rg (S.1 53 p) 0 10000) ∧ (∀ e, e < cn S 44 → rg (S.1 45 e) 10 3000 ∧ rg (S.1 46 e) 0 100000) ∧ rg (S.1 48 0) (-100000) 100000 ∧ rg (S.1 49 0) (-100000) 100000
theorem LSt.ab {S : Ast} (h : LSt S) {p : Nat} (hp : p < cn S 50) : -100000 ≤ abv S p ∧ abv S p ≤ 100000 := by
  unfold abv
  split
  · exact h.2.2.2.2.1
  · exact (h.2.2.1 (p - 1) (by omega)).1
def OWB : Int := 2020000000000
theorem own_rg {S : Ast} (h : LSt S) {di : Int} (hd : 0 ≤ di ∧ di ≤ 1000) {p e d : Nat} (hp : p < cn S 50) (he : e < cn S 44) (hd2 : d ≤ 800) (h0 : 0 ≤ (S.1 51 p).toInt - (S.1 49 0).toInt + (d : Int)) : 0 ≤ own S di p e d ∧ own S di p e d ≤ OWB := by
  obtain ⟨⟨g1, g2⟩, ⟨l1, l2⟩, n1⟩ := h.2.2.1 p hp
  obtain ⟨w1, p1, p2⟩ := h.2.2.2.1 e he
  obtain ⟨b1, b2⟩ := h.2.2.2.2.2
  have a := mul_rg hd.1 hd.2 h0 (B := 200800) (by omega)
  have b := mul_rg (a := (S.1 52 p).toInt) (A := 10000) (b := (S.1 46 e).toInt + di * ((S.1 51 p).toInt - (S.1 49 0).toInt + (d : Int))) (B := 200900000) (by omega) (by omega) (by omega) (by omega)
  unfold own OWB
  omega
theorem cs_rg {S : Ast} (h : LSt S) {co di : Int} (hco : 0 ≤ co) (hd : 0 ≤ di ∧ di ≤ 1000) {p fell e f : Nat} (hp : p < cn S 50) (he : e < cn S 44) (hd2 : fell + f ≤ 800) {rest : Int} (hr : 0 ≤ rest) : 0 ≤ cs S co di p fell e f rest := by
  unfold cs
  split
  · rename_i hf
    split
    · decide
    · have := own_rg h hd hp he hd2 (by have := hf.2.2; have := (h.2.2.2.1 e he).1.1; omega)
      omega
  · decide
theorem VV_rg {S : Ast} (h : LSt S) {co di : Int} (hco : 0 ≤ co) (hd : 0 ≤ di ∧ di ≤ 1000) : ∀ (r : Nat) (fell e : Nat), r ≤ cn S 50 → e < cn S 44 → fell ≤ 40 * (cn S 50 - r) → 0 ≤ VV S co di (cn S 50) (cn S 44) r fell e ∧ VV S co di (cn S 50) (cn S 44) r fell e ≤ NEV := by
  intro r
  induction r with
  | zero => intro fell e _ _ _; unfold VV NEV; omega
  | succ r ih =>
    intro fell e hr he hf
    have h50 := h.1.2
    rw [VV_s]
    refine ⟨?_, lea_b _ _ _⟩
    rcases lea_mem (fun t => cs S co di (cn S 50 - (r + 1)) fell (cn S 44 - 1 - t / 40) (t % 40 + 1) (VV S co di (cn S 50) (cn S 44) r (fell + (t % 40 + 1)) (cn S 44 - 1 - t / 40))) NEV (40 * (cn S 44 - e)) with q | ⟨t, ht, q⟩
    · rw [q]; decide
    · rw [q]
      exact cs_rg h hco hd (by omega) (by omega) (by omega) (ih _ _ (by omega) (by omega) (by omega)).1
/-- one entry more -/
theorem VV_step (S : Ast) (co di : Int) (P N r fell e : Nat) (he : e < N) : VV S co di P N (r + 1) fell e = lea (fun i => cs S co di (P - (r + 1)) fell e (i + 1) (VV S co di P N r (fell + (i + 1)) e)) (VV S co di P N (r + 1) fell (e + 1)) 40 := by
  have e1 : 40 * (N - e) = 40 * (N - (e + 1)) + 40 := by omega
  rw [VV_s S co di P N r fell e, VV_s S co di P N r fell (e + 1), e1, lea_add]
  apply lea_cong
  intro t ht
  have e2 : (40 * (N - (e + 1)) + t) / 40 = N - (e + 1) := by omega
  have e3 : (40 * (N - (e + 1)) + t) % 40 = t := by omega
  have e4 : N - 1 - (N - (e + 1)) = e := by omega
  simp only [e2, e3, e4]
theorem VV_top (S : Ast) (co di : Int) (P N r fell : Nat) : VV S co di P N (r + 1) fell N = NEV := by
  unfold VV
  rw [Nat.sub_self]
  rfl
theorem VV_le (S : Ast) (co di : Int) {P N r fell e e' f : Nat} (h1 : e ≤ e') (h2 : e' < N) (h3 : 1 ≤ f) (h4 : f ≤ 40) : VV S co di P N (r + 1) fell e ≤ cs S co di (P - (r + 1)) fell e' f (VV S co di P N r (fell + f) e') := by
  rw [VV_s]
  have := lea_le (fun t => cs S co di (P - (r + 1)) fell (N - 1 - t / 40) (t % 40 + 1) (VV S co di P N r (fell + (t % 40 + 1)) (N - 1 - t / 40))) NEV (40 * (N - e)) (40 * (N - 1 - e') + (f - 1)) (by omega)
  have e2 : (40 * (N - 1 - e') + (f - 1)) / 40 = N - 1 - e' := by omega
  have e3 : (40 * (N - 1 - e') + (f - 1)) % 40 + 1 = f := by omega
  have e4 : N - 1 - (N - 1 - e') = e' := by omega
  simp only [e2, e3, e4] at this
  exact this
theorem VV_mem (S : Ast) (co di : Int) {P N r fell e : Nat} (hne : VV S co di P N (r + 1) fell e < NEV) : ∃ e' f, e ≤ e' ∧ e' < N ∧ 1 ≤ f ∧ f ≤ 40 ∧ VV S co di P N (r + 1) fell e = cs S co di (P - (r + 1)) fell e' f (VV S co di P N r (fell + f) e') := by
  rw [VV_s] at hne ⊢
  rcases lea_mem (fun t => cs S co di (P - (r + 1)) fell (N - 1 - t / 40) (t % 40 + 1) (VV S co di P N r (fell + (t % 40 + 1)) (N - 1 - t / 40))) NEV (40 * (N - e)) with q | ⟨t, ht, q⟩
  · rw [q] at hne; omega
  · exact ⟨N - 1 - t / 40, t % 40 + 1, by omega, by omega, by omega, by omega, q⟩

