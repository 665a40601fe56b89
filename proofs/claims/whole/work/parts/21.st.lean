
theorem J.gen {K : Kx} {cc : ByteArray} {E : Ex} {kc ks : Nat} {w : Wd} {pc : Nat} {lv : List (Option Value)} {st : List Value} {P : Wd → Prop} (h : P w) (k : ∀ w' : Wd, P w' → J K cc E kc ks w' pc lv st) : J K cc E kc ks w pc lv st := k w h
theorem uJ_off {S : Ast} {k0 i : Nat} {v : Int64} (k j : Nat) (h : j ≠ i) : (uJ S k0 i v).2 k j = S.2 k j := by
  by_cases hk : k = k0
  · rw [hk]; exact uJ_i h
  · rw [uJ_2n hk]
theorem uI_off {S : Ast} {k0 i : Nat} {v : Int32} (k j : Nat) (h : j ≠ i) : (uI S k0 i v).1 k j = S.1 k j := by
  by_cases hk : k = k0
  · rw [hk]; exact uI_i h
  · rw [uI_1n hk]
theorem uJ_comm {S : Ast} {k i k' i' : Nat} {a b : Int64} (h : k ≠ k') : uJ (uJ S k i a) k' i' b = uJ (uJ S k' i' b) k i a := by
  unfold uJ
  have e1 : va_up S.2 k (va_up (S.2 k) i a) k' = S.2 k' := va_up_ne _ _ (Ne.symm h)
  have e2 : va_up S.2 k' (va_up (S.2 k') i' b) k = S.2 k := va_up_ne _ _ h
  simp only [e1, e2]
  congr 1
  funext j
  by_cases h1 : j = k
  · subst h1; rw [va_up_ne _ _ h, va_up_self, va_up_self]
  · by_cases h2 : j = k'
    · subst h2; rw [va_up_self, va_up_ne _ _ h1, va_up_self]
    · rw [va_up_ne _ _ h2, va_up_ne _ _ h1, va_up_ne _ _ h1, va_up_ne _ _ h2]
section STP
variable {g : Gx} {w0 w : Wd} {O : Nat → Prop} {ad : Nat → Nat → Nat} {z : Zx} {np : Nat} {S : Ast}
theorem SB.putX (hS : SB g w0 w O ad z np S) {e : va_E} (T : Ast) (hI : ∀ k, k ≠ 40 → T.1 k = S.1 k) (hJ : ∀ k, k ≠ 41 → k ≠ 42 → k ≠ 43 → T.2 k = S.2 k) (he : e = cel g ad z T 0 0) : SB g w0 (wst w (ad 0 0) e) O ad z np T :=
  ⟨hS.1.upX T hI hJ he, hS.2.tr (Fr.put (hS.1.own (k := 0) (i := 0) Nat.one_pos))⟩
theorem SB.putCells (hS : SB g w0 w O ad z np S) (c : Nat) (v : Int64) : SB g w0 (wst w (ad 8 0) (aJ g 8 (va_up (S.2 39) c v))) O ad z np (uJ S 39 c v) :=
  ⟨hS.1.upCells (uJ S 39 c v) (fun _ => rfl) (fun k hk => uJ_2n hk) (by rw [cel_e8, uJ_2s]), hS.2.tr (Fr.put (hS.1.own (k := 8) (i := 0) Nat.one_pos))⟩
theorem SB.putRains (hS : SB g w0 w O ad z np S) (c : Nat) (v : Int32) : SB g w0 (wst w (ad 7 0) (aI g 1440 (va_up (S.1 23) c v))) O ad z np (uI S 23 c v) :=
  ⟨hS.1.upRains (uI S 23 c v) (fun k hk => uI_1n hk) (fun _ => rfl) (by rw [cel_e7, uI_1s]), hS.2.tr (Fr.put (hS.1.own (k := 7) (i := 0) Nat.one_pos))⟩
theorem SB.putNode (hS : SB g w0 w O ad z np S) {n : Nat} (hn : n < cn S 1) {e : va_E} (T : Ast) (hI : ∀ k, k ≠ 5 → T.1 k = S.1 k) (hJ : ∀ k, k ≠ 6 → k ≠ 7 → k ≠ 8 → k ≠ 9 → T.2 k = S.2 k) (hi1 : ∀ k j, j ≠ n → T.1 k j = S.1 k j) (hi2 : ∀ k j, j ≠ n → T.2 k j = S.2 k j) (he : e = cel g ad z T 1 n) : SB g w0 (wst w (ad 1 n) e) O ad z np T :=
  ⟨hS.1.upNode hn T hI hJ hi1 hi2 he, hS.2.tr (Fr.put (hS.1.own (k := 1) hn))⟩
/-- a node's litres -/
theorem SB.water (hS : SB g w0 w O ad z np S) {n : Nat} (hn : n < cn S 1) (v : Int64) : SB g w0 (wst w (ad 1 n) (oNode (S.1 3 n) (S.1 4 n) (ful S n) v (S.2 9 n) (S.2 7 n) (S.2 8 n) (S.1 5 n))) O ad z np (uJ S 6 n v) :=
  hS.putNode hn (uJ S 6 n v) (fun _ _ => rfl) (fun k h6 _ _ _ => uJ_2n h6) (fun _ _ _ => rfl) (fun k j h => uJ_off k j h) (by rw [cel_e1, uJ_at, uJ_2n (by decide), uJ_2n (by decide), uJ_2n (by decide)]; rfl)
theorem SB.level (hS : SB g w0 w O ad z np S) {n : Nat} (hn : n < cn S 1) (v : Int64) : SB g w0 (wst w (ad 1 n) (oNode (S.1 3 n) (S.1 4 n) (ful S n) (S.2 6 n) v (S.2 7 n) (S.2 8 n) (S.1 5 n))) O ad z np (uJ S 9 n v) :=
  hS.putNode hn (uJ S 9 n v) (fun _ _ => rfl) (fun k _ _ _ h9 => uJ_2n h9) (fun _ _ _ => rfl) (fun k j h => uJ_off k j h) (by rw [cel_e1, uJ_at, uJ_2n (by decide), uJ_2n (by decide), uJ_2n (by decide)]; rfl)
theorem SB.spilt (hS : SB g w0 w O ad z np S) {n : Nat} (hn : n < cn S 1) (v u : Int64) : SB g w0 (wst w (ad 1 n) (oNode (S.1 3 n) (S.1 4 n) (ful S n) v (S.2 9 n) u (S.2 8 n) (S.1 5 n))) O ad z np (uJ (uJ S 6 n v) 7 n u) :=
  hS.putNode hn (uJ (uJ S 6 n v) 7 n u) (fun _ _ => rfl) (fun k h6 h7 _ _ => by rw [uJ_2n h7, uJ_2n h6]) (fun _ _ _ => rfl) (fun k j h => by rw [uJ_off k j h, uJ_off k j h]) (by rw [cel_e1, uJ_at, uJ_2n (by decide), uJ_at, uJ_2n (by decide), uJ_2n (by decide), uJ_2n (by decide), uJ_2n (by decide)]; rfl)
theorem SB.gone (hS : SB g w0 w O ad z np S) {n : Nat} (hn : n < cn S 1) (v u : Int64) : SB g w0 (wst w (ad 1 n) (oNode (S.1 3 n) (S.1 4 n) (ful S n) v (S.2 9 n) (S.2 7 n) u (S.1 5 n))) O ad z np (uJ (uJ S 6 n v) 8 n u) :=
  hS.putNode hn (uJ (uJ S 6 n v) 8 n u) (fun _ _ => rfl) (fun k h6 _ h8 _ => by rw [uJ_2n h8, uJ_2n h6]) (fun _ _ _ => rfl) (fun k j h => by rw [uJ_off k j h, uJ_off k j h]) (by rw [cel_e1, uJ_at, uJ_2n (by decide), uJ_at, uJ_2n (by decide), uJ_2n (by decide), uJ_2n (by decide), uJ_2n (by decide)]; rfl)
theorem SB.street (hS : SB g w0 w O ad z np S) {n : Nat} (hn : n < cn S 1) (v : Int32) : SB g w0 (wst w (ad 1 n) (oNode (S.1 3 n) (S.1 4 n) (ful S n) (S.2 6 n) (S.2 9 n) (S.2 7 n) (S.2 8 n) v)) O ad z np (uI S 5 n v) :=
  hS.putNode hn (uI S 5 n v) (fun k h5 => uI_1n h5) (fun _ _ _ _ _ => rfl) (fun k j h => uI_off k j h) (fun _ _ _ => rfl) (by rw [cel_e1, uI_at, uI_1n (by decide), uI_1n (by decide)]; unfold ful; rw [uI_1n (by decide), uI_1n (by decide), uI_1n (by decide)]; rfl)
theorem SB.areaR (hS : SB g w0 w O ad z np S) {i : Nat} (hi : i < cn S 18) (v : Int64) : SB g w0 (wst w (ad 3 i) (oArea (ad 1 (S.1 19 i).toNatClampNeg) ((S.1 20 i).toInt64 * (1000 - S.1 21 i).toInt64) v)) O ad z np (uJ S 22 i v) :=
  ⟨hS.1.upArea hi (uJ S 22 i v) (fun _ => rfl) (fun k h => uJ_2n h) (fun _ _ _ => rfl) (fun k j h => uJ_off k j h) (by rw [cel_e3, uJ_at]; rfl), hS.2.tr (Fr.put (hS.1.own (k := 3) hi))⟩
theorem SB.pumpO (hS : SB g w0 w O ad z np S) {i : Nat} (hi : i < cn S 24) (v : Int32) : SB g w0 (wst w (ad 4 i) (oPump (ad 1 (S.1 25 i).toNatClampNeg) (ad 1 (S.1 26 i).toNatClampNeg) (S.1 27 i) (S.1 28 i) (S.1 29 i) v)) O ad z np (uI S 30 i v) :=
  ⟨hS.1.upPump hi (uI S 30 i v) (fun k h => uI_1n h) (fun _ => rfl) (fun k j h => uI_off k j h) (fun _ _ _ => rfl) (by rw [cel_e4, uI_at, uI_1n (by decide), uI_1n (by decide), uI_1n (by decide), uI_1n (by decide), uI_1n (by decide)]), hS.2.tr (Fr.put (hS.1.own (k := 4) hi))⟩
theorem SB.pipeR (hS : SB g w0 w O ad z np S) {i : Nat} (hi : i < cn S 10) (a b c : Int64) : SB g w0 (wst w (ad 2 i) (oPipe (ad 1 (S.1 11 i).toNatClampNeg) (ad 1 (S.1 12 i).toNatClampNeg) ((S.1 14 i).toInt64 * (S.1 14 i).toInt64) (wB S i) a b c)) O ad z np (uJ (uJ (uJ S 15 i a) 16 i b) 17 i c) :=
  ⟨hS.1.upPipe hi (uJ (uJ (uJ S 15 i a) 16 i b) 17 i c) (fun _ => rfl) (fun k h1 h2 h3 => by rw [uJ_2n h3, uJ_2n h2, uJ_2n h1]) (fun _ _ _ => rfl) (fun k j h => by rw [uJ_off k j h, uJ_off k j h, uJ_off k j h]) (by rw [cel_e2, uJ_at, uJ_2n (by decide), uJ_2n (by decide), uJ_at, uJ_2n (by decide), uJ_at]; rfl), hS.2.tr (Fr.put (hS.1.own (k := 2) hi))⟩
theorem mul_swap (a b c : Int64) : a * b * c = a * c * b := by rw [Int64.mul_assoc, Int64.mul_comm b c, ← Int64.mul_assoc]
end STP

