
def gtbl : List Cond := lw_tbl.filter goodWord
theorem gtbl_in {w : Cond} (h : w ∈ gtbl) : w ∈ lw_tbl := (List.mem_filter.mp h).1
theorem gtbl_good : GoodIn gtbl gtbl := fun w h => ⟨h, good_of_word (List.mem_filter.mp h).2⟩
abbrev Wd : Type := Nat → Option va_E
def wst (w : Wd) (a : Nat) (e : va_E) : Wd := fun q => if q = a then some e else w q
theorem wst_s (w : Wd) (a : Nat) (e : va_E) : wst w a e a = some e := if_pos rfl
theorem wst_n {w : Wd} {a b : Nat} {e : va_E} (h : b ≠ a) : wst w a e b = w b := if_neg h
abbrev Gx : Type := va_G × ClassId × ClassId × ClassId × ClassId × Nat × Nat
abbrev Kx : Type := Launch × Gx × Nat
def tysG (g : Gx) : List (ClassId × FieldType) := [(g.2.1, .int), (g.2.2.1, .long), (g.2.2.2.1, .boolean), (g.2.2.2.2.1, .object "java/lang/Object")]
abbrev aI (g : Gx) (n : Nat) (f : Nat → Int32) : va_E := .inl (g.2.1, n, .inl f)
abbrev aJ (g : Gx) (n : Nat) (f : Nat → Int64) : va_E := .inl (g.2.2.1, n, .inr (.inl f))
abbrev aZ (g : Gx) (n : Nat) (f : Nat → Int32) : va_E := .inl (g.2.2.2.1, n, .inl f)
abbrev aO (g : Gx) (n : Nat) (f : Nat → Option Nat) : va_E := .inl (g.2.2.2.2.1, n, .inr (.inr (.inr (.inr f))))
def wh (g : Gx) (w : Wd) (H : Heap) : Prop := ∀ (a : Nat) (e : va_E), w a = some e → va_at g.1 vwCl (a, e) H
def wb (B : Nat) (w : Wd) : Prop := ∀ (a : Nat) (e : va_E), w a = some e → B ≤ a
theorem wh.lt {g : Gx} {w : Wd} {H : Heap} (h : wh g w H) {a : Nat} {e : va_E} (ha : w a = some e) : a < H.size := (h a e ha).lt
theorem wh.fresh {g : Gx} {w : Wd} {H : Heap} (h : wh g w H) {a : Nat} (ha : H.size ≤ a) : w a = none := by
  cases hw : w a with
  | none => rfl
  | some e => exact absurd (h.lt hw) (Nat.not_lt.mpr ha)
theorem wh.set {g : Gx} {w : Wd} {H H1 : Heap} {a : Nat} {e : va_E} (h : wh g w H) (he : va_at g.1 vwCl (a, e) H1) (oq : ∀ q : Nat, q ≠ a → H1[q]? = H[q]?) : wh g (wst w a e) H1 := by
  intro q x hq
  by_cases hqa : q = a
  · subst hqa
    rw [wst_s] at hq
    cases hq
    exact he
  · rw [wst_n hqa] at hq
    exact (h q x hq).kept (oq q hqa)
theorem wh.push {g : Gx} {w : Wd} {H H1 : Heap} {a : Nat} {e : va_E} (h : wh g w H) (ha : a = H.size) (he : va_at g.1 vwCl (a, e) H1) (oq : ∀ q : Nat, q < H.size → H1[q]? = H[q]?) : wh g (wst w a e) H1 := by
  intro q x hq
  by_cases hqa : q = a
  · subst hqa
    rw [wst_s] at hq
    cases hq
    exact he
  · rw [wst_n hqa] at hq
    exact (h q x hq).kept (oq q (h.lt hq))
theorem wb.set {B : Nat} {w : Wd} {a : Nat} {e : va_E} (h : wb B w) (ha : B ≤ a) : wb B (wst w a e) := by
  intro q x hq
  by_cases hqa : q = a
  · rw [hqa]; exact ha
  · rw [wst_n hqa] at hq
    exact h q x hq
/-- what stands outside the worlds: words that no word list may hold, the list's empty row, the class object of Object[] -/
def XW (U : State) : Prop := (∀ C ∈ ([RX0, RX1, RX2, RX3, RX5, RX6, RX7, RX8] : List String), va_Nw (.castable C "java/lang/Object") U) ∧ va_Nw (.methodLinkNest "StormPipes" 41 yX4_init "StormPipes") U ∧ va_Nw (.methodLinkNest "StormPipes$Line" 99 yX9_isWithin "StormPipes") U ∧ va_Dc U ∧ va_AO "java/lang/Object" U
theorem XW.warm {s U : State} (hW : s.WarmedH U.vm) (h : XW s) : XW U := ⟨fun C hC => (h.1 C hC).warmC hW, h.2.1.warmM hW, h.2.2.1.warmM hW, h.2.2.2.1.moved hW.alike, h.2.2.2.2.moved hW.alike⟩
theorem XW.vm {s U : State} (hv : s.vm = U.vm) (h : XW s) : XW U := ⟨fun C hC => va_tabs rfl hv (h.1 C hC), va_tabs rfl hv h.2.1, va_tabs rfl hv h.2.2.1, h.2.2.2.1.moved (by rw [hv]; exact Vm.Alike.refl _), h.2.2.2.2.moved (by rw [hv]; exact Vm.Alike.refl _)⟩
def Stc (g : Gx) (B : Nat) (U : State) : Prop := XW U ∧ va_Z "java/util/ArrayList" "DEFAULTCAPACITY_EMPTY_ELEMENTDATA" "[Ljava/lang/Object;" (.ref g.2.2.2.2.2.1) (fun q : Nat => B ≤ q) U U.heap ∧ va_T (.object "java/lang/Object") g.2.2.2.2.2.1 0 (fun _ => .null) (fun q : Nat => B ≤ q) U U.heap ∧ va_Mi "[Ljava/lang/Object;" g.2.2.2.2.2.2 U
theorem Stc.go {g : Gx} {B : Nat} {s U : State} (hW : s.WarmedH U.vm) (hh : ∀ q : Nat, q < s.heap.size → ¬ B ≤ q → U.heap[q]? = s.heap[q]?) (h : Stc g B s) : Stc g B U :=
  ⟨h.1.warm hW, (h.2.1.moved hW.alike).kept hh, (h.2.2.1.moved hW.alike).kept hh, h.2.2.2.moved hW.alike⟩
theorem Stc.vm {g : Gx} {B : Nat} {s U : State} (hv : s.vm = U.vm) (hh : U.heap = s.heap) (h : Stc g B s) : Stc g B U := by
  have ha : s.vm.Alike U.vm := by rw [hv]; exact Vm.Alike.refl _
  refine ⟨h.1.vm hv, ?_, ?_, h.2.2.2.moved ha⟩
  · rw [hh]; exact h.2.1.moved ha
  · rw [hh]; exact h.2.2.1.moved ha
/-- locals by their places; none: unset, or a long's second half -/
def prs : Nat → List (Option Value) → List (Nat × Value)
  | _, [] => []
  | k, none :: t => prs (k + 1) t
  | k, some v :: t => (k, v) :: prs (k + 1) t
theorem prs_iff : ∀ (l : List (Option Value)) (k j : Nat) (v : Value), (j, v) ∈ prs k l ↔ k ≤ j ∧ l[j - k]? = some (some v)
  | [], k, j, v => by simp [prs]
  | none :: t, k, j, v => by
    simp only [prs]
    rw [prs_iff t (k + 1) j v]
    constructor
    · rintro ⟨h1, h2⟩
      refine ⟨by omega, ?_⟩
      rw [show j - k = (j - (k + 1)) + 1 by omega, List.getElem?_cons_succ]; exact h2
    · rintro ⟨h1, h2⟩
      by_cases hjk : j = k
      · subst hjk; simp at h2
      · refine ⟨by omega, ?_⟩
        rw [show j - k = (j - (k + 1)) + 1 by omega, List.getElem?_cons_succ] at h2; exact h2
  | some u :: t, k, j, v => by
    simp only [prs, List.mem_cons]
    rw [prs_iff t (k + 1) j v]
    constructor
    · rintro (h | ⟨h1, h2⟩)
      · cases h; simp
      · refine ⟨by omega, ?_⟩
        rw [show j - k = (j - (k + 1)) + 1 by omega, List.getElem?_cons_succ]; exact h2
    · rintro ⟨h1, h2⟩
      by_cases hjk : j = k
      · subst hjk
        simp only [Nat.sub_self, List.getElem?_cons_zero, Option.some.injEq] at h2
        left; rw [h2]
      · right
        refine ⟨by omega, ?_⟩
        rw [show j - k = (j - (k + 1)) + 1 by omega, List.getElem?_cons_succ] at h2; exact h2
def lok (ls : Array Slot) (lv : List (Option Value)) : Prop := lv_has ls lv.length (prs 0 lv)
theorem lok.at {ls : Array Slot} {lv : List (Option Value)} (h : lok ls lv) {i : Nat} {v : Value} (hv : lv[i]? = some (some v)) : ls[i]? = some (.val v) :=
  h.2.2 (i, v) ((prs_iff lv 0 i v).mpr ⟨Nat.zero_le _, by simpa using hv⟩)
def lk2 : Option Value → Option Value
  | none => none
  | some v => bif v.category == 2 then none else some v
def ls1 : List (Option Value) → Nat → Value → List (Option Value)
  | [], _, _ => []
  | _ :: t, 0, v => some v :: t
  | a :: t, 1, v => lk2 a :: ls1 t 0 v
  | a :: t, i + 2, v => a :: ls1 t (i + 1) v
def ls2 : List (Option Value) → Nat → Value → List (Option Value)
  | [], _, _ => []
  | [_], 0, v => [some v]
  | _ :: _ :: t, 0, v => some v :: none :: t
  | a :: t, 1, v => lk2 a :: ls2 t 0 v
  | a :: t, i + 2, v => a :: ls2 t (i + 1) v
theorem lk2_some {a : Option Value} {u : Value} (h : lk2 a = some u) : a = some u ∧ ¬ u.category = 2 := by
  cases a with
  | none => simp [lk2] at h
  | some v =>
    simp only [lk2] at h
    by_cases hc : v.category = 2
    · simp [hc] at h
    · have hb : (v.category == 2) = false := by simpa using hc
      rw [hb] at h
      simp only [cond_false, Option.some.injEq] at h
      subst h
      exact ⟨rfl, hc⟩
theorem ls1_len : ∀ (l : List (Option Value)) (i : Nat) (v : Value), (ls1 l i v).length = l.length
  | [], _, _ => rfl
  | _ :: t, 0, v => rfl
  | a :: t, 1, v => by simp [ls1, ls1_len t 0 v]
  | a :: t, i + 2, v => by simp [ls1, ls1_len t (i + 1) v]
theorem ls2_len : ∀ (l : List (Option Value)) (i : Nat) (v : Value), (ls2 l i v).length = l.length
  | [], i, _ => by simp [ls2]
  | [_], 0, v => rfl
  | _ :: _ :: t, 0, v => rfl
  | a :: t, 1, v => by simp [ls2, ls2_len t 0 v]
  | a :: t, i + 2, v => by simp [ls2, ls2_len t (i + 1) v]
theorem ls1_get : ∀ (l : List (Option Value)) (i : Nat) (v : Value) (j : Nat) (u : Value), (ls1 l i v)[j]? = some (some u) → (j = i ∧ u = v) ∨ (j ≠ i ∧ l[j]? = some (some u) ∧ ¬ (j + 1 = i ∧ u.category = 2))
  | [], i, v, j, u, h => by simp [ls1] at h
  | a :: t, 0, v, 0, u, h => by simp [ls1] at h; exact Or.inl ⟨rfl, h.symm⟩
  | a :: t, 0, v, j + 1, u, h => by simp [ls1] at h; exact Or.inr ⟨by omega, by simpa using h, by omega⟩
  | a :: t, 1, v, 0, u, h => by
    simp only [ls1, List.getElem?_cons_zero, Option.some.injEq] at h
    obtain ⟨h1, h2⟩ := lk2_some h
    exact Or.inr ⟨by omega, by simp [h1], fun q => h2 q.2⟩
  | a :: t, 1, v, j + 1, u, h => by
    simp only [ls1, List.getElem?_cons_succ] at h
    rcases ls1_get t 0 v j u h with ⟨h1, h2⟩ | ⟨h1, h2, h3⟩
    · exact Or.inl ⟨by omega, h2⟩
    · exact Or.inr ⟨by omega, by simpa using h2, by omega⟩
  | a :: t, i + 2, v, 0, u, h => by
    simp only [ls1, List.getElem?_cons_zero, Option.some.injEq] at h
    exact Or.inr ⟨by omega, by simp [h], by omega⟩
  | a :: t, i + 2, v, j + 1, u, h => by
    simp only [ls1, List.getElem?_cons_succ] at h
    rcases ls1_get t (i + 1) v j u h with ⟨h1, h2⟩ | ⟨h1, h2, h3⟩
    · exact Or.inl ⟨by omega, h2⟩
    · exact Or.inr ⟨by omega, by simpa using h2, fun q => h3 ⟨by omega, q.2⟩⟩
theorem ls2_get : ∀ (l : List (Option Value)) (i : Nat) (v : Value) (j : Nat) (u : Value), (ls2 l i v)[j]? = some (some u) → (j = i ∧ u = v) ∨ (j ≠ i ∧ j ≠ i + 1 ∧ l[j]? = some (some u) ∧ ¬ (j + 1 = i ∧ u.category = 2))
  | [], i, v, j, u, h => by simp [ls2] at h
  | [a], 0, v, 0, u, h => by simp [ls2] at h; exact Or.inl ⟨rfl, h.symm⟩
  | [a], 0, v, j + 1, u, h => by simp [ls2] at h
  | a :: b :: t, 0, v, 0, u, h => by simp [ls2] at h; exact Or.inl ⟨rfl, h.symm⟩
  | a :: b :: t, 0, v, 1, u, h => by simp [ls2] at h
  | a :: b :: t, 0, v, j + 2, u, h => by simp [ls2] at h; exact Or.inr ⟨by omega, by omega, by simpa using h, by omega⟩
  | a :: t, 1, v, 0, u, h => by
    simp only [ls2, List.getElem?_cons_zero, Option.some.injEq] at h
    obtain ⟨h1, h2⟩ := lk2_some h
    exact Or.inr ⟨by omega, by omega, by simp [h1], fun q => h2 q.2⟩
  | a :: t, 1, v, j + 1, u, h => by
    simp only [ls2, List.getElem?_cons_succ] at h
    rcases ls2_get t 0 v j u h with ⟨h1, h2⟩ | ⟨h1, h0, h2, h3⟩
    · exact Or.inl ⟨by omega, h2⟩
    · exact Or.inr ⟨by omega, by omega, by simpa using h2, by omega⟩
  | a :: t, i + 2, v, 0, u, h => by
    simp only [ls2, List.getElem?_cons_zero, Option.some.injEq] at h
    exact Or.inr ⟨by omega, by omega, by simp [h], by omega⟩
  | a :: t, i + 2, v, j + 1, u, h => by
    simp only [ls2, List.getElem?_cons_succ] at h
    rcases ls2_get t (i + 1) v j u h with ⟨h1, h2⟩ | ⟨h1, h0, h2, h3⟩
    · exact Or.inl ⟨by omega, h2⟩
    · exact Or.inr ⟨by omega, by omega, by simpa using h2, fun q => h3 ⟨by omega, q.2⟩⟩
theorem lok_st1 {ls' : Array Slot} {lv : List (Option Value)} {i : Nat} {v : Value} (h : lv_has ls' lv.length ((i, v) :: (prs 0 lv).filter (fun q => !(q.1 == i) && !(q.1 + 1 == i && q.2.category == 2)))) : lok ls' (ls1 lv i v) := by
  refine ⟨by rw [ls1_len]; exact h.1, h.2.1, fun q hq => ?_⟩
  obtain ⟨j, u⟩ := q
  have hg := ((prs_iff _ 0 j u).mp hq).2
  apply h.2.2
  rcases ls1_get lv i v j u (by simpa using hg) with ⟨h1, h2⟩ | ⟨h1, h2, h3⟩
  · subst h1; subst h2; exact List.mem_cons_self
  · apply List.mem_cons_of_mem
    rw [List.mem_filter]
    refine ⟨(prs_iff lv 0 j u).mpr ⟨Nat.zero_le _, by simpa using h2⟩, ?_⟩
    simp only [Bool.and_eq_true, Bool.not_eq_true', beq_eq_false_iff_ne, ne_eq, Bool.and_eq_false_iff]
    refine ⟨h1, ?_⟩
    by_cases hj : j + 1 = i
    · right; exact fun c => h3 ⟨hj, c⟩
    · left; exact hj
theorem lok_st2 {ls' : Array Slot} {lv : List (Option Value)} {i : Nat} {v : Value} (h : lv_has ls' lv.length ((i, v) :: (prs 0 lv).filter (fun q => !(q.1 == i) && (!(q.1 == i + 1) && !(q.1 + 1 == i && q.2.category == 2))))) : lok ls' (ls2 lv i v) := by
  refine ⟨by rw [ls2_len]; exact h.1, h.2.1, fun q hq => ?_⟩
  obtain ⟨j, u⟩ := q
  have hg := ((prs_iff _ 0 j u).mp hq).2
  apply h.2.2
  rcases ls2_get lv i v j u (by simpa using hg) with ⟨h1, h2⟩ | ⟨h1, h0, h2, h3⟩
  · subst h1; subst h2; exact List.mem_cons_self
  · apply List.mem_cons_of_mem
    rw [List.mem_filter]
    refine ⟨(prs_iff lv 0 j u).mpr ⟨Nat.zero_le _, by simpa using h2⟩, ?_⟩
    simp only [Bool.and_eq_true, Bool.not_eq_true', beq_eq_false_iff_ne, ne_eq, Bool.and_eq_false_iff]
    refine ⟨h1, h0, ?_⟩
    by_cases hj : j + 1 = i
    · right; exact fun c => h3 ⟨hj, c⟩
    · left; exact hj
abbrev Ex : Type := Program × Env × Room × State × MethodId × Array Value × List Frame × Method × Code × (State → Prop)
def J (K : Kx) (cc : ByteArray) (E : Ex) (kc ks : Nat) (w : Wd) (pc : Nat) (lv : List (Option Value)) (st : List Value) : Prop := match E with
  | (p, e, R, s, m, args, below, meth, c, Q) => ∀ (H : Heap) (locs : List Loc) (cells slots : Nat) (ls : Array Slot), cells + kc ≤ R.cells → slots + ks ≤ R.slots → wh K.2.1 w H → wb K.2.2 w → va_S (fun q : Nat => K.2.2 ≤ q) s.heap H locs → lok ls lv → W p K.1 e R s m args below meth c H locs cells slots Q (F0 m pc ls st)
/-- what holds in a method's body: its code, its class, the words, what stands outside, its room -/
def BX (K : Kx) (own : String) (cc : ByteArray) (nL d : Nat) (E : Ex) : Prop := match E with
  | (p, _, R, s, m, args, _, meth, c, _) => p.tables.exec = Jvm.exec ∧ c.code = cc ∧ c.maxLocals = nL ∧ s.vm.findClass own = some m.cls ∧ (∀ w ∈ gtbl, w.before args s = true) ∧ va_K K.2.1.1 vwCl (tysG K.2.1) s ∧ Stc K.2.1 K.2.2 s ∧ meth.locks = false ∧ d ≤ R.frames ∧ 40 * d ≤ R.locals ∧ K.2.2 ≤ s.heap.size
/-- a method's start and end -/
def PcF (g : Gx) (B : Nat) (av : List Value) (w : Wd) : Array Value → State → Prop := fun v U => v = av.toArray ∧ B ≤ U.heap.size ∧ wh g w U.heap ∧ wb B w ∧ va_K g.1 vwCl (tysG g) U ∧ Stc g B U
def QmF (g : Gx) (B : Nat) (Post : Option Value → Wd → Prop) : Array Value → State → Outcome → State → Prop := fun _ st oc t => ∃ (v : Option Value) (w' : Wd), oc = .returned v ∧ Post v w' ∧ wh g w' t.heap ∧ wb B w' ∧ va_F (fun q : Nat => B ≤ q) st t
abbrev Mx : Type := MethodName × ByteArray × Nat × Option FieldType
/-- A CONTRACT: from the world w, with the arguments av, method M returns, and 'Post answer world' -/
def MT (K : Kx) (M : Mx) (d mc ms : Nat) (av : List Value) (w : Wd) (Post : Option Value → Wd → Prop) : Prop :=
  Met K.1 M.1 (Cond.code M.1 M.2.1 M.2.2.1 M.2.2.2 :: gtbl) { frames := d, cells := mc, slots := ms, locals := 40 * d } (PcF K.2.1 K.2.2 av w) (QmF K.2.1 K.2.2 Post) mc ms (fun q : Nat => K.2.2 ≤ q)
/-- what a return needs -/
def RX (K : Kx) (M : Mx) (mc ms : Nat) (Post : Option Value → Wd → Prop) (E : Ex) : Prop := match E with
  | (_, _, R, s, _, args, below, meth, _, Q) => R.cells = mc ∧ R.slots = ms ∧ Q = MQ below (QmF K.2.1 K.2.2 Post) args s mc ms (fun q : Nat => K.2.2 ≤ q) ∧ meth.sig.returnType = M.2.2.2 ∧ meth.name = M.1.name
theorem MT.mono {K : Kx} {M : Mx} {d mc ms : Nat} {av : List Value} {w : Wd} {Post Post' : Option Value → Wd → Prop} (h : MT K M d mc ms av w Post) (hp : ∀ v w', Post v w' → Post' v w') : MT K M d mc ms av w Post' := by
  unfold MT Met at h ⊢
  refine MetFree.mono h (fun a s hp => hp) (fun _ _ _ _ _ _ => trivial) (fun a s o s' _ hq => ?_)
  obtain ⟨⟨v, w', h1, h2, h3⟩, hL⟩ := hq
  exact ⟨⟨v, w', h1, hp v w' h2, h3⟩, hL⟩
theorem MT.of {K : Kx} {M : Mx} {d mc ms : Nat} {av : List Value} {w : Wd} {Post : Option Value → Wd → Prop} (lv : List (Option Value)) (hy : plainName M.1.cls = true) (hlen : lv.length = M.2.2.1) (hav : (lg_sl av).length ≤ M.2.2.1) (hlv : prs 0 lv = lv_args 0 av)
    (body : ∀ E : Ex, BX K M.1.cls M.2.1 M.2.2.1 d E → RX K M mc ms Post E → J K M.2.1 E mc ms w 0 lv []) : MT K M d mc ms av w Post := by
  refine Met.ofW (cc := M.2.1) (maxL := M.2.2.1) (ret := M.2.2.2) hy rfl ?_
  intro p e s m args below meth c s₁ B hml hv
  obtain ⟨rfl, hsz, hwh, hwb, hK, hSt⟩ := hv
  have hts := atoms_spec (ws := Cond.code M.1 M.2.1 M.2.2.1 M.2.2.2 :: gtbl) B.pre
  have hown : s.vm.findClass M.1.cls = some m.cls := findClass_of_methodNamed B.named
  have hl := lv_entry av (n := M.2.2.1) hav
  rw [lg_entry_eq]
  refine body (p, e, (headSpec (Cond.code M.1 M.2.1 M.2.2.1 M.2.2.2 :: gtbl) { frames := d, cells := mc, slots := ms, locals := 40 * d }).room, s, m, av.toArray, below, meth, c, _) ⟨B.exec, B.bytes, hml, hown, fun w hw => hts w (List.mem_cons_of_mem _ hw), hK, hSt, B.notSynchronized, Nat.le_refl _, Nat.le_refl _, hsz⟩ ⟨rfl, rfl, rfl, B.returns, (name_of_methodNamed B.named B.method).1⟩ s.heap [] 0 0 _ (by show 0 + mc ≤ mc; omega) (by show 0 + ms ≤ ms; omega) hwh hwb va_S.rf ?_
  unfold lok
  rw [hlv, hlen]
  exact hl
theorem PcF.blind {g : Gx} {B : Nat} {av : List Value} {w : Wd} : FrameBlind (PcF g B av w) := by
  intro a U gg mk h
  obtain ⟨h1, h2, h3, h4, h5, h6⟩ := h
  exact ⟨h1, h2, h3, h4, va_K.moved (u := U) (U := U.calling gg mk a) (Vm.Alike.refl U.vm) h5, h6.vm rfl rfl⟩
section JR
variable {K : Kx} {own : String} {cc : ByteArray} {nL d : Nat} {E : Ex} {kc ks : Nat} {w : Wd} {pc : Nat} {lv : List (Option Value)} {st : List Value}

theorem j_iadd (hC : BX K own cc nL d E) {x y : Int32} (hd : decode cc pc = .ok (.iadd, 1)) (k : J K cc E kc ks w (pc + 1) lv (.int (x + y) :: st)) : J K cc E kc ks w pc lv (.int y :: .int x :: st) := by
  obtain ⟨p, e, R, s, m, args, below, meth, c, Q⟩ := E
  obtain ⟨hx, hb, hml, hown, hts, hK, hSt, hlk, hfr, hlo, hBs⟩ := hC
  intro H locs cells slots ls h1 h2 h3 h4 h5 h6
  exact lv_iadd hx hb hd (k H locs cells slots ls h1 h2 h3 h4 h5 h6)
theorem j_isub (hC : BX K own cc nL d E) {x y : Int32} (hd : decode cc pc = .ok (.isub, 1)) (k : J K cc E kc ks w (pc + 1) lv (.int (x - y) :: st)) : J K cc E kc ks w pc lv (.int y :: .int x :: st) := by
  obtain ⟨p, e, R, s, m, args, below, meth, c, Q⟩ := E
  obtain ⟨hx, hb, hml, hown, hts, hK, hSt, hlk, hfr, hlo, hBs⟩ := hC
  intro H locs cells slots ls h1 h2 h3 h4 h5 h6
  exact lv_isub hx hb hd (k H locs cells slots ls h1 h2 h3 h4 h5 h6)
theorem j_imul (hC : BX K own cc nL d E) {x y : Int32} (hd : decode cc pc = .ok (.imul, 1)) (k : J K cc E kc ks w (pc + 1) lv (.int (x * y) :: st)) : J K cc E kc ks w pc lv (.int y :: .int x :: st) := by
  obtain ⟨p, e, R, s, m, args, below, meth, c, Q⟩ := E
  obtain ⟨hx, hb, hml, hown, hts, hK, hSt, hlk, hfr, hlo, hBs⟩ := hC
  intro H locs cells slots ls h1 h2 h3 h4 h5 h6
  exact lv_imul hx hb hd (k H locs cells slots ls h1 h2 h3 h4 h5 h6)
theorem j_iand (hC : BX K own cc nL d E) {x y : Int32} (hd : decode cc pc = .ok (.iand, 1)) (k : J K cc E kc ks w (pc + 1) lv (.int (x &&& y) :: st)) : J K cc E kc ks w pc lv (.int y :: .int x :: st) := by
  obtain ⟨p, e, R, s, m, args, below, meth, c, Q⟩ := E
  obtain ⟨hx, hb, hml, hown, hts, hK, hSt, hlk, hfr, hlo, hBs⟩ := hC
  intro H locs cells slots ls h1 h2 h3 h4 h5 h6
  exact lv_iand hx hb hd (k H locs cells slots ls h1 h2 h3 h4 h5 h6)
theorem j_ladd (hC : BX K own cc nL d E) {x y : Int64} (hd : decode cc pc = .ok (.ladd, 1)) (k : J K cc E kc ks w (pc + 1) lv (.long (x + y) :: st)) : J K cc E kc ks w pc lv (.long y :: .long x :: st) := by
  obtain ⟨p, e, R, s, m, args, below, meth, c, Q⟩ := E
  obtain ⟨hx, hb, hml, hown, hts, hK, hSt, hlk, hfr, hlo, hBs⟩ := hC
  intro H locs cells slots ls h1 h2 h3 h4 h5 h6
  exact lv_ladd hx hb hd (k H locs cells slots ls h1 h2 h3 h4 h5 h6)
theorem j_lsub (hC : BX K own cc nL d E) {x y : Int64} (hd : decode cc pc = .ok (.lsub, 1)) (k : J K cc E kc ks w (pc + 1) lv (.long (x - y) :: st)) : J K cc E kc ks w pc lv (.long y :: .long x :: st) := by
  obtain ⟨p, e, R, s, m, args, below, meth, c, Q⟩ := E
  obtain ⟨hx, hb, hml, hown, hts, hK, hSt, hlk, hfr, hlo, hBs⟩ := hC
  intro H locs cells slots ls h1 h2 h3 h4 h5 h6
  exact lv_lsub hx hb hd (k H locs cells slots ls h1 h2 h3 h4 h5 h6)
theorem j_lmul (hC : BX K own cc nL d E) {x y : Int64} (hd : decode cc pc = .ok (.lmul, 1)) (k : J K cc E kc ks w (pc + 1) lv (.long (x * y) :: st)) : J K cc E kc ks w pc lv (.long y :: .long x :: st) := by
  obtain ⟨p, e, R, s, m, args, below, meth, c, Q⟩ := E
  obtain ⟨hx, hb, hml, hown, hts, hK, hSt, hlk, hfr, hlo, hBs⟩ := hC
  intro H locs cells slots ls h1 h2 h3 h4 h5 h6
  exact lv_lmul hx hb hd (k H locs cells slots ls h1 h2 h3 h4 h5 h6)
theorem j_ldiv (hC : BX K own cc nL d E) {x y : Int64} (hd : decode cc pc = .ok (.ldiv, 1)) (hne : ¬ y = 0) (k : J K cc E kc ks w (pc + 1) lv (.long (x / y) :: st)) : J K cc E kc ks w pc lv (.long y :: .long x :: st) := by
  obtain ⟨p, e, R, s, m, args, below, meth, c, Q⟩ := E
  obtain ⟨hx, hb, hml, hown, hts, hK, hSt, hlk, hfr, hlo, hBs⟩ := hC
  intro H locs cells slots ls h1 h2 h3 h4 h5 h6
  exact lv_ldiv hx hb hd hne (k H locs cells slots ls h1 h2 h3 h4 h5 h6)
theorem j_lrem (hC : BX K own cc nL d E) {x y : Int64} (hd : decode cc pc = .ok (.lrem, 1)) (hne : ¬ y = 0) (k : J K cc E kc ks w (pc + 1) lv (.long (x - x / y * y) :: st)) : J K cc E kc ks w pc lv (.long y :: .long x :: st) := by
  obtain ⟨p, e, R, s, m, args, below, meth, c, Q⟩ := E
  obtain ⟨hx, hb, hml, hown, hts, hK, hSt, hlk, hfr, hlo, hBs⟩ := hC
  intro H locs cells slots ls h1 h2 h3 h4 h5 h6
  exact lv_lrem hx hb hd hne (k H locs cells slots ls h1 h2 h3 h4 h5 h6)
theorem j_idiv (hC : BX K own cc nL d E) {x y : Int32} (hd : decode cc pc = .ok (.idiv, 1)) (hne : ¬ y = 0) (k : J K cc E kc ks w (pc + 1) lv (.int (x / y) :: st)) : J K cc E kc ks w pc lv (.int y :: .int x :: st) := by
  obtain ⟨p, e, R, s, m, args, below, meth, c, Q⟩ := E
  obtain ⟨hx, hb, hml, hown, hts, hK, hSt, hlk, hfr, hlo, hBs⟩ := hC
  intro H locs cells slots ls h1 h2 h3 h4 h5 h6
  exact lv_idiv hx hb hd hne (k H locs cells slots ls h1 h2 h3 h4 h5 h6)
theorem j_lneg (hC : BX K own cc nL d E) {x : Int64} (hd : decode cc pc = .ok (.lneg, 1)) (k : J K cc E kc ks w (pc + 1) lv (.long (-x) :: st)) : J K cc E kc ks w pc lv (.long x :: st) := by
  obtain ⟨p, e, R, s, m, args, below, meth, c, Q⟩ := E
  obtain ⟨hx, hb, hml, hown, hts, hK, hSt, hlk, hfr, hlo, hBs⟩ := hC
  intro H locs cells slots ls h1 h2 h3 h4 h5 h6
  exact lv_lneg hx hb hd (k H locs cells slots ls h1 h2 h3 h4 h5 h6)
theorem j_dup (hC : BX K own cc nL d E) {v : Value} (hd : decode cc pc = .ok (.dup, 1)) (hv : v.category = 1) (k : J K cc E kc ks w (pc + 1) lv (v :: v :: st)) : J K cc E kc ks w pc lv (v :: st) := by
  obtain ⟨p, e, R, s, m, args, below, meth, c, Q⟩ := E
  obtain ⟨hx, hb, hml, hown, hts, hK, hSt, hlk, hfr, hlo, hBs⟩ := hC
  intro H locs cells slots ls h1 h2 h3 h4 h5 h6
  exact lv_dup hx hb hd hv (k H locs cells slots ls h1 h2 h3 h4 h5 h6)
theorem j_pop (hC : BX K own cc nL d E) {v : Value} (hd : decode cc pc = .ok (.pop, 1)) (hv : v.category = 1) (k : J K cc E kc ks w (pc + 1) lv (st)) : J K cc E kc ks w pc lv (v :: st) := by
  obtain ⟨p, e, R, s, m, args, below, meth, c, Q⟩ := E
  obtain ⟨hx, hb, hml, hown, hts, hK, hSt, hlk, hfr, hlo, hBs⟩ := hC
  intro H locs cells slots ls h1 h2 h3 h4 h5 h6
  exact lv_pop hx hb hd hv (k H locs cells slots ls h1 h2 h3 h4 h5 h6)
theorem j_dup_x1 (hC : BX K own cc nL d E) {v u : Value} (hd : decode cc pc = .ok (.dup_x1, 1)) (hv : v.category = 1) (hu : u.category = 1) (k : J K cc E kc ks w (pc + 1) lv (v :: u :: v :: st)) : J K cc E kc ks w pc lv (v :: u :: st) := by
  obtain ⟨p, e, R, s, m, args, below, meth, c, Q⟩ := E
  obtain ⟨hx, hb, hml, hown, hts, hK, hSt, hlk, hfr, hlo, hBs⟩ := hC
  intro H locs cells slots ls h1 h2 h3 h4 h5 h6
  exact lv_dup_x1 hx hb hd hv hu (k H locs cells slots ls h1 h2 h3 h4 h5 h6)
theorem j_dup2_11 (hC : BX K own cc nL d E) {v u : Value} (hd : decode cc pc = .ok (.dup2, 1)) (hv : v.category = 1) (hu : u.category = 1) (k : J K cc E kc ks w (pc + 1) lv (v :: u :: v :: u :: st)) : J K cc E kc ks w pc lv (v :: u :: st) := by
  obtain ⟨p, e, R, s, m, args, below, meth, c, Q⟩ := E
  obtain ⟨hx, hb, hml, hown, hts, hK, hSt, hlk, hfr, hlo, hBs⟩ := hC
  intro H locs cells slots ls h1 h2 h3 h4 h5 h6
  exact lv_dup2_11 hx hb hd hv hu (k H locs cells slots ls h1 h2 h3 h4 h5 h6)
theorem j_pop2_2 (hC : BX K own cc nL d E) {v : Value} (hd : decode cc pc = .ok (.pop2, 1)) (hv : v.category = 2) (k : J K cc E kc ks w (pc + 1) lv (st)) : J K cc E kc ks w pc lv (v :: st) := by
  obtain ⟨p, e, R, s, m, args, below, meth, c, Q⟩ := E
  obtain ⟨hx, hb, hml, hown, hts, hK, hSt, hlk, hfr, hlo, hBs⟩ := hC
  intro H locs cells slots ls h1 h2 h3 h4 h5 h6
  exact lv_pop2_2 hx hb hd hv (k H locs cells slots ls h1 h2 h3 h4 h5 h6)
theorem j_ishr (hC : BX K own cc nL d E) {x y : Int32} (hd : decode cc pc = .ok (.ishr, 1)) (k : J K cc E kc ks w (pc + 1) lv (.int (x >>> (y &&& 31)) :: st)) : J K cc E kc ks w pc lv (.int y :: .int x :: st) := by
  obtain ⟨p, e, R, s, m, args, below, meth, c, Q⟩ := E
  obtain ⟨hx, hb, hml, hown, hts, hK, hSt, hlk, hfr, hlo, hBs⟩ := hC
  intro H locs cells slots ls h1 h2 h3 h4 h5 h6
  exact lv_ishr hx hb hd (k H locs cells slots ls h1 h2 h3 h4 h5 h6)
theorem j_iconst (hC : BX K own cc nL d E) {n : Int} (v : Int32) (hd : decode cc pc = .ok (.iconst n, 1)) (hv : Int32.ofInt n = v) (k : J K cc E kc ks w (pc + 1) lv (.int v :: st)) : J K cc E kc ks w pc lv st := by
  obtain ⟨p, e, R, s, m, args, below, meth, c, Q⟩ := E
  obtain ⟨hx, hb, hml, hown, hts, hK, hSt, hlk, hfr, hlo, hBs⟩ := hC
  intro H locs cells slots ls h1 h2 h3 h4 h5 h6
  exact lv_iconst hx hb hd hv (k H locs cells slots ls h1 h2 h3 h4 h5 h6)
theorem j_bipush (hC : BX K own cc nL d E) {n : Int} (v : Int32) (hd : decode cc pc = .ok (.bipush n, 2)) (hv : (Int8.ofInt n).toInt32 = v) (k : J K cc E kc ks w (pc + 2) lv (.int v :: st)) : J K cc E kc ks w pc lv st := by
  obtain ⟨p, e, R, s, m, args, below, meth, c, Q⟩ := E
  obtain ⟨hx, hb, hml, hown, hts, hK, hSt, hlk, hfr, hlo, hBs⟩ := hC
  intro H locs cells slots ls h1 h2 h3 h4 h5 h6
  exact lv_bipush hx hb hd hv (k H locs cells slots ls h1 h2 h3 h4 h5 h6)
theorem j_sipush (hC : BX K own cc nL d E) {n : Int} (v : Int32) (hd : decode cc pc = .ok (.sipush n, 3)) (hv : (Int16.ofInt n).toInt32 = v) (k : J K cc E kc ks w (pc + 3) lv (.int v :: st)) : J K cc E kc ks w pc lv st := by
  obtain ⟨p, e, R, s, m, args, below, meth, c, Q⟩ := E
  obtain ⟨hx, hb, hml, hown, hts, hK, hSt, hlk, hfr, hlo, hBs⟩ := hC
  intro H locs cells slots ls h1 h2 h3 h4 h5 h6
  exact lv_sipush hx hb hd hv (k H locs cells slots ls h1 h2 h3 h4 h5 h6)
theorem j_lconst (hC : BX K own cc nL d E) {n : Fin 2} (v : Int64) (hd : decode cc pc = .ok (.lconst n, 1)) (hv : Int64.ofNat (n : Nat) = v) (k : J K cc E kc ks w (pc + 1) lv (.long v :: st)) : J K cc E kc ks w pc lv st := by
  obtain ⟨p, e, R, s, m, args, below, meth, c, Q⟩ := E
  obtain ⟨hx, hb, hml, hown, hts, hK, hSt, hlk, hfr, hlo, hBs⟩ := hC
  intro H locs cells slots ls h1 h2 h3 h4 h5 h6
  exact lv_lconst hx hb hd hv (k H locs cells slots ls h1 h2 h3 h4 h5 h6)
theorem j_i2l (hC : BX K own cc nL d E) {x : Int32} (hd : decode cc pc = .ok (.i2l, 1)) (k : J K cc E kc ks w (pc + 1) lv (.long x.toInt64 :: st)) : J K cc E kc ks w pc lv (.int x :: st) := by
  obtain ⟨p, e, R, s, m, args, below, meth, c, Q⟩ := E
  obtain ⟨hx, hb, hml, hown, hts, hK, hSt, hlk, hfr, hlo, hBs⟩ := hC
  intro H locs cells slots ls h1 h2 h3 h4 h5 h6
  exact lv_i2l hx hb hd rfl (k H locs cells slots ls h1 h2 h3 h4 h5 h6)
theorem j_l2i (hC : BX K own cc nL d E) {x : Int64} (hd : decode cc pc = .ok (.l2i, 1)) (k : J K cc E kc ks w (pc + 1) lv (.int x.toInt32 :: st)) : J K cc E kc ks w pc lv (.long x :: st) := by
  obtain ⟨p, e, R, s, m, args, below, meth, c, Q⟩ := E
  obtain ⟨hx, hb, hml, hown, hts, hK, hSt, hlk, hfr, hlo, hBs⟩ := hC
  intro H locs cells slots ls h1 h2 h3 h4 h5 h6
  exact lv_l2i hx hb hd rfl (k H locs cells slots ls h1 h2 h3 h4 h5 h6)
theorem j_iload_n (hC : BX K own cc nL d E) {i : Fin 4} {x : Int32} (hd : decode cc pc = .ok (.iload_n i, 1)) (hl : lv[(i : Nat)]? = some (some (.int x))) (k : J K cc E kc ks w (pc + 1) lv (.int x :: st)) : J K cc E kc ks w pc lv st := by
  obtain ⟨p, e, R, s, m, args, below, meth, c, Q⟩ := E
  obtain ⟨hx, hb, hml, hown, hts, hK, hSt, hlk, hfr, hlo, hBs⟩ := hC
  intro H locs cells slots ls h1 h2 h3 h4 h5 h6
  exact lv_iload_n hx hb hd rfl (h6.at hl) (k H locs cells slots ls h1 h2 h3 h4 h5 h6)
theorem j_iload (hC : BX K own cc nL d E) {i : Nat} {x : Int32} (hd : decode cc pc = .ok (.iload i, 2)) (hl : lv[i]? = some (some (.int x))) (k : J K cc E kc ks w (pc + 2) lv (.int x :: st)) : J K cc E kc ks w pc lv st := by
  obtain ⟨p, e, R, s, m, args, below, meth, c, Q⟩ := E
  obtain ⟨hx, hb, hml, hown, hts, hK, hSt, hlk, hfr, hlo, hBs⟩ := hC
  intro H locs cells slots ls h1 h2 h3 h4 h5 h6
  exact lv_iload hx hb hd (h6.at hl) (k H locs cells slots ls h1 h2 h3 h4 h5 h6)
theorem j_istore_n (hC : BX K own cc nL d E) {i : Fin 4} {x : Int32} {lv' : List (Option Value)} (hd : decode cc pc = .ok (.istore_n i, 1)) (hn : (i : Nat) < lv.length) (hl : ls1 lv i (.int x) = lv') (k : J K cc E kc ks w (pc + 1) lv' st) : J K cc E kc ks w pc lv (.int x :: st) := by
  subst hl
  obtain ⟨p, e, R, s, m, args, below, meth, c, Q⟩ := E
  obtain ⟨hx, hb, hml, hown, hts, hK, hSt, hlk, hfr, hlo, hBs⟩ := hC
  intro H locs cells slots ls h1 h2 h3 h4 h5 h6
  exact lv_istore_n hx hb hd rfl h6 hn rfl (fun ls' h6 => k H locs cells slots ls' h1 h2 h3 h4 h5 (lok_st1 h6))
theorem j_istore (hC : BX K own cc nL d E) {i : Nat} {x : Int32} {lv' : List (Option Value)} (hd : decode cc pc = .ok (.istore i, 2)) (hn : i < lv.length) (hl : ls1 lv i (.int x) = lv') (k : J K cc E kc ks w (pc + 2) lv' st) : J K cc E kc ks w pc lv (.int x :: st) := by
  subst hl
  obtain ⟨p, e, R, s, m, args, below, meth, c, Q⟩ := E
  obtain ⟨hx, hb, hml, hown, hts, hK, hSt, hlk, hfr, hlo, hBs⟩ := hC
  intro H locs cells slots ls h1 h2 h3 h4 h5 h6
  exact lv_istore hx hb hd h6 hn rfl (fun ls' h6 => k H locs cells slots ls' h1 h2 h3 h4 h5 (lok_st1 h6))
theorem j_lload_n (hC : BX K own cc nL d E) {i : Fin 4} {x : Int64} (hd : decode cc pc = .ok (.lload_n i, 1)) (hl : lv[(i : Nat)]? = some (some (.long x))) (k : J K cc E kc ks w (pc + 1) lv (.long x :: st)) : J K cc E kc ks w pc lv st := by
  obtain ⟨p, e, R, s, m, args, below, meth, c, Q⟩ := E
  obtain ⟨hx, hb, hml, hown, hts, hK, hSt, hlk, hfr, hlo, hBs⟩ := hC
  intro H locs cells slots ls h1 h2 h3 h4 h5 h6
  exact lv_lload_n hx hb hd rfl (h6.at hl) (k H locs cells slots ls h1 h2 h3 h4 h5 h6)
theorem j_lload (hC : BX K own cc nL d E) {i : Nat} {x : Int64} (hd : decode cc pc = .ok (.lload i, 2)) (hl : lv[i]? = some (some (.long x))) (k : J K cc E kc ks w (pc + 2) lv (.long x :: st)) : J K cc E kc ks w pc lv st := by
  obtain ⟨p, e, R, s, m, args, below, meth, c, Q⟩ := E
  obtain ⟨hx, hb, hml, hown, hts, hK, hSt, hlk, hfr, hlo, hBs⟩ := hC
  intro H locs cells slots ls h1 h2 h3 h4 h5 h6
  exact lv_lload hx hb hd (h6.at hl) (k H locs cells slots ls h1 h2 h3 h4 h5 h6)
theorem j_lstore_n (hC : BX K own cc nL d E) {i : Fin 4} {x : Int64} {lv' : List (Option Value)} (hd : decode cc pc = .ok (.lstore_n i, 1)) (hn : (i : Nat) + 1 < lv.length) (hl : ls2 lv i (.long x) = lv') (k : J K cc E kc ks w (pc + 1) lv' st) : J K cc E kc ks w pc lv (.long x :: st) := by
  subst hl
  obtain ⟨p, e, R, s, m, args, below, meth, c, Q⟩ := E
  obtain ⟨hx, hb, hml, hown, hts, hK, hSt, hlk, hfr, hlo, hBs⟩ := hC
  intro H locs cells slots ls h1 h2 h3 h4 h5 h6
  exact lv_lstore_n hx hb hd rfl h6 hn rfl (fun ls' h6 => k H locs cells slots ls' h1 h2 h3 h4 h5 (lok_st2 h6))
theorem j_lstore (hC : BX K own cc nL d E) {i : Nat} {x : Int64} {lv' : List (Option Value)} (hd : decode cc pc = .ok (.lstore i, 2)) (hn : i + 1 < lv.length) (hl : ls2 lv i (.long x) = lv') (k : J K cc E kc ks w (pc + 2) lv' st) : J K cc E kc ks w pc lv (.long x :: st) := by
  subst hl
  obtain ⟨p, e, R, s, m, args, below, meth, c, Q⟩ := E
  obtain ⟨hx, hb, hml, hown, hts, hK, hSt, hlk, hfr, hlo, hBs⟩ := hC
  intro H locs cells slots ls h1 h2 h3 h4 h5 h6
  exact lv_lstore hx hb hd h6 hn rfl (fun ls' h6 => k H locs cells slots ls' h1 h2 h3 h4 h5 (lok_st2 h6))
theorem j_aload_n (hC : BX K own cc nL d E) {i : Fin 4} {x : Nat} (hd : decode cc pc = .ok (.aload_n i, 1)) (hl : lv[(i : Nat)]? = some (some (.ref x))) (k : J K cc E kc ks w (pc + 1) lv (.ref x :: st)) : J K cc E kc ks w pc lv st := by
  obtain ⟨p, e, R, s, m, args, below, meth, c, Q⟩ := E
  obtain ⟨hx, hb, hml, hown, hts, hK, hSt, hlk, hfr, hlo, hBs⟩ := hC
  intro H locs cells slots ls h1 h2 h3 h4 h5 h6
  exact lv_aload_n hx hb hd rfl (h6.at hl) (k H locs cells slots ls h1 h2 h3 h4 h5 h6)
theorem j_aload (hC : BX K own cc nL d E) {i : Nat} {x : Nat} (hd : decode cc pc = .ok (.aload i, 2)) (hl : lv[i]? = some (some (.ref x))) (k : J K cc E kc ks w (pc + 2) lv (.ref x :: st)) : J K cc E kc ks w pc lv st := by
  obtain ⟨p, e, R, s, m, args, below, meth, c, Q⟩ := E
  obtain ⟨hx, hb, hml, hown, hts, hK, hSt, hlk, hfr, hlo, hBs⟩ := hC
  intro H locs cells slots ls h1 h2 h3 h4 h5 h6
  exact lv_aload hx hb hd (h6.at hl) (k H locs cells slots ls h1 h2 h3 h4 h5 h6)
theorem j_astore_n (hC : BX K own cc nL d E) {i : Fin 4} {x : Nat} {lv' : List (Option Value)} (hd : decode cc pc = .ok (.astore_n i, 1)) (hn : (i : Nat) < lv.length) (hl : ls1 lv i (.ref x) = lv') (k : J K cc E kc ks w (pc + 1) lv' st) : J K cc E kc ks w pc lv (.ref x :: st) := by
  subst hl
  obtain ⟨p, e, R, s, m, args, below, meth, c, Q⟩ := E
  obtain ⟨hx, hb, hml, hown, hts, hK, hSt, hlk, hfr, hlo, hBs⟩ := hC
  intro H locs cells slots ls h1 h2 h3 h4 h5 h6
  exact lv_astore_n hx hb hd rfl h6 hn rfl (fun ls' h6 => k H locs cells slots ls' h1 h2 h3 h4 h5 (lok_st1 h6))
theorem j_astore (hC : BX K own cc nL d E) {i : Nat} {x : Nat} {lv' : List (Option Value)} (hd : decode cc pc = .ok (.astore i, 2)) (hn : i < lv.length) (hl : ls1 lv i (.ref x) = lv') (k : J K cc E kc ks w (pc + 2) lv' st) : J K cc E kc ks w pc lv (.ref x :: st) := by
  subst hl
  obtain ⟨p, e, R, s, m, args, below, meth, c, Q⟩ := E
  obtain ⟨hx, hb, hml, hown, hts, hK, hSt, hlk, hfr, hlo, hBs⟩ := hC
  intro H locs cells slots ls h1 h2 h3 h4 h5 h6
  exact lv_astore hx hb hd h6 hn rfl (fun ls' h6 => k H locs cells slots ls' h1 h2 h3 h4 h5 (lok_st1 h6))
theorem j_iinc (hC : BX K own cc nL d E) {i : Nat} {n : Int} {x v : Int32} {lv' : List (Option Value)} (hd : decode cc pc = .ok (.iinc i n, 3)) (hk : lv[i]? = some (some (.int x))) (hv : x + Int32.ofInt n = v) (hn : i < lv.length) (hl : ls1 lv i (.int v) = lv') (k : J K cc E kc ks w (pc + 3) lv' st) : J K cc E kc ks w pc lv st := by
  subst hl
  obtain ⟨p, e, R, s, m, args, below, meth, c, Q⟩ := E
  obtain ⟨hx, hb, hml, hown, hts, hK, hSt, hlk, hfr, hlo, hBs⟩ := hC
  intro H locs cells slots ls h1 h2 h3 h4 h5 h6
  obtain ⟨k0, hk0⟩ := List.getElem?_of_mem ((prs_iff lv 0 i (.int x)).mpr ⟨Nat.zero_le _, by simpa using hk⟩)
  exact lv_iinc hx hb hd h6 hk0 hv hn rfl (fun ls' h6 => k H locs cells slots ls' h1 h2 h3 h4 h5 (lok_st1 h6))
theorem j_if_eq (hC : BX K own cc nL d E) {x : Int32} {off : Int} (tgt : Nat) (hd : decode cc pc = .ok (.ifCond .eq off, 3)) (ht : (pc : Int) + off = (tgt : Int)) (kt : x = 0 → J K cc E kc ks w tgt lv st) (kf : ¬ x = 0 → J K cc E kc ks w (pc + 3) lv st) : J K cc E kc ks w pc lv (.int x :: st) := by
  obtain ⟨p, e, R, s, m, args, below, meth, c, Q⟩ := E
  obtain ⟨hx, hb, hml, hown, hts, hK, hSt, hlk, hfr, hlo, hBs⟩ := hC
  intro H locs cells slots ls h1 h2 h3 h4 h5 h6
  exact lv_if_eq hx hb hd ht (fun z => kt z H locs cells slots ls h1 h2 h3 h4 h5 h6) (fun z => kf z H locs cells slots ls h1 h2 h3 h4 h5 h6)
theorem j_icmp_eq (hC : BX K own cc nL d E) {x y : Int32} {off : Int} (tgt : Nat) (hd : decode cc pc = .ok (.if_icmp .eq off, 3)) (ht : (pc : Int) + off = (tgt : Int)) (kt : x = y → J K cc E kc ks w tgt lv st) (kf : ¬ x = y → J K cc E kc ks w (pc + 3) lv st) : J K cc E kc ks w pc lv (.int y :: .int x :: st) := by
  obtain ⟨p, e, R, s, m, args, below, meth, c, Q⟩ := E
  obtain ⟨hx, hb, hml, hown, hts, hK, hSt, hlk, hfr, hlo, hBs⟩ := hC
  intro H locs cells slots ls h1 h2 h3 h4 h5 h6
  exact lv_icmp_eq hx hb hd ht (fun z => kt z H locs cells slots ls h1 h2 h3 h4 h5 h6) (fun z => kf z H locs cells slots ls h1 h2 h3 h4 h5 h6)
theorem j_lcmp_eq (hC : BX K own cc nL d E) {x y : Int64} {off : Int} (tgt : Nat) (hd0 : decode cc pc = .ok (.lcmp, 1)) (hd : decode cc (pc + 1) = .ok (.ifCond .eq off, 3)) (ht : ((pc + 1 : Nat) : Int) + off = (tgt : Int)) (kt : x = y → J K cc E kc ks w tgt lv st) (kf : ¬ x = y → J K cc E kc ks w (pc + 4) lv st) : J K cc E kc ks w pc lv (.long y :: .long x :: st) := by
  obtain ⟨p, e, R, s, m, args, below, meth, c, Q⟩ := E
  obtain ⟨hx, hb, hml, hown, hts, hK, hSt, hlk, hfr, hlo, hBs⟩ := hC
  intro H locs cells slots ls h1 h2 h3 h4 h5 h6
  refine W.lcmp hx hb hd0 ?_
  exact lv_if_eq hx hb hd ht (fun z => kt ((lg_cmp_eq x y).mp z) H locs cells slots ls h1 h2 h3 h4 h5 h6) (fun z => kf (fun q => z ((lg_cmp_eq x y).mpr q)) H locs cells slots ls h1 h2 h3 h4 h5 h6)
theorem j_if_ne (hC : BX K own cc nL d E) {x : Int32} {off : Int} (tgt : Nat) (hd : decode cc pc = .ok (.ifCond .ne off, 3)) (ht : (pc : Int) + off = (tgt : Int)) (kt : ¬ x = 0 → J K cc E kc ks w tgt lv st) (kf : x = 0 → J K cc E kc ks w (pc + 3) lv st) : J K cc E kc ks w pc lv (.int x :: st) := by
  obtain ⟨p, e, R, s, m, args, below, meth, c, Q⟩ := E
  obtain ⟨hx, hb, hml, hown, hts, hK, hSt, hlk, hfr, hlo, hBs⟩ := hC
  intro H locs cells slots ls h1 h2 h3 h4 h5 h6
  exact lv_if_ne hx hb hd ht (fun z => kt z H locs cells slots ls h1 h2 h3 h4 h5 h6) (fun z => kf z H locs cells slots ls h1 h2 h3 h4 h5 h6)
theorem j_icmp_ne (hC : BX K own cc nL d E) {x y : Int32} {off : Int} (tgt : Nat) (hd : decode cc pc = .ok (.if_icmp .ne off, 3)) (ht : (pc : Int) + off = (tgt : Int)) (kt : ¬ x = y → J K cc E kc ks w tgt lv st) (kf : x = y → J K cc E kc ks w (pc + 3) lv st) : J K cc E kc ks w pc lv (.int y :: .int x :: st) := by
  obtain ⟨p, e, R, s, m, args, below, meth, c, Q⟩ := E
  obtain ⟨hx, hb, hml, hown, hts, hK, hSt, hlk, hfr, hlo, hBs⟩ := hC
  intro H locs cells slots ls h1 h2 h3 h4 h5 h6
  exact lv_icmp_ne hx hb hd ht (fun z => kt z H locs cells slots ls h1 h2 h3 h4 h5 h6) (fun z => kf z H locs cells slots ls h1 h2 h3 h4 h5 h6)
theorem j_lcmp_ne (hC : BX K own cc nL d E) {x y : Int64} {off : Int} (tgt : Nat) (hd0 : decode cc pc = .ok (.lcmp, 1)) (hd : decode cc (pc + 1) = .ok (.ifCond .ne off, 3)) (ht : ((pc + 1 : Nat) : Int) + off = (tgt : Int)) (kt : ¬ x = y → J K cc E kc ks w tgt lv st) (kf : x = y → J K cc E kc ks w (pc + 4) lv st) : J K cc E kc ks w pc lv (.long y :: .long x :: st) := by
  obtain ⟨p, e, R, s, m, args, below, meth, c, Q⟩ := E
  obtain ⟨hx, hb, hml, hown, hts, hK, hSt, hlk, hfr, hlo, hBs⟩ := hC
  intro H locs cells slots ls h1 h2 h3 h4 h5 h6
  refine W.lcmp hx hb hd0 ?_
  exact lv_if_ne hx hb hd ht (fun z => kt (fun q => z ((lg_cmp_eq x y).mpr q)) H locs cells slots ls h1 h2 h3 h4 h5 h6) (fun z => kf ((lg_cmp_eq x y).mp z) H locs cells slots ls h1 h2 h3 h4 h5 h6)
theorem j_if_lt (hC : BX K own cc nL d E) {x : Int32} {off : Int} (tgt : Nat) (hd : decode cc pc = .ok (.ifCond .lt off, 3)) (ht : (pc : Int) + off = (tgt : Int)) (kt : x < 0 → J K cc E kc ks w tgt lv st) (kf : ¬ x < 0 → J K cc E kc ks w (pc + 3) lv st) : J K cc E kc ks w pc lv (.int x :: st) := by
  obtain ⟨p, e, R, s, m, args, below, meth, c, Q⟩ := E
  obtain ⟨hx, hb, hml, hown, hts, hK, hSt, hlk, hfr, hlo, hBs⟩ := hC
  intro H locs cells slots ls h1 h2 h3 h4 h5 h6
  exact lv_if_lt hx hb hd ht (fun z => kt z H locs cells slots ls h1 h2 h3 h4 h5 h6) (fun z => kf z H locs cells slots ls h1 h2 h3 h4 h5 h6)
theorem j_icmp_lt (hC : BX K own cc nL d E) {x y : Int32} {off : Int} (tgt : Nat) (hd : decode cc pc = .ok (.if_icmp .lt off, 3)) (ht : (pc : Int) + off = (tgt : Int)) (kt : x < y → J K cc E kc ks w tgt lv st) (kf : ¬ x < y → J K cc E kc ks w (pc + 3) lv st) : J K cc E kc ks w pc lv (.int y :: .int x :: st) := by
  obtain ⟨p, e, R, s, m, args, below, meth, c, Q⟩ := E
  obtain ⟨hx, hb, hml, hown, hts, hK, hSt, hlk, hfr, hlo, hBs⟩ := hC
  intro H locs cells slots ls h1 h2 h3 h4 h5 h6
  exact lv_icmp_lt hx hb hd ht (fun z => kt z H locs cells slots ls h1 h2 h3 h4 h5 h6) (fun z => kf z H locs cells slots ls h1 h2 h3 h4 h5 h6)
theorem j_lcmp_lt (hC : BX K own cc nL d E) {x y : Int64} {off : Int} (tgt : Nat) (hd0 : decode cc pc = .ok (.lcmp, 1)) (hd : decode cc (pc + 1) = .ok (.ifCond .lt off, 3)) (ht : ((pc + 1 : Nat) : Int) + off = (tgt : Int)) (kt : x < y → J K cc E kc ks w tgt lv st) (kf : ¬ x < y → J K cc E kc ks w (pc + 4) lv st) : J K cc E kc ks w pc lv (.long y :: .long x :: st) := by
  obtain ⟨p, e, R, s, m, args, below, meth, c, Q⟩ := E
  obtain ⟨hx, hb, hml, hown, hts, hK, hSt, hlk, hfr, hlo, hBs⟩ := hC
  intro H locs cells slots ls h1 h2 h3 h4 h5 h6
  refine W.lcmp hx hb hd0 ?_
  exact lv_if_lt hx hb hd ht (fun z => kt ((lg_cmp_lt x y).mp z) H locs cells slots ls h1 h2 h3 h4 h5 h6) (fun z => kf (fun q => z ((lg_cmp_lt x y).mpr q)) H locs cells slots ls h1 h2 h3 h4 h5 h6)
theorem j_if_ge (hC : BX K own cc nL d E) {x : Int32} {off : Int} (tgt : Nat) (hd : decode cc pc = .ok (.ifCond .ge off, 3)) (ht : (pc : Int) + off = (tgt : Int)) (kt : 0 ≤ x → J K cc E kc ks w tgt lv st) (kf : ¬ 0 ≤ x → J K cc E kc ks w (pc + 3) lv st) : J K cc E kc ks w pc lv (.int x :: st) := by
  obtain ⟨p, e, R, s, m, args, below, meth, c, Q⟩ := E
  obtain ⟨hx, hb, hml, hown, hts, hK, hSt, hlk, hfr, hlo, hBs⟩ := hC
  intro H locs cells slots ls h1 h2 h3 h4 h5 h6
  exact lv_if_ge hx hb hd ht (fun z => kt z H locs cells slots ls h1 h2 h3 h4 h5 h6) (fun z => kf z H locs cells slots ls h1 h2 h3 h4 h5 h6)
theorem j_icmp_ge (hC : BX K own cc nL d E) {x y : Int32} {off : Int} (tgt : Nat) (hd : decode cc pc = .ok (.if_icmp .ge off, 3)) (ht : (pc : Int) + off = (tgt : Int)) (kt : y ≤ x → J K cc E kc ks w tgt lv st) (kf : ¬ y ≤ x → J K cc E kc ks w (pc + 3) lv st) : J K cc E kc ks w pc lv (.int y :: .int x :: st) := by
  obtain ⟨p, e, R, s, m, args, below, meth, c, Q⟩ := E
  obtain ⟨hx, hb, hml, hown, hts, hK, hSt, hlk, hfr, hlo, hBs⟩ := hC
  intro H locs cells slots ls h1 h2 h3 h4 h5 h6
  exact lv_icmp_ge hx hb hd ht (fun z => kt z H locs cells slots ls h1 h2 h3 h4 h5 h6) (fun z => kf z H locs cells slots ls h1 h2 h3 h4 h5 h6)
theorem j_lcmp_ge (hC : BX K own cc nL d E) {x y : Int64} {off : Int} (tgt : Nat) (hd0 : decode cc pc = .ok (.lcmp, 1)) (hd : decode cc (pc + 1) = .ok (.ifCond .ge off, 3)) (ht : ((pc + 1 : Nat) : Int) + off = (tgt : Int)) (kt : y ≤ x → J K cc E kc ks w tgt lv st) (kf : ¬ y ≤ x → J K cc E kc ks w (pc + 4) lv st) : J K cc E kc ks w pc lv (.long y :: .long x :: st) := by
  obtain ⟨p, e, R, s, m, args, below, meth, c, Q⟩ := E
  obtain ⟨hx, hb, hml, hown, hts, hK, hSt, hlk, hfr, hlo, hBs⟩ := hC
  intro H locs cells slots ls h1 h2 h3 h4 h5 h6
  refine W.lcmp hx hb hd0 ?_
  exact lv_if_ge hx hb hd ht (fun z => kt ((lg_cmp_ge x y).mp z) H locs cells slots ls h1 h2 h3 h4 h5 h6) (fun z => kf (fun q => z ((lg_cmp_ge x y).mpr q)) H locs cells slots ls h1 h2 h3 h4 h5 h6)
theorem j_if_gt (hC : BX K own cc nL d E) {x : Int32} {off : Int} (tgt : Nat) (hd : decode cc pc = .ok (.ifCond .gt off, 3)) (ht : (pc : Int) + off = (tgt : Int)) (kt : 0 < x → J K cc E kc ks w tgt lv st) (kf : ¬ 0 < x → J K cc E kc ks w (pc + 3) lv st) : J K cc E kc ks w pc lv (.int x :: st) := by
  obtain ⟨p, e, R, s, m, args, below, meth, c, Q⟩ := E
  obtain ⟨hx, hb, hml, hown, hts, hK, hSt, hlk, hfr, hlo, hBs⟩ := hC
  intro H locs cells slots ls h1 h2 h3 h4 h5 h6
  exact lv_if_gt hx hb hd ht (fun z => kt z H locs cells slots ls h1 h2 h3 h4 h5 h6) (fun z => kf z H locs cells slots ls h1 h2 h3 h4 h5 h6)
theorem j_icmp_gt (hC : BX K own cc nL d E) {x y : Int32} {off : Int} (tgt : Nat) (hd : decode cc pc = .ok (.if_icmp .gt off, 3)) (ht : (pc : Int) + off = (tgt : Int)) (kt : y < x → J K cc E kc ks w tgt lv st) (kf : ¬ y < x → J K cc E kc ks w (pc + 3) lv st) : J K cc E kc ks w pc lv (.int y :: .int x :: st) := by
  obtain ⟨p, e, R, s, m, args, below, meth, c, Q⟩ := E
  obtain ⟨hx, hb, hml, hown, hts, hK, hSt, hlk, hfr, hlo, hBs⟩ := hC
  intro H locs cells slots ls h1 h2 h3 h4 h5 h6
  exact lv_icmp_gt hx hb hd ht (fun z => kt z H locs cells slots ls h1 h2 h3 h4 h5 h6) (fun z => kf z H locs cells slots ls h1 h2 h3 h4 h5 h6)
theorem j_lcmp_gt (hC : BX K own cc nL d E) {x y : Int64} {off : Int} (tgt : Nat) (hd0 : decode cc pc = .ok (.lcmp, 1)) (hd : decode cc (pc + 1) = .ok (.ifCond .gt off, 3)) (ht : ((pc + 1 : Nat) : Int) + off = (tgt : Int)) (kt : y < x → J K cc E kc ks w tgt lv st) (kf : ¬ y < x → J K cc E kc ks w (pc + 4) lv st) : J K cc E kc ks w pc lv (.long y :: .long x :: st) := by
  obtain ⟨p, e, R, s, m, args, below, meth, c, Q⟩ := E
  obtain ⟨hx, hb, hml, hown, hts, hK, hSt, hlk, hfr, hlo, hBs⟩ := hC
  intro H locs cells slots ls h1 h2 h3 h4 h5 h6
  refine W.lcmp hx hb hd0 ?_
  exact lv_if_gt hx hb hd ht (fun z => kt ((lg_cmp_gt x y).mp z) H locs cells slots ls h1 h2 h3 h4 h5 h6) (fun z => kf (fun q => z ((lg_cmp_gt x y).mpr q)) H locs cells slots ls h1 h2 h3 h4 h5 h6)
theorem j_if_le (hC : BX K own cc nL d E) {x : Int32} {off : Int} (tgt : Nat) (hd : decode cc pc = .ok (.ifCond .le off, 3)) (ht : (pc : Int) + off = (tgt : Int)) (kt : x ≤ 0 → J K cc E kc ks w tgt lv st) (kf : ¬ x ≤ 0 → J K cc E kc ks w (pc + 3) lv st) : J K cc E kc ks w pc lv (.int x :: st) := by
  obtain ⟨p, e, R, s, m, args, below, meth, c, Q⟩ := E
  obtain ⟨hx, hb, hml, hown, hts, hK, hSt, hlk, hfr, hlo, hBs⟩ := hC
  intro H locs cells slots ls h1 h2 h3 h4 h5 h6
  exact lv_if_le hx hb hd ht (fun z => kt z H locs cells slots ls h1 h2 h3 h4 h5 h6) (fun z => kf z H locs cells slots ls h1 h2 h3 h4 h5 h6)
theorem j_icmp_le (hC : BX K own cc nL d E) {x y : Int32} {off : Int} (tgt : Nat) (hd : decode cc pc = .ok (.if_icmp .le off, 3)) (ht : (pc : Int) + off = (tgt : Int)) (kt : x ≤ y → J K cc E kc ks w tgt lv st) (kf : ¬ x ≤ y → J K cc E kc ks w (pc + 3) lv st) : J K cc E kc ks w pc lv (.int y :: .int x :: st) := by
  obtain ⟨p, e, R, s, m, args, below, meth, c, Q⟩ := E
  obtain ⟨hx, hb, hml, hown, hts, hK, hSt, hlk, hfr, hlo, hBs⟩ := hC
  intro H locs cells slots ls h1 h2 h3 h4 h5 h6
  exact lv_icmp_le hx hb hd ht (fun z => kt z H locs cells slots ls h1 h2 h3 h4 h5 h6) (fun z => kf z H locs cells slots ls h1 h2 h3 h4 h5 h6)
theorem j_lcmp_le (hC : BX K own cc nL d E) {x y : Int64} {off : Int} (tgt : Nat) (hd0 : decode cc pc = .ok (.lcmp, 1)) (hd : decode cc (pc + 1) = .ok (.ifCond .le off, 3)) (ht : ((pc + 1 : Nat) : Int) + off = (tgt : Int)) (kt : x ≤ y → J K cc E kc ks w tgt lv st) (kf : ¬ x ≤ y → J K cc E kc ks w (pc + 4) lv st) : J K cc E kc ks w pc lv (.long y :: .long x :: st) := by
  obtain ⟨p, e, R, s, m, args, below, meth, c, Q⟩ := E
  obtain ⟨hx, hb, hml, hown, hts, hK, hSt, hlk, hfr, hlo, hBs⟩ := hC
  intro H locs cells slots ls h1 h2 h3 h4 h5 h6
  refine W.lcmp hx hb hd0 ?_
  exact lv_if_le hx hb hd ht (fun z => kt ((lg_cmp_le x y).mp z) H locs cells slots ls h1 h2 h3 h4 h5 h6) (fun z => kf (fun q => z ((lg_cmp_le x y).mpr q)) H locs cells slots ls h1 h2 h3 h4 h5 h6)
theorem j_goto (hC : BX K own cc nL d E) {off : Int} (tgt : Nat) (hd : decode cc pc = .ok (.goto off, 3)) (ht : (pc : Int) + off = (tgt : Int)) (k : J K cc E kc ks w tgt lv st) : J K cc E kc ks w pc lv st := by
  obtain ⟨p, e, R, s, m, args, below, meth, c, Q⟩ := E
  obtain ⟨hx, hb, hml, hown, hts, hK, hSt, hlk, hfr, hlo, hBs⟩ := hC
  intro H locs cells slots ls h1 h2 h3 h4 h5 h6
  exact lv_goto hx hb hd ht (k H locs cells slots ls h1 h2 h3 h4 h5 h6)
theorem j_ldc (hC : BX K own cc nL d E) {i : Nat} {v : Int32} (hd : decode cc pc = .ok (.ldc i, 2)) (hw : Cond.constant own i v ∈ gtbl) (k : J K cc E kc ks w (pc + 2) lv (.int v :: st)) : J K cc E kc ks w pc lv st := by
  obtain ⟨p, e, R, s, m, args, below, meth, c, Q⟩ := E
  obtain ⟨hx, hb, hml, hown, hts, hK, hSt, hlk, hfr, hlo, hBs⟩ := hC
  intro H locs cells slots ls h1 h2 h3 h4 h5 h6
  exact lv_ldc hx hb hown (hts _ hw) hd (k H locs cells slots ls h1 h2 h3 h4 h5 h6)
theorem j_ldc_w (hC : BX K own cc nL d E) {i : Nat} {v : Int32} (hd : decode cc pc = .ok (.ldc_w i, 3)) (hw : Cond.constant own i v ∈ gtbl) (k : J K cc E kc ks w (pc + 3) lv (.int v :: st)) : J K cc E kc ks w pc lv st := by
  obtain ⟨p, e, R, s, m, args, below, meth, c, Q⟩ := E
  obtain ⟨hx, hb, hml, hown, hts, hK, hSt, hlk, hfr, hlo, hBs⟩ := hC
  intro H locs cells slots ls h1 h2 h3 h4 h5 h6
  exact lv_ldcw hx hb hown (hts _ hw) hd (k H locs cells slots ls h1 h2 h3 h4 h5 h6)
theorem j_ldc2 (hC : BX K own cc nL d E) {i : Nat} {v : Int64} (hd : decode cc pc = .ok (.ldc2_w i, 3)) (hw : Cond.constantLong own i v ∈ gtbl) (k : J K cc E kc ks w (pc + 3) lv (.long v :: st)) : J K cc E kc ks w pc lv st := by
  obtain ⟨p, e, R, s, m, args, below, meth, c, Q⟩ := E
  obtain ⟨hx, hb, hml, hown, hts, hK, hSt, hlk, hfr, hlo, hBs⟩ := hC
  intro H locs cells slots ls h1 h2 h3 h4 h5 h6
  exact lv_ldc2 hx hb hown (hts _ hw) hd (k H locs cells slots ls h1 h2 h3 h4 h5 h6)
theorem j_null (hC : BX K own cc nL d E) (hd : decode cc pc = .ok (.aconst_null, 1)) (k : J K cc E kc ks w (pc + 1) lv (.null :: st)) : J K cc E kc ks w pc lv st := by
  obtain ⟨p, e, R, s, m, args, below, meth, c, Q⟩ := E
  obtain ⟨hx, hb, hml, hown, hts, hK, hSt, hlk, hfr, hlo, hBs⟩ := hC
  intro H locs cells slots ls h1 h2 h3 h4 h5 h6
  exact lv_null hx hb hd (k H locs cells slots ls h1 h2 h3 h4 h5 h6)
end JR
