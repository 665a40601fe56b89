
/-- what a constructor has made: its own object at a, and the cells of L -/
def HC (w0 w : Wd) (a : Nat) (e : va_E) (L : List (Nat × va_E)) : Prop := w a = some e ∧ (∀ p ∈ L, w p.1 = some p.2 ∧ w0 p.1 = none ∧ p.1 ≠ a) ∧ (L.map Prod.fst).Nodup ∧ (∀ x, x ≠ a → w0 x ≠ none → w x = w0 x) ∧ w0 a ≠ none
theorem HC.start {w : Wd} {a : Nat} {e : va_E} (h : w a = some e) : HC w w a e [] := ⟨h, fun p hp => (by cases hp), List.nodup_nil, fun _ _ _ => rfl, (by rw [h]; exact fun z => (by cases z))⟩
theorem HC.new {w0 w : Wd} {a q : Nat} {e : va_E} {L : List (Nat × va_E)} (h : HC w0 w a e L) (hq : w q = none) (c : va_E) : HC w0 (wst w q c) a e ((q, c) :: L) := by
  obtain ⟨h1, h2, h3, h4, h5⟩ := h
  have haq : a ≠ q := ne_of h1 hq
  have hq0 : w0 q = none := by
    cases hw : w0 q with
    | none => rfl
    | some x =>
      have := h4 q (Ne.symm haq) (by rw [hw]; exact fun z => by cases z)
      rw [hq, hw] at this
      cases this
  refine ⟨(wst_n haq).trans h1, fun p hp => ?_, ?_, fun x hx hx0 => ?_, h5⟩
  · rcases List.mem_cons.mp hp with rfl | hp
    · exact ⟨wst_s _ _ _, hq0, Ne.symm haq⟩
    · have := h2 p hp
      exact ⟨(wst_n (ne_of this.1 hq)).trans this.1, this.2⟩
  · rw [List.map_cons, List.nodup_cons]
    refine ⟨fun hm => ?_, h3⟩
    obtain ⟨p, hp, hpq⟩ := List.mem_map.mp hm
    exact ne_of (h2 p hp).1 hq hpq
  · rw [wst_n (fun z => hx0 (by rw [z]; exact hq0))]
    exact h4 x hx hx0
theorem HC.put {w0 w : Wd} {a : Nat} {e : va_E} {L : List (Nat × va_E)} (h : HC w0 w a e L) (e' : va_E) : HC w0 (wst w a e') a e' L := by
  obtain ⟨h1, h2, h3, h4, h5⟩ := h
  exact ⟨wst_s _ _ _, fun p hp => ⟨(wst_n (h2 p hp).2.2).trans (h2 p hp).1, (h2 p hp).2⟩, h3, fun x hx hx0 => (wst_n hx).trans (h4 x hx hx0), h5⟩
theorem HC.set {w0 w : Wd} {a q : Nat} {e c : va_E} {L : List (Nat × va_E)} (h : HC w0 w a e ((q, c) :: L)) (c' : va_E) : HC w0 (wst w q c') a e ((q, c') :: L) := by
  obtain ⟨h1, h2, h3, h4, h5⟩ := h
  have hq := h2 (q, c) List.mem_cons_self
  have h3' := h3
  rw [List.map_cons, List.nodup_cons] at h3'
  refine ⟨(wst_n (Ne.symm hq.2.2)).trans h1, fun p hp => ?_, h3, fun x hx hx0 => ?_, h5⟩
  · rcases List.mem_cons.mp hp with rfl | hp
    · exact ⟨wst_s _ _ _, hq.2⟩
    · have := h2 p (List.mem_cons_of_mem _ hp)
      exact ⟨(wst_n (fun z => h3'.1 (List.mem_map.mpr ⟨p, hp, z⟩))).trans this.1, this.2⟩
  · rw [wst_n (fun z => hx0 (by rw [z]; exact hq.2.1))]
    exact h4 x hx hx0
theorem HC.join {w0 w w' : Wd} {a b : Nat} {e c e' : va_E} {L L2 : List (Nat × va_E)} (h : HC w0 w a e ((b, c) :: L)) (h' : HC w w' b e' L2) : HC w0 w' a e (L2 ++ (b, e') :: L) := by
  obtain ⟨h1, h2, h3, h4, h5⟩ := h
  obtain ⟨g1, g2, g3, g4, g5⟩ := h'
  have hb := h2 (b, c) List.mem_cons_self
  have h3' := h3
  rw [List.map_cons, List.nodup_cons] at h3'
  have some_ne : ∀ {a : Nat} {x : va_E}, w a = some x → w a ≠ none := fun hx => by rw [hx]; exact fun y => by cases y
  refine ⟨(g4 a (Ne.symm hb.2.2) (some_ne h1)).trans h1, fun p hp => ?_, ?_, fun x hx hx0 => ?_, h5⟩
  · rcases List.mem_append.mp hp with hp | hp
    · obtain ⟨q1, q2, q3⟩ := g2 p hp
      refine ⟨q1, ?_, fun z => by rw [z, h1] at q2; cases q2⟩
      cases hw : w0 p.1 with
      | none => rfl
      | some x =>
        have := h4 p.1 (fun z => by rw [z, h1] at q2; cases q2) (by rw [hw]; exact fun z => by cases z)
        rw [q2, hw] at this
        cases this
    · rcases List.mem_cons.mp hp with rfl | hp
      · exact ⟨g1, hb.2⟩
      · have := h2 p (List.mem_cons_of_mem _ hp)
        exact ⟨(g4 p.1 (fun z => h3'.1 (List.mem_map.mpr ⟨p, hp, z⟩)) (some_ne this.1)).trans this.1, this.2⟩
  · rw [List.map_append, List.nodup_append]
    refine ⟨g3, h3, fun x hx y hy hxy => ?_⟩
    obtain ⟨p, hp, rfl⟩ := List.mem_map.mp hx
    have q2 := (g2 p hp).2.1
    rw [List.map_cons] at hy
    rcases List.mem_cons.mp hy with z | hy
    · rw [hxy, z, hb.1] at q2; cases q2
    · obtain ⟨p', hp', rfl⟩ := List.mem_map.mp hy
      rw [hxy, (h2 p' (List.mem_cons_of_mem _ hp')).1] at q2
      cases q2
  · have hxb : x ≠ b := fun z => hx0 (by rw [z]; exact hb.2.1)
    have e1 := h4 x hx hx0
    rw [g4 x hxb (by rw [e1]; exact hx0), e1]
theorem map_inj {f : Nat → Nat} : ∀ (l : List Nat), (l.map f).Nodup → ∀ x ∈ l, ∀ y ∈ l, f x = f y → x = y
  | [], _, x, hx, _, _, _ => by cases hx
  | a :: l, hn, x, hx, y, hy, hf => by
    rw [List.map_cons, List.nodup_cons] at hn
    rcases List.mem_cons.mp hx with hxa | hx1
    · rcases List.mem_cons.mp hy with hya | hy1
      · rw [hxa, hya]
      · exact absurd (List.mem_map.mpr ⟨y, hy1, by rw [← hf, hxa]⟩) hn.1
    · rcases List.mem_cons.mp hy with hya | hy1
      · exact absurd (List.mem_map.mpr ⟨x, hx1, by rw [hf, hya]⟩) hn.1
      · exact map_inj l hn.2 x hx1 y hy1 hf
/-- the state of a new object -/
def S0 (mo : Int32) : Ast := (fun k _ => if k = 0 then mo else 0, fun _ _ => 0)
def mo (n : Int32) : Int32 := if n < 1 then 1 else if 24 < n then 24 else n
theorem mo_c (n : Int32) : (if 1 < (if n < 24 then n else 24) then (if n < 24 then n else 24) else 1) = mo n := by
  unfold mo
  have e1 : (1 : Int32).toInt = 1 := by decide
  have e24 : (24 : Int32).toInt = 24 := by decide
  apply Int32.toInt_inj.mp
  simp only [Int32.lt_iff_toInt_lt]
  split <;> split <;> split <;> (try split) <;> simp only [Int32.lt_iff_toInt_lt, e1, e24] at * <;> omega

set_option maxRecDepth 100000 in
set_option maxHeartbeats 4000000 in
theorem c_Line (K : Kx) {w : Wd} {a : Nat}  (ha : w a = some (.inr (5, [.null, .null, .null, .int 0, .int 0, .int 0, .int 0, .int 0, .int 0, .int 0]))) : MT K mX4_init 4 3 407 [.ref a] w (PV fun w' => ∃ p q r : Nat, HC w w' a (oLine p q r 0 0 0 0 0 0 0) [(r, aJ K.2.1 401 (fun _ => 0)), (q, oList 0 K.2.1.2.2.2.2.2.1 0), (p, oList 0 K.2.1.2.2.2.2.2.1 0)]) := by
  refine MT.of [some (.ref a)] (by decide) rfl (nle rfl) rfl ?_
  intro E hC hR
  have hH := HC.start ha
  refine j_aload_n hC dX4_init_0 rfl ?_
  refine j_obj hC dX4_init_1 lX4_3 i_objectInit c_objectInit rfl (nle rfl) (by decide) ?_
  refine j_aload_n hC dX4_init_4 rfl ?_
  refine j_new (kc' := 2) (ks' := 404) (fs := [.int 0, .null, .int 0]) hC cfJx4a65c dX4_init_5 kX4_9 ibJx4a65c inJx4a65c (fun j hj => by rcases (show j = 0 ∨ j = 1 ∨ j = 2 by omega) with rfl | rfl | rfl <;> rfl) (by decide) (by decide) (fun q5 hq5 => ?_)
  refine J.gen (P := fun w' => HC w w' a _ _) (hH.new hq5 _) (fun v1 hH => ?_)
  refine j_dup hC dX4_init_8 rfl ?_
  refine j_calli (kc' := 2) (ks' := 404) hC (c_List K (hH.2.1 (q5, _) List.mem_cons_self).1) dX4_init_9 wJx4a65c_init_da8c8 lX4_11 i_yJx4a65c_init_da8c8 rfl rfl rfl (nle rfl) rfl (by decide) (by decide) (by decide) (kV fun w' hp => ?_)
  rw [hp]
  clear hp w'
  refine J.gen (P := fun w' => HC w w' a _ _) (hH.set _) (fun v2 hH => ?_)
  refine j_putF (fs' := [_, _, _, _, _, _, _, _, _, _]) hC cfX4 dX4_init_12 hR.nm fX4_12 rfl rfl (by decide) hH.1 rfl rfl (nlt rfl) rfl ?_
  refine J.gen (P := fun w' => HC w w' a _ _) (hH.put _) (fun v3 hH => ?_)
  refine j_aload_n hC dX4_init_15 rfl ?_
  refine j_new (kc' := 1) (ks' := 401) (fs := [.int 0, .null, .int 0]) hC cfJx4a65c dX4_init_16 kX4_9 ibJx4a65c inJx4a65c (fun j hj => by rcases (show j = 0 ∨ j = 1 ∨ j = 2 by omega) with rfl | rfl | rfl <;> rfl) (by decide) (by decide) (fun q16 hq16 => ?_)
  refine J.gen (P := fun w' => HC w w' a _ _) (hH.new hq16 _) (fun v4 hH => ?_)
  refine j_dup hC dX4_init_19 rfl ?_
  refine j_calli (kc' := 1) (ks' := 401) hC (c_List K (hH.2.1 (q16, _) List.mem_cons_self).1) dX4_init_20 wJx4a65c_init_da8c8 lX4_11 i_yJx4a65c_init_da8c8 rfl rfl rfl (nle rfl) rfl (by decide) (by decide) (by decide) (kV fun w' hp => ?_)
  rw [hp]
  clear hp w'
  refine J.gen (P := fun w' => HC w w' a _ _) (hH.set _) (fun v5 hH => ?_)
  refine j_putF (fs' := [_, _, _, _, _, _, _, _, _, _]) hC cfX4 dX4_init_23 hR.nm fX4_18 rfl rfl (by decide) hH.1 rfl rfl (nlt rfl) rfl ?_
  refine J.gen (P := fun w' => HC w w' a _ _) (hH.put _) (fun v6 hH => ?_)
  refine j_aload_n hC dX4_init_26 rfl ?_
  refine j_sipush hC (401) dX4_init_27 (by decide) ?_
  refine j_newJ (n' := 401) (kc' := 0) (ks' := 0) hC dX4_init_30 ac_J (by decide) (by decide) (by decide) (by decide) (by decide) (fun q30 hq30 => ?_)
  refine J.gen (P := fun w' => HC w w' a _ _) (hH.new hq30 _) (fun v7 hH => ?_)
  refine j_putF (fs' := [_, _, _, _, _, _, _, _, _, _]) hC cfX4 dX4_init_32 hR.nm fX4_21 rfl rfl (by decide) hH.1 rfl rfl (nlt rfl) rfl ?_
  refine J.gen (P := fun w' => HC w w' a _ _) (hH.put _) (fun v8 hH => ?_)
  exact j_vret hC hR dX4_init_35 rfl ⟨rfl, _, _, _, hH⟩

theorem SA.init {g : Gx} {w w' : Wd} {a q5 q16 q27 q38 q49 q60 q74 q82 q88 lp1 lp2 lp3 : Nat} {m0 : Int32} (h : HC w w' a (.inr (10, [.int m0, .ref q5, .ref q16, .ref q27, .ref q38, .ref q49, .ref q60, .ref q74, .ref q82, .ref q88, .int 0, .long 0, .long 0, .long 0])) ([(lp3, aJ g 401 (fun _ => 0)), (lp2, oList 0 g.2.2.2.2.2.1 0), (lp1, oList 0 g.2.2.2.2.2.1 0)] ++ (q88, oLine lp1 lp2 lp3 0 0 0 0 0 0 0) :: [(q82, aJ g 8 (fun _ => 0)), (q74, aI g 1440 (fun _ => 0)), (q60, oList 0 g.2.2.2.2.2.1 0), (q49, oList 0 g.2.2.2.2.2.1 0), (q38, oList 0 g.2.2.2.2.2.1 0), (q27, oList 0 g.2.2.2.2.2.1 0), (q16, oList 0 g.2.2.2.2.2.1 0), (q5, oList 0 g.2.2.2.2.2.1 0)])) :
    ∃ (O : Nat → Prop) (ad : Nat → Nat → Nat) (z : Zx), SA g w' O ad z 0 (S0 m0) ∧ ad 0 0 = a ∧ (∀ x, O x → x = a ∨ w x = none) ∧ ∀ x, x ≠ a → w x ≠ none → w' x = w x := by
  obtain ⟨h1, h2, h3, h4, h5⟩ := h
  have f_q5 := h2 (q5, _) (by apply List.mem_cons_of_mem; apply List.mem_cons_of_mem; apply List.mem_cons_of_mem; apply List.mem_cons_of_mem; apply List.mem_cons_of_mem; apply List.mem_cons_of_mem; apply List.mem_cons_of_mem; apply List.mem_cons_of_mem; apply List.mem_cons_of_mem; apply List.mem_cons_of_mem; apply List.mem_cons_of_mem; exact List.mem_cons_self)
  have f_q16 := h2 (q16, _) (by apply List.mem_cons_of_mem; apply List.mem_cons_of_mem; apply List.mem_cons_of_mem; apply List.mem_cons_of_mem; apply List.mem_cons_of_mem; apply List.mem_cons_of_mem; apply List.mem_cons_of_mem; apply List.mem_cons_of_mem; apply List.mem_cons_of_mem; apply List.mem_cons_of_mem; exact List.mem_cons_self)
  have f_q27 := h2 (q27, _) (by apply List.mem_cons_of_mem; apply List.mem_cons_of_mem; apply List.mem_cons_of_mem; apply List.mem_cons_of_mem; apply List.mem_cons_of_mem; apply List.mem_cons_of_mem; apply List.mem_cons_of_mem; apply List.mem_cons_of_mem; apply List.mem_cons_of_mem; exact List.mem_cons_self)
  have f_q38 := h2 (q38, _) (by apply List.mem_cons_of_mem; apply List.mem_cons_of_mem; apply List.mem_cons_of_mem; apply List.mem_cons_of_mem; apply List.mem_cons_of_mem; apply List.mem_cons_of_mem; apply List.mem_cons_of_mem; apply List.mem_cons_of_mem; exact List.mem_cons_self)
  have f_q49 := h2 (q49, _) (by apply List.mem_cons_of_mem; apply List.mem_cons_of_mem; apply List.mem_cons_of_mem; apply List.mem_cons_of_mem; apply List.mem_cons_of_mem; apply List.mem_cons_of_mem; apply List.mem_cons_of_mem; exact List.mem_cons_self)
  have f_q60 := h2 (q60, _) (by apply List.mem_cons_of_mem; apply List.mem_cons_of_mem; apply List.mem_cons_of_mem; apply List.mem_cons_of_mem; apply List.mem_cons_of_mem; apply List.mem_cons_of_mem; exact List.mem_cons_self)
  have f_q74 := h2 (q74, _) (by apply List.mem_cons_of_mem; apply List.mem_cons_of_mem; apply List.mem_cons_of_mem; apply List.mem_cons_of_mem; apply List.mem_cons_of_mem; exact List.mem_cons_self)
  have f_q82 := h2 (q82, _) (by apply List.mem_cons_of_mem; apply List.mem_cons_of_mem; apply List.mem_cons_of_mem; apply List.mem_cons_of_mem; exact List.mem_cons_self)
  have f_q88 := h2 (q88, _) (by apply List.mem_cons_of_mem; apply List.mem_cons_of_mem; apply List.mem_cons_of_mem; exact List.mem_cons_self)
  have f_lp1 := h2 (lp1, _) (by apply List.mem_cons_of_mem; apply List.mem_cons_of_mem; exact List.mem_cons_self)
  have f_lp2 := h2 (lp2, _) (by apply List.mem_cons_of_mem; exact List.mem_cons_self)
  have f_lp3 := h2 (lp3, _) (by  exact List.mem_cons_self)
  have nd : [q5, q16, q27, q38, q49, q60, q74, q82, q88, lp1, lp2, lp3].Nodup := (List.pairwise_reverse (l := [lp3, lp2, lp1, q88, q82, q74, q60, q49, q38, q27, q16, q5]) (R := (· ≠ ·))).mpr (List.Pairwise.imp (fun h => Ne.symm h) h3)
  let ad : Nat → Nat → Nat := (fun k i => if k = 0 then a else if k = 7 then q74 else if k = 8 then q82 else if k = 9 then q88 else if k = 12 then lp3 else if k = 14 then (if i = 1 then q5 else if i = 2 then q16 else if i = 3 then q27 else if i = 4 then q38 else if i = 5 then q49 else if i = 6 then q60 else if i = 10 then lp1 else if i = 11 then lp2 else 0) else if k = 15 then g.2.2.2.2.2.1 else 0)
  have hk : ∀ k i, i < vN (S0 m0) 0 k → k ∈ [0, 7, 8, 9, 12] ∧ i = 0 := by
    intro k i hi
    match k, hi with
    | 0, hi => rw [vN_e0] at hi; exact ⟨by decide, by omega⟩
    | 7, hi => rw [vN_e7] at hi; exact ⟨by decide, by omega⟩
    | 8, hi => rw [vN_e8] at hi; exact ⟨by decide, by omega⟩
    | 9, hi => rw [vN_e9] at hi; exact ⟨by decide, by omega⟩
    | 12, hi => rw [vN_e12] at hi; exact ⟨by decide, by omega⟩
    | 1, hi | 2, hi | 3, hi | 4, hi | 5, hi | 6, hi | 10, hi => exact absurd (show i < 0 from hi) (by omega)
    | 11, hi => rw [vN_e11] at hi; omega
    | 13, hi => rw [vN_e13] at hi; omega
    | n + 14, hi => rw [vN_eX] at hi; omega
  have hv : ∀ j ∈ LJ, vN (S0 m0) 0 j = 0 := by
    intro j hj
    rcases (show j = 1 ∨ j = 2 ∨ j = 3 ∨ j = 4 ∨ j = 5 ∨ j = 6 ∨ j = 10 ∨ j = 11 by simpa [LJ] using hj) with rfl | rfl | rfl | rfl | rfl | rfl | rfl | rfl <;> rfl
  refine ⟨fun x => x = a ∨ w x = none, ad, (0, 0, fun _ => 0, fun _ _ => 0), ⟨fun k i hi => ?_, fun k i k' i' hi hi' hx => ?_, fun j hj => ?_, fun j hj j' hj' hx => ?_, fun j hj j' hj' g1 g2 hx => ?_⟩, rfl, fun x hx => hx, h4⟩
  · obtain ⟨hk, rfl⟩ := hk k i hi
    rcases (show k = 0 ∨ k = 7 ∨ k = 8 ∨ k = 9 ∨ k = 12 by simpa using hk) with rfl | rfl | rfl | rfl | rfl
    · exact ⟨h1, Or.inl rfl⟩
    · exact ⟨f_q74.1, Or.inr f_q74.2.1⟩
    · exact ⟨f_q82.1, Or.inr f_q82.2.1⟩
    · exact ⟨f_q88.1, Or.inr f_q88.2.1⟩
    · exact ⟨f_lp3.1, Or.inr f_lp3.2.1⟩
  · obtain ⟨k1, rfl⟩ := hk k i hi
    obtain ⟨k2, rfl⟩ := hk k' i' hi'
    refine ⟨map_inj (f := fun k => ad k 0) [0, 7, 8, 9, 12] ?_ k k1 k' k2 hx, rfl⟩
    show [a, q74, q82, q88, lp3].Nodup
    refine List.nodup_cons.mpr ⟨?_, nd.sublist ((List.Sublist.cons _ (List.Sublist.cons _ (List.Sublist.cons _ (List.Sublist.cons _ (List.Sublist.cons _ (List.Sublist.cons _ (List.Sublist.cons₂ _ (List.Sublist.cons₂ _ (List.Sublist.cons₂ _ (List.Sublist.cons _ (List.Sublist.cons _ (List.Sublist.cons₂ _ List.Sublist.slnil)))))))))))))⟩
    simp only [List.mem_cons, List.not_mem_nil, or_false, not_or]
    exact ⟨Ne.symm f_q74.2.2, Ne.symm f_q82.2.2, Ne.symm f_q88.2.2, Ne.symm f_lp3.2.2⟩
  · refine ⟨?_, ?_⟩
    · refine ⟨0, 0, fun _ => none, ?_, Or.inl ⟨hv j hj, ?_⟩⟩
      · rw [hv j hj, nI_0]
        rcases (show j = 1 ∨ j = 2 ∨ j = 3 ∨ j = 4 ∨ j = 5 ∨ j = 6 ∨ j = 10 ∨ j = 11 by simpa [LJ] using hj) with rfl | rfl | rfl | rfl | rfl | rfl | rfl | rfl
        · exact f_q5.1
        · exact f_q16.1
        · exact f_q27.1
        · exact f_q38.1
        · exact f_q49.1
        · exact f_q60.1
        · exact f_lp1.1
        · exact f_lp2.1
      · rfl
    · refine ⟨Or.inr ?_, fun q => by rw [hv j hj] at q; omega⟩
      rcases (show j = 1 ∨ j = 2 ∨ j = 3 ∨ j = 4 ∨ j = 5 ∨ j = 6 ∨ j = 10 ∨ j = 11 by simpa [LJ] using hj) with rfl | rfl | rfl | rfl | rfl | rfl | rfl | rfl
      · exact f_q5.2.1
      · exact f_q16.2.1
      · exact f_q27.2.1
      · exact f_q38.2.1
      · exact f_q49.2.1
      · exact f_q60.2.1
      · exact f_lp1.2.1
      · exact f_lp2.2.1
  · refine map_inj (f := fun k => ad 14 k) LJ ?_ j hj j' hj' hx
    show [q5, q16, q27, q38, q49, q60, lp1, lp2].Nodup
    exact nd.sublist ((List.Sublist.cons₂ _ (List.Sublist.cons₂ _ (List.Sublist.cons₂ _ (List.Sublist.cons₂ _ (List.Sublist.cons₂ _ (List.Sublist.cons₂ _ (List.Sublist.cons _ (List.Sublist.cons _ (List.Sublist.cons _ (List.Sublist.cons₂ _ (List.Sublist.cons₂ _ (List.Sublist.cons _ List.Sublist.slnil)))))))))))))
  · rw [hv j hj] at g1; omega

set_option maxRecDepth 100000 in
set_option maxHeartbeats 4000000 in
theorem c_Storm (K : Kx) {w : Wd} {a : Nat} (n : Int32) (ha : w a = some (.inr (10, [.int 0, .null, .null, .null, .null, .null, .null, .null, .null, .null, .int 0, .long 0, .long 0, .long 0]))) : MT K mX9_init 5 12 1890 [.ref a, .int n] w (PV fun w' => ∃ (O : Nat → Prop) (ad : Nat → Nat → Nat) (z : Zx), SA K.2.1 w' O ad z 0 (S0 (mo n)) ∧ ad 0 0 = a ∧ (∀ x, O x → x = a ∨ w x = none) ∧ ∀ x, x ≠ a → w x ≠ none → w' x = w x) := by
  refine MT.of [some (.ref a), some (.int n)] (by decide) rfl (nle rfl) rfl ?_
  intro E hC hR
  have hH := HC.start ha
  refine j_aload_n hC dX9_init_0 rfl ?_
  refine j_obj hC dX9_init_1 lX9_1 i_objectInit c_objectInit rfl (nle rfl) (by decide) ?_
  refine j_aload_n hC dX9_init_4 rfl ?_
  refine j_new (kc' := 11) (ks' := 1887) (fs := [.int 0, .null, .int 0]) hC cfJx4a65c dX9_init_5 kX9_7 ibJx4a65c inJx4a65c (fun j hj => by rcases (show j = 0 ∨ j = 1 ∨ j = 2 by omega) with rfl | rfl | rfl <;> rfl) (by decide) (by decide) (fun q5 hq5 => ?_)
  refine J.gen (P := fun w' => HC w w' a _ _) (hH.new hq5 _) (fun v1 hH => ?_)
  refine j_dup hC dX9_init_8 rfl ?_
  refine j_calli (kc' := 11) (ks' := 1887) hC (c_List K (hH.2.1 (q5, _) List.mem_cons_self).1) dX9_init_9 wJx4a65c_init_da8c8 lX9_9 i_yJx4a65c_init_da8c8 rfl rfl rfl (nle rfl) rfl (by decide) (by decide) (by decide) (kV fun w' hp => ?_)
  rw [hp]
  clear hp w'
  refine J.gen (P := fun w' => HC w w' a _ _) (hH.set _) (fun v2 hH => ?_)
  refine j_putF (fs' := [_, _, _, _, _, _, _, _, _, _, _, _, _, _]) hC cfX9 dX9_init_12 hR.nm fX9_10 rfl rfl (by decide) hH.1 rfl rfl (nlt rfl) rfl ?_
  refine J.gen (P := fun w' => HC w w' a _ _) (hH.put _) (fun v3 hH => ?_)
  refine j_aload_n hC dX9_init_15 rfl ?_
  refine j_new (kc' := 10) (ks' := 1884) (fs := [.int 0, .null, .int 0]) hC cfJx4a65c dX9_init_16 kX9_7 ibJx4a65c inJx4a65c (fun j hj => by rcases (show j = 0 ∨ j = 1 ∨ j = 2 by omega) with rfl | rfl | rfl <;> rfl) (by decide) (by decide) (fun q16 hq16 => ?_)
  refine J.gen (P := fun w' => HC w w' a _ _) (hH.new hq16 _) (fun v4 hH => ?_)
  refine j_dup hC dX9_init_19 rfl ?_
  refine j_calli (kc' := 10) (ks' := 1884) hC (c_List K (hH.2.1 (q16, _) List.mem_cons_self).1) dX9_init_20 wJx4a65c_init_da8c8 lX9_9 i_yJx4a65c_init_da8c8 rfl rfl rfl (nle rfl) rfl (by decide) (by decide) (by decide) (kV fun w' hp => ?_)
  rw [hp]
  clear hp w'
  refine J.gen (P := fun w' => HC w w' a _ _) (hH.set _) (fun v5 hH => ?_)
  refine j_putF (fs' := [_, _, _, _, _, _, _, _, _, _, _, _, _, _]) hC cfX9 dX9_init_23 hR.nm fX9_16 rfl rfl (by decide) hH.1 rfl rfl (nlt rfl) rfl ?_
  refine J.gen (P := fun w' => HC w w' a _ _) (hH.put _) (fun v6 hH => ?_)
  refine j_aload_n hC dX9_init_26 rfl ?_
  refine j_new (kc' := 9) (ks' := 1881) (fs := [.int 0, .null, .int 0]) hC cfJx4a65c dX9_init_27 kX9_7 ibJx4a65c inJx4a65c (fun j hj => by rcases (show j = 0 ∨ j = 1 ∨ j = 2 by omega) with rfl | rfl | rfl <;> rfl) (by decide) (by decide) (fun q27 hq27 => ?_)
  refine J.gen (P := fun w' => HC w w' a _ _) (hH.new hq27 _) (fun v7 hH => ?_)
  refine j_dup hC dX9_init_30 rfl ?_
  refine j_calli (kc' := 9) (ks' := 1881) hC (c_List K (hH.2.1 (q27, _) List.mem_cons_self).1) dX9_init_31 wJx4a65c_init_da8c8 lX9_9 i_yJx4a65c_init_da8c8 rfl rfl rfl (nle rfl) rfl (by decide) (by decide) (by decide) (kV fun w' hp => ?_)
  rw [hp]
  clear hp w'
  refine J.gen (P := fun w' => HC w w' a _ _) (hH.set _) (fun v8 hH => ?_)
  refine j_putF (fs' := [_, _, _, _, _, _, _, _, _, _, _, _, _, _]) hC cfX9 dX9_init_34 hR.nm fX9_19 rfl rfl (by decide) hH.1 rfl rfl (nlt rfl) rfl ?_
  refine J.gen (P := fun w' => HC w w' a _ _) (hH.put _) (fun v9 hH => ?_)
  refine j_aload_n hC dX9_init_37 rfl ?_
  refine j_new (kc' := 8) (ks' := 1878) (fs := [.int 0, .null, .int 0]) hC cfJx4a65c dX9_init_38 kX9_7 ibJx4a65c inJx4a65c (fun j hj => by rcases (show j = 0 ∨ j = 1 ∨ j = 2 by omega) with rfl | rfl | rfl <;> rfl) (by decide) (by decide) (fun q38 hq38 => ?_)
  refine J.gen (P := fun w' => HC w w' a _ _) (hH.new hq38 _) (fun v10 hH => ?_)
  refine j_dup hC dX9_init_41 rfl ?_
  refine j_calli (kc' := 8) (ks' := 1878) hC (c_List K (hH.2.1 (q38, _) List.mem_cons_self).1) dX9_init_42 wJx4a65c_init_da8c8 lX9_9 i_yJx4a65c_init_da8c8 rfl rfl rfl (nle rfl) rfl (by decide) (by decide) (by decide) (kV fun w' hp => ?_)
  rw [hp]
  clear hp w'
  refine J.gen (P := fun w' => HC w w' a _ _) (hH.set _) (fun v11 hH => ?_)
  refine j_putF (fs' := [_, _, _, _, _, _, _, _, _, _, _, _, _, _]) hC cfX9 dX9_init_45 hR.nm fX9_22 rfl rfl (by decide) hH.1 rfl rfl (nlt rfl) rfl ?_
  refine J.gen (P := fun w' => HC w w' a _ _) (hH.put _) (fun v12 hH => ?_)
  refine j_aload_n hC dX9_init_48 rfl ?_
  refine j_new (kc' := 7) (ks' := 1875) (fs := [.int 0, .null, .int 0]) hC cfJx4a65c dX9_init_49 kX9_7 ibJx4a65c inJx4a65c (fun j hj => by rcases (show j = 0 ∨ j = 1 ∨ j = 2 by omega) with rfl | rfl | rfl <;> rfl) (by decide) (by decide) (fun q49 hq49 => ?_)
  refine J.gen (P := fun w' => HC w w' a _ _) (hH.new hq49 _) (fun v13 hH => ?_)
  refine j_dup hC dX9_init_52 rfl ?_
  refine j_calli (kc' := 7) (ks' := 1875) hC (c_List K (hH.2.1 (q49, _) List.mem_cons_self).1) dX9_init_53 wJx4a65c_init_da8c8 lX9_9 i_yJx4a65c_init_da8c8 rfl rfl rfl (nle rfl) rfl (by decide) (by decide) (by decide) (kV fun w' hp => ?_)
  rw [hp]
  clear hp w'
  refine J.gen (P := fun w' => HC w w' a _ _) (hH.set _) (fun v14 hH => ?_)
  refine j_putF (fs' := [_, _, _, _, _, _, _, _, _, _, _, _, _, _]) hC cfX9 dX9_init_56 hR.nm fX9_25 rfl rfl (by decide) hH.1 rfl rfl (nlt rfl) rfl ?_
  refine J.gen (P := fun w' => HC w w' a _ _) (hH.put _) (fun v15 hH => ?_)
  refine j_aload_n hC dX9_init_59 rfl ?_
  refine j_new (kc' := 6) (ks' := 1872) (fs := [.int 0, .null, .int 0]) hC cfJx4a65c dX9_init_60 kX9_7 ibJx4a65c inJx4a65c (fun j hj => by rcases (show j = 0 ∨ j = 1 ∨ j = 2 by omega) with rfl | rfl | rfl <;> rfl) (by decide) (by decide) (fun q60 hq60 => ?_)
  refine J.gen (P := fun w' => HC w w' a _ _) (hH.new hq60 _) (fun v16 hH => ?_)
  refine j_dup hC dX9_init_63 rfl ?_
  refine j_calli (kc' := 6) (ks' := 1872) hC (c_List K (hH.2.1 (q60, _) List.mem_cons_self).1) dX9_init_64 wJx4a65c_init_da8c8 lX9_9 i_yJx4a65c_init_da8c8 rfl rfl rfl (nle rfl) rfl (by decide) (by decide) (by decide) (kV fun w' hp => ?_)
  rw [hp]
  clear hp w'
  refine J.gen (P := fun w' => HC w w' a _ _) (hH.set _) (fun v17 hH => ?_)
  refine j_putF (fs' := [_, _, _, _, _, _, _, _, _, _, _, _, _, _]) hC cfX9 dX9_init_67 hR.nm fX9_28 rfl rfl (by decide) hH.1 rfl rfl (nlt rfl) rfl ?_
  refine J.gen (P := fun w' => HC w w' a _ _) (hH.put _) (fun v18 hH => ?_)
  refine j_aload_n hC dX9_init_70 rfl ?_
  refine j_sipush hC (1440) dX9_init_71 (by decide) ?_
  refine j_newI (n' := 1440) (kc' := 5) (ks' := 432) hC dX9_init_74 ac_I (by decide) (by decide) (by decide) (by decide) (by decide) (fun q74 hq74 => ?_)
  refine J.gen (P := fun w' => HC w w' a _ _) (hH.new hq74 _) (fun v19 hH => ?_)
  refine j_putF (fs' := [_, _, _, _, _, _, _, _, _, _, _, _, _, _]) hC cfX9 dX9_init_76 hR.nm fX9_31 rfl rfl (by decide) hH.1 rfl rfl (nlt rfl) rfl ?_
  refine J.gen (P := fun w' => HC w w' a _ _) (hH.put _) (fun v20 hH => ?_)
  refine j_aload_n hC dX9_init_79 rfl ?_
  refine j_bipush hC (8) dX9_init_80 (by decide) ?_
  refine j_newJ (n' := 8) (kc' := 4) (ks' := 424) hC dX9_init_82 ac_J (by decide) (by decide) (by decide) (by decide) (by decide) (fun q82 hq82 => ?_)
  refine J.gen (P := fun w' => HC w w' a _ _) (hH.new hq82 _) (fun v21 hH => ?_)
  refine j_putF (fs' := [_, _, _, _, _, _, _, _, _, _, _, _, _, _]) hC cfX9 dX9_init_84 hR.nm fX9_35 rfl rfl (by decide) hH.1 rfl rfl (nlt rfl) rfl ?_
  refine J.gen (P := fun w' => HC w w' a _ _) (hH.put _) (fun v22 hH => ?_)
  refine j_aload_n hC dX9_init_87 rfl ?_
  refine j_new (kc' := 3) (ks' := 414) (fs := [.null, .null, .null, .int 0, .int 0, .int 0, .int 0, .int 0, .int 0, .int 0]) hC cfX4 dX9_init_88 kX9_39 ibX4 inX4 (fun j hj => by rcases (show j = 0 ∨ j = 1 ∨ j = 2 ∨ j = 3 ∨ j = 4 ∨ j = 5 ∨ j = 6 ∨ j = 7 ∨ j = 8 ∨ j = 9 by omega) with rfl | rfl | rfl | rfl | rfl | rfl | rfl | rfl | rfl | rfl <;> rfl) (by decide) (by decide) (fun q88 hq88 => ?_)
  refine J.gen (P := fun w' => HC w w' a _ _) (hH.new hq88 _) (fun v23 hH => ?_)
  refine j_dup hC dX9_init_91 rfl ?_
  refine j_calliN (kc' := 0) (ks' := 7) hC (c_Line K (hH.2.1 (q88, _) List.mem_cons_self).1) dX9_init_92 wX4_init (fun U h => h.2.1) i_yX4_init rfl rfl rfl (nle rfl) rfl (by decide) (by decide) (by decide) (kV fun w' hp => ?_)
  obtain ⟨lp1, lp2, lp3, hp⟩ := hp
  have hH := hH.join hp
  refine j_putF (fs' := [_, _, _, _, _, _, _, _, _, _, _, _, _, _]) hC cfX9 dX9_init_95 hR.nm fX9_42 rfl rfl (by decide) hH.1 rfl rfl (nlt rfl) rfl ?_
  refine J.gen (P := fun w' => HC w w' a _ _) (hH.put _) (fun v24 hH => ?_)
  refine j_aload_n hC dX9_init_98 rfl ?_
  refine j_iconst hC (1) dX9_init_99 (by decide) ?_
  refine j_bipush hC (24) dX9_init_100 (by decide) ?_
  refine j_iload_n hC dX9_init_102 rfl ?_
  refine j_mmin hC dX9_init_103 lX9_46 t_yJ9_min_7cf53 inJ9 wJ9_min_7cf53.1 rfl (nle rfl) (by decide) ?_
  refine j_mmax hC dX9_init_106 lX9_52 t_yJ9_max_7cf53 inJ9 wJ9_max_7cf53.1 rfl (nle rfl) (by decide) ?_
  refine j_putF (fs' := [_, _, _, _, _, _, _, _, _, _, _, _, _, _]) hC cfX9 dX9_init_109 hR.nm fX9_55 rfl rfl (by decide) hH.1 rfl rfl (nlt rfl) rfl ?_
  refine J.gen (P := fun w' => HC w w' a _ _) (hH.put _) (fun v25 hH => ?_)
  rw [mo_c] at hH
  exact j_vret hC hR dX9_init_112 rfl ⟨rfl, SA.init hH⟩

