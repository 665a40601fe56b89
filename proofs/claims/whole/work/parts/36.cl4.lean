
theorem VV_same {T S : Ast} (h : same T S) (co di : Int) (P N : Nat) : ∀ r fell e, VV T co di P N r fell e = VV S co di P N r fell e
  | 0, _, _ => rfl
  | r + 1, fell, e => by
    rw [VV_s, VV_s]
    apply lea_cong
    intro t _
    rw [cs_same h, VV_same h co di P N r]
theorem cu_same {T S : Ast} (h : same T S) (co di : Int) (P N r fell : Nat) : cu T co di P N r fell = cu S co di P N r fell := by
  funext u
  unfold cu
  rw [cs_same h, VV_same h]
theorem ch_same {T S : Ast} (h : same T S) (co di : Int) (P N r fell e : Nat) : ch T co di P N r fell e = ch S co di P N r fell e := by
  unfold ch
  rw [cu_same h, VV_same h]
theorem ps_same {T S : Ast} (h : same T S) (co di : Int) (P N : Nat) : ∀ p, ps T co di P N p = ps S co di P N p
  | 0 => rfl
  | p + 1 => by
    rw [ps_s, ps_s]
    unfold pu
    rw [ps_same h co di P N p, ch_same h]
theorem pu_same {T S : Ast} (h : same T S) (co di : Int) (P N p : Nat) : pu T co di P N p = pu S co di P N p := by
  unfold pu
  rw [ps_same h, ch_same h]
theorem TL_same2 {T S : Ast} (h : same T S) (B : Ast) (co di : Int) (P N : Nat) : ∀ p, TL B T co di P N p = TL B S co di P N p
  | 0 => rfl
  | p + 1 => by
    rw [TL_s, TL_s, TL_same2 h B co di P N p, ps_same h, pu_same h, h 49 (by decide)]
theorem TL_sameB (S : Ast) (co di : Int) (P N p : Nat) : same (TL S S co di P N p) S := by
  intro k hk
  rw [TL_1 _ _ _ _ _ _ (fun q => hk (by rw [q]; decide)) (fun q => hk (by rw [q]; decide)) (fun q => hk (by rw [q]; decide))]
theorem uI_comm {S : Ast} {k i k' i' : Nat} {a b : Int32} (h : k ≠ k') : uI (uI S k i a) k' i' b = uI (uI S k' i' b) k i a := by
  unfold uI
  have e1 : va_up S.1 k (va_up (S.1 k) i a) k' = S.1 k' := va_up_ne _ _ (Ne.symm h)
  have e2 : va_up S.1 k' (va_up (S.1 k') i' b) k = S.1 k := va_up_ne _ _ h
  simp only [e1, e2]
  congr 1
  funext j
  by_cases h1 : j = k
  · subst h1; rw [va_up_ne _ _ h, va_up_self, va_up_self]
  · by_cases h2 : j = k'
    · subst h2; rw [va_up_self, va_up_ne _ _ h1, va_up_self]
    · rw [va_up_ne _ _ h2, va_up_ne _ _ h1, va_up_ne _ _ h1, va_up_ne _ _ h2]
theorem uI_uI {S : Ast} {k i : Nat} {a b : Int32} : uI (uI S k i a) k i b = uI S k i b := by
  unfold uI
  simp only [va_up_self]
  congr 1
  funext j
  by_cases h1 : j = k
  · subst h1
    rw [va_up_self, va_up_self]
    funext x
    by_cases h2 : x = i
    · subst h2; rw [va_up_self, va_up_self]
    · rw [va_up_ne _ _ h2, va_up_ne _ _ h2, va_up_ne _ _ h2]
  · rw [va_up_ne _ _ h1, va_up_ne _ _ h1, va_up_ne _ _ h1]
theorem TL_55c (B S : Ast) (v : Int32) (co di : Int) (P N : Nat) : ∀ p, uI (TL B S co di P N p) 55 0 v = TL (uI B 55 0 v) S co di P N p
  | 0 => rfl
  | p + 1 => by
    rw [TL_s, TL_s, ← TL_55c B S v co di P N p, uI_comm (k := 58) (k' := 55) (by decide), uI_comm (k := 57) (k' := 55) (by decide), uI_comm (k := 56) (k' := 55) (by decide)]
theorem NP.TL {S B : Ast} {np : Nat} (h : NP B np) (co di : Int) (P N : Nat) {p : Nat} (hp : p ≤ np) : NP (TL B S co di P N p) np := by
  refine ⟨?_, h.2.1, fun f hf i hi => ?_⟩
  · unfold cn
    rw [TL_1 _ _ _ _ _ _ (by decide) (by decide) (by decide)]
    exact h.1
  · rw [TL_i _ _ _ _ _ _ _ _ _ (by omega)]
    exact h.2.2 f hf i hi
/-- the cost of a piece with an entry and a fall, and of the best behind it -/
def cF (S : Ast) (co di : Int) (k e d f : Nat) : Int := cs S co di k d e f (VV S co di (cn S 50) (cn S 44) (cn S 50 - (k + 1)) (d + f) e)
theorem cF_car {S : Ast} {co di : Int} {k e d f : Nat} {v : Int} (h : cF S co di k e d f = v) (hv : v < NEV) : car S k e f ∧ cov S co k e d := ⟨(cs_lt h hv).1.1, (cs_lt h hv).1.2.1⟩

set_option maxRecDepth 100000 in
set_option maxHeartbeats 4000000 in
theorem c_fallThat (K : Kx) {w : Wd} {O : Nat → Prop} {ad : Nat → Nat → Nat} {z : Zx} {np : Nat} {S : Ast} (k e d : Nat) (due : Int64) (hA : SA K.2.1 w O ad z np S) (hL : LSt S) (hnp : NP S np) (hk : k < cn S 50) (he : e < cn S 44) (hd : d ≤ 40 * k) (hco : rg z.1 0 10000) (hdi : rg z.2.1 0 1000) (hD : LD S z.1.toInt z.2.1.toInt z.2.2.2 k) (hV : due.toInt < NEV) : MT K mX4_fallThatCosts 4 0 0 [.ref (ad 9 0), .long due, .int (nI k), .int (nI e), .int (nI d)] w (PI fun r w' => (∃ f0 : Nat, r = nI f0 ∧ ((f0 = 0 ∧ ∀ f, 1 ≤ f → f ≤ 40 → cF S z.1.toInt z.2.1.toInt k e d f ≠ due.toInt) ∨ (1 ≤ f0 ∧ f0 ≤ 40 ∧ cF S z.1.toInt z.2.1.toInt k e d f0 = due.toInt ∧ ∀ f, 1 ≤ f → f < f0 → cF S z.1.toInt z.2.1.toInt k e d f ≠ due.toInt))) ∧ w' = w) := by
  refine MT.of [some (.ref (ad 9 0)), some (.long due), none, some (.int (nI k)), some (.int (nI e)), some (.int (nI d)), none] (by decide) rfl (nle rfl) rfl ?_
  intro E hC hR
  have hS := SB.rf hA
  have loop : ∀ (lf : Nat), 1 ≤ lf → (∀ f : Nat, 1 ≤ f → f ≤ 40 → (lf ≤ f ↔ car S k e f)) → cov S z.1.toInt k e d → ∀ (n i : Nat), i + n = 41 → lf ≤ i → (∀ f, lf ≤ f → f < i → cfr S z.1.toInt z.2.1.toInt k e (d + f) ≠ due.toInt) → J K cX4_fallThatCosts E 0 0 w 23 [some (.ref (ad 9 0)), some (.long due), none, some (.int (nI k)), some (.int (nI e)), some (.int (nI d)), some (.int (nI (i)))] [] := by
    intro lf l1 l3 hcv n
    induction n with
    | zero =>
      intro i hi hi1 hn
      have hi2 : i = 41 := by omega
      subst hi2
      refine j_iload hC dX4_fallThatCosts_23 rfl ?_
      refine j_bipush hC (40) dX4_fallThatCosts_25 (by decide) ?_
      refine j_icmp_gt hC 56 dX4_fallThatCosts_27 (by decide) (fun c_27 => ?_) (fun c_27 => ?_)
      · refine j_iconst hC (0) dX4_fallThatCosts_56 (by decide) ?_
        exact j_iret hC hR dX4_fallThatCosts_57 rfl ⟨_, rfl, ⟨0, nI_0.symm, Or.inl ⟨rfl, fun f f1 f2 q => if hf : lf ≤ f then hn f hf (by omega) ((cfr_cs hL hco.1 ⟨hdi.1, hdi.2⟩ hk he hd f1 f2 (cF_car q hV).1 (cF_car q hV).2 hV).mpr q) else hf ((l3 f f1 f2).mpr (cF_car q hV).1)⟩⟩, rfl⟩
      · exact absurd (show (40 : Int32) < nI 41 by decide) c_27
    | succ n ih =>
      intro i hi hi1 hn
      refine j_iload hC dX4_fallThatCosts_23 rfl ?_
      refine j_bipush hC (40) dX4_fallThatCosts_25 (by decide) ?_
      refine j_icmp_gt hC 56 dX4_fallThatCosts_27 (by decide) (fun c_27 => ?_) (fun c_27 => ?_)
      · exact absurd c_27 (fun q => by have q2 : nI 40 < nI i := q; rw [nI_ltI (by omega) (by omega)] at q2; omega)
      · refine j_aload_n hC dX4_fallThatCosts_30 rfl ?_
        refine j_iload_n hC dX4_fallThatCosts_31 rfl ?_
        refine j_iload hC dX4_fallThatCosts_32 rfl ?_
        refine j_iload hC dX4_fallThatCosts_34 rfl ?_
        refine j_iload hC dX4_fallThatCosts_36 rfl ?_
        refine j_iadd hC dX4_fallThatCosts_38 ?_
        refine J.toI (nI_add d i) ?_
        refine j_callv (kc' := 0) (ks' := 0) (r := (RX4, TX4, 10)) hC (c_costFrom K k e (d + i) hS.1 hL hnp hk he (by omega) hco hdi (hD.mono (Nat.le_succ _))) dX4_fallThatCosts_39 wX4_costFrom lX4_136 i_yX4_costFrom s_yX4_costFrom hS.1.line rfl rfl rfl (nle rfl) rfl (by decide) (by decide) (by decide) (kL fun r w' hp => ?_)
        obtain ⟨hr, hw⟩ := hp
        rw [hw]
        clear hw w'
        refine j_lload_n hC dX4_fallThatCosts_42 rfl ?_
        refine j_lcmp_ne hC 50 dX4_fallThatCosts_43 dX4_fallThatCosts_44 (by decide) (fun c_43 => ?_) (fun c_43 => ?_)
        · refine j_iinc (v := nI (i + 1)) (lv' := [some _, some _, none, some _, some _, some _, some _]) hC dX4_fallThatCosts_50 rfl (nI_i1 i) (nlt rfl) rfl ?_
          refine j_goto hC 23 dX4_fallThatCosts_53 (by decide) ?_
          refine ih (i + 1) (by omega) (by omega) (fun f f1 f2 q => ?_)
          by_cases hfi : f = i
          · exact c_43 (Int64.toInt_inj.mp (by rw [hr, ← q, hfi]))
          · exact hn f f1 (by omega) q
        · refine j_iload hC dX4_fallThatCosts_47 rfl ?_
          have hq : cfr S z.1.toInt z.2.1.toInt k e (d + i) = due.toInt := by rw [← hr, c_43]
          have hcr := (l3 i (by omega) (by omega)).mp hi1
          exact j_iret hC hR dX4_fallThatCosts_49 rfl ⟨_, rfl, ⟨i, rfl, Or.inr ⟨by omega, by omega, (cfr_cs hL hco.1 ⟨hdi.1, hdi.2⟩ hk he hd (by omega) (by omega) hcr hcv hV).mp hq, fun f f1 f2 q => if hf : lf ≤ f then hn f hf (by omega) ((cfr_cs hL hco.1 ⟨hdi.1, hdi.2⟩ hk he hd f1 (by omega) (cF_car q hV).1 (cF_car q hV).2 hV).mpr q) else hf ((l3 f f1 (by omega)).mpr (cF_car q hV).1)⟩⟩, rfl⟩
  refine j_aload_n hC dX4_fallThatCosts_0 rfl ?_
  refine j_iload_n hC dX4_fallThatCosts_1 rfl ?_
  refine j_iload hC dX4_fallThatCosts_2 rfl ?_
  refine j_iload hC dX4_fallThatCosts_4 rfl ?_
  refine j_callv (kc' := 0) (ks' := 0) (r := (RX4, TX4, 10)) hC (c_cov K k e d hS.1 hL hnp hk he (by have := hL.1.2; omega) hco) dX4_fallThatCosts_6 wX4_isCoveredAtBegin lX4_127 i_yX4_isCoveredAtBegin s_yX4_isCoveredAtBegin hS.1.line rfl rfl rfl (nle rfl) rfl (by decide) (by decide) (by decide) (kI fun r w' hp => ?_)
  obtain ⟨hr, hw⟩ := hp
  rw [hw]
  clear hw w'
  refine j_if_ne hC 14 dX4_fallThatCosts_9 (by decide) (fun c_9 => ?_) (fun c_9 => ?_)
  · refine j_aload_n hC dX4_fallThatCosts_14 rfl ?_
    refine j_iload_n hC dX4_fallThatCosts_15 rfl ?_
    refine j_iload hC dX4_fallThatCosts_16 rfl ?_
    have hcv : cov S z.1.toInt k e d := Decidable.of_not_not (fun q => c_9 (by rw [hr, if_neg q]))
    refine j_callv (kc' := 0) (ks' := 0) (r := (RX4, TX4, 10)) hC (c_leastFall K k e hS.1 hL hnp hk he) dX4_fallThatCosts_18 wX4_leastFall lX4_113 i_yX4_leastFall s_yX4_leastFall hS.1.line rfl rfl rfl (nle rfl) rfl (by decide) (by decide) (by decide) (kI fun r w' hp => ?_)
    obtain ⟨⟨lf, rfl, l1, l2, l3⟩, hw⟩ := hp
    rw [hw]
    clear hw w'
    refine j_istore (lv' := [some _, some _, none, some _, some _, some _, some _]) hC dX4_fallThatCosts_21 (nlt rfl) rfl ?_
    exact loop lf l1 l3 hcv (41 - lf) lf (by omega) (Nat.le_refl _) (fun f f1 f2 => by omega)
  · refine j_iconst hC (0) dX4_fallThatCosts_12 (by decide) ?_
    have hcv : ¬ cov S z.1.toInt k e d := fun q => by rw [hr, if_pos q] at c_9; exact absurd c_9 (by decide)
    exact j_iret hC hR dX4_fallThatCosts_13 rfl ⟨_, rfl, ⟨0, nI_0.symm, Or.inl ⟨rfl, fun f f1 f2 q => hcv (cF_car q hV).2⟩⟩, rfl⟩

theorem cF_cu {S : Ast} {co di : Int} {k e d f : Nat} (hk : k < cn S 50) (h1 : 1 ≤ f := by omega) (h2 : f ≤ 40 := by omega) : cF S co di k e d f = cu S co di (cn S 50) (cn S 44) (cn S 50 - (k + 1)) d (40 * e + (f - 1)) := by
  unfold cF cu
  have q1 : (40 * e + (f - 1)) / 40 = e := by omega
  have q2 : (40 * e + (f - 1)) % 40 + 1 = f := by omega
  rw [q1, q2, show cn S 50 - (cn S 50 - (k + 1) + 1) = k by omega]
set_option maxRecDepth 100000 in
set_option maxHeartbeats 4000000 in
theorem c_layPiece (K : Kx) {w : Wd} {O : Nat → Prop} {ad : Nat → Nat → Nat} {z : Zx} {np : Nat} {S : Ast} (k d e0 : Nat) (hA : SA K.2.1 w O ad z np S) (hL : LSt S) (hnp : NP S np) (hk : k < cn S 50) (he : e0 < cn S 44) (hd : d ≤ 40 * k) (hco : rg z.1 0 10000) (hdi : rg z.2.1 0 1000) (hD : LD S z.1.toInt z.2.1.toInt z.2.2.2 k) (hV : VV S z.1.toInt z.2.1.toInt (cn S 50) (cn S 44) (cn S 50 - k) d e0 < NEV) : MT K mX4_layPiece 5 0 0 [.ref (ad 9 0), .int (nI k), .int (nI d), .int (nI e0)] w (PV fun w' => SB K.2.1 w w' O ad z np (uI (uI (uI S 56 k (nI (ch S z.1.toInt z.2.1.toInt (cn S 50) (cn S 44) (cn S 50 - (k + 1)) d e0 / 40))) 57 k (nI (ch S z.1.toInt z.2.1.toInt (cn S 50) (cn S 44) (cn S 50 - (k + 1)) d e0 % 40 + 1))) 58 k (S.1 49 0 - nI (d + (ch S z.1.toInt z.2.1.toInt (cn S 50) (cn S 44) (cn S 50 - (k + 1)) d e0 % 40 + 1))))) := by
  refine MT.of [some (.ref (ad 9 0)), some (.int (nI k)), some (.int (nI d)), some (.int (nI e0)), none, none, none, none, none] (by decide) rfl (nle rfl) rfl ?_
  intro E hC hR
  have hS := SB.rf hA
  have h50 := hL.1.2
  obtain ⟨hx3, hx1, hx2, hx4⟩ := ch_spec S z.1.toInt z.2.1.toInt (P := cn S 50) (N := cn S 44) (r := cn S 50 - (k + 1)) (fell := d) (e := e0) he (by rw [show cn S 50 - (k + 1) + 1 = cn S 50 - k by omega]; exact hV)
  rw [show cn S 50 - (k + 1) + 1 = cn S 50 - k by omega] at hx3 hx4
  generalize hxx : ch S z.1.toInt z.2.1.toInt (cn S 50) (cn S 44) (cn S 50 - (k + 1)) d e0 = x at hx1 hx2 hx3 hx4 ⊢
  have loop : ∀ (due : Int64), due.toInt = VV S z.1.toInt z.2.1.toInt (cn S 50) (cn S 44) (cn S 50 - k) d e0 → ∀ (n e : Nat), e + n = cn S 44 → 40 * e ≤ x → e0 ≤ e → J K cX4_layPiece E 0 0 w 30 [some (.ref (ad 9 0)), some (.int (nI k)), some (.int (nI d)), some (.int (nI e0)), some (.ref (ad 11 k)), some (.long due), none, some (.int (nI (e))), none] [] := by
    intro due hdue n
    induction n with
    | zero =>
      intro e hi hex hee
      exfalso
      omega
    | succ n ih =>
      intro e hi hex hee
      refine j_iload hC dX4_layPiece_30 rfl ?_
      refine j_aload_n hC dX4_layPiece_32 rfl ?_
      refine j_get hC cfX4 dX4_layPiece_33 fX4_12 (by decide) hS.1.line rfl ?_
      obtain ⟨mc1, hl1⟩ := (hS.1.lst (j := 10) (by decide)).sz
      refine j_callv (kc' := 0) (ks' := 0) (r := (RJx4a65c, TJx4a65c, 3)) hC (c_lsize K (hS.1.lst (j := 10) (by decide))) dX4_layPiece_36 wJx4a65c_size_8abf5 lX4_25 i_yJx4a65c_size_8abf5 s_yJx4a65c_size_8abf5 hl1 rfl rfl rfl (nle rfl) rfl (by decide) (by decide) (by decide) (kI fun r w' hp => ?_)
      obtain ⟨rfl, hw⟩ := hp
      rw [hw]
      clear hw w'
      refine J.toI (congrArg nI (vN_e10 _ np)) ?_
      refine j_icmp_ge hC 94 dX4_layPiece_39 (by decide) (fun c_39 => ?_) (fun c_39 => ?_)
      · exact absurd c_39 (fun q => by rw [nI_leI (by have := hL.2.1.2; omega) (by have := hL.2.1.2; omega)] at q; omega)
      · refine j_aload_n hC dX4_layPiece_42 rfl ?_
        refine j_lload hC dX4_layPiece_43 rfl ?_
        refine j_iload_n hC dX4_layPiece_45 rfl ?_
        refine j_iload hC dX4_layPiece_46 rfl ?_
        refine j_iload_n hC dX4_layPiece_48 rfl ?_
        refine j_callv (kc' := 0) (ks' := 0) (r := (RX4, TX4, 10)) hC (c_fallThat K k e d due hS.1 hL hnp hk (by omega) hd hco hdi hD (by rw [hdue]; exact hV)) dX4_layPiece_49 wX4_fallThatCosts lX4_154 i_yX4_fallThatCosts s_yX4_fallThatCosts hS.1.line rfl rfl rfl (nle rfl) rfl (by decide) (by decide) (by decide) (kI fun r w' hp => ?_)
        obtain ⟨⟨f0, rfl, hf0⟩, hw⟩ := hp
        rw [hw]
        clear hw w'
        refine j_istore (lv' := [some _, some _, some _, some _, some _, some _, none, some _, some _]) hC dX4_layPiece_52 (nlt rfl) rfl ?_
        refine j_iload hC dX4_layPiece_54 rfl ?_
        refine j_if_le hC 88 dX4_layPiece_56 (by decide) (fun c_56 => ?_) (fun c_56 => ?_)
        · have hf00 : f0 = 0 := by rcases hf0 with q | q; (· exact q.1); exact absurd c_56 (nI_nle (by omega) (by omega))
          have hnone : ∀ f, 1 ≤ f → f ≤ 40 → cF S z.1.toInt z.2.1.toInt k e d f ≠ due.toInt := by rcases hf0 with q | q; (· exact q.2); omega
          refine j_iinc (v := nI (e + 1)) (lv' := [some _, some _, some _, some _, some _, some _, none, some _, some _]) hC dX4_layPiece_88 rfl (nI_i1 e) (nlt rfl) rfl ?_
          refine j_goto hC 30 dX4_layPiece_91 (by decide) ?_
          refine J.weak (l' := [some (.ref (ad 9 0)), some (.int (nI k)), some (.int (nI d)), some (.int (nI e0)), some (.ref (ad 11 k)), some (.long due), none, some (.int (nI (e + 1))), none]) (⟨rfl, rfl, rfl, rfl, rfl, rfl, rfl, trivial⟩) ?_
          refine ih (e + 1) (by omega) (Nat.not_lt.mp fun q => ?_) (by omega)
          have hx1 : x / 40 = e := by omega
          exact hnone (x % 40 + 1) (by omega) (by omega) (by rw [hdue, ← hx3, cF_cu hk, show 40 * e + (x % 40 + 1 - 1) = x by omega])
        · have hf1 : 1 ≤ f0 := by rcases hf0 with q | q; (· exact absurd (show nI f0 ≤ 0 by rw [q.1]; decide) c_56); exact q.1
          obtain ⟨-, hf2, hf3, hf4⟩ : 1 ≤ f0 ∧ f0 ≤ 40 ∧ cF S z.1.toInt z.2.1.toInt k e d f0 = due.toInt ∧ ∀ f, 1 ≤ f → f < f0 → cF S z.1.toInt z.2.1.toInt k e d f ≠ due.toInt := by rcases hf0 with q | q; (· omega); exact q
          have hxe : x = 40 * e + (f0 - 1) := by
            rw [cF_cu hk, hdue] at hf3
            have q1 : ¬ 40 * e + (f0 - 1) < x := fun q => hx4 _ (by omega) q hf3
            have q2 : ¬ x < 40 * e + (f0 - 1) := fun q => hf4 (x % 40 + 1) (by omega) (by omega) (by rw [hdue, ← hx3, cF_cu hk, show 40 * e + (x % 40 + 1 - 1) = x by omega])
            omega
          have hx5 : x / 40 = e := by omega
          have hx6 : x % 40 + 1 = f0 := by omega
          have hne : ad 9 0 ≠ ad 11 k := hS.1.ne (k := 9) (i := 0) (k' := 11) (i' := k) Nat.one_pos (Nat.lt_of_lt_of_le hk hnp.1) (fun q => absurd q.1 (by decide))
          refine j_aload hC dX4_layPiece_59 rfl ?_
          refine j_iload hC dX4_layPiece_61 rfl ?_
          refine j_put (fs' := [_, _, _, _, _, _, _]) hC cfX6 dX4_layPiece_63 fX4_104 rfl (by decide) (hS.1.piece (Nat.lt_of_lt_of_le hk hnp.1)) rfl rfl (nlt rfl) rfl ?_
          refine j_aload hC dX4_layPiece_66 rfl ?_
          refine j_iload hC dX4_layPiece_68 rfl ?_
          refine j_put (fs' := [_, _, _, _, _, _, _]) hC cfX6 dX4_layPiece_70 fX4_107 rfl (by decide) (wst_s _ _ _) rfl rfl (nlt rfl) rfl ?_
          refine j_aload hC dX4_layPiece_73 rfl ?_
          refine j_aload_n hC dX4_layPiece_75 rfl ?_
          refine j_get hC cfX4 dX4_layPiece_76 fX4_53 (by decide) ((wst_n hne).trans ((wst_n hne).trans hS.1.line)) rfl ?_
          refine j_iload_n hC dX4_layPiece_79 rfl ?_
          refine j_isub hC dX4_layPiece_80 ?_
          refine j_iload hC dX4_layPiece_81 rfl ?_
          refine j_isub hC dX4_layPiece_83 ?_
          refine J.toI (y := S.1 49 0 - nI (d + f0)) (by rw [Int32.sub_sub, nI_add]) ?_
          refine j_put (fs' := [_, _, _, _, _, _, _]) hC cfX6 dX4_layPiece_84 fX4_110 rfl (by decide) (wst_s _ _ _) rfl rfl (nlt rfl) rfl ?_
          rw [wst_wst, wst_wst]
          refine J.gen (P := fun w3 => SB K.2.1 w w3 O ad z np (uI (uI (uI S 56 k (nI (x / 40))) 57 k (nI (x % 40 + 1))) 58 k (S.1 49 0 - nI (d + (x % 40 + 1))))) (hS.putPiece (Nat.lt_of_lt_of_le hk hnp.1) _ (fun k hk => ?_) (fun k j hj => ?_) rfl ?_) (fun w3 hS => ?_)
          · rw [uI_1n (fun q => hk (by rw [q]; decide)), uI_1n (fun q => hk (by rw [q]; decide)), uI_1n (fun q => hk (by rw [q]; decide))]
          · rw [uI_off k j hj, uI_off k j hj, uI_off k j hj]
          · simp [uI_at, uI_1n, hx5, hx6]
          exact j_vret hC hR dX4_layPiece_87 rfl ⟨rfl, by rw [← hxx] at hS; exact hS⟩
  refine j_aload_n hC dX4_layPiece_0 rfl ?_
  refine j_get hC cfX4 dX4_layPiece_1 fX4_18 (by decide) hS.1.line rfl ?_
  refine j_iload_n hC dX4_layPiece_4 rfl ?_
  obtain ⟨mc1, hl1⟩ := (hS.1.lst (j := 11) (by decide)).sz
  refine j_callv (kc' := 0) (ks' := 0) (r := (RJx4a65c, TJx4a65c, 3)) hC (c_get K (hS.1.lst (j := 11) (by decide)) (by rw [vN_e11]; exact Nat.lt_of_lt_of_le hk hnp.1)) dX4_layPiece_5 wJx4a65c_get_915e3 lX4_29 i_yJx4a65c_get_915e3 s_yJx4a65c_get_915e3 hl1 rfl rfl rfl (nle rfl) rfl (by decide) (by decide) (by decide) (kA fun r w' hp => ?_)
  obtain ⟨rfl, hw⟩ := hp
  rw [hw]
  clear hw w'
  refine j_cast (r := (RX6, TX6, 7)) hC dX4_layPiece_8 kX4_62 (hS.1.piece (Nat.lt_of_lt_of_le hk hnp.1)) rfl ?_
  refine j_astore (lv' := [some _, some _, some _, some _, some _, none, none, none, none]) hC dX4_layPiece_11 (nlt rfl) rfl ?_
  refine j_aload hC dX4_layPiece_13 rfl ?_
  refine j_get hC cfX6 dX4_layPiece_15 fX4_91 (by decide) (hS.1.piece (Nat.lt_of_lt_of_le hk hnp.1)) rfl ?_
  refine j_iload_n hC dX4_layPiece_18 rfl ?_
  refine j_bipush hC (6) dX4_layPiece_19 (by decide) ?_
  refine j_imul hC dX4_layPiece_21 ?_
  refine j_iload_n hC dX4_layPiece_22 rfl ?_
  refine j_iadd hC dX4_layPiece_23 ?_
  refine J.toI (y := nI (d * 6 + e0)) (by rw [show (6 : Int32) = nI 6 from by decide, nI_mul, nI_add]) ?_
  refine j_aldJ hC dX4_layPiece_24 (hS.1.le (Nat.lt_of_lt_of_le hk hnp.1)) (ix_nI (by have := hL.2.1.2; omega) (by have := hL.1.2; omega)) ?_
  refine j_lstore (lv' := [some _, some _, some _, some _, some _, some _, none, none, none]) hC dX4_layPiece_25 (nlt rfl) rfl ?_
  refine j_iload_n hC dX4_layPiece_27 rfl ?_
  refine j_istore (lv' := [some _, some _, some _, some _, some _, some _, none, some _, none]) hC dX4_layPiece_28 (nlt rfl) rfl ?_
  exact loop _ (hD k (Nat.le_refl _) hk d hd e0 he) (cn S 44 - e0) e0 (by omega) hx1 (Nat.le_refl _)

set_option maxRecDepth 100000 in
set_option maxHeartbeats 4000000 in
theorem c_followBest (K : Kx) {w : Wd} {O : Nat → Prop} {ad : Nat → Nat → Nat} {z : Zx} {np : Nat} {S : Ast}  (hA : SA K.2.1 w O ad z np S) (hL : LSt S) (hnp : NP S np) (hco : rg z.1 0 10000) (hdi : rg z.2.1 0 1000) (hD : LD S z.1.toInt z.2.1.toInt z.2.2.2 0) (hN : 0 < cn S 44) (hV : VV S z.1.toInt z.2.1.toInt (cn S 50) (cn S 44) (cn S 50) 0 0 < NEV) : MT K mX4_followBest 6 0 0 [.ref (ad 9 0)] w (PV fun w' => SB K.2.1 w w' O ad z np (TL S S z.1.toInt z.2.1.toInt (cn S 50) (cn S 44) (cn S 50))) := by
  refine MT.of [some (.ref (ad 9 0)), none, none, none] (by decide) rfl (nle rfl) rfl ?_
  intro E hC hR
  have hS := SB.rf hA
  have loop : ∀ (n k : Nat) (w1 : Wd), k + n = cn S 50 → SB K.2.1 w w1 O ad z np (TL S S z.1.toInt z.2.1.toInt (cn S 50) (cn S 44) k) → J K cX4_followBest E 0 0 w1 6 [some (.ref (ad 9 0)), some (.int (nI (ps S z.1.toInt z.2.1.toInt (cn S 50) (cn S 44) (k)).1)), some (.int (nI (ps S z.1.toInt z.2.1.toInt (cn S 50) (cn S 44) (k)).2)), some (.int (nI (k)))] [] := by
    intro n
    induction n with
    | zero =>
      intro k w1 hi hS
      have hi2 : k = cn S 50 := by omega
      subst hi2
      refine j_iload_n hC dX4_followBest_6 rfl ?_
      refine j_aload_n hC dX4_followBest_7 rfl ?_
      refine j_get hC cfX4 dX4_followBest_8 fX4_56 (by decide) hS.1.line rfl ?_
      refine J.toI (y := nI (cn S 50)) ((congrFun (TL_sameB S z.1.toInt z.2.1.toInt (cn S 50) (cn S 44) _ 50 (by decide)) 0).trans hL.1.1) ?_
      refine j_icmp_ge hC 59 dX4_followBest_11 (by decide) (fun c_11 => ?_) (fun c_11 => ?_)
      · exact j_vret hC hR dX4_followBest_59 rfl ⟨rfl, hS⟩
      · exact absurd (nI_le (Nat.le_refl _) (by have := hL.1.2; omega)) c_11
    | succ n ih =>
      intro k w1 hi hS
      have hk : k < cn S 50 := by omega
      have hkn : k < np := Nat.lt_of_lt_of_le hk hnp.1
      obtain ⟨h1, h2, h3⟩ := ps_ok S z.1.toInt z.2.1.toInt hN hV k (by omega)
      refine j_iload_n hC dX4_followBest_6 rfl ?_
      refine j_aload_n hC dX4_followBest_7 rfl ?_
      refine j_get hC cfX4 dX4_followBest_8 fX4_56 (by decide) hS.1.line rfl ?_
      refine J.toI (y := nI (cn S 50)) ((congrFun (TL_sameB S z.1.toInt z.2.1.toInt (cn S 50) (cn S 44) _ 50 (by decide)) 0).trans hL.1.1) ?_
      refine j_icmp_ge hC 59 dX4_followBest_11 (by decide) (fun c_11 => ?_) (fun c_11 => ?_)
      · exact absurd ((nI_leI (by have := hL.1.2; omega) (by have := hL.1.2; omega)).mp c_11) (by omega)
      · refine j_aload_n hC dX4_followBest_14 rfl ?_
        refine j_iload_n hC dX4_followBest_15 rfl ?_
        refine j_iload_n hC dX4_followBest_16 rfl ?_
        refine j_iload_n hC dX4_followBest_17 rfl ?_
        have hsm := TL_sameB S z.1.toInt z.2.1.toInt (cn S 50) (cn S 44) k
        have c50 := hsm.cn (k := 50) (by decide)
        have c44 := hsm.cn (k := 44) (by decide)
        have hD2 : LD (TL S S z.1.toInt z.2.1.toInt (cn S 50) (cn S 44) k) z.1.toInt z.2.1.toInt z.2.2.2 k := fun k1 q1 q2 d hd e he => by rw [c50] at q2; rw [c44] at he; rw [c50, c44, VV_same hsm]; exact hD k1 (Nat.zero_le _) q2 d hd e he
        refine j_callv (kc' := 0) (ks' := 0) (r := (RX4, TX4, 10)) hC (c_layPiece K k (ps S z.1.toInt z.2.1.toInt (cn S 50) (cn S 44) k).1 (ps S z.1.toInt z.2.1.toInt (cn S 50) (cn S 44) k).2 hS.1 (hL.same hsm) (hnp.TL _ _ _ _ (Nat.le_trans (Nat.le_of_lt hk) hnp.1)) (by rw [c50]; exact hk) (by rw [c44]; exact h1) h2 hco hdi hD2 (by rw [c50, c44, VV_same hsm]; exact h3)) dX4_followBest_18 wX4_layPiece lX4_150 i_yX4_layPiece s_yX4_layPiece hS.1.line rfl rfl rfl (nle rfl) rfl (by decide) (by decide) (by decide) (kV fun w' hp => ?_)
        have hst : uI (uI (uI (TL S S z.1.toInt z.2.1.toInt (cn S 50) (cn S 44) k) 56 k (nI (ch (TL S S z.1.toInt z.2.1.toInt (cn S 50) (cn S 44) k) z.1.toInt z.2.1.toInt (cn (TL S S z.1.toInt z.2.1.toInt (cn S 50) (cn S 44) k) 50) (cn (TL S S z.1.toInt z.2.1.toInt (cn S 50) (cn S 44) k) 44) (cn (TL S S z.1.toInt z.2.1.toInt (cn S 50) (cn S 44) k) 50 - (k + 1)) (ps S z.1.toInt z.2.1.toInt (cn S 50) (cn S 44) k).1 (ps S z.1.toInt z.2.1.toInt (cn S 50) (cn S 44) k).2 / 40))) 57 k (nI (ch (TL S S z.1.toInt z.2.1.toInt (cn S 50) (cn S 44) k) z.1.toInt z.2.1.toInt (cn (TL S S z.1.toInt z.2.1.toInt (cn S 50) (cn S 44) k) 50) (cn (TL S S z.1.toInt z.2.1.toInt (cn S 50) (cn S 44) k) 44) (cn (TL S S z.1.toInt z.2.1.toInt (cn S 50) (cn S 44) k) 50 - (k + 1)) (ps S z.1.toInt z.2.1.toInt (cn S 50) (cn S 44) k).1 (ps S z.1.toInt z.2.1.toInt (cn S 50) (cn S 44) k).2 % 40 + 1))) 58 k ((TL S S z.1.toInt z.2.1.toInt (cn S 50) (cn S 44) k).1 49 0 - nI ((ps S z.1.toInt z.2.1.toInt (cn S 50) (cn S 44) k).1 + (ch (TL S S z.1.toInt z.2.1.toInt (cn S 50) (cn S 44) k) z.1.toInt z.2.1.toInt (cn (TL S S z.1.toInt z.2.1.toInt (cn S 50) (cn S 44) k) 50) (cn (TL S S z.1.toInt z.2.1.toInt (cn S 50) (cn S 44) k) 44) (cn (TL S S z.1.toInt z.2.1.toInt (cn S 50) (cn S 44) k) 50 - (k + 1)) (ps S z.1.toInt z.2.1.toInt (cn S 50) (cn S 44) k).1 (ps S z.1.toInt z.2.1.toInt (cn S 50) (cn S 44) k).2 % 40 + 1))) = TL S S z.1.toInt z.2.1.toInt (cn S 50) (cn S 44) (k + 1) := by
          rw [c50, c44, ch_same hsm, hsm 49 (by decide)]
          rfl
        rw [hst] at hp
        have hS := hS.tr hp
        refine j_iload_n hC dX4_followBest_21 rfl ?_
        refine j_aload_n hC dX4_followBest_22 rfl ?_
        refine j_get hC cfX4 dX4_followBest_23 fX4_18 (by decide) hS.1.line rfl ?_
        refine j_iload_n hC dX4_followBest_26 rfl ?_
        obtain ⟨mc1, hl1⟩ := (hS.1.lst (j := 11) (by decide)).sz
        refine j_callv (kc' := 0) (ks' := 0) (r := (RJx4a65c, TJx4a65c, 3)) hC (c_get K (hS.1.lst (j := 11) (by decide)) (by rw [vN_e11]; exact hkn)) dX4_followBest_27 wJx4a65c_get_915e3 lX4_29 i_yJx4a65c_get_915e3 s_yJx4a65c_get_915e3 hl1 rfl rfl rfl (nle rfl) rfl (by decide) (by decide) (by decide) (kA fun r w' hp => ?_)
        obtain ⟨rfl, hw⟩ := hp
        rw [hw]
        clear hw w'
        refine j_cast (r := (RX6, TX6, 7)) hC dX4_followBest_30 kX4_62 (hS.1.piece hkn) rfl ?_
        refine j_get hC cfX6 dX4_followBest_33 fX4_107 (by decide) (hS.1.piece hkn) rfl ?_
        refine J.toI (y := nI (pu S z.1.toInt z.2.1.toInt (cn S 50) (cn S 44) k % 40 + 1)) (by rw [TL_s, uI_1n (by decide), uI_at]) ?_
        refine j_iadd hC dX4_followBest_36 ?_
        refine J.toI (nI_add (ps S z.1.toInt z.2.1.toInt (cn S 50) (cn S 44) k).1 (pu S z.1.toInt z.2.1.toInt (cn S 50) (cn S 44) k % 40 + 1)) ?_
        refine j_istore_n (lv' := [some _, some _, some _, some _]) hC dX4_followBest_37 (nlt rfl) rfl ?_
        refine j_aload_n hC dX4_followBest_38 rfl ?_
        refine j_get hC cfX4 dX4_followBest_39 fX4_18 (by decide) hS.1.line rfl ?_
        refine j_iload_n hC dX4_followBest_42 rfl ?_
        obtain ⟨mc2, hl2⟩ := (hS.1.lst (j := 11) (by decide)).sz
        refine j_callv (kc' := 0) (ks' := 0) (r := (RJx4a65c, TJx4a65c, 3)) hC (c_get K (hS.1.lst (j := 11) (by decide)) (by rw [vN_e11]; exact hkn)) dX4_followBest_43 wJx4a65c_get_915e3 lX4_29 i_yJx4a65c_get_915e3 s_yJx4a65c_get_915e3 hl2 rfl rfl rfl (nle rfl) rfl (by decide) (by decide) (by decide) (kA fun r w' hp => ?_)
        obtain ⟨rfl, hw⟩ := hp
        rw [hw]
        clear hw w'
        refine j_cast (r := (RX6, TX6, 7)) hC dX4_followBest_46 kX4_62 (hS.1.piece hkn) rfl ?_
        refine j_get hC cfX6 dX4_followBest_49 fX4_104 (by decide) (hS.1.piece hkn) rfl ?_
        refine J.toI (y := nI (pu S z.1.toInt z.2.1.toInt (cn S 50) (cn S 44) k / 40)) (by rw [TL_s, uI_1n (by decide), uI_1n (by decide), uI_at]) ?_
        refine j_istore_n (lv' := [some _, some _, some _, some _]) hC dX4_followBest_52 (nlt rfl) rfl ?_
        refine j_iinc (v := nI (k + 1)) (lv' := [some _, some _, some _, some _]) hC dX4_followBest_53 rfl (nI_i1 k) (nlt rfl) rfl ?_
        refine j_goto hC 6 dX4_followBest_56 (by decide) ?_
        refine J.weak (l' := [some (.ref (ad 9 0)), some (.int (nI (ps S z.1.toInt z.2.1.toInt (cn S 50) (cn S 44) (k + 1)).1)), some (.int (nI (ps S z.1.toInt z.2.1.toInt (cn S 50) (cn S 44) (k + 1)).2)), some (.int (nI (k + 1)))]) (⟨rfl, rfl, rfl, rfl, trivial⟩) ?_
        exact ih (k + 1) _ (by omega) hS
  refine j_iconst hC (0) dX4_followBest_0 (by decide) ?_
  refine j_istore_n (lv' := [some _, some _, none, none]) hC dX4_followBest_1 (nlt rfl) rfl ?_
  refine j_iconst hC (0) dX4_followBest_2 (by decide) ?_
  refine j_istore_n (lv' := [some _, some _, some _, none]) hC dX4_followBest_3 (nlt rfl) rfl ?_
  refine j_iconst hC (0) dX4_followBest_4 (by decide) ?_
  refine j_istore_n (lv' := [some _, some _, some _, some _]) hC dX4_followBest_5 (nlt rfl) rfl ?_
  refine J.weak (l' := [some (.ref (ad 9 0)), some (.int (nI (ps S z.1.toInt z.2.1.toInt (cn S 50) (cn S 44) (0)).1)), some (.int (nI (ps S z.1.toInt z.2.1.toInt (cn S 50) (cn S 44) (0)).2)), some (.int (nI (0)))]) (⟨rfl, rfl, rfl, rfl, trivial⟩) ?_
  exact loop (cn S 50) 0 w (by omega) hS

