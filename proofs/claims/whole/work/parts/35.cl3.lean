
theorem cfr_cs {S : Ast} (h : LSt S) {co di : Int} (hco : 0 ≤ co) (hdi : 0 ≤ di ∧ di ≤ 1000) {k e d f : Nat} (hk : k < cn S 50) (he : e < cn S 44) (hd : d ≤ 40 * k) (hf1 : 1 ≤ f) (hf2 : f ≤ 40) (hcar : car S k e f) (hcov : cov S co k e d) {v : Int} (hv : v < NEV) : cfr S co di k e (d + f) = v ↔ cs S co di k d e f (VV S co di (cn S 50) (cn S 44) (cn S 50 - (k + 1)) (d + f) e) = v := by
  have h50 := h.1.2
  have w1 := (h.2.2.2.1 e he).1.1
  unfold cfr cs
  by_cases hdp : (S.1 51 k).toInt - (S.1 49 0).toInt + ((d + f : Nat) : Int) < co + (S.1 45 e).toInt
  · rw [if_pos hdp, if_neg (fun q => by have := q.2.2; omega)]
  · rw [if_neg hdp, if_pos ⟨hcar, hcov, by omega⟩]
    have ho := own_rg h hdi hk he (d := d + f) (by omega) (by omega)
    by_cases hr : NEV ≤ VV S co di (cn S 50) (cn S 44) (cn S 50 - (k + 1)) (d + f) e
    · rw [if_pos hr]
      constructor <;> intro q <;> omega
    · rw [if_neg hr]
      constructor <;> intro q <;> omega
theorem VV_new {S : Ast} (h : LSt S) {co di : Int} (hco : 0 ≤ co) (hdi : 0 ≤ di ∧ di ≤ 1000) {k e d lf : Nat} (hk : k < cn S 50) (he : e < cn S 44) (hd : d ≤ 40 * k) (hl1 : 1 ≤ lf) (hlf : ∀ f : Nat, 1 ≤ f → f ≤ 40 → (lf ≤ f ↔ car S k e f)) {v c0 : Int} (h0 : c0 = VV S co di (cn S 50) (cn S 44) (cn S 50 - k) d (e + 1)) (h1 : v ≤ c0) (h2 : v = c0 ∨ (v < c0 ∧ cov S co k e d ∧ ∃ f, lf ≤ f ∧ f ≤ 40 ∧ v = cfr S co di k e (d + f))) (h3 : cov S co k e d → ∀ f, lf ≤ f → f ≤ 40 → v ≤ cfr S co di k e (d + f)) : v = VV S co di (cn S 50) (cn S 44) (cn S 50 - k) d e := by
  have e1 : cn S 50 - k = (cn S 50 - (k + 1)) + 1 := by omega
  have e2 : cn S 50 - ((cn S 50 - (k + 1)) + 1) = k := by omega
  have hn : c0 ≤ NEV := by
    rw [h0, e1, VV_s]
    exact lea_b _ _ _
  rw [e1] at h0 ⊢
  rw [VV_step _ _ _ _ _ _ _ _ he, e2, ← h0]
  apply lea_eq h1
  · intro t ht
    by_cases hc : cs S co di k d e (t + 1) (VV S co di (cn S 50) (cn S 44) (cn S 50 - (k + 1)) (d + (t + 1)) e) < NEV
    · obtain ⟨q1, q2, q3⟩ := cs_lt rfl hc
      have hq := (cfr_cs h hco hdi hk he hd (f := t + 1) (by omega) (by omega) q1.1 q1.2.1 hc).mpr rfl
      rw [← hq]
      exact h3 q1.2.1 (t + 1) ((hlf (t + 1) (by omega) (by omega)).mpr q1.1) (by omega)
    · omega
  · rcases h2 with h2 | ⟨h2, hcv, f, f1, f2, f3⟩
    · exact Or.inl h2
    · refine Or.inr ⟨f - 1, by omega, ?_⟩
      have := (cfr_cs h hco hdi hk he hd (f := f) (by omega) f2 ((hlf f (by omega) f2).mp f1) hcv (show v < NEV by omega)).mp f3.symm
      rw [show f - 1 + 1 = f by omega]
      exact this.symm
def WP (S : Ast) (co di : Int) (le : Nat → Nat → Int64) (k e m : Nat) : Prop := LD S co di le (k + 1) ∧ (∀ d, d ≤ 40 * k → ∀ e', e < e' → e' < cn S 44 → (le k (d * 6 + e')).toInt = VV S co di (cn S 50) (cn S 44) (cn S 50 - k) d e') ∧ ∀ d, m ≤ d → d ≤ 40 * k → (le k (d * 6 + e)).toInt = VV S co di (cn S 50) (cn S 44) (cn S 50 - k) d e
def WQ (S : Ast) (co di : Int) (le : Nat → Nat → Int64) (k n : Nat) : Prop := LD S co di le (k + 1) ∧ ∀ d, d ≤ 40 * k → ∀ e', n ≤ e' → e' < cn S 44 → (le k (d * 6 + e')).toInt = VV S co di (cn S 50) (cn S 44) (cn S 50 - k) d e'
theorem WP.store {S : Ast} {co di : Int} {le : Nat → Nat → Int64} {k e d : Nat} (hL : LSt S) (h : WP S co di le k e (d + 1)) (he : e < cn S 44) {v : Int64} (hv : v.toInt = VV S co di (cn S 50) (cn S 44) (cn S 50 - k) d e) : WP S co di (va_up le k (va_up (le k) (d * 6 + e) v)) k e d := by
  have h44 := hL.2.1.2
  obtain ⟨h1, h2, h3⟩ := h
  refine ⟨fun k' q1 q2 d' hd' e' he' => ?_, fun d' hd' e' q1 q2 => ?_, fun d' q1 q2 => ?_⟩
  · rw [va_up_ne _ _ (by omega)]
    exact h1 k' q1 q2 d' hd' e' he'
  · rw [va_up_self, va_up_ne _ _ (by omega)]
    exact h2 d' hd' e' q1 q2
  · rw [va_up_self]
    by_cases hdd : d' = d
    · rw [hdd, va_up_self]; exact hv
    · rw [va_up_ne _ _ (by omega)]
      exact h3 d' (by omega) q2
theorem WQ.toP {S : Ast} {co di : Int} {le : Nat → Nat → Int64} {k e : Nat} (h : WQ S co di le k (e + 1)) : WP S co di le k e (40 * k + 1) := ⟨h.1, fun d hd e' q1 q2 => h.2 d hd e' (by omega) q2, fun d q1 q2 => by omega⟩
theorem WP.toQ {S : Ast} {co di : Int} {le : Nat → Nat → Int64} {k e : Nat} (h : WP S co di le k e 0) : WQ S co di le k e := by
  refine ⟨h.1, fun d hd e' q1 q2 => ?_⟩
  by_cases hee : e' = e
  · rw [hee]; exact h.2.2 d (Nat.zero_le _) hd
  · exact h.2.1 d hd e' (by omega) q2
theorem WQ.all {S : Ast} {co di : Int} {le : Nat → Nat → Int64} {k : Nat} (h : WQ S co di le k 0) : LD S co di le k := by
  intro k' q1 q2 d hd e he
  by_cases hkk : k' = k
  · subst hkk; exact h.2 d hd e (Nat.zero_le _) he
  · exact h.1 k' (by omega) q2 d hd e he
def HI (ce : Nat → Int64) (lf m : Nat) (h : Int32) : Prop := lf ≤ 40 → (∀ b : Nat, b ≤ 400 → ¬ h ≤ nI b) ∨ ∃ x : Nat, h = nI x ∧ m + lf ≤ x ∧ x ≤ m + 40 ∧ ∀ y, m + lf ≤ y → y ≤ m + 40 → (ce x).toInt ≤ (ce y).toInt
theorem HI.use {ce : Nat → Int64} {lf d : Nat} {h : Int32} (hh : HI ce lf (d + 1) h) (hl : lf ≤ 40) (hd : d + 40 ≤ 400) : (¬ h ≤ nI (d + 40)) ∨ ∃ x : Nat, h = nI x ∧ d + lf ≤ x ∧ x ≤ d + 40 ∧ ∀ y, d + lf + 1 ≤ y → y ≤ d + 40 → (ce x).toInt ≤ (ce y).toInt := by
  rcases hh hl with q | ⟨x, rfl, x1, x2, x3⟩
  · exact Or.inl (q _ hd)
  · by_cases hx : x ≤ d + 40
    · exact Or.inr ⟨x, rfl, by omega, hx, fun y y1 y2 => x3 y (by omega) (by omega)⟩
    · left
      rw [nI_leI (by omega) (by omega)]
      exact hx

set_option maxRecDepth 100000 in
set_option maxHeartbeats 4000000 in
theorem wp_d (K : Kx) {w : Wd} {O : Nat → Prop} {ad : Nat → Nat → Nat} {np : Nat} {S : Ast} {E : Ex} {co di : Int32} (hC : BX K RX4 cX4_weighPiece 11 5 E) (hL : LSt S) (hnp : NP S np) (hco : rg co 0 10000) (hdi : rg di 0 1000) {k : Nat} (hk : k < cn S 50) {e : Nat} (he : e < cn S 44) {ce : Nat → Int64} (hce : ∀ j, j ≤ 40 * (k + 1) → (ce j).toInt = cfr S co.toInt di.toInt k e j) {lf : Nat} (hl1 : 1 ≤ lf) (hl2 : lf ≤ 41) (hlf : ∀ f : Nat, 1 ≤ f → f ≤ 40 → (lf ≤ f ↔ car S k e f)) {iw : Int32} (hiw : iw = 0 ↔ ¬ e + 1 = cn S 44) (kk : ∀ (w2 : Wd) (le : Nat → Nat → Int64), SB K.2.1 w w2 O ad (co, di, ce, le) np S → WP S co.toInt di.toInt le k e 0 → J K cX4_weighPiece E 0 0 w2 168 [some (.ref (ad 9 0)), some (.int (nI k)), some (.ref (ad 13 k)), some (.int (nI e)), none, none, none, none, none, none, none] []) : ∀ (m : Nat) (w1 : Wd) (le : Nat → Nat → Int64) (h : Int32), m ≤ 40 * k + 1 → SB K.2.1 w w1 O ad (co, di, ce, le) np S → WP S co.toInt di.toInt le k e m → HI ce lf m h → J K cX4_weighPiece E 0 0 w1 73 [some (.ref (ad 9 0)), some (.int (nI k)), some (.ref (ad 13 k)), some (.int (nI e)), some (.int iw), some (.int (nI lf)), some (.int (h)), some (.int (nI m - 1)), none, none, none] [] := by
  intro m
  induction m with
  | zero =>
    intro w1 le h hm hS hW hH
    refine j_iload hC dX4_weighPiece_73 rfl ?_
    refine j_if_lt hC 168 dX4_weighPiece_75 (by decide) (fun c_75 => ?_) (fun c_75 => ?_)
    · refine J.weak (l' := [some (.ref (ad 9 0)), some (.int (nI k)), some (.ref (ad 13 k)), some (.int (nI e)), none, none, none, none, none, none, none]) (⟨rfl, rfl, rfl, rfl, trivial⟩) ?_
      exact kk _ _ hS hW
    · exact absurd (show nI 0 - 1 < 0 by decide) c_75
  | succ d ih =>
    intro w1 le h hm hS hW hH
    rw [nI_pred d]
    refine j_iload hC dX4_weighPiece_73 rfl ?_
    refine j_if_lt hC 168 dX4_weighPiece_75 (by decide) (fun c_75 => ?_) (fun c_75 => ?_)
    · exact absurd c_75 (nI_pos (by have := hL.1.2; omega))
    · refine j_iload hC dX4_weighPiece_78 rfl ?_
      refine j_bipush hC (6) dX4_weighPiece_80 (by decide) ?_
      refine j_imul hC dX4_weighPiece_82 ?_
      refine j_iload_n hC dX4_weighPiece_83 rfl ?_
      refine j_iadd hC dX4_weighPiece_84 ?_
      refine J.toI (y := nI (d * 6 + e)) (by rw [show (6 : Int32) = nI 6 from by decide, nI_mul, nI_add]) ?_
      refine j_istore (lv' := [some _, some _, some _, some _, some _, some _, some _, some _, some _, none, none]) hC dX4_weighPiece_85 (nlt rfl) rfl ?_
      refine j_iload hC dX4_weighPiece_87 rfl ?_
      refine j_if_eq hC 98 dX4_weighPiece_89 (by decide) (fun c_89 => ?_) (fun c_89 => ?_)
      · refine j_aload_n hC dX4_weighPiece_98 rfl ?_
        refine j_iload hC dX4_weighPiece_99 rfl ?_
        refine j_iconst hC (1) dX4_weighPiece_101 (by decide) ?_
        refine j_iadd hC dX4_weighPiece_102 ?_
        refine J.toI (nI_1 (d * 6 + e)) ?_
        refine j_aldJ hC dX4_weighPiece_103 (hS.1.le (Nat.lt_of_lt_of_le hk hnp.1)) (ix_nI (by have := hL.2.1.2; have := hiw.mp c_89; omega) (by have := hL.1.2; omega)) ?_
        refine J.nmL (fun c0 hc0 => ?_)
        first | have hc : c0.toInt = VV S co.toInt di.toInt (cn S 50) (cn S 44) (cn S 50 - k) d (e + 1) := (by rw [hc0]; exact hW.2.1 d (by omega) (e + 1) (by omega) (by have := hiw.mp c_89; omega)) | have hc : c0.toInt = VV S co.toInt di.toInt (cn S 50) (cn S 44) (cn S 50 - k) d (e + 1) := (by rw [hc0, show e + 1 = cn S 44 from Decidable.of_not_not (fun q => c_89 (hiw.mpr q)), show cn S 50 - k = (cn S 50 - (k + 1)) + 1 by omega, VV_top]; exact NEV_i)
        refine j_lstore (lv' := [some _, some _, some _, some _, some _, some _, some _, some _, some _, some _, none]) hC dX4_weighPiece_104 (nlt rfl) rfl ?_
        refine j_iload hC dX4_weighPiece_106 rfl ?_
        refine j_bipush hC (40) dX4_weighPiece_108 (by decide) ?_
        refine j_icmp_gt hC 156 dX4_weighPiece_110 (by decide) (fun c_110 => ?_) (fun c_110 => ?_)
        · refine j_aload_n hC dX4_weighPiece_156 rfl ?_
          refine j_iload hC dX4_weighPiece_157 rfl ?_
          refine j_lload hC dX4_weighPiece_159 rfl ?_
          have hv := VV_new hL hco.1 ⟨hdi.1, hdi.2⟩ hk he (by omega) hl1 hlf hc (Int.le_refl _) (Or.inl rfl) (fun _ f f1 f2 => absurd c_110 (by show ¬ nI 40 < nI lf; rw [nI_ltI (by omega) (by omega)]; omega))
          have hH2 : HI ce lf d h := fun q => absurd c_110 (by show ¬ nI 40 < nI lf; rw [nI_ltI (by omega) (by omega)]; omega)
          refine j_astJ hC dX4_weighPiece_161 (hS.1.le (Nat.lt_of_lt_of_le hk hnp.1)) (ix_nI (by have := hL.2.1.2; omega) (by have := hL.1.2; omega)) ?_
          refine J.gen (P := fun w' => SB K.2.1 w w' O ad (co, di, ce, va_up le k (va_up (le k) (d * 6 + e) _)) np S) (hS.putLe (Nat.lt_of_lt_of_le hk hnp.1) _ _) (fun w2 hS2 => ?_)
          refine j_iinc (v := nI d - 1) (lv' := [some _, some _, some _, some _, some _, some _, some _, some _, some _, some _, none]) hC dX4_weighPiece_162 rfl (by rw [Int32.sub_eq_add_neg]; rfl) (nlt rfl) rfl ?_
          refine j_goto hC 73 dX4_weighPiece_165 (by decide) ?_
          refine J.weak (l' := [some (.ref (ad 9 0)), some (.int (nI k)), some (.ref (ad 13 k)), some (.int (nI e)), some (.int iw), some (.int (nI lf)), some (.int (_)), some (.int (nI d - 1)), none, none, none]) (⟨rfl, rfl, rfl, rfl, rfl, rfl, rfl, rfl, trivial⟩) ?_
          exact ih _ _ _ (by omega) hS2 (hW.store hL he hv) hH2
        · have hlf40 : lf ≤ 40 := by have q : ¬ nI 40 < nI lf := c_110; rw [nI_ltI (by omega) (by omega)] at q; omega
          refine j_aload_n hC dX4_weighPiece_113 rfl ?_
          refine j_iload hC dX4_weighPiece_114 rfl ?_
          refine j_iload hC dX4_weighPiece_116 rfl ?_
          refine j_iadd hC dX4_weighPiece_118 ?_
          refine J.toI (nI_add d lf) ?_
          refine j_iload hC dX4_weighPiece_119 rfl ?_
          refine j_bipush hC (40) dX4_weighPiece_121 (by decide) ?_
          refine j_iadd hC dX4_weighPiece_123 ?_
          refine J.toI (nI_add d 40) ?_
          refine j_iload hC dX4_weighPiece_124 rfl ?_
          refine j_callv (kc' := 0) (ks' := 0) (r := (RX4, TX4, 10)) hC (c_cheapest K (d + lf) (d + 40) h hS.1 (by omega) (by have := hL.1.2; omega) (hH.use hlf40 (by have := hL.1.2; omega))) dX4_weighPiece_126 wX4_cheapestEnd lX4_123 i_yX4_cheapestEnd s_yX4_cheapestEnd hS.1.line rfl rfl rfl (nle rfl) rfl (by decide) (by decide) (by decide) (kI fun r w' hp => ?_)
          obtain ⟨⟨x, rfl, x1, x2, x3⟩, hw⟩ := hp
          replace x3 : ∀ y, d + lf ≤ y → y ≤ d + 40 → (ce x).toInt ≤ (ce y).toInt := x3
          rw [hw]
          clear hw w'
          refine j_istore (lv' := [some _, some _, some _, some _, some _, some _, some _, some _, some _, some _, none]) hC dX4_weighPiece_129 (nlt rfl) rfl ?_
          refine j_aload_n hC dX4_weighPiece_131 rfl ?_
          refine j_iload_n hC dX4_weighPiece_132 rfl ?_
          refine j_iload_n hC dX4_weighPiece_133 rfl ?_
          refine j_iload hC dX4_weighPiece_134 rfl ?_
          refine j_callv (kc' := 0) (ks' := 0) (r := (RX4, TX4, 10)) hC (c_cov K k e d hS.1 hL hnp hk he (by have := hL.1.2; omega) hco) dX4_weighPiece_136 wX4_isCoveredAtBegin lX4_127 i_yX4_isCoveredAtBegin s_yX4_isCoveredAtBegin hS.1.line rfl rfl rfl (nle rfl) rfl (by decide) (by decide) (by decide) (kI fun r w' hp => ?_)
          obtain ⟨hr, hw⟩ := hp
          rw [hw]
          clear hw w'
          refine j_if_eq hC 156 dX4_weighPiece_139 (by decide) (fun c_139 => ?_) (fun c_139 => ?_)
          · refine j_aload_n hC dX4_weighPiece_156 rfl ?_
            refine j_iload hC dX4_weighPiece_157 rfl ?_
            refine j_lload hC dX4_weighPiece_159 rfl ?_
            have hcv : ¬ cov S co.toInt k e d := fun q => by rw [hr, if_pos q] at c_139; exact absurd c_139 (by decide)
            have hv := VV_new hL hco.1 ⟨hdi.1, hdi.2⟩ hk he (by omega) hl1 hlf hc (Int.le_refl _) (Or.inl rfl) (fun q => absurd q hcv)
            have hH2 : HI ce lf d (nI x) := fun _ => Or.inr ⟨x, rfl, x1, x2, x3⟩
            refine j_astJ hC dX4_weighPiece_161 (hS.1.le (Nat.lt_of_lt_of_le hk hnp.1)) (ix_nI (by have := hL.2.1.2; omega) (by have := hL.1.2; omega)) ?_
            refine J.gen (P := fun w' => SB K.2.1 w w' O ad (co, di, ce, va_up le k (va_up (le k) (d * 6 + e) _)) np S) (hS.putLe (Nat.lt_of_lt_of_le hk hnp.1) _ _) (fun w2 hS2 => ?_)
            refine j_iinc (v := nI d - 1) (lv' := [some _, some _, some _, some _, some _, some _, some _, some _, some _, some _, none]) hC dX4_weighPiece_162 rfl (by rw [Int32.sub_eq_add_neg]; rfl) (nlt rfl) rfl ?_
            refine j_goto hC 73 dX4_weighPiece_165 (by decide) ?_
            refine J.weak (l' := [some (.ref (ad 9 0)), some (.int (nI k)), some (.ref (ad 13 k)), some (.int (nI e)), some (.int iw), some (.int (nI lf)), some (.int (_)), some (.int (nI d - 1)), none, none, none]) (⟨rfl, rfl, rfl, rfl, rfl, rfl, rfl, rfl, trivial⟩) ?_
            exact ih _ _ _ (by omega) hS2 (hW.store hL he hv) hH2
          · refine j_lload hC dX4_weighPiece_142 rfl ?_
            refine j_aload_n hC dX4_weighPiece_144 rfl ?_
            refine j_get hC cfX4 dX4_weighPiece_145 fX4_21 (by decide) hS.1.line rfl ?_
            refine j_iload hC dX4_weighPiece_148 rfl ?_
            refine j_aldJ hC dX4_weighPiece_150 hS.1.ce (ix_nI (n := 401) (by have := hL.1.2; omega) (by omega)) ?_
            refine j_mminL hC dX4_weighPiece_151 lX4_130 t_yJ9_min_f86c9 inJ9 wJ9_min_f86c9.1 rfl (nle rfl) (by decide) ?_
            refine j_lstore (lv' := [some _, some _, some _, some _, some _, some _, some _, some _, some _, some _, none]) hC dX4_weighPiece_154 (nlt rfl) rfl ?_
            refine j_aload_n hC dX4_weighPiece_156 rfl ?_
            refine j_iload hC dX4_weighPiece_157 rfl ?_
            refine j_lload hC dX4_weighPiece_159 rfl ?_
            have hcv : cov S co.toInt k e d := Decidable.of_not_not (fun q => c_139 (by rw [hr, if_neg q]))
            have hcx := hce x (by omega)
            have hv : (if ce x < c0 then ce x else c0).toInt = VV S co.toInt di.toInt (cn S 50) (cn S 44) (cn S 50 - k) d e := by
              by_cases hlt : ce x < c0
              · rw [if_pos hlt]; rw [Int64.lt_iff_toInt_lt] at hlt
                exact VV_new hL hco.1 ⟨hdi.1, hdi.2⟩ hk he (by omega) hl1 hlf hc (Int.le_of_lt hlt) (Or.inr ⟨hlt, hcv, x - d, by omega, by omega, by rw [hcx, show d + (x - d) = x by omega]⟩) (fun _ f f1 f2 => by have := x3 (d + f) (by omega) (by omega); rw [hce (d + f) (by omega)] at this; exact this)
              · rw [if_neg hlt]; rw [Int64.lt_iff_toInt_lt] at hlt
                exact VV_new hL hco.1 ⟨hdi.1, hdi.2⟩ hk he (by omega) hl1 hlf hc (Int.le_refl _) (Or.inl rfl) (fun _ f f1 f2 => by have := x3 (d + f) (by omega) (by omega); rw [hce (d + f) (by omega)] at this; have := Int.not_lt.mp hlt; omega)
            have hH2 : HI ce lf d (nI x) := fun _ => Or.inr ⟨x, rfl, x1, x2, x3⟩
            refine j_astJ hC dX4_weighPiece_161 (hS.1.le (Nat.lt_of_lt_of_le hk hnp.1)) (ix_nI (by have := hL.2.1.2; omega) (by have := hL.1.2; omega)) ?_
            refine J.gen (P := fun w' => SB K.2.1 w w' O ad (co, di, ce, va_up le k (va_up (le k) (d * 6 + e) _)) np S) (hS.putLe (Nat.lt_of_lt_of_le hk hnp.1) _ _) (fun w2 hS2 => ?_)
            refine j_iinc (v := nI d - 1) (lv' := [some _, some _, some _, some _, some _, some _, some _, some _, some _, some _, none]) hC dX4_weighPiece_162 rfl (by rw [Int32.sub_eq_add_neg]; rfl) (nlt rfl) rfl ?_
            refine j_goto hC 73 dX4_weighPiece_165 (by decide) ?_
            refine J.weak (l' := [some (.ref (ad 9 0)), some (.int (nI k)), some (.ref (ad 13 k)), some (.int (nI e)), some (.int iw), some (.int (nI lf)), some (.int (_)), some (.int (nI d - 1)), none, none, none]) (⟨rfl, rfl, rfl, rfl, rfl, rfl, rfl, rfl, trivial⟩) ?_
            exact ih _ _ _ (by omega) hS2 (hW.store hL he hv) hH2
      · refine j_ldc2 hC dX4_weighPiece_92 nX4_94 ?_
        refine j_goto hC 104 dX4_weighPiece_95 (by decide) ?_
        refine J.nmL (fun c0 hc0 => ?_)
        first | have hc : c0.toInt = VV S co.toInt di.toInt (cn S 50) (cn S 44) (cn S 50 - k) d (e + 1) := (by rw [hc0]; exact hW.2.1 d (by omega) (e + 1) (by omega) (by have := hiw.mp c_89; omega)) | have hc : c0.toInt = VV S co.toInt di.toInt (cn S 50) (cn S 44) (cn S 50 - k) d (e + 1) := (by rw [hc0, show e + 1 = cn S 44 from Decidable.of_not_not (fun q => c_89 (hiw.mpr q)), show cn S 50 - k = (cn S 50 - (k + 1)) + 1 by omega, VV_top]; exact NEV_i)
        refine j_lstore (lv' := [some _, some _, some _, some _, some _, some _, some _, some _, some _, some _, none]) hC dX4_weighPiece_104 (nlt rfl) rfl ?_
        refine j_iload hC dX4_weighPiece_106 rfl ?_
        refine j_bipush hC (40) dX4_weighPiece_108 (by decide) ?_
        refine j_icmp_gt hC 156 dX4_weighPiece_110 (by decide) (fun c_110 => ?_) (fun c_110 => ?_)
        · refine j_aload_n hC dX4_weighPiece_156 rfl ?_
          refine j_iload hC dX4_weighPiece_157 rfl ?_
          refine j_lload hC dX4_weighPiece_159 rfl ?_
          have hv := VV_new hL hco.1 ⟨hdi.1, hdi.2⟩ hk he (by omega) hl1 hlf hc (Int.le_refl _) (Or.inl rfl) (fun _ f f1 f2 => absurd c_110 (by show ¬ nI 40 < nI lf; rw [nI_ltI (by omega) (by omega)]; omega))
          have hH2 : HI ce lf d h := fun q => absurd c_110 (by show ¬ nI 40 < nI lf; rw [nI_ltI (by omega) (by omega)]; omega)
          refine j_astJ hC dX4_weighPiece_161 (hS.1.le (Nat.lt_of_lt_of_le hk hnp.1)) (ix_nI (by have := hL.2.1.2; omega) (by have := hL.1.2; omega)) ?_
          refine J.gen (P := fun w' => SB K.2.1 w w' O ad (co, di, ce, va_up le k (va_up (le k) (d * 6 + e) _)) np S) (hS.putLe (Nat.lt_of_lt_of_le hk hnp.1) _ _) (fun w2 hS2 => ?_)
          refine j_iinc (v := nI d - 1) (lv' := [some _, some _, some _, some _, some _, some _, some _, some _, some _, some _, none]) hC dX4_weighPiece_162 rfl (by rw [Int32.sub_eq_add_neg]; rfl) (nlt rfl) rfl ?_
          refine j_goto hC 73 dX4_weighPiece_165 (by decide) ?_
          refine J.weak (l' := [some (.ref (ad 9 0)), some (.int (nI k)), some (.ref (ad 13 k)), some (.int (nI e)), some (.int iw), some (.int (nI lf)), some (.int (_)), some (.int (nI d - 1)), none, none, none]) (⟨rfl, rfl, rfl, rfl, rfl, rfl, rfl, rfl, trivial⟩) ?_
          exact ih _ _ _ (by omega) hS2 (hW.store hL he hv) hH2
        · have hlf40 : lf ≤ 40 := by have q : ¬ nI 40 < nI lf := c_110; rw [nI_ltI (by omega) (by omega)] at q; omega
          refine j_aload_n hC dX4_weighPiece_113 rfl ?_
          refine j_iload hC dX4_weighPiece_114 rfl ?_
          refine j_iload hC dX4_weighPiece_116 rfl ?_
          refine j_iadd hC dX4_weighPiece_118 ?_
          refine J.toI (nI_add d lf) ?_
          refine j_iload hC dX4_weighPiece_119 rfl ?_
          refine j_bipush hC (40) dX4_weighPiece_121 (by decide) ?_
          refine j_iadd hC dX4_weighPiece_123 ?_
          refine J.toI (nI_add d 40) ?_
          refine j_iload hC dX4_weighPiece_124 rfl ?_
          refine j_callv (kc' := 0) (ks' := 0) (r := (RX4, TX4, 10)) hC (c_cheapest K (d + lf) (d + 40) h hS.1 (by omega) (by have := hL.1.2; omega) (hH.use hlf40 (by have := hL.1.2; omega))) dX4_weighPiece_126 wX4_cheapestEnd lX4_123 i_yX4_cheapestEnd s_yX4_cheapestEnd hS.1.line rfl rfl rfl (nle rfl) rfl (by decide) (by decide) (by decide) (kI fun r w' hp => ?_)
          obtain ⟨⟨x, rfl, x1, x2, x3⟩, hw⟩ := hp
          replace x3 : ∀ y, d + lf ≤ y → y ≤ d + 40 → (ce x).toInt ≤ (ce y).toInt := x3
          rw [hw]
          clear hw w'
          refine j_istore (lv' := [some _, some _, some _, some _, some _, some _, some _, some _, some _, some _, none]) hC dX4_weighPiece_129 (nlt rfl) rfl ?_
          refine j_aload_n hC dX4_weighPiece_131 rfl ?_
          refine j_iload_n hC dX4_weighPiece_132 rfl ?_
          refine j_iload_n hC dX4_weighPiece_133 rfl ?_
          refine j_iload hC dX4_weighPiece_134 rfl ?_
          refine j_callv (kc' := 0) (ks' := 0) (r := (RX4, TX4, 10)) hC (c_cov K k e d hS.1 hL hnp hk he (by have := hL.1.2; omega) hco) dX4_weighPiece_136 wX4_isCoveredAtBegin lX4_127 i_yX4_isCoveredAtBegin s_yX4_isCoveredAtBegin hS.1.line rfl rfl rfl (nle rfl) rfl (by decide) (by decide) (by decide) (kI fun r w' hp => ?_)
          obtain ⟨hr, hw⟩ := hp
          rw [hw]
          clear hw w'
          refine j_if_eq hC 156 dX4_weighPiece_139 (by decide) (fun c_139 => ?_) (fun c_139 => ?_)
          · refine j_aload_n hC dX4_weighPiece_156 rfl ?_
            refine j_iload hC dX4_weighPiece_157 rfl ?_
            refine j_lload hC dX4_weighPiece_159 rfl ?_
            have hcv : ¬ cov S co.toInt k e d := fun q => by rw [hr, if_pos q] at c_139; exact absurd c_139 (by decide)
            have hv := VV_new hL hco.1 ⟨hdi.1, hdi.2⟩ hk he (by omega) hl1 hlf hc (Int.le_refl _) (Or.inl rfl) (fun q => absurd q hcv)
            have hH2 : HI ce lf d (nI x) := fun _ => Or.inr ⟨x, rfl, x1, x2, x3⟩
            refine j_astJ hC dX4_weighPiece_161 (hS.1.le (Nat.lt_of_lt_of_le hk hnp.1)) (ix_nI (by have := hL.2.1.2; omega) (by have := hL.1.2; omega)) ?_
            refine J.gen (P := fun w' => SB K.2.1 w w' O ad (co, di, ce, va_up le k (va_up (le k) (d * 6 + e) _)) np S) (hS.putLe (Nat.lt_of_lt_of_le hk hnp.1) _ _) (fun w2 hS2 => ?_)
            refine j_iinc (v := nI d - 1) (lv' := [some _, some _, some _, some _, some _, some _, some _, some _, some _, some _, none]) hC dX4_weighPiece_162 rfl (by rw [Int32.sub_eq_add_neg]; rfl) (nlt rfl) rfl ?_
            refine j_goto hC 73 dX4_weighPiece_165 (by decide) ?_
            refine J.weak (l' := [some (.ref (ad 9 0)), some (.int (nI k)), some (.ref (ad 13 k)), some (.int (nI e)), some (.int iw), some (.int (nI lf)), some (.int (_)), some (.int (nI d - 1)), none, none, none]) (⟨rfl, rfl, rfl, rfl, rfl, rfl, rfl, rfl, trivial⟩) ?_
            exact ih _ _ _ (by omega) hS2 (hW.store hL he hv) hH2
          · refine j_lload hC dX4_weighPiece_142 rfl ?_
            refine j_aload_n hC dX4_weighPiece_144 rfl ?_
            refine j_get hC cfX4 dX4_weighPiece_145 fX4_21 (by decide) hS.1.line rfl ?_
            refine j_iload hC dX4_weighPiece_148 rfl ?_
            refine j_aldJ hC dX4_weighPiece_150 hS.1.ce (ix_nI (n := 401) (by have := hL.1.2; omega) (by omega)) ?_
            refine j_mminL hC dX4_weighPiece_151 lX4_130 t_yJ9_min_f86c9 inJ9 wJ9_min_f86c9.1 rfl (nle rfl) (by decide) ?_
            refine j_lstore (lv' := [some _, some _, some _, some _, some _, some _, some _, some _, some _, some _, none]) hC dX4_weighPiece_154 (nlt rfl) rfl ?_
            refine j_aload_n hC dX4_weighPiece_156 rfl ?_
            refine j_iload hC dX4_weighPiece_157 rfl ?_
            refine j_lload hC dX4_weighPiece_159 rfl ?_
            have hcv : cov S co.toInt k e d := Decidable.of_not_not (fun q => c_139 (by rw [hr, if_neg q]))
            have hcx := hce x (by omega)
            have hv : (if ce x < c0 then ce x else c0).toInt = VV S co.toInt di.toInt (cn S 50) (cn S 44) (cn S 50 - k) d e := by
              by_cases hlt : ce x < c0
              · rw [if_pos hlt]; rw [Int64.lt_iff_toInt_lt] at hlt
                exact VV_new hL hco.1 ⟨hdi.1, hdi.2⟩ hk he (by omega) hl1 hlf hc (Int.le_of_lt hlt) (Or.inr ⟨hlt, hcv, x - d, by omega, by omega, by rw [hcx, show d + (x - d) = x by omega]⟩) (fun _ f f1 f2 => by have := x3 (d + f) (by omega) (by omega); rw [hce (d + f) (by omega)] at this; exact this)
              · rw [if_neg hlt]; rw [Int64.lt_iff_toInt_lt] at hlt
                exact VV_new hL hco.1 ⟨hdi.1, hdi.2⟩ hk he (by omega) hl1 hlf hc (Int.le_refl _) (Or.inl rfl) (fun _ f f1 f2 => by have := x3 (d + f) (by omega) (by omega); rw [hce (d + f) (by omega)] at this; have := Int.not_lt.mp hlt; omega)
            have hH2 : HI ce lf d (nI x) := fun _ => Or.inr ⟨x, rfl, x1, x2, x3⟩
            refine j_astJ hC dX4_weighPiece_161 (hS.1.le (Nat.lt_of_lt_of_le hk hnp.1)) (ix_nI (by have := hL.2.1.2; omega) (by have := hL.1.2; omega)) ?_
            refine J.gen (P := fun w' => SB K.2.1 w w' O ad (co, di, ce, va_up le k (va_up (le k) (d * 6 + e) _)) np S) (hS.putLe (Nat.lt_of_lt_of_le hk hnp.1) _ _) (fun w2 hS2 => ?_)
            refine j_iinc (v := nI d - 1) (lv' := [some _, some _, some _, some _, some _, some _, some _, some _, some _, some _, none]) hC dX4_weighPiece_162 rfl (by rw [Int32.sub_eq_add_neg]; rfl) (nlt rfl) rfl ?_
            refine j_goto hC 73 dX4_weighPiece_165 (by decide) ?_
            refine J.weak (l' := [some (.ref (ad 9 0)), some (.int (nI k)), some (.ref (ad 13 k)), some (.int (nI e)), some (.int iw), some (.int (nI lf)), some (.int (_)), some (.int (nI d - 1)), none, none, none]) (⟨rfl, rfl, rfl, rfl, rfl, rfl, rfl, rfl, trivial⟩) ?_
            exact ih _ _ _ (by omega) hS2 (hW.store hL he hv) hH2

set_option maxRecDepth 100000 in
set_option maxHeartbeats 4000000 in
theorem wp_e (K : Kx) {w : Wd} {O : Nat → Prop} {ad : Nat → Nat → Nat} {np : Nat} {S : Ast} {E : Ex} {co di : Int32} (hC : BX K RX4 cX4_weighPiece 11 5 E) (hL : LSt S) (hnp : NP S np) (hco : rg co 0 10000) (hdi : rg di 0 1000) {k : Nat} (hk : k < cn S 50) (kk : ∀ (w2 : Wd) (ce : Nat → Int64) (le : Nat → Nat → Int64), SB K.2.1 w w2 O ad (co, di, ce, le) np S → WQ S co.toInt di.toInt le k 0 → J K cX4_weighPiece E 0 0 w2 174 [some (.ref (ad 9 0)), some (.int (nI k)), some (.ref (ad 13 k)), some (.int (nI 0 - 1)), none, none, none, none, none, none, none] []) : ∀ (n : Nat) (w1 : Wd) (ce : Nat → Int64) (le : Nat → Nat → Int64), n ≤ cn S 44 → SB K.2.1 w w1 O ad (co, di, ce, le) np S → WQ S co.toInt di.toInt le k n → J K cX4_weighPiece E 0 0 w1 25 [some (.ref (ad 9 0)), some (.int (nI k)), some (.ref (ad 13 k)), some (.int (nI n - 1)), none, none, none, none, none, none, none] [] := by
  intro n
  induction n with
  | zero =>
    intro w1 ce le hn hS hW
    refine j_iload_n hC dX4_weighPiece_25 rfl ?_
    refine j_if_lt hC 174 dX4_weighPiece_26 (by decide) (fun c_26 => ?_) (fun c_26 => ?_)
    · exact kk _ _ _ hS hW
    · exact absurd (show nI 0 - 1 < 0 by decide) c_26
  | succ e ih =>
    intro w1 ce le hn hS hW
    rw [nI_pred e]
    have he : e < cn S 44 := by omega
    refine j_iload_n hC dX4_weighPiece_25 rfl ?_
    refine j_if_lt hC 174 dX4_weighPiece_26 (by decide) (fun c_26 => ?_) (fun c_26 => ?_)
    · exact absurd c_26 (nI_pos (by have := hL.2.1.2; omega))
    · refine j_iload_n hC dX4_weighPiece_29 rfl ?_
      refine j_aload_n hC dX4_weighPiece_30 rfl ?_
      refine j_get hC cfX4 dX4_weighPiece_31 fX4_12 (by decide) hS.1.line rfl ?_
      obtain ⟨mc1, hl1⟩ := (hS.1.lst (j := 10) (by decide)).sz
      refine j_callv (kc' := 0) (ks' := 0) (r := (RJx4a65c, TJx4a65c, 3)) hC (c_lsize K (hS.1.lst (j := 10) (by decide))) dX4_weighPiece_34 wJx4a65c_size_8abf5 lX4_25 i_yJx4a65c_size_8abf5 s_yJx4a65c_size_8abf5 hl1 rfl rfl rfl (nle rfl) rfl (by decide) (by decide) (by decide) (kI fun r w' hp => ?_)
      obtain ⟨rfl, hw⟩ := hp
      rw [hw]
      clear hw w'
      refine J.toI (congrArg nI (vN_e10 _ np)) ?_
      refine j_iconst hC (1) dX4_weighPiece_37 (by decide) ?_
      refine j_isub hC dX4_weighPiece_38 ?_
      refine j_icmp_ne hC 46 dX4_weighPiece_39 (by decide) (fun c_39 => ?_) (fun c_39 => ?_)
      · refine j_iconst hC (0) dX4_weighPiece_46 (by decide) ?_
        refine J.nmI (fun iw hiw0 => ?_)
        have hN : nI (cn S 44) - 1 = nI (cn S 44 - 1) := by obtain ⟨q, hq⟩ : ∃ q, cn S 44 = q + 1 := ⟨cn S 44 - 1, by omega⟩; rw [hq, nI_pred]; rfl
        first | have hiw : iw = 0 ↔ ¬ e + 1 = cn S 44 := ⟨fun _ q => c_39 (by rw [hN, show cn S 44 - 1 = e by omega]), fun _ => hiw0⟩ | have hiw : iw = 0 ↔ ¬ e + 1 = cn S 44 := ⟨fun q => absurd (hiw0.symm.trans q) (by decide), fun q => absurd (show e + 1 = cn S 44 by have q2 := c_39; rw [hN, nI_eq (by have := hL.2.1.2; omega) (by have := hL.2.1.2; omega)] at q2; omega) q⟩
        refine j_istore (lv' := [some _, some _, some _, some _, some _, none, none, none, none, none, none]) hC dX4_weighPiece_47 (nlt rfl) rfl ?_
        refine j_aload_n hC dX4_weighPiece_49 rfl ?_
        refine j_iload_n hC dX4_weighPiece_50 rfl ?_
        refine j_iload_n hC dX4_weighPiece_51 rfl ?_
        refine j_callv (kc' := 0) (ks' := 0) (r := (RX4, TX4, 10)) hC (c_leastFall K k e hS.1 hL hnp hk he) dX4_weighPiece_52 wX4_leastFall lX4_113 i_yX4_leastFall s_yX4_leastFall hS.1.line rfl rfl rfl (nle rfl) rfl (by decide) (by decide) (by decide) (kI fun r w' hp => ?_)
        obtain ⟨⟨lf, rfl, l1, l2, l3⟩, hw⟩ := hp
        rw [hw]
        clear hw w'
        refine j_istore (lv' := [some _, some _, some _, some _, some _, some _, none, none, none, none, none]) hC dX4_weighPiece_55 (nlt rfl) rfl ?_
        refine j_aload_n hC dX4_weighPiece_57 rfl ?_
        refine j_iload_n hC dX4_weighPiece_58 rfl ?_
        refine j_iload_n hC dX4_weighPiece_59 rfl ?_
        refine j_callv (kc' := 0) (ks' := 0) (r := (RX4, TX4, 10)) hC (c_weighEnds K k e hS.1 hL hnp hk he hco hdi hW.1) dX4_weighPiece_60 wX4_weighEnds lX4_117 i_yX4_weighEnds s_yX4_weighEnds hS.1.line rfl rfl rfl (nle rfl) rfl (by decide) (by decide) (by decide) (kV fun w' hp => ?_)
        obtain ⟨ce2, hS2, hce⟩ := hp
        have hS := hS.tr hS2
        refine j_ldc hC dX4_weighPiece_63 nX4_122 ?_
        refine j_istore (lv' := [some _, some _, some _, some _, some _, some _, some _, none, none, none, none]) hC dX4_weighPiece_65 (nlt rfl) rfl ?_
        refine j_iload_n hC dX4_weighPiece_67 rfl ?_
        refine j_bipush hC (40) dX4_weighPiece_68 (by decide) ?_
        refine j_imul hC dX4_weighPiece_70 ?_
        refine j_istore (lv' := [some _, some _, some _, some _, some _, some _, some _, some _, none, none, none]) hC dX4_weighPiece_71 (nlt rfl) rfl ?_
        refine J.weak (l' := [some (.ref (ad 9 0)), some (.int (nI k)), some (.ref (ad 13 k)), some (.int (nI e)), some (.int iw), some (.int (nI lf)), some (.int (2147483647)), some (.int (nI (40 * k + 1) - 1)), none, none, none]) (⟨rfl, rfl, rfl, rfl, rfl, rfl, rfl, by rw [nI_pred, show (40 : Int32) = nI 40 from by decide, nI_mul, Nat.mul_comm], trivial⟩) ?_
        refine wp_d K hC hL hnp hco hdi hk he hce l1 l2 l3 hiw (fun w2 le2 hS hW2 => ?_) (40 * k + 1) _ le _ (Nat.le_refl _) hS hW.toP (fun _ => Or.inl (fun b hb q => by have q2 := Int32.le_iff_toInt_le.mp q; rw [nI_toInt (by omega), show (2147483647 : Int32).toInt = 2147483647 from by decide] at q2; omega))
        refine j_iinc (v := nI e - 1) (lv' := [some _, some _, some _, some _, none, none, none, none, none, none, none]) hC dX4_weighPiece_168 rfl (by rw [Int32.sub_eq_add_neg]; rfl) (nlt rfl) rfl ?_
        refine j_goto hC 25 dX4_weighPiece_171 (by decide) ?_
        exact ih _ _ _ (by omega) hS hW2.toQ
      · refine j_iconst hC (1) dX4_weighPiece_42 (by decide) ?_
        refine j_goto hC 47 dX4_weighPiece_43 (by decide) ?_
        refine J.nmI (fun iw hiw0 => ?_)
        have hN : nI (cn S 44) - 1 = nI (cn S 44 - 1) := by obtain ⟨q, hq⟩ : ∃ q, cn S 44 = q + 1 := ⟨cn S 44 - 1, by omega⟩; rw [hq, nI_pred]; rfl
        first | have hiw : iw = 0 ↔ ¬ e + 1 = cn S 44 := ⟨fun _ q => c_39 (by rw [hN, show cn S 44 - 1 = e by omega]), fun _ => hiw0⟩ | have hiw : iw = 0 ↔ ¬ e + 1 = cn S 44 := ⟨fun q => absurd (hiw0.symm.trans q) (by decide), fun q => absurd (show e + 1 = cn S 44 by have q2 := c_39; rw [hN, nI_eq (by have := hL.2.1.2; omega) (by have := hL.2.1.2; omega)] at q2; omega) q⟩
        refine j_istore (lv' := [some _, some _, some _, some _, some _, none, none, none, none, none, none]) hC dX4_weighPiece_47 (nlt rfl) rfl ?_
        refine j_aload_n hC dX4_weighPiece_49 rfl ?_
        refine j_iload_n hC dX4_weighPiece_50 rfl ?_
        refine j_iload_n hC dX4_weighPiece_51 rfl ?_
        refine j_callv (kc' := 0) (ks' := 0) (r := (RX4, TX4, 10)) hC (c_leastFall K k e hS.1 hL hnp hk he) dX4_weighPiece_52 wX4_leastFall lX4_113 i_yX4_leastFall s_yX4_leastFall hS.1.line rfl rfl rfl (nle rfl) rfl (by decide) (by decide) (by decide) (kI fun r w' hp => ?_)
        obtain ⟨⟨lf, rfl, l1, l2, l3⟩, hw⟩ := hp
        rw [hw]
        clear hw w'
        refine j_istore (lv' := [some _, some _, some _, some _, some _, some _, none, none, none, none, none]) hC dX4_weighPiece_55 (nlt rfl) rfl ?_
        refine j_aload_n hC dX4_weighPiece_57 rfl ?_
        refine j_iload_n hC dX4_weighPiece_58 rfl ?_
        refine j_iload_n hC dX4_weighPiece_59 rfl ?_
        refine j_callv (kc' := 0) (ks' := 0) (r := (RX4, TX4, 10)) hC (c_weighEnds K k e hS.1 hL hnp hk he hco hdi hW.1) dX4_weighPiece_60 wX4_weighEnds lX4_117 i_yX4_weighEnds s_yX4_weighEnds hS.1.line rfl rfl rfl (nle rfl) rfl (by decide) (by decide) (by decide) (kV fun w' hp => ?_)
        obtain ⟨ce2, hS2, hce⟩ := hp
        have hS := hS.tr hS2
        refine j_ldc hC dX4_weighPiece_63 nX4_122 ?_
        refine j_istore (lv' := [some _, some _, some _, some _, some _, some _, some _, none, none, none, none]) hC dX4_weighPiece_65 (nlt rfl) rfl ?_
        refine j_iload_n hC dX4_weighPiece_67 rfl ?_
        refine j_bipush hC (40) dX4_weighPiece_68 (by decide) ?_
        refine j_imul hC dX4_weighPiece_70 ?_
        refine j_istore (lv' := [some _, some _, some _, some _, some _, some _, some _, some _, none, none, none]) hC dX4_weighPiece_71 (nlt rfl) rfl ?_
        refine J.weak (l' := [some (.ref (ad 9 0)), some (.int (nI k)), some (.ref (ad 13 k)), some (.int (nI e)), some (.int iw), some (.int (nI lf)), some (.int (2147483647)), some (.int (nI (40 * k + 1) - 1)), none, none, none]) (⟨rfl, rfl, rfl, rfl, rfl, rfl, rfl, by rw [nI_pred, show (40 : Int32) = nI 40 from by decide, nI_mul, Nat.mul_comm], trivial⟩) ?_
        refine wp_d K hC hL hnp hco hdi hk he hce l1 l2 l3 hiw (fun w2 le2 hS hW2 => ?_) (40 * k + 1) _ le _ (Nat.le_refl _) hS hW.toP (fun _ => Or.inl (fun b hb q => by have q2 := Int32.le_iff_toInt_le.mp q; rw [nI_toInt (by omega), show (2147483647 : Int32).toInt = 2147483647 from by decide] at q2; omega))
        refine j_iinc (v := nI e - 1) (lv' := [some _, some _, some _, some _, none, none, none, none, none, none, none]) hC dX4_weighPiece_168 rfl (by rw [Int32.sub_eq_add_neg]; rfl) (nlt rfl) rfl ?_
        refine j_goto hC 25 dX4_weighPiece_171 (by decide) ?_
        exact ih _ _ _ (by omega) hS hW2.toQ

set_option maxRecDepth 100000 in
set_option maxHeartbeats 4000000 in
theorem c_weighPiece (K : Kx) {w : Wd} {O : Nat → Prop} {ad : Nat → Nat → Nat} {z : Zx} {np : Nat} {S : Ast} (k : Nat) (hA : SA K.2.1 w O ad z np S) (hL : LSt S) (hnp : NP S np) (hk : k < cn S 50) (hco : rg z.1 0 10000) (hdi : rg z.2.1 0 1000) (hD : LD S z.1.toInt z.2.1.toInt z.2.2.2 (k + 1)) : MT K mX4_weighPiece 5 0 0 [.ref (ad 9 0), .int (nI k)] w (PV fun w' => ∃ (ce : Nat → Int64) (le : Nat → Nat → Int64), SB K.2.1 w w' O ad (z.1, z.2.1, ce, le) np S ∧ LD S z.1.toInt z.2.1.toInt le k) := by
  refine MT.of [some (.ref (ad 9 0)), some (.int (nI k)), none, none, none, none, none, none, none, none, none] (by decide) rfl (nle rfl) rfl ?_
  intro E hC hR
  have hS := SB.rf hA
  refine j_aload_n hC dX4_weighPiece_0 rfl ?_
  refine j_get hC cfX4 dX4_weighPiece_1 fX4_18 (by decide) hS.1.line rfl ?_
  refine j_iload_n hC dX4_weighPiece_4 rfl ?_
  obtain ⟨mc1, hl1⟩ := (hS.1.lst (j := 11) (by decide)).sz
  refine j_callv (kc' := 0) (ks' := 0) (r := (RJx4a65c, TJx4a65c, 3)) hC (c_get K (hS.1.lst (j := 11) (by decide)) (by rw [vN_e11]; exact Nat.lt_of_lt_of_le hk hnp.1)) dX4_weighPiece_5 wJx4a65c_get_915e3 lX4_29 i_yJx4a65c_get_915e3 s_yJx4a65c_get_915e3 hl1 rfl rfl rfl (nle rfl) rfl (by decide) (by decide) (by decide) (kA fun r w' hp => ?_)
  obtain ⟨rfl, hw⟩ := hp
  rw [hw]
  clear hw w'
  refine j_cast (r := (RX6, TX6, 7)) hC dX4_weighPiece_8 kX4_62 (hS.1.piece (Nat.lt_of_lt_of_le hk hnp.1)) rfl ?_
  refine j_get hC cfX6 dX4_weighPiece_11 fX4_91 (by decide) (hS.1.piece (Nat.lt_of_lt_of_le hk hnp.1)) rfl ?_
  refine j_astore_n (lv' := [some _, some _, some _, none, none, none, none, none, none, none, none]) hC dX4_weighPiece_14 (nlt rfl) rfl ?_
  refine j_aload_n hC dX4_weighPiece_15 rfl ?_
  refine j_get hC cfX4 dX4_weighPiece_16 fX4_12 (by decide) hS.1.line rfl ?_
  obtain ⟨mc2, hl2⟩ := (hS.1.lst (j := 10) (by decide)).sz
  refine j_callv (kc' := 0) (ks' := 0) (r := (RJx4a65c, TJx4a65c, 3)) hC (c_lsize K (hS.1.lst (j := 10) (by decide))) dX4_weighPiece_19 wJx4a65c_size_8abf5 lX4_25 i_yJx4a65c_size_8abf5 s_yJx4a65c_size_8abf5 hl2 rfl rfl rfl (nle rfl) rfl (by decide) (by decide) (by decide) (kI fun r w' hp => ?_)
  obtain ⟨rfl, hw⟩ := hp
  rw [hw]
  clear hw w'
  refine J.toI (congrArg nI (vN_e10 _ np)) ?_
  refine j_iconst hC (1) dX4_weighPiece_22 (by decide) ?_
  refine j_isub hC dX4_weighPiece_23 ?_
  refine j_istore_n (lv' := [some _, some _, some _, some _, none, none, none, none, none, none, none]) hC dX4_weighPiece_24 (nlt rfl) rfl ?_
  refine wp_e K (co := z.1) (di := z.2.1) hC hL hnp hco hdi hk (fun w2 ce le hS hW => ?_) (cn S 44) _ z.2.2.1 z.2.2.2 (Nat.le_refl _) hS ⟨hD, fun d hd e' q1 q2 => by omega⟩
  exact j_vret hC hR dX4_weighPiece_174 rfl ⟨rfl, ce, le, hS, hW.all⟩

