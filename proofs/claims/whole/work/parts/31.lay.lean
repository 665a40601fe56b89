
def sr (c : Nat → Int) (d : Int) : Nat → Nat → Nat
  | u, 0 => u
  | u, n + 1 => if c u = d then u else sr c d (u + 1) n
theorem sr_eq {c : Nat → Int} {d : Int} : ∀ (n u x : Nat), u ≤ x → x < u + n → c x = d → (∀ v, u ≤ v → v < x → c v ≠ d) → sr c d u n = x
  | 0, u, x, h1, h2, _, _ => by omega
  | n + 1, u, x, h1, h2, h3, h4 => by
    unfold sr
    by_cases hu : u = x
    · subst hu; rw [if_pos h3]
    · rw [if_neg (h4 u (Nat.le_refl _) (by omega))]
      exact sr_eq n (u + 1) x (by omega) (by omega) h3 (fun v hv1 hv2 => h4 v (by omega) hv2)
theorem sr_spec {c : Nat → Int} {d : Int} : ∀ (n u x : Nat), u ≤ x → x < u + n → c x = d → c (sr c d u n) = d ∧ u ≤ sr c d u n ∧ sr c d u n < u + n ∧ ∀ v, u ≤ v → v < sr c d u n → c v ≠ d
  | 0, u, x, h1, h2, _ => by omega
  | n + 1, u, x, h1, h2, h3 => by
    unfold sr
    by_cases hu : c u = d
    · rw [if_pos hu]
      exact ⟨hu, Nat.le_refl _, by omega, fun v q1 q2 => by omega⟩
    · rw [if_neg hu]
      obtain ⟨q1, q2, q3, q4⟩ := sr_spec n (u + 1) x (by have : u ≠ x := fun z => hu (by rw [z]; exact h3); omega) (by omega) h3
      refine ⟨q1, by omega, by omega, fun v v1 v2 => ?_⟩
      by_cases hv : v = u
      · rw [hv]; exact hu
      · exact q4 v (by omega) v2
def cu (S : Ast) (co di : Int) (P N r fell u : Nat) : Int := cs S co di (P - (r + 1)) fell (u / 40) (u % 40 + 1) (VV S co di P N r (fell + (u % 40 + 1)) (u / 40))
def ch (S : Ast) (co di : Int) (P N r fell e : Nat) : Nat := sr (cu S co di P N r fell) (VV S co di P N (r + 1) fell e) (40 * e) (40 * (N - e))
def ps (S : Ast) (co di : Int) (P N : Nat) : Nat → Nat × Nat
  | 0 => (0, 0)
  | p + 1 => ((ps S co di P N p).1 + (ch S co di P N (P - (p + 1)) (ps S co di P N p).1 (ps S co di P N p).2 % 40 + 1), ch S co di P N (P - (p + 1)) (ps S co di P N p).1 (ps S co di P N p).2 / 40)
def pu (S : Ast) (co di : Int) (P N p : Nat) : Nat := ch S co di P N (P - (p + 1)) (ps S co di P N p).1 (ps S co di P N p).2
theorem ps_s (S : Ast) (co di : Int) (P N p : Nat) : ps S co di P N (p + 1) = ((ps S co di P N p).1 + (pu S co di P N p % 40 + 1), pu S co di P N p / 40) := rfl
def TL (B S : Ast) (co di : Int) (P N : Nat) : Nat → Ast
  | 0 => B
  | p + 1 => uI (uI (uI (TL B S co di P N p) 56 p (nI (pu S co di P N p / 40))) 57 p (nI (pu S co di P N p % 40 + 1))) 58 p (S.1 49 0 - nI (ps S co di P N (p + 1)).1)
theorem TL_s (B S : Ast) (co di : Int) (P N p : Nat) : TL B S co di P N (p + 1) = uI (uI (uI (TL B S co di P N p) 56 p (nI (pu S co di P N p / 40))) 57 p (nI (pu S co di P N p % 40 + 1))) 58 p (S.1 49 0 - nI (ps S co di P N (p + 1)).1) := rfl
theorem TL_1 (B S : Ast) (co di : Int) (P N : Nat) {k : Nat} (h6 : k ≠ 56) (h7 : k ≠ 57) (h8 : k ≠ 58) : ∀ p, (TL B S co di P N p).1 k = B.1 k
  | 0 => rfl
  | p + 1 => by rw [TL_s, uI_1n h8, uI_1n h7, uI_1n h6, TL_1 B S co di P N h6 h7 h8 p]
theorem TL_2 (B S : Ast) (co di : Int) (P N : Nat) : ∀ p, (TL B S co di P N p).2 = B.2
  | 0 => rfl
  | p + 1 => TL_2 B S co di P N p
theorem TL_i (B S : Ast) (co di : Int) (P N : Nat) : ∀ (p k i : Nat), p ≤ i → (TL B S co di P N p).1 k i = B.1 k i
  | 0, _, _, _ => rfl
  | p + 1, k, i, h => by
    rw [TL_s, uI_off k i (by omega), uI_off k i (by omega), uI_off k i (by omega)]
    exact TL_i B S co di P N p k i (by omega)
theorem cs_lt {S : Ast} {co di : Int} {p fell e f : Nat} {rest v : Int} (h : cs S co di p fell e f rest = v) (hv : v < NEV) : fea S co p fell e f ∧ rest < NEV ∧ v = rest + own S di p e (fell + f) := by
  unfold cs at h
  split at h
  · rename_i hf
    split at h
    · omega
    · rename_i hr
      exact ⟨hf, by omega, h.symm⟩
  · omega
/-- what is chosen -/
theorem ch_spec (S : Ast) (co di : Int) {P N r fell e : Nat} (he : e < N) (h : VV S co di P N (r + 1) fell e < NEV) : cu S co di P N r fell (ch S co di P N r fell e) = VV S co di P N (r + 1) fell e ∧ 40 * e ≤ ch S co di P N r fell e ∧ ch S co di P N r fell e < 40 * N ∧ ∀ v, 40 * e ≤ v → v < ch S co di P N r fell e → cu S co di P N r fell v ≠ VV S co di P N (r + 1) fell e := by
  obtain ⟨e', f, h1, h2, h3, h4, h5⟩ := VV_mem S co di h
  have hx : cu S co di P N r fell (40 * e' + (f - 1)) = VV S co di P N (r + 1) fell e := by
    unfold cu
    rw [h5]
    have q1 : (40 * e' + (f - 1)) / 40 = e' := by omega
    have q2 : (40 * e' + (f - 1)) % 40 + 1 = f := by omega
    rw [q1, q2]
  obtain ⟨q1, q2, q3, q4⟩ := sr_spec (c := cu S co di P N r fell) (d := VV S co di P N (r + 1) fell e) (40 * (N - e)) (40 * e) (40 * e' + (f - 1)) (by omega) (by omega) hx
  exact ⟨q1, q2, by unfold ch; omega, q4⟩
theorem ch_eq (S : Ast) (co di : Int) {P N r fell e x : Nat} (h1 : 40 * e ≤ x) (h2 : x < 40 * N) (h3 : cu S co di P N r fell x = VV S co di P N (r + 1) fell e) (h4 : ∀ v, 40 * e ≤ v → v < x → cu S co di P N r fell v ≠ VV S co di P N (r + 1) fell e) : ch S co di P N r fell e = x :=
  sr_eq _ _ _ h1 (by omega) h3 h4
/-- along the line nothing is out of bounds -/
theorem ps_ok (S : Ast) (co di : Int) {P N : Nat} (hN : 0 < N) (h : VV S co di P N P 0 0 < NEV) : ∀ p, p ≤ P → (ps S co di P N p).2 < N ∧ (ps S co di P N p).1 ≤ 40 * p ∧ VV S co di P N (P - p) (ps S co di P N p).1 (ps S co di P N p).2 < NEV
  | 0, _ => ⟨hN, Nat.le_refl _, h⟩
  | p + 1, hp => by
    obtain ⟨h1, h2, h3⟩ := ps_ok S co di hN h p (by omega)
    rw [show P - p = (P - (p + 1)) + 1 by omega] at h3
    obtain ⟨q1, q2, q3, -⟩ := ch_spec S co di h1 h3
    rw [ps_s]
    have e1 : ch S co di P N (P - (p + 1)) (ps S co di P N p).1 (ps S co di P N p).2 = pu S co di P N p := rfl
    rw [e1] at q1 q2 q3
    refine ⟨by show _ / 40 < N; omega, by show _ + (_ % 40 + 1) ≤ _; omega, ?_⟩
    exact (cs_lt q1 h3).2.1
abbrev okY (S : Ast) (co di : Int32) : Prop := ¬ S.1 50 0 = 0 ∧ ¬ wI co 0 10000 = 0 ∧ ¬ wI di 0 1000 = 0
def allV (S : Ast) (co di : Int32) : Int := if cn S 44 = 0 then NEV else VV S co.toInt di.toInt (cn S 50) (cn S 44) (cn S 50) 0 0
def rLay (S : Ast) (co di : Int32) : Int := if okY S co di then (if allV S co di < NEV then allV S co di else -2) else -1
def sLay (S : Ast) (co di : Int32) : Ast := if okY S co di then (if allV S co di < NEV then TL (uI S 55 0 1) S co.toInt di.toInt (cn S 50) (cn S 44) (cn S 50) else uI S 55 0 0) else S
/-- the rows of the pieces from q on are done -/
def RD (S : Ast) (co di : Int) (F : Nat → Int64) (q : Nat) : Prop := ∀ p, q ≤ p → p < cn S 50 → ∀ fell, fell ≤ 40 * p → ∀ e, e < cn S 44 → (F (plc p fell e)).toInt = VV S co di (cn S 50) (cn S 44) (cn S 50 - p) fell e
def PD (S : Ast) (co di : Int) (F : Nat → Int64) (p fell n : Nat) : Prop := RD S co di F (p + 1) ∧ (∀ d, d < fell → ∀ e, e < cn S 44 → (F (plc p d e)).toInt = VV S co di (cn S 50) (cn S 44) (cn S 50 - p) d e) ∧ ∀ e, n ≤ e → e < cn S 44 → (F (plc p fell e)).toInt = VV S co di (cn S 50) (cn S 44) (cn S 50 - p) fell e
theorem RD.rest {S : Ast} {co di : Int} {F : Nat → Int64} {p : Nat} (h : RD S co di F (p + 1)) (hp : p < cn S 50) {fell e i : Nat} (hf : fell ≤ 40 * p) (hi : i < 40) (he : e < cn S 44) : (if p + 1 = cn S 50 then (0 : Int64) else F (plc (p + 1) (fell + (i + 1)) e)).toInt = VV S co di (cn S 50) (cn S 44) (cn S 50 - (p + 1)) (fell + (i + 1)) e := by
  by_cases hq : p + 1 = cn S 50
  · rw [if_pos hq, hq, Nat.sub_self, l0]
    rfl
  · rw [if_neg hq]
    exact h (p + 1) (Nat.le_refl _) (by omega) _ (by omega) e he
theorem PD.store {S : Ast} {co di : Int} {F : Nat → Int64} {p fell n : Nat} (hL : LSt S) (h : PD S co di F p fell (n + 1)) (hp : p < cn S 50) (hf : fell ≤ 40 * p) (hn : n < cn S 44) {v : Int64} (hv : v.toInt = VV S co di (cn S 50) (cn S 44) (cn S 50 - p) fell n) : PD S co di (va_up F (plc p fell n) v) p fell n := by
  have h50 := hL.1.2
  have h44 := hL.2.1.2
  obtain ⟨h1, h2, h3⟩ := h
  refine ⟨fun p' q1 q2 d hd e he => ?_, fun d hd e he => ?_, fun e q1 he => ?_⟩
  · rw [va_up_ne _ _ (fun z => by have := plc_inj (by omega) (by omega) (by omega) (by omega) z; omega)]
    exact h1 p' q1 q2 d hd e he
  · rw [va_up_ne _ _ (fun z => by have := plc_inj (by omega) (by omega) (by omega) (by omega) z; omega)]
    exact h2 d hd e he
  · by_cases hen : e = n
    · rw [hen, va_up_self]; exact hv
    · rw [va_up_ne _ _ (fun z => by have := plc_inj (by omega) (by omega) (by omega) (by omega) z; omega)]
      exact h3 e (by omega) he
theorem PD.next {S : Ast} {co di : Int} {F : Nat → Int64} {p fell : Nat} (h : PD S co di F p fell 0) : PD S co di F p (fell + 1) (cn S 44) := by
  refine ⟨h.1, fun d hd e he => ?_, fun e q1 q2 => by omega⟩
  by_cases hdf : d = fell
  · rw [hdf]; exact h.2.2 e (Nat.zero_le _) he
  · exact h.2.1 d (by omega) e he
theorem PD.all {S : Ast} {co di : Int} {F : Nat → Int64} {p n : Nat} (h : PD S co di F p (40 * p + 1) n) : RD S co di F p := by
  intro p' q1 q2 d hd e he
  by_cases hpp : p' = p
  · subst hpp; exact h.2.1 d (by omega) e he
  · exact h.1 p' (by omega) q2 d hd e he
theorem LSt.sJ {S : Ast} {F : Nat → Int64} (h : LSt S) : LSt (sJ S F) := h
theorem lea_s (c : Nat → Int) (b : Int) (n : Nat) : lea c b (n + 1) = if c n < lea c b n then c n else lea c b n := rfl

set_option maxRecDepth 100000 in
set_option maxHeartbeats 4000000 in
theorem lay_f (K : Kx) {w0 : Wd} {m : Nat} {ad : Nat → Nat} {E : Ex} {S : Ast} {co di : Int32} (hC : BX K RX10 cX10_lay 13 2 E) (hL : LSt S) (hco : rg co 0 10000) (hdi : rg di 0 1000) {F : Nat → Int64} {p fell e : Nat} (hp : p < cn S 50) (hf : fell ≤ 40 * p) (he : e < cn S 44) (hD : RD S co.toInt di.toInt F (p + 1)) {b0 : Int} (kk : ∀ (w2 : Wd) (b : Int64), MB K.2.1 w0 w2 m ad (sJ S F) → b.toInt = lea (fun i => cs S co.toInt di.toInt p fell e (i + 1) (VV S co.toInt di.toInt (cn S 50) (cn S 44) (cn S 50 - (p + 1)) (fell + (i + 1)) e)) b0 40 → J K cX10_lay E 0 0 w2 122 [some (.ref m), some (.int co), some (.int di), some (.int (nI p)), some (.int (nI fell)), some (.long b), none, some (.int (nI e)), none, none, none, none, none] []) : ∀ (n i : Nat) (w1 : Wd) (b : Int64), i + n = 40 → MB K.2.1 w0 w1 m ad (sJ S F) → b.toInt = lea (fun i => cs S co.toInt di.toInt p fell e (i + 1) (VV S co.toInt di.toInt (cn S 50) (cn S 44) (cn S 50 - (p + 1)) (fell + (i + 1)) e)) b0 i → J K cX10_lay E 0 0 w1 77 [some (.ref m), some (.int co), some (.int di), some (.int (nI p)), some (.int (nI fell)), some (.long b), none, some (.int (nI e)), some (.int (nI (i + 1))), none, none, none, none] [] := by
  intro n
  induction n with
  | zero =>
    intro i w1 b hi hM hb
    have hi2 : i = 40 := by omega
    subst hi2
    refine j_iload hC dX10_lay_77 rfl ?_
    refine j_bipush hC (40) dX10_lay_79 (by decide) ?_
    refine j_icmp_gt hC 122 dX10_lay_81 (by decide) (fun c_81 => ?_) (fun c_81 => ?_)
    · refine J.weak (l' := [some (.ref m), some (.int co), some (.int di), some (.int (nI p)), some (.int (nI fell)), some (.long b), none, some (.int (nI e)), none, none, none, none, none]) (⟨rfl, rfl, rfl, rfl, rfl, rfl, rfl, trivial⟩) ?_
      exact kk _ _ hM hb
    · exact absurd (show (40 : Int32) < nI 41 by decide) c_81
  | succ n ih =>
    intro i w1 b hi hM hb
    refine j_iload hC dX10_lay_77 rfl ?_
    refine j_bipush hC (40) dX10_lay_79 (by decide) ?_
    refine j_icmp_gt hC 122 dX10_lay_81 (by decide) (fun c_81 => ?_) (fun c_81 => ?_)
    · exact absurd c_81 (fun q => by have q2 : nI 40 < nI (i + 1) := q; rw [nI_ltI (by omega) (by omega)] at q2; omega)
    · refine j_aload_n hC dX10_lay_84 rfl ?_
      refine j_iload_n hC dX10_lay_85 rfl ?_
      refine j_iload hC dX10_lay_86 rfl ?_
      refine j_iload hC dX10_lay_88 rfl ?_
      refine j_iload hC dX10_lay_90 rfl ?_
      refine j_iload_n hC dX10_lay_92 rfl ?_
      refine j_iload_n hC dX10_lay_93 rfl ?_
      refine j_callv (kc' := 0) (ks' := 0) (r := (RX10, TX10, 59)) hC (m_with K p fell e (i + 1) co di hM.1 hL.sJ hp (by have := hL.1.2; omega) he (by omega) hco hdi (hD.rest hp hf (by omega) he) (VV_rg hL hco.1 ⟨hdi.1, hdi.2⟩ _ _ _ (by omega) he (by omega)).1) dX10_lay_94 wX10_with lX10_259 i_yX10_with s_yX10_with hM.1.1 rfl rfl rfl (nle rfl) rfl (by decide) (by decide) (by decide) (kL fun r w' hp => ?_)
      obtain ⟨hr, hw⟩ := hp
      rw [hw]
      clear hw w'
      refine j_lstore (lv' := [some _, some _, some _, some _, some _, some _, none, some _, some _, some _, none, none, none]) hC dX10_lay_97 (nlt rfl) rfl ?_
      refine j_lload hC dX10_lay_99 rfl ?_
      refine j_lload hC dX10_lay_101 rfl ?_
      refine j_lcmp_ge hC 112 dX10_lay_103 dX10_lay_104 (by decide) (fun c_103 => ?_) (fun c_103 => ?_)
      · refine j_lload hC dX10_lay_112 rfl ?_
        refine j_lstore (lv' := [some _, some _, some _, some _, some _, some _, none, some _, some _, some _, none, none, none]) hC dX10_lay_114 (nlt rfl) rfl ?_
        refine j_iinc (v := nI (i + 1 + 1)) (lv' := [some _, some _, some _, some _, some _, some _, none, some _, some _, some _, none, none, none]) hC dX10_lay_116 rfl (nI_i1 (i + 1)) (nlt rfl) rfl ?_
        refine j_goto hC 77 dX10_lay_119 (by decide) ?_
        refine J.weak (l' := [some (.ref m), some (.int co), some (.int di), some (.int (nI p)), some (.int (nI fell)), some (.long _), none, some (.int (nI e)), some (.int (nI (i + 1 + 1))), none, none, none, none]) (⟨rfl, rfl, rfl, rfl, rfl, rfl, rfl, rfl, trivial⟩) ?_
        refine ih (i + 1) _ _ (by omega) hM ?_
        rw [lea_s]
        first | (rw [if_neg (fun q => Int.not_lt.mpr (Int64.le_iff_toInt_le.mp c_103) (by rw [hb, hr]; exact q))]; exact hb) | (rw [if_pos (by have := Int.not_le.mp (fun q => c_103 (Int64.le_iff_toInt_le.mpr q)); rw [hb, hr] at this; exact this)]; exact hr)
      · refine j_lload hC dX10_lay_107 rfl ?_
        refine j_goto hC 114 dX10_lay_109 (by decide) ?_
        refine j_lstore (lv' := [some _, some _, some _, some _, some _, some _, none, some _, some _, some _, none, none, none]) hC dX10_lay_114 (nlt rfl) rfl ?_
        refine j_iinc (v := nI (i + 1 + 1)) (lv' := [some _, some _, some _, some _, some _, some _, none, some _, some _, some _, none, none, none]) hC dX10_lay_116 rfl (nI_i1 (i + 1)) (nlt rfl) rfl ?_
        refine j_goto hC 77 dX10_lay_119 (by decide) ?_
        refine J.weak (l' := [some (.ref m), some (.int co), some (.int di), some (.int (nI p)), some (.int (nI fell)), some (.long _), none, some (.int (nI e)), some (.int (nI (i + 1 + 1))), none, none, none, none]) (⟨rfl, rfl, rfl, rfl, rfl, rfl, rfl, rfl, trivial⟩) ?_
        refine ih (i + 1) _ _ (by omega) hM ?_
        rw [lea_s]
        first | (rw [if_neg (fun q => Int.not_lt.mpr (Int64.le_iff_toInt_le.mp c_103) (by rw [hb, hr]; exact q))]; exact hb) | (rw [if_pos (by have := Int.not_le.mp (fun q => c_103 (Int64.le_iff_toInt_le.mpr q)); rw [hb, hr] at this; exact this)]; exact hr)

set_option maxRecDepth 100000 in
set_option maxHeartbeats 4000000 in
theorem lay_e (K : Kx) {w0 : Wd} {m : Nat} {ad : Nat → Nat} {E : Ex} {S : Ast} {co di : Int32} (hC : BX K RX10 cX10_lay 13 2 E) (hL : LSt S) (hco : rg co 0 10000) (hdi : rg di 0 1000) {p fell : Nat} (hp : p < cn S 50) (hf : fell ≤ 40 * p) (kk : ∀ (w2 : Wd) (F : Nat → Int64), MB K.2.1 w0 w2 m ad (sJ S F) → PD S co.toInt di.toInt F p fell 0 → J K cX10_lay E 0 0 w2 144 [some (.ref m), some (.int co), some (.int di), some (.int (nI p)), some (.int (nI fell)), none, none, none, none, none, none, none, none] []) : ∀ (n : Nat) (w1 : Wd) (F : Nat → Int64) (b : Int64), n ≤ cn S 44 → MB K.2.1 w0 w1 m ad (sJ S F) → PD S co.toInt di.toInt F p fell n → b.toInt = VV S co.toInt di.toInt (cn S 50) (cn S 44) (cn S 50 - p) fell n → J K cX10_lay E 0 0 w1 69 [some (.ref m), some (.int co), some (.int di), some (.int (nI p)), some (.int (nI fell)), some (.long b), none, some (.int (nI n - 1)), none, none, none, none, none] [] := by
  intro n
  induction n with
  | zero =>
    intro w1 F b hn hM hD hb
    refine j_iload hC dX10_lay_69 rfl ?_
    refine j_if_lt hC 144 dX10_lay_71 (by decide) (fun c_71 => ?_) (fun c_71 => ?_)
    · refine J.weak (l' := [some (.ref m), some (.int co), some (.int di), some (.int (nI p)), some (.int (nI fell)), none, none, none, none, none, none, none, none]) (⟨rfl, rfl, rfl, rfl, rfl, trivial⟩) ?_
      exact kk _ _ hM hD
    · exact absurd (show nI 0 - 1 < 0 by decide) c_71
  | succ n ih =>
    intro w1 F b hn hM hD hb
    rw [nI_pred n]
    have hVV := VV_step S co.toInt di.toInt (cn S 50) (cn S 44) (cn S 50 - (p + 1)) fell n (by omega)
    rw [show cn S 50 - (cn S 50 - (p + 1) + 1) = p by omega] at hVV
    refine j_iload hC dX10_lay_69 rfl ?_
    refine j_if_lt hC 144 dX10_lay_71 (by decide) (fun c_71 => ?_) (fun c_71 => ?_)
    · exact absurd c_71 (nI_pos (by have := hL.2.1.2; omega))
    · refine j_iconst hC (1) dX10_lay_74 (by decide) ?_
      refine j_istore (lv' := [some _, some _, some _, some _, some _, some _, none, some _, some _, none, none, none, none]) hC dX10_lay_75 (nlt rfl) rfl ?_
      refine J.weak (l' := [some (.ref m), some (.int co), some (.int di), some (.int (nI p)), some (.int (nI fell)), some (.long b), none, some (.int (nI n)), some (.int (nI (0 + 1))), none, none, none, none]) (⟨rfl, rfl, rfl, rfl, rfl, rfl, rfl, rfl, trivial⟩) ?_
      refine lay_f K hC hL hco hdi hp hf (show n < cn S 44 by omega) hD.1 (b0 := b.toInt) (fun w2 b2 hM hb2 => ?_) 40 0 w1 b (by omega) hM rfl
      rw [hb, show cn S 50 - p = (cn S 50 - (p + 1)) + 1 by omega, ← hVV] at hb2
      refine j_aload_n hC dX10_lay_122 rfl ?_
      refine m_get hC hM dX10_lay_123 fX10_126 (by decide) (mFg_54 _ _) ?_
      refine j_aload_n hC dX10_lay_126 rfl ?_
      refine j_iload_n hC dX10_lay_127 rfl ?_
      refine j_iload hC dX10_lay_128 rfl ?_
      refine j_iload hC dX10_lay_130 rfl ?_
      refine j_callv (kc' := 0) (ks' := 0) (r := (RX10, TX10, 59)) hC (m_place K p fell n hM.1) dX10_lay_132 wX10_place lX10_255 i_yX10_place s_yX10_place hM.1.1 rfl rfl rfl (nle rfl) rfl (by decide) (by decide) (by decide) (kI fun r w' hp => ?_)
      obtain ⟨rfl, hw⟩ := hp
      rw [hw]
      clear hw w'
      refine j_lload hC dX10_lay_135 rfl ?_
      refine m_stJ hC hM (by decide) dX10_lay_137 (ix_nI (n := 26466) (plc_lt (by have := hL.1.2; omega) (by have := hL.1.2; omega) (by have := hL.2.1.2; omega)) (by omega)) (fun w3 hM => ?_)
      rw [sJ_u] at hM
      refine j_iinc (v := nI n - 1) (lv' := [some _, some _, some _, some _, some _, some _, none, some _, none, none, none, none, none]) hC dX10_lay_138 rfl (by rw [Int32.sub_eq_add_neg]; rfl) (nlt rfl) rfl ?_
      refine j_goto hC 69 dX10_lay_141 (by decide) ?_
      refine ih _ _ _ (by omega) hM (hD.store hL hp hf (by omega) (by rw [hb2, show cn S 50 - (p + 1) + 1 = cn S 50 - p by omega])) (by rw [hb2, show cn S 50 - (p + 1) + 1 = cn S 50 - p by omega])

