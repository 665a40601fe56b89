
def sr (c : Nat → Int) (d : Int) : Nat → Nat → Nat
  | u, 0 => u
  | u, n + 1 => if c u = d then u else sr c d (u + 1) n
theorem sr_eq {c : Nat → Int} {d : Int} : ∀ (n u x : Nat), u ≤ x → x < u + n → c x = d → (∀ v, u ≤ v → v < x → c v ≠ d) → sr c d u n = x
  | 0, u, x, h1, h2, _, _ => by omega
  | n + 1, u, x, h1, h2, h3, h4 => by
    unfold sr
    by_cases hu : u = x
    · subst hu; rw [if_pos h3]
    · rw [if_neg (h4 u (Nat.le_refl _) (by omega))]
      exact sr_eq n (u + 1) x (by omega) (by omega) h3 (fun v hv1 hv2 => h4 v (by omega) hv2)
theorem sr_spec {c : Nat → Int} {d : Int} : ∀ (n u x : Nat), u ≤ x → x < u + n → c x = d → c (sr c d u n) = d ∧ u ≤ sr c d u n ∧ sr c d u n < u + n ∧ ∀ v, u ≤ v → v < sr c d u n → c v ≠ d
  | 0, u, x, h1, h2, _ => by omega
  | n + 1, u, x, h1, h2, h3 => by
    unfold sr
    by_cases hu : c u = d
    · rw [if_pos hu]
      exact ⟨hu, Nat.le_refl _, by omega, fun v q1 q2 => by omega⟩
    · rw [if_neg hu]
      obtain ⟨q1, q2, q3, q4⟩ := sr_spec n (u + 1) x (by have : u ≠ x := fun z => hu (by rw [z]; exact h3); omega) (by omega) h3
      refine ⟨q1, by omega, by omega, fun v v1 v2 => ?_⟩
      by_cases hv : v = u
      · rw [hv]; exact hu
      · exact q4 v (by omega) v2
def cu (S : Ast) (co di : Int) (P N r fell u : Nat) : Int := cs S co di (P - (r + 1)) fell (u / 40) (u % 40 + 1) (VV S co di P N r (fell + (u % 40 + 1)) (u / 40))
def ch (S : Ast) (co di : Int) (P N r fell e : Nat) : Nat := sr (cu S co di P N r fell) (VV S co di P N (r + 1) fell e) (40 * e) (40 * (N - e))
def ps (S : Ast) (co di : Int) (P N : Nat) : Nat → Nat × Nat
  | 0 => (0, 0)
  | p + 1 => ((ps S co di P N p).1 + (ch S co di P N (P - (p + 1)) (ps S co di P N p).1 (ps S co di P N p).2 % 40 + 1), ch S co di P N (P - (p + 1)) (ps S co di P N p).1 (ps S co di P N p).2 / 40)
def pu (S : Ast) (co di : Int) (P N p : Nat) : Nat := ch S co di P N (P - (p + 1)) (ps S co di P N p).1 (ps S co di P N p).2
theorem ps_s (S : Ast) (co di : Int) (P N p : Nat) : ps S co di P N (p + 1) = ((ps S co di P N p).1 + (pu S co di P N p % 40 + 1), pu S co di P N p / 40) := rfl
def TL (B S : Ast) (co di : Int) (P N : Nat) : Nat → Ast
  | 0 => B
  | p + 1 => uI (uI (uI (TL B S co di P N p) 56 p (nI (pu S co di P N p / 40))) 57 p (nI (pu S co di P N p % 40 + 1))) 58 p (S.1 49 0 - nI (ps S co di P N (p + 1)).1)
theorem TL_s (B S : Ast) (co di : Int) (P N p : Nat) : TL B S co di P N (p + 1) = uI (uI (uI (TL B S co di P N p) 56 p (nI (pu S co di P N p / 40))) 57 p (nI (pu S co di P N p % 40 + 1))) 58 p (S.1 49 0 - nI (ps S co di P N (p + 1)).1) := rfl
theorem TL_1 (B S : Ast) (co di : Int) (P N : Nat) {k : Nat} (h6 : k ≠ 56) (h7 : k ≠ 57) (h8 : k ≠ 58) : ∀ p, (TL B S co di P N p).1 k = B.1 k
  | 0 => rfl
  | p + 1 => by rw [TL_s, uI_1n h8, uI_1n h7, uI_1n h6, TL_1 B S co di P N h6 h7 h8 p]
theorem TL_2 (B S : Ast) (co di : Int) (P N : Nat) : ∀ p, (TL B S co di P N p).2 = B.2
  | 0 => rfl
  | p + 1 => TL_2 B S co di P N p
theorem TL_i (B S : Ast) (co di : Int) (P N : Nat) : ∀ (p k i : Nat), p ≤ i → (TL B S co di P N p).1 k i = B.1 k i
  | 0, _, _, _ => rfl
  | p + 1, k, i, h => by
    rw [TL_s, uI_off k i (by omega), uI_off k i (by omega), uI_off k i (by omega)]
    exact TL_i B S co di P N p k i (by omega)
theorem cs_lt {S : Ast} {co di : Int} {p fell e f : Nat} {rest v : Int} (h : cs S co di p fell e f rest = v) (hv : v < NEV) : fea S co p fell e f ∧ rest < NEV ∧ v = rest + own S di p e (fell + f) := by
  unfold cs at h
  split at h
  · rename_i hf
    split at h
    · omega
    · rename_i hr
      exact ⟨hf, by omega, h.symm⟩
  · omega
/-- what is chosen -/
theorem ch_spec (S : Ast) (co di : Int) {P N r fell e : Nat} (he : e < N) (h : VV S co di P N (r + 1) fell e < NEV) : cu S co di P N r fell (ch S co di P N r fell e) = VV S co di P N (r + 1) fell e ∧ 40 * e ≤ ch S co di P N r fell e ∧ ch S co di P N r fell e < 40 * N ∧ ∀ v, 40 * e ≤ v → v < ch S co di P N r fell e → cu S co di P N r fell v ≠ VV S co di P N (r + 1) fell e := by
  obtain ⟨e', f, h1, h2, h3, h4, h5⟩ := VV_mem S co di h
  have hx : cu S co di P N r fell (40 * e' + (f - 1)) = VV S co di P N (r + 1) fell e := by
    unfold cu
    rw [h5]
    have q1 : (40 * e' + (f - 1)) / 40 = e' := by omega
    have q2 : (40 * e' + (f - 1)) % 40 + 1 = f := by omega
    rw [q1, q2]
  obtain ⟨q1, q2, q3, q4⟩ := sr_spec (c := cu S co di P N r fell) (d := VV S co di P N (r + 1) fell e) (40 * (N - e)) (40 * e) (40 * e' + (f - 1)) (by omega) (by omega) hx
  exact ⟨q1, q2, by unfold ch; omega, q4⟩
theorem ch_eq (S : Ast) (co di : Int) {P N r fell e x : Nat} (h1 : 40 * e ≤ x) (h2 : x < 40 * N) (h3 : cu S co di P N r fell x = VV S co di P N (r + 1) fell e) (h4 : ∀ v, 40 * e ≤ v → v < x → cu S co di P N r fell v ≠ VV S co di P N (r + 1) fell e) : ch S co di P N r fell e = x :=
  sr_eq _ _ _ h1 (by omega) h3 h4
/-- along the line nothing is out of bounds -/
theorem ps_ok (S : Ast) (co di : Int) {P N : Nat} (hN : 0 < N) (h : VV S co di P N P 0 0 < NEV) : ∀ p, p ≤ P → (ps S co di P N p).2 < N ∧ (ps S co di P N p).1 ≤ 40 * p ∧ VV S co di P N (P - p) (ps S co di P N p).1 (ps S co di P N p).2 < NEV
  | 0, _ => ⟨hN, Nat.le_refl _, h⟩
  | p + 1, hp => by
    obtain ⟨h1, h2, h3⟩ := ps_ok S co di hN h p (by omega)
    rw [show P - p = (P - (p + 1)) + 1 by omega] at h3
    obtain ⟨q1, q2, q3, -⟩ := ch_spec S co di h1 h3
    rw [ps_s]
    have e1 : ch S co di P N (P - (p + 1)) (ps S co di P N p).1 (ps S co di P N p).2 = pu S co di P N p := rfl
    rw [e1] at q1 q2 q3
    refine ⟨by show _ / 40 < N; omega, by show _ + (_ % 40 + 1) ≤ _; omega, ?_⟩
    exact (cs_lt q1 h3).2.1
abbrev okY (S : Ast) (co di : Int32) : Prop := ¬ S.1 50 0 = 0 ∧ ¬ wI co 0 10000 = 0 ∧ ¬ wI di 0 1000 = 0
def allV (S : Ast) (co di : Int32) : Int := if cn S 44 = 0 then NEV else VV S co.toInt di.toInt (cn S 50) (cn S 44) (cn S 50) 0 0
def rLay (S : Ast) (co di : Int32) : Int := if okY S co di then (if allV S co di < NEV then allV S co di else -2) else -1
def sLay (S : Ast) (co di : Int32) : Ast := if okY S co di then (if allV S co di < NEV then TL (uI S 55 0 1) S co.toInt di.toInt (cn S 50) (cn S 44) (cn S 50) else uI S 55 0 0) else S
/-- the rows of the pieces from q on are done -/
def RD (S : Ast) (co di : Int) (F : Nat → Int64) (q : Nat) : Prop := ∀ p, q ≤ p → p < cn S 50 → ∀ fell, fell ≤ 40 * p → ∀ e, e < cn S 44 → (F (plc p fell e)).toInt = VV S co di (cn S 50) (cn S 44) (cn S 50 - p) fell e
def PD (S : Ast) (co di : Int) (F : Nat → Int64) (p fell n : Nat) : Prop := RD S co di F (p + 1) ∧ (∀ d, d < fell → ∀ e, e < cn S 44 → (F (plc p d e)).toInt = VV S co di (cn S 50) (cn S 44) (cn S 50 - p) d e) ∧ ∀ e, n ≤ e → e < cn S 44 → (F (plc p fell e)).toInt = VV S co di (cn S 50) (cn S 44) (cn S 50 - p) fell e
theorem RD.rest {S : Ast} {co di : Int} {F : Nat → Int64} {p : Nat} (h : RD S co di F (p + 1)) (hp : p < cn S 50) {fell e i : Nat} (hf : fell ≤ 40 * p) (hi : i < 40) (he : e < cn S 44) : (if p + 1 = cn S 50 then (0 : Int64) else F (plc (p + 1) (fell + (i + 1)) e)).toInt = VV S co di (cn S 50) (cn S 44) (cn S 50 - (p + 1)) (fell + (i + 1)) e := by
  by_cases hq : p + 1 = cn S 50
  · rw [if_pos hq, hq, Nat.sub_self, l0]
    rfl
  · rw [if_neg hq]
    exact h (p + 1) (Nat.le_refl _) (by omega) _ (by omega) e he
theorem PD.store {S : Ast} {co di : Int} {F : Nat → Int64} {p fell n : Nat} (hL : LSt S) (h : PD S co di F p fell (n + 1)) (hp : p < cn S 50) (hf : fell ≤ 40 * p) (hn : n < cn S 44) {v : Int64} (hv : v.toInt = VV S co di (cn S 50) (cn S 44) (cn S 50 - p) fell n) : PD S co di (va_up F (plc p fell n) v) p fell n := by
  have h50 := hL.1.2
  have h44 := hL.2.1.2
  obtain ⟨h1, h2, h3⟩ := h
  refine ⟨fun p' q1 q2 d hd e he => ?_, fun d hd e he => ?_, fun e q1 he => ?_⟩
  · rw [va_up_ne _ _ (fun z => by have := plc_inj (by omega) (by omega) (by omega) (by omega) z; omega)]
    exact h1 p' q1 q2 d hd e he
  · rw [va_up_ne _ _ (fun z => by have := plc_inj (by omega) (by omega) (by omega) (by omega) z; omega)]
    exact h2 d hd e he
  · by_cases hen : e = n
    · rw [hen, va_up_self]; exact hv
    · rw [va_up_ne _ _ (fun z => by have := plc_inj (by omega) (by omega) (by omega) (by omega) z; omega)]
      exact h3 e (by omega) he
theorem PD.next {S : Ast} {co di : Int} {F : Nat → Int64} {p fell : Nat} (h : PD S co di F p fell 0) : PD S co di F p (fell + 1) (cn S 44) := by
  refine ⟨h.1, fun d hd e he => ?_, fun e q1 q2 => by omega⟩
  by_cases hdf : d = fell
  · rw [hdf]; exact h.2.2 e (Nat.zero_le _) he
  · exact h.2.1 d (by omega) e he
theorem PD.all {S : Ast} {co di : Int} {F : Nat → Int64} {p n : Nat} (h : PD S co di F p (40 * p + 1) n) : RD S co di F p := by
  intro p' q1 q2 d hd e he
  by_cases hpp : p' = p
  · subst hpp; exact h.2.1 d (by omega) e he
  · exact h.1 p' (by omega) q2 d hd e he
theorem LSt.sJ {S : Ast} {F : Nat → Int64} (h : LSt S) : LSt (sJ S F) := h
theorem lea_s (c : Nat → Int) (b : Int) (n : Nat) : lea c b (n + 1) = if c n < lea c b n then c n else lea c b n := rfl

set_option maxRecDepth 100000 in
set_option maxHeartbeats 4000000 in
theorem lay_f (K : Kx) {w0 : Wd} {m : Nat} {ad : Nat → Nat} {E : Ex} {S : Ast} {co di : Int32} (hC : BX K RX10 cX10_lay 13 2 E) (hL : LSt S) (hco : rg co 0 10000) (hdi : rg di 0 1000) {F : Nat → Int64} {p fell e : Nat} (hp : p < cn S 50) (hf : fell ≤ 40 * p) (he : e < cn S 44) (hD : RD S co.toInt di.toInt F (p + 1)) {b0 : Int} (kk : ∀ (w2 : Wd) (b : Int64), MB K.2.1 w0 w2 m ad (sJ S F) → b.toInt = lea (fun i => cs S co.toInt di.toInt p fell e (i + 1) (VV S co.toInt di.toInt (cn S 50) (cn S 44) (cn S 50 - (p + 1)) (fell + (i + 1)) e)) b0 40 → J K cX10_lay E 0 0 w2 122 [some (.ref m), some (.int co), some (.int di), some (.int (nI p)), some (.int (nI fell)), some (.long b), none, some (.int (nI e)), none, none, none, none, none] []) : ∀ (n i : Nat) (w1 : Wd) (b : Int64), i + n = 40 → MB K.2.1 w0 w1 m ad (sJ S F) → b.toInt = lea (fun i => cs S co.toInt di.toInt p fell e (i + 1) (VV S co.toInt di.toInt (cn S 50) (cn S 44) (cn S 50 - (p + 1)) (fell + (i + 1)) e)) b0 i → J K cX10_lay E 0 0 w1 77 [some (.ref m), some (.int co), some (.int di), some (.int (nI p)), some (.int (nI fell)), some (.long b), none, some (.int (nI e)), some (.int (nI (i + 1))), none, none, none, none] [] := by
  intro n
  induction n with
  | zero =>
    intro i w1 b hi hM hb
    have hi2 : i = 40 := by omega
    subst hi2
    refine j_iload hC dX10_lay_77 rfl ?_
    refine j_bipush hC (40) dX10_lay_79 (by decide) ?_
    refine j_icmp_gt hC 122 dX10_lay_81 (by decide) (fun c_81 => ?_) (fun c_81 => ?_)
    · refine J.weak (l' := [some (.ref m), some (.int co), some (.int di), some (.int (nI p)), some (.int (nI fell)), some (.long b), none, some (.int (nI e)), none, none, none, none, none]) (⟨rfl, rfl, rfl, rfl, rfl, rfl, rfl, trivial⟩) ?_
      exact kk _ _ hM hb
    · exact absurd (show (40 : Int32) < nI 41 by decide) c_81
  | succ n ih =>
    intro i w1 b hi hM hb
    refine j_iload hC dX10_lay_77 rfl ?_
    refine j_bipush hC (40) dX10_lay_79 (by decide) ?_
    refine j_icmp_gt hC 122 dX10_lay_81 (by decide) (fun c_81 => ?_) (fun c_81 => ?_)
    · exact absurd c_81 (fun q => by have q2 : nI 40 < nI (i + 1) := q; rw [nI_ltI (by omega) (by omega)] at q2; omega)
    · refine j_aload_n hC dX10_lay_84 rfl ?_
      refine j_iload_n hC dX10_lay_85 rfl ?_
      refine j_iload hC dX10_lay_86 rfl ?_
      refine j_iload hC dX10_lay_88 rfl ?_
      refine j_iload hC dX10_lay_90 rfl ?_
      refine j_iload_n hC dX10_lay_92 rfl ?_
      refine j_iload_n hC dX10_lay_93 rfl ?_
      refine j_callv (kc' := 0) (ks' := 0) (r := (RX10, TX10, 59)) hC (m_with K p fell e (i + 1) co di hM.1 hL.sJ hp (by have := hL.1.2; omega) he (by omega) hco hdi (hD.rest hp hf (by omega) he) (VV_rg hL hco.1 ⟨hdi.1, hdi.2⟩ _ _ _ (by omega) he (by omega)).1) dX10_lay_94 wX10_with lX10_259 i_yX10_with s_yX10_with hM.1.1 rfl rfl rfl (nle rfl) rfl (by decide) (by decide) (by decide) (kL fun r w' hp => ?_)
      obtain ⟨hr, hw⟩ := hp
      rw [hw]
      clear hw w'
      refine j_lstore (lv' := [some _, some _, some _, some _, some _, some _, none, some _, some _, some _, none, none, none]) hC dX10_lay_97 (nlt rfl) rfl ?_
      refine j_lload hC dX10_lay_99 rfl ?_
      refine j_lload hC dX10_lay_101 rfl ?_
      refine j_lcmp_ge hC 112 dX10_lay_103 dX10_lay_104 (by decide) (fun c_103 => ?_) (fun c_103 => ?_)
      · refine j_lload hC dX10_lay_112 rfl ?_
        refine j_lstore (lv' := [some _, some _, some _, some _, some _, some _, none, some _, some _, some _, none, none, none]) hC dX10_lay_114 (nlt rfl) rfl ?_
        refine j_iinc (v := nI (i + 1 + 1)) (lv' := [some _, some _, some _, some _, some _, some _, none, some _, some _, some _, none, none, none]) hC dX10_lay_116 rfl (nI_i1 (i + 1)) (nlt rfl) rfl ?_
        refine j_goto hC 77 dX10_lay_119 (by decide) ?_
        refine J.weak (l' := [some (.ref m), some (.int co), some (.int di), some (.int (nI p)), some (.int (nI fell)), some (.long _), none, some (.int (nI e)), some (.int (nI (i + 1 + 1))), none, none, none, none]) (⟨rfl, rfl, rfl, rfl, rfl, rfl, rfl, rfl, trivial⟩) ?_
        refine ih (i + 1) _ _ (by omega) hM ?_
        rw [lea_s]
        first | (rw [if_neg (fun q => Int.not_lt.mpr (Int64.le_iff_toInt_le.mp c_103) (by rw [hb, hr]; exact q))]; exact hb) | (rw [if_pos (by have := Int.not_le.mp (fun q => c_103 (Int64.le_iff_toInt_le.mpr q)); rw [hb, hr] at this; exact this)]; exact hr)
      · refine j_lload hC dX10_lay_107 rfl ?_
        refine j_goto hC 114 dX10_lay_109 (by decide) ?_
        refine j_lstore (lv' := [some _, some _, some _, some _, some _, some _, none, some _, some _, some _, none, none, none]) hC dX10_lay_114 (nlt rfl) rfl ?_
        refine j_iinc (v := nI (i + 1 + 1)) (lv' := [some _, some _, some _, some _, some _, some _, none, some _, some _, some _, none, none, none]) hC dX10_lay_116 rfl (nI_i1 (i + 1)) (nlt rfl) rfl ?_
        refine j_goto hC 77 dX10_lay_119 (by decide) ?_
        refine J.weak (l' := [some (.ref m), some (.int co), some (.int di), some (.int (nI p)), some (.int (nI fell)), some (.long _), none, some (.int (nI e)), some (.int (nI (i + 1 + 1))), none, none, none, none]) (⟨rfl, rfl, rfl, rfl, rfl, rfl, rfl, rfl, trivial⟩) ?_
        refine ih (i + 1) _ _ (by omega) hM ?_
        rw [lea_s]
        first | (rw [if_neg (fun q => Int.not_lt.mpr (Int64.le_iff_toInt_le.mp c_103) (by rw [hb, hr]; exact q))]; exact hb) | (rw [if_pos (by have := Int.not_le.mp (fun q => c_103 (Int64.le_iff_toInt_le.mpr q)); rw [hb, hr] at this; exact this)]; exact hr)

set_option maxRecDepth 100000 in
set_option maxHeartbeats 4000000 in
theorem lay_e (K : Kx) {w0 : Wd} {m : Nat} {ad : Nat → Nat} {E : Ex} {S : Ast} {co di : Int32} (hC : BX K RX10 cX10_lay 13 2 E) (hL : LSt S) (hco : rg co 0 10000) (hdi : rg di 0 1000) {p fell : Nat} (hp : p < cn S 50) (hf : fell ≤ 40 * p) (kk : ∀ (w2 : Wd) (F : Nat → Int64), MB K.2.1 w0 w2 m ad (sJ S F) → PD S co.toInt di.toInt F p fell 0 → J K cX10_lay E 0 0 w2 144 [some (.ref m), some (.int co), some (.int di), some (.int (nI p)), some (.int (nI fell)), none, none, none, none, none, none, none, none] []) : ∀ (n : Nat) (w1 : Wd) (F : Nat → Int64) (b : Int64), n ≤ cn S 44 → MB K.2.1 w0 w1 m ad (sJ S F) → PD S co.toInt di.toInt F p fell n → b.toInt = VV S co.toInt di.toInt (cn S 50) (cn S 44) (cn S 50 - p) fell n → J K cX10_lay E 0 0 w1 69 [some (.ref m), some (.int co), some (.int di), some (.int (nI p)), some (.int (nI fell)), some (.long b), none, some (.int (nI n - 1)), none, none, none, none, none] [] := by
  intro n
  induction n with
  | zero =>
    intro w1 F b hn hM hD hb
    refine j_iload hC dX10_lay_69 rfl ?_
    refine j_if_lt hC 144 dX10_lay_71 (by decide) (fun c_71 => ?_) (fun c_71 => ?_)
    · refine J.weak (l' := [some (.ref m), some (.int co), some (.int di), some (.int (nI p)), some (.int (nI fell)), none, none, none, none, none, none, none, none]) (⟨rfl, rfl, rfl, rfl, rfl, trivial⟩) ?_
      exact kk _ _ hM hD
    · exact absurd (show nI 0 - 1 < 0 by decide) c_71
  | succ n ih =>
    intro w1 F b hn hM hD hb
    rw [nI_pred n]
    have hVV := VV_step S co.toInt di.toInt (cn S 50) (cn S 44) (cn S 50 - (p + 1)) fell n (by omega)
    rw [show cn S 50 - (cn S 50 - (p + 1) + 1) = p by omega] at hVV
    refine j_iload hC dX10_lay_69 rfl ?_
    refine j_if_lt hC 144 dX10_lay_71 (by decide) (fun c_71 => ?_) (fun c_71 => ?_)
    · exact absurd c_71 (nI_pos (by have := hL.2.1.2; omega))
    · refine j_iconst hC (1) dX10_lay_74 (by decide) ?_
      refine j_istore (lv' := [some _, some _, some _, some _, some _, some _, none, some _, some _, none, none, none, none]) hC dX10_lay_75 (nlt rfl) rfl ?_
      refine J.weak (l' := [some (.ref m), some (.int co), some (.int di), some (.int (nI p)), some (.int (nI fell)), some (.long b), none, some (.int (nI n)), some (.int (nI (0 + 1))), none, none, none, none]) (⟨rfl, rfl, rfl, rfl, rfl, rfl, rfl, rfl, trivial⟩) ?_
      refine lay_f K hC hL hco hdi hp hf (show n < cn S 44 by omega) hD.1 (b0 := b.toInt) (fun w2 b2 hM hb2 => ?_) 40 0 w1 b (by omega) hM rfl
      rw [hb, show cn S 50 - p = (cn S 50 - (p + 1)) + 1 by omega, ← hVV] at hb2
      refine j_aload_n hC dX10_lay_122 rfl ?_
      refine m_get hC hM dX10_lay_123 fX10_126 (by decide) (mFg_54 _ _) ?_
      refine j_aload_n hC dX10_lay_126 rfl ?_
      refine j_iload_n hC dX10_lay_127 rfl ?_
      refine j_iload hC dX10_lay_128 rfl ?_
      refine j_iload hC dX10_lay_130 rfl ?_
      refine j_callv (kc' := 0) (ks' := 0) (r := (RX10, TX10, 59)) hC (m_place K p fell n hM.1) dX10_lay_132 wX10_place lX10_255 i_yX10_place s_yX10_place hM.1.1 rfl rfl rfl (nle rfl) rfl (by decide) (by decide) (by decide) (kI fun r w' hp => ?_)
      obtain ⟨rfl, hw⟩ := hp
      rw [hw]
      clear hw w'
      refine j_lload hC dX10_lay_135 rfl ?_
      refine m_stJ hC hM (by decide) dX10_lay_137 (ix_nI (n := 26466) (plc_lt (by have := hL.1.2; omega) (by have := hL.1.2; omega) (by have := hL.2.1.2; omega)) (by omega)) (fun w3 hM => ?_)
      rw [sJ_u] at hM
      refine j_iinc (v := nI n - 1) (lv' := [some _, some _, some _, some _, some _, some _, none, some _, none, none, none, none, none]) hC dX10_lay_138 rfl (by rw [Int32.sub_eq_add_neg]; rfl) (nlt rfl) rfl ?_
      refine j_goto hC 69 dX10_lay_141 (by decide) ?_
      refine ih _ _ _ (by omega) hM (hD.store hL hp hf (by omega) (by rw [hb2, show cn S 50 - (p + 1) + 1 = cn S 50 - p by omega])) (by rw [hb2, show cn S 50 - (p + 1) + 1 = cn S 50 - p by omega])

set_option maxRecDepth 100000 in
set_option maxHeartbeats 4000000 in
theorem lay_l (K : Kx) {w0 : Wd} {m : Nat} {ad : Nat → Nat} {E : Ex} {S : Ast} {co di : Int32} (hC : BX K RX10 cX10_lay 13 2 E) (hL : LSt S) (hco : rg co 0 10000) (hdi : rg di 0 1000) {p : Nat} (hp : p < cn S 50) (kk : ∀ (w2 : Wd) (F : Nat → Int64), MB K.2.1 w0 w2 m ad (sJ S F) → RD S co.toInt di.toInt F p → J K cX10_lay E 0 0 w2 150 [some (.ref m), some (.int co), some (.int di), some (.int (nI p)), none, none, none, none, none, none, none, none, none] []) : ∀ (n fell : Nat) (w1 : Wd) (F : Nat → Int64), fell + n = 40 * p + 1 → MB K.2.1 w0 w1 m ad (sJ S F) → PD S co.toInt di.toInt F p fell (cn S 44) → J K cX10_lay E 0 0 w1 47 [some (.ref m), some (.int co), some (.int di), some (.int (nI p)), some (.int (nI fell)), none, none, none, none, none, none, none, none] [] := by
  intro n
  induction n with
  | zero =>
    intro fell w1 F hi hM hD
    have hi2 : fell = 40 * p + 1 := by omega
    subst hi2
    refine j_iload hC dX10_lay_47 rfl ?_
    refine j_bipush hC (40) dX10_lay_49 (by decide) ?_
    refine j_iload_n hC dX10_lay_51 rfl ?_
    refine j_imul hC dX10_lay_52 ?_
    refine J.toI (nI_mul 40 p) ?_
    refine j_icmp_gt hC 150 dX10_lay_53 (by decide) (fun c_53 => ?_) (fun c_53 => ?_)
    · refine J.weak (l' := [some (.ref m), some (.int co), some (.int di), some (.int (nI p)), none, none, none, none, none, none, none, none, none]) (⟨rfl, rfl, rfl, rfl, trivial⟩) ?_
      exact kk _ _ hM hD.all
    · exact absurd (nI_lt (Nat.lt_succ_self (40 * p)) (by have := hL.1.2; omega)) c_53
  | succ n ih =>
    intro fell w1 F hi hM hD
    refine j_iload hC dX10_lay_47 rfl ?_
    refine j_bipush hC (40) dX10_lay_49 (by decide) ?_
    refine j_iload_n hC dX10_lay_51 rfl ?_
    refine j_imul hC dX10_lay_52 ?_
    refine J.toI (nI_mul 40 p) ?_
    refine j_icmp_gt hC 150 dX10_lay_53 (by decide) (fun c_53 => ?_) (fun c_53 => ?_)
    · exact absurd c_53 (fun q => by rw [nI_ltI (by have := hL.1.2; omega) (by have := hL.1.2; omega)] at q; omega)
    · refine j_ldc2 hC dX10_lay_56 nX10_253 ?_
      refine j_lstore (lv' := [some _, some _, some _, some _, some _, some _, none, none, none, none, none, none, none]) hC dX10_lay_59 (nlt rfl) rfl ?_
      refine j_aload_n hC dX10_lay_61 rfl ?_
      refine m_get hC hM dX10_lay_62 fX10_234 (by decide) (mFg_44 _ _) ?_
      refine J.toI (y := nI (cn S 44)) hL.2.1.1 ?_
      refine j_iconst hC (1) dX10_lay_65 (by decide) ?_
      refine j_isub hC dX10_lay_66 ?_
      refine j_istore (lv' := [some _, some _, some _, some _, some _, some _, none, some _, none, none, none, none, none]) hC dX10_lay_67 (nlt rfl) rfl ?_
      refine lay_e K hC hL hco hdi hp (by omega) (fun w2 F2 hM hD => ?_) (cn S 44) _ F _ (Nat.le_refl _) hM hD (by rw [NEV_i, show cn S 50 - p = (cn S 50 - (p + 1)) + 1 by omega, VV_top])
      refine j_iinc (v := nI (fell + 1)) (lv' := [some _, some _, some _, some _, some _, none, none, none, none, none, none, none, none]) hC dX10_lay_144 rfl (nI_i1 fell) (nlt rfl) rfl ?_
      refine j_goto hC 47 dX10_lay_147 (by decide) ?_
      exact ih (fell + 1) _ _ (by omega) hM hD.next

set_option maxRecDepth 100000 in
set_option maxHeartbeats 4000000 in
theorem lay_p (K : Kx) {w0 : Wd} {m : Nat} {ad : Nat → Nat} {E : Ex} {S : Ast} {co di : Int32} (hC : BX K RX10 cX10_lay 13 2 E) (hL : LSt S) (hco : rg co 0 10000) (hdi : rg di 0 1000) (kk : ∀ (w2 : Wd) (F : Nat → Int64), MB K.2.1 w0 w2 m ad (sJ S F) → RD S co.toInt di.toInt F 0 → J K cX10_lay E 0 0 w2 156 [some (.ref m), some (.int co), some (.int di), none, none, none, none, none, none, none, none, none, none] []) : ∀ (n : Nat) (w1 : Wd) (F : Nat → Int64), n ≤ cn S 50 → MB K.2.1 w0 w1 m ad (sJ S F) → RD S co.toInt di.toInt F n → J K cX10_lay E 0 0 w1 40 [some (.ref m), some (.int co), some (.int di), some (.int (nI n - 1)), none, none, none, none, none, none, none, none, none] [] := by
  intro n
  induction n with
  | zero =>
    intro w1 F hi hM hD
    refine j_iload_n hC dX10_lay_40 rfl ?_
    refine j_if_lt hC 156 dX10_lay_41 (by decide) (fun c_41 => ?_) (fun c_41 => ?_)
    · refine J.weak (l' := [some (.ref m), some (.int co), some (.int di), none, none, none, none, none, none, none, none, none, none]) (⟨rfl, rfl, rfl, trivial⟩) ?_
      exact kk _ _ hM hD
    · exact absurd (show nI 0 - 1 < 0 by decide) c_41
  | succ n ih =>
    intro w1 F hi hM hD
    rw [nI_pred n]
    refine j_iload_n hC dX10_lay_40 rfl ?_
    refine j_if_lt hC 156 dX10_lay_41 (by decide) (fun c_41 => ?_) (fun c_41 => ?_)
    · exact absurd c_41 (nI_pos (by have := hL.1.2; omega))
    · refine j_iconst hC (0) dX10_lay_44 (by decide) ?_
      refine j_istore (lv' := [some _, some _, some _, some _, some _, none, none, none, none, none, none, none, none]) hC dX10_lay_45 (nlt rfl) rfl ?_
      refine J.weak (l' := [some (.ref m), some (.int co), some (.int di), some (.int (nI n)), some (.int (nI 0)), none, none, none, none, none, none, none, none]) (⟨rfl, rfl, rfl, rfl, rfl, trivial⟩) ?_
      refine lay_l K hC hL hco hdi (by omega) (fun w2 F2 hM hD2 => ?_) (40 * n + 1) 0 _ F (by omega) hM ⟨hD, fun d hd => by omega, fun e q1 q2 => by omega⟩
      refine j_iinc (v := nI n - 1) (lv' := [some _, some _, some _, some _, none, none, none, none, none, none, none, none, none]) hC dX10_lay_150 rfl (by rw [Int32.sub_eq_add_neg]; rfl) (nlt rfl) rfl ?_
      refine j_goto hC 40 dX10_lay_153 (by decide) ?_
      exact ih _ _ (by omega) hM hD2


def same (T S : Ast) : Prop := ∀ k, k ∉ ([55, 56, 57, 58] : List Nat) → T.1 k = S.1 k
theorem same.cn {T S : Ast} (h : same T S) {k : Nat} (hk : k ∉ ([55, 56, 57, 58] : List Nat)) : cn T k = cn S k := by
  show (T.1 k 0).toNatClampNeg = (S.1 k 0).toNatClampNeg
  rw [h k hk]
theorem LSt.same {T S : Ast} (h : same T S) (hS : LSt S) : LSt T := by
  unfold LSt CN
  rw [h.cn (k := 50) (by decide), h.cn (k := 44) (by decide), h 50 (by decide), h 44 (by decide), h 48 (by decide), h 49 (by decide), h 51 (by decide), h 52 (by decide), h 53 (by decide), h 45 (by decide), h 46 (by decide)]
  exact hS
theorem cs_same {T S : Ast} (h : same T S) (co di : Int) (p fell e f : Nat) (rest : Int) : cs T co di p fell e f rest = cs S co di p fell e f rest := by
  have ea : abv T p = abv S p := by unfold abv; rw [h 48 (by decide), h 51 (by decide)]
  have e1 : fea T co p fell e f ↔ fea S co p fell e f := by
    unfold fea
    rw [ea, h 49 (by decide), h 51 (by decide), h 52 (by decide), h 53 (by decide), h 45 (by decide)]
  have e2 : own T di p e (fell + f) = own S di p e (fell + f) := by
    unfold own
    rw [h 49 (by decide), h 51 (by decide), h 52 (by decide), h 46 (by decide)]
  unfold cs
  rw [e2]
  by_cases hf : fea S co p fell e f
  · rw [if_pos hf, if_pos (e1.mpr hf)]
  · rw [if_neg hf, if_neg (fun q => hf (e1.mp q))]
theorem RD.rest2 {S : Ast} {co di : Int} {F : Nat → Int64} {p : Nat} (h : RD S co di F (p + 1)) (hp : p < cn S 50) {fell e f : Nat} (hf : fell ≤ 40 * p) (hf1 : 1 ≤ f) (hi : f ≤ 40) (he : e < cn S 44) : (if p + 1 = cn S 50 then (0 : Int64) else F (plc (p + 1) (fell + f) e)).toInt = VV S co di (cn S 50) (cn S 44) (cn S 50 - (p + 1)) (fell + f) e := by
  obtain ⟨i, rfl⟩ : ∃ i, f = i + 1 := ⟨f - 1, by omega⟩
  exact h.rest hp hf (by omega) he
theorem RD.mono {S : Ast} {co di : Int} {F : Nat → Int64} {q q' : Nat} (h : RD S co di F q) (hq : q ≤ q') : RD S co di F q' := fun p h1 h2 => h p (by omega) h2

set_option maxRecDepth 100000 in
set_option maxHeartbeats 4000000 in
theorem lay_t (K : Kx) {w0 : Wd} {m : Nat} {ad : Nat → Nat} {E : Ex} {S : Ast} {co di : Int32} (hC : BX K RX10 cX10_lay 13 2 E) (hL : LSt S) (hco : rg co 0 10000) (hdi : rg di 0 1000) {F : Nat → Int64} {T : Ast} (hT : same T S) {p fell e : Nat} (hp : p < cn S 50) (hf : fell ≤ 40 * p) (he : e < cn S 44) (hD : RD S co.toInt di.toInt F (p + 1)) {al due : Int64} (hdue : due.toInt = VV S co.toInt di.toInt (cn S 50) (cn S 44) (cn S 50 - (p + 1) + 1) fell e) {u : Nat} {w1 : Wd} (hM : MB K.2.1 w0 w1 m ad (sJ T F)) (hin : u < 40 * cn S 44) (kf : ∀ (w1 : Wd), MB K.2.1 w0 w1 m ad (sJ T F) → cu S co.toInt di.toInt (cn S 50) (cn S 44) (cn S 50 - (p + 1)) fell u = VV S co.toInt di.toInt (cn S 50) (cn S 44) (cn S 50 - (p + 1) + 1) fell e → J K cX10_lay E 0 0 w1 251 [some (.ref m), some (.int co), some (.int di), some (.long al), none, some (.int (nI fell)), some (.int (nI e)), some (.int (nI p)), some (.long due), none, some (.int 1), some (.int (nI (u / 40))), some (.int (nI (u % 40 + 1)))] []) (kn : ∀ (w1 : Wd), MB K.2.1 w0 w1 m ad (sJ T F) → ¬ cu S co.toInt di.toInt (cn S 50) (cn S 44) (cn S 50 - (p + 1)) fell u = VV S co.toInt di.toInt (cn S 50) (cn S 44) (cn S 50 - (p + 1) + 1) fell e → J K cX10_lay E 0 0 w1 251 [some (.ref m), some (.int co), some (.int di), some (.long al), none, some (.int (nI fell)), some (.int (nI e)), some (.int (nI p)), some (.long due), none, some (.int 0), some (.int (nI (u / 40))), some (.int (nI (u % 40 + 1)))] []) : J K cX10_lay E 0 0 w1 272 [some (.ref m), some (.int co), some (.int di), some (.long al), none, some (.int (nI fell)), some (.int (nI e)), some (.int (nI p)), some (.long due), none, some (.int 0), some (.int (nI (u / 40))), some (.int (nI (u % 40 + 1)))] [] := by
  refine j_aload_n hC dX10_lay_272 rfl ?_
  refine j_iload hC dX10_lay_273 rfl ?_
  refine j_iload hC dX10_lay_275 rfl ?_
  refine j_iload hC dX10_lay_277 rfl ?_
  refine j_iload hC dX10_lay_279 rfl ?_
  refine j_iload_n hC dX10_lay_281 rfl ?_
  refine j_iload_n hC dX10_lay_282 rfl ?_
  refine j_callv (kc' := 0) (ks' := 0) (r := (RX10, TX10, 59)) hC (m_with K (S := sJ T F) p fell (u / 40) (u % 40 + 1) co di hM.1 ((hL.same hT).sJ) (by show p < cn T 50; rw [hT.cn (k := 50) (by decide)]; exact hp) (by have := hL.1.2; omega) (by show _ < cn T 44; rw [hT.cn (k := 44) (by decide)]; omega) (by omega) hco hdi (rs := VV S co.toInt di.toInt (cn S 50) (cn S 44) (cn S 50 - (p + 1)) (fell + (u % 40 + 1)) (u / 40)) (by show (if p + 1 = cn T 50 then (0 : Int64) else (sJ T F).2 54 _).toInt = _; rw [hT.cn (k := 50) (by decide), sJ_54]; exact hD.rest2 hp hf (by omega) (by omega) (by omega)) (VV_rg hL hco.1 ⟨hdi.1, hdi.2⟩ _ _ _ (by omega) (by omega) (by omega)).1) dX10_lay_283 wX10_with lX10_259 i_yX10_with s_yX10_with hM.1.1 rfl rfl rfl (nle rfl) rfl (by decide) (by decide) (by decide) (kL fun r w' hp => ?_)
  obtain ⟨hr, hw⟩ := hp
  rw [hw]
  clear hw w'
  have hr2 : r.toInt = cu S co.toInt di.toInt (cn S 50) (cn S 44) (cn S 50 - (p + 1)) fell u := hr.trans ((cs_same (T := T) hT co.toInt di.toInt p fell (u / 40) (u % 40 + 1) _).trans (by unfold cu; rw [show cn S 50 - (cn S 50 - (p + 1) + 1) = p by omega]))
  refine j_lload hC dX10_lay_286 rfl ?_
  refine j_lcmp_ne hC 296 dX10_lay_288 dX10_lay_289 (by decide) (fun c_288 => ?_) (fun c_288 => ?_)
  · refine j_iconst hC (0) dX10_lay_296 (by decide) ?_
    refine j_istore (lv' := [some _, some _, some _, some _, none, some _, some _, some _, some _, none, some _, some _, some _]) hC dX10_lay_297 (nlt rfl) rfl ?_
    refine j_goto hC 251 dX10_lay_299 (by decide) ?_
    first | exact kf w1 hM (by rw [← hdue, ← hr2, c_288]) | exact kn w1 hM (fun q => c_288 (Int64.toInt_inj.mp (by rw [hdue, hr2]; exact q)))
  · refine j_iconst hC (1) dX10_lay_292 (by decide) ?_
    refine j_goto hC 297 dX10_lay_293 (by decide) ?_
    refine j_istore (lv' := [some _, some _, some _, some _, none, some _, some _, some _, some _, none, some _, some _, some _]) hC dX10_lay_297 (nlt rfl) rfl ?_
    refine j_goto hC 251 dX10_lay_299 (by decide) ?_
    first | exact kf w1 hM (by rw [← hdue, ← hr2, c_288]) | exact kn w1 hM (fun q => c_288 (Int64.toInt_inj.mp (by rw [hdue, hr2]; exact q)))

set_option maxRecDepth 100000 in
set_option maxHeartbeats 4000000 in
theorem lay_x (K : Kx) {w0 : Wd} {m : Nat} {ad : Nat → Nat} {E : Ex} {S : Ast} {co di : Int32} (hC : BX K RX10 cX10_lay 13 2 E) (hL : LSt S) (hco : rg co 0 10000) (hdi : rg di 0 1000) {F : Nat → Int64} {T : Ast} {p fell e u : Nat} {al due : Int64} {w1 : Wd} (hM : MB K.2.1 w0 w1 m ad (sJ T F)) (kk : ∀ w1 : Wd, MB K.2.1 w0 w1 m ad (sJ T F) → J K cX10_lay E 0 0 w1 302 [some (.ref m), some (.int co), some (.int di), some (.long al), none, some (.int (nI fell)), some (.int (nI e)), some (.int (nI p)), some (.long due), none, some (.int 1), some (.int (nI (u / 40))), some (.int (nI (u % 40 + 1)))] []) : J K cX10_lay E 0 0 w1 251 [some (.ref m), some (.int co), some (.int di), some (.long al), none, some (.int (nI fell)), some (.int (nI e)), some (.int (nI p)), some (.long due), none, some (.int 1), some (.int (nI (u / 40))), some (.int (nI (u % 40 + 1)))] [] := by
  refine j_iload hC dX10_lay_251 rfl ?_
  refine j_if_ne hC 302 dX10_lay_253 (by decide) (fun c_253 => ?_) (fun c_253 => ?_)
  · exact kk w1 hM
  · exact absurd c_253 (by decide)

theorem lay_x' (K : Kx) {w0 : Wd} {m : Nat} {ad : Nat → Nat} {E : Ex} {S : Ast} {co di : Int32} (hC : BX K RX10 cX10_lay 13 2 E) (hL : LSt S) (hco : rg co 0 10000) (hdi : rg di 0 1000) {F : Nat → Int64} {T : Ast} (hT : same T S) {p fell e : Nat} (hp : p < cn S 50) (hf : fell ≤ 40 * p) (he : e < cn S 44) (hD : RD S co.toInt di.toInt F (p + 1)) {al due : Int64} (hdue : due.toInt = VV S co.toInt di.toInt (cn S 50) (cn S 44) (cn S 50 - (p + 1) + 1) fell e) {u : Nat} {w1 : Wd} (hM : MB K.2.1 w0 w1 m ad (sJ T F)) (hin : u < 40 * cn S 44) (kf : ∀ (w1 : Wd), MB K.2.1 w0 w1 m ad (sJ T F) → cu S co.toInt di.toInt (cn S 50) (cn S 44) (cn S 50 - (p + 1)) fell u = VV S co.toInt di.toInt (cn S 50) (cn S 44) (cn S 50 - (p + 1) + 1) fell e → J K cX10_lay E 0 0 w1 251 [some (.ref m), some (.int co), some (.int di), some (.long al), none, some (.int (nI fell)), some (.int (nI e)), some (.int (nI p)), some (.long due), none, some (.int 1), some (.int (nI (u / 40))), some (.int (nI (u % 40 + 1)))] []) (kn : ∀ (w1 : Wd), MB K.2.1 w0 w1 m ad (sJ T F) → ¬ cu S co.toInt di.toInt (cn S 50) (cn S 44) (cn S 50 - (p + 1)) fell u = VV S co.toInt di.toInt (cn S 50) (cn S 44) (cn S 50 - (p + 1) + 1) fell e → J K cX10_lay E 0 0 w1 251 [some (.ref m), some (.int co), some (.int di), some (.long al), none, some (.int (nI fell)), some (.int (nI e)), some (.int (nI p)), some (.long due), none, some (.int 0), some (.int (nI (u / 40))), some (.int (nI (u % 40 + 1)))] []) : J K cX10_lay E 0 0 w1 272 [some (.ref m), some (.int co), some (.int di), some (.long al), none, some (.int (nI fell)), some (.int (nI e)), some (.int (nI p)), some (.long due), none, some (.int 0), some (.int (nI (u / 40))), some (.int (nI (u % 40 + 1)))] [] :=
  lay_t K hC hL hco hdi hT hp hf he hD hdue hM hin kf kn

set_option maxRecDepth 100000 in
set_option maxHeartbeats 4000000 in
theorem lay_w (K : Kx) {w0 : Wd} {m : Nat} {ad : Nat → Nat} {E : Ex} {S : Ast} {co di : Int32} (hC : BX K RX10 cX10_lay 13 2 E) (hL : LSt S) (hco : rg co 0 10000) (hdi : rg di 0 1000) {F : Nat → Int64} {T : Ast} (hT : same T S) {p fell e : Nat} (hp : p < cn S 50) (hf : fell ≤ 40 * p) (he : e < cn S 44) (hD : RD S co.toInt di.toInt F (p + 1)) {al due : Int64} (hdue : due.toInt = VV S co.toInt di.toInt (cn S 50) (cn S 44) (cn S 50 - (p + 1) + 1) fell e) {x : Nat} (hx1 : 40 * e ≤ x) (hx2 : x < 40 * cn S 44) (hx3 : cu S co.toInt di.toInt (cn S 50) (cn S 44) (cn S 50 - (p + 1)) fell x = VV S co.toInt di.toInt (cn S 50) (cn S 44) (cn S 50 - (p + 1) + 1) fell e) (hx4 : ∀ v, 40 * e ≤ v → v < x → cu S co.toInt di.toInt (cn S 50) (cn S 44) (cn S 50 - (p + 1)) fell v ≠ VV S co.toInt di.toInt (cn S 50) (cn S 44) (cn S 50 - (p + 1) + 1) fell e) (kk : ∀ w1 : Wd, MB K.2.1 w0 w1 m ad (sJ T F) → J K cX10_lay E 0 0 w1 302 [some (.ref m), some (.int co), some (.int di), some (.long al), none, some (.int (nI fell)), some (.int (nI e)), some (.int (nI p)), some (.long due), none, some (.int 1), some (.int (nI (x / 40))), some (.int (nI (x % 40 + 1)))] []) : ∀ (n u en fall : Nat) (w1 : Wd), u + n = x → 40 * e ≤ u → 40 * en + fall = u → fall ≤ 40 → MB K.2.1 w0 w1 m ad (sJ T F) → J K cX10_lay E 0 0 w1 251 [some (.ref m), some (.int co), some (.int di), some (.long al), none, some (.int (nI fell)), some (.int (nI e)), some (.int (nI p)), some (.long due), none, some (.int 0), some (.int (nI en)), some (.int (nI fall))] [] := by
  intro n
  induction n with
  | zero =>
    intro u en fall w1 hux heu hu hfl hM
    have hin : u < 40 * cn S 44 := by omega
    have tst : ∀ (u1 : Nat) (w1 : Wd), u1 = u → MB K.2.1 w0 w1 m ad (sJ T F) → u1 < 40 * cn S 44 → J K cX10_lay E 0 0 w1 272 [some (.ref m), some (.int co), some (.int di), some (.long al), none, some (.int (nI fell)), some (.int (nI e)), some (.int (nI p)), some (.long due), none, some (.int 0), some (.int (nI (u1 / 40))), some (.int (nI (u1 % 40 + 1)))] [] := by
      intro u1 w1 hu1 hM hin
      subst hu1
      have hxu : u1 = x := by omega
      subst hxu
      exact lay_x' K hC hL hco hdi hT hp hf he hD hdue hM hin (fun w1 hM _ => lay_x K hC hL hco hdi hM kk) (fun w1 hM hne => absurd hx3 hne)
    refine j_iload hC dX10_lay_251 rfl ?_
    refine j_if_ne hC 302 dX10_lay_253 (by decide) (fun c_253 => ?_) (fun c_253 => ?_)
    · exact absurd rfl c_253
    · refine j_iinc (v := nI (fall + 1)) (lv' := [some _, some _, some _, some _, none, some _, some _, some _, some _, none, some _, some _, some _]) hC dX10_lay_256 rfl (nI_i1 fall) (nlt rfl) rfl ?_
      refine j_iload hC dX10_lay_259 rfl ?_
      refine j_bipush hC (40) dX10_lay_261 (by decide) ?_
      refine j_icmp_le hC 272 dX10_lay_263 (by decide) (fun c_263 => ?_) (fun c_263 => ?_)
      · first | (have hen : en = u / 40 := by (have hle : fall + 1 ≤ 40 := (nI_leI (a := fall + 1) (b := 40) (by omega) (by omega)).mp c_263; omega)) | (have hen : en + 1 = u / 40 := by (have hle : ¬ fall + 1 ≤ 40 := fun q => c_263 ((nI_leI (a := fall + 1) (b := 40) (by omega) (by omega)).mpr q); omega))
        first | (have hfa : fall + 1 = u % 40 + 1 := by (have hle : fall + 1 ≤ 40 := (nI_leI (a := fall + 1) (b := 40) (by omega) (by omega)).mp c_263; omega)) | (have hfa : 1 = u % 40 + 1 := by (have hle : ¬ fall + 1 ≤ 40 := fun q => c_263 ((nI_leI (a := fall + 1) (b := 40) (by omega) (by omega)).mpr q); omega))
        refine J.weak (l' := [some (.ref m), some (.int co), some (.int di), some (.long al), none, some (.int (nI fell)), some (.int (nI e)), some (.int (nI p)), some (.long due), none, some (.int 0), some (.int (nI (u / 40))), some (.int (nI (u % 40 + 1)))]) (⟨rfl, rfl, rfl, rfl, rfl, rfl, rfl, rfl, rfl, by rw [hen], by rw [← hfa] <;> rfl, trivial⟩) ?_
        exact tst u w1 rfl hM hin
      · refine j_iconst hC (1) dX10_lay_266 (by decide) ?_
        refine j_istore (lv' := [some _, some _, some _, some _, none, some _, some _, some _, some _, none, some _, some _, some _]) hC dX10_lay_267 (nlt rfl) rfl ?_
        refine j_iinc (v := nI (en + 1)) (lv' := [some _, some _, some _, some _, none, some _, some _, some _, some _, none, some _, some _, some _]) hC dX10_lay_269 rfl (nI_i1 en) (nlt rfl) rfl ?_
        first | (have hen : en = u / 40 := by (have hle : fall + 1 ≤ 40 := (nI_leI (a := fall + 1) (b := 40) (by omega) (by omega)).mp c_263; omega)) | (have hen : en + 1 = u / 40 := by (have hle : ¬ fall + 1 ≤ 40 := fun q => c_263 ((nI_leI (a := fall + 1) (b := 40) (by omega) (by omega)).mpr q); omega))
        first | (have hfa : fall + 1 = u % 40 + 1 := by (have hle : fall + 1 ≤ 40 := (nI_leI (a := fall + 1) (b := 40) (by omega) (by omega)).mp c_263; omega)) | (have hfa : 1 = u % 40 + 1 := by (have hle : ¬ fall + 1 ≤ 40 := fun q => c_263 ((nI_leI (a := fall + 1) (b := 40) (by omega) (by omega)).mpr q); omega))
        refine J.weak (l' := [some (.ref m), some (.int co), some (.int di), some (.long al), none, some (.int (nI fell)), some (.int (nI e)), some (.int (nI p)), some (.long due), none, some (.int 0), some (.int (nI (u / 40))), some (.int (nI (u % 40 + 1)))]) (⟨rfl, rfl, rfl, rfl, rfl, rfl, rfl, rfl, rfl, by rw [hen], by rw [← hfa] <;> rfl, trivial⟩) ?_
        exact tst u w1 rfl hM hin
  | succ n ih =>
    intro u en fall w1 hux heu hu hfl hM
    have hin : u < 40 * cn S 44 := by omega
    have tst : ∀ (u1 : Nat) (w1 : Wd), u1 = u → MB K.2.1 w0 w1 m ad (sJ T F) → u1 < 40 * cn S 44 → J K cX10_lay E 0 0 w1 272 [some (.ref m), some (.int co), some (.int di), some (.long al), none, some (.int (nI fell)), some (.int (nI e)), some (.int (nI p)), some (.long due), none, some (.int 0), some (.int (nI (u1 / 40))), some (.int (nI (u1 % 40 + 1)))] [] := by
      intro u1 w1 hu1 hM hin
      subst hu1
      exact lay_x' K hC hL hco hdi hT hp hf he hD hdue hM hin (fun w1 hM hq => absurd hq (hx4 u1 heu (by omega))) (fun w1 hM hne => ih (u1 + 1) (u1 / 40) (u1 % 40 + 1) w1 (by omega) (by omega) (by omega) (by omega) hM)
    refine j_iload hC dX10_lay_251 rfl ?_
    refine j_if_ne hC 302 dX10_lay_253 (by decide) (fun c_253 => ?_) (fun c_253 => ?_)
    · exact absurd rfl c_253
    · refine j_iinc (v := nI (fall + 1)) (lv' := [some _, some _, some _, some _, none, some _, some _, some _, some _, none, some _, some _, some _]) hC dX10_lay_256 rfl (nI_i1 fall) (nlt rfl) rfl ?_
      refine j_iload hC dX10_lay_259 rfl ?_
      refine j_bipush hC (40) dX10_lay_261 (by decide) ?_
      refine j_icmp_le hC 272 dX10_lay_263 (by decide) (fun c_263 => ?_) (fun c_263 => ?_)
      · first | (have hen : en = u / 40 := by (have hle : fall + 1 ≤ 40 := (nI_leI (a := fall + 1) (b := 40) (by omega) (by omega)).mp c_263; omega)) | (have hen : en + 1 = u / 40 := by (have hle : ¬ fall + 1 ≤ 40 := fun q => c_263 ((nI_leI (a := fall + 1) (b := 40) (by omega) (by omega)).mpr q); omega))
        first | (have hfa : fall + 1 = u % 40 + 1 := by (have hle : fall + 1 ≤ 40 := (nI_leI (a := fall + 1) (b := 40) (by omega) (by omega)).mp c_263; omega)) | (have hfa : 1 = u % 40 + 1 := by (have hle : ¬ fall + 1 ≤ 40 := fun q => c_263 ((nI_leI (a := fall + 1) (b := 40) (by omega) (by omega)).mpr q); omega))
        refine J.weak (l' := [some (.ref m), some (.int co), some (.int di), some (.long al), none, some (.int (nI fell)), some (.int (nI e)), some (.int (nI p)), some (.long due), none, some (.int 0), some (.int (nI (u / 40))), some (.int (nI (u % 40 + 1)))]) (⟨rfl, rfl, rfl, rfl, rfl, rfl, rfl, rfl, rfl, by rw [hen], by rw [← hfa] <;> rfl, trivial⟩) ?_
        exact tst u w1 rfl hM hin
      · refine j_iconst hC (1) dX10_lay_266 (by decide) ?_
        refine j_istore (lv' := [some _, some _, some _, some _, none, some _, some _, some _, some _, none, some _, some _, some _]) hC dX10_lay_267 (nlt rfl) rfl ?_
        refine j_iinc (v := nI (en + 1)) (lv' := [some _, some _, some _, some _, none, some _, some _, some _, some _, none, some _, some _, some _]) hC dX10_lay_269 rfl (nI_i1 en) (nlt rfl) rfl ?_
        first | (have hen : en = u / 40 := by (have hle : fall + 1 ≤ 40 := (nI_leI (a := fall + 1) (b := 40) (by omega) (by omega)).mp c_263; omega)) | (have hen : en + 1 = u / 40 := by (have hle : ¬ fall + 1 ≤ 40 := fun q => c_263 ((nI_leI (a := fall + 1) (b := 40) (by omega) (by omega)).mpr q); omega))
        first | (have hfa : fall + 1 = u % 40 + 1 := by (have hle : fall + 1 ≤ 40 := (nI_leI (a := fall + 1) (b := 40) (by omega) (by omega)).mp c_263; omega)) | (have hfa : 1 = u % 40 + 1 := by (have hle : ¬ fall + 1 ≤ 40 := fun q => c_263 ((nI_leI (a := fall + 1) (b := 40) (by omega) (by omega)).mpr q); omega))
        refine J.weak (l' := [some (.ref m), some (.int co), some (.int di), some (.long al), none, some (.int (nI fell)), some (.int (nI e)), some (.int (nI p)), some (.long due), none, some (.int 0), some (.int (nI (u / 40))), some (.int (nI (u % 40 + 1)))]) (⟨rfl, rfl, rfl, rfl, rfl, rfl, rfl, rfl, rfl, by rw [hen], by rw [← hfa] <;> rfl, trivial⟩) ?_
        exact tst u w1 rfl hM hin

