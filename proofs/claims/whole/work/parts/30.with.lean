
/-- the state with another row of costs -/
def sJ (S : Ast) (F : Nat → Int64) : Ast := (S.1, va_up S.2 54 F)
theorem sJ_1 {S : Ast} {F : Nat → Int64} : (sJ S F).1 = S.1 := rfl
theorem sJ_54 {S : Ast} {F : Nat → Int64} : (sJ S F).2 54 = F := va_up_self S.2 54 F
theorem sJ_n {S : Ast} {F : Nat → Int64} {k : Nat} (h : k ≠ 54) : (sJ S F).2 k = S.2 k := by unfold sJ; exact va_up_ne _ _ h
theorem sJ_id {S : Ast} : sJ S (S.2 54) = S := by
  unfold sJ
  congr 1
  funext k
  by_cases h : k = 54
  · subst h; rw [va_up_self]
  · rw [va_up_ne _ _ h]
theorem sJ_u {S : Ast} {F : Nat → Int64} {i : Nat} {v : Int64} : uJ (sJ S F) 54 i v = sJ S (va_up F i v) := by
  unfold uJ
  rw [sJ_54]
  unfold sJ
  congr 1
  funext k
  by_cases h : k = 54
  · subst h; rw [va_up_self, va_up_self]
  · rw [va_up_ne _ _ h, va_up_ne _ _ h]; exact va_up_ne _ _ h
def plc (p fell e : Nat) : Nat := (p * 401 + fell) * 6 + e
theorem plc_i (p fell e : Nat) : (nI p * 401 + nI fell) * 6 + nI e = nI (plc p fell e) := by
  rw [show (401 : Int32) = nI 401 from by decide, show (6 : Int32) = nI 6 from by decide, nI_mul, nI_add, nI_mul, nI_add]
  rfl
theorem plc_lt {p fell e : Nat} (hp : p < 10) (hf : fell ≤ 400) (he : e < 6) : plc p fell e < 26466 := by unfold plc; omega
theorem plc_inj {p fell e p' fell' e' : Nat} (hf : fell ≤ 400) (hf' : fell' ≤ 400) (he : e < 6) (he' : e' < 6) (h : plc p fell e = plc p' fell' e') : p = p' ∧ fell = fell' ∧ e = e' := by unfold plc at h; omega
theorem lcmp_lt {a b : Int64} {x y : Int} (ha : a.toInt = x) (hb : b.toInt = y) : a < b ↔ x < y := by rw [Int64.lt_iff_toInt_lt, ha, hb]
theorem icmp_lt {a b : Int32} {x y : Int} (ha : a.toInt = x) (hb : b.toInt = y) : a < b ↔ x < y := by rw [Int32.lt_iff_toInt_lt, ha, hb]
theorem NEV_i : (1152921504606846976 : Int64).toInt = NEV := by decide

set_option maxRecDepth 100000 in
set_option maxHeartbeats 4000000 in
theorem m_place (K : Kx) {w : Wd} {m : Nat} {ad : Nat → Nat} {S : Ast} (p fell e : Nat) (hA : MA K.2.1 w m ad S)  : MT K mX10_place 0 0 0 [.ref m, .int (nI p), .int (nI fell), .int (nI e)] w (PI fun r w' => r = nI (plc p fell e) ∧ w' = w) := by
  refine MT.of [some (.ref m), some (.int (nI p)), some (.int (nI fell)), some (.int (nI e))] (by decide) rfl (nle rfl) rfl ?_
  intro E hC hR
  have hM := MB.rf hA
  refine j_iload_n hC dX10_place_0 rfl ?_
  refine j_sipush hC (401) dX10_place_1 (by decide) ?_
  refine j_imul hC dX10_place_4 ?_
  refine j_iload_n hC dX10_place_5 rfl ?_
  refine j_iadd hC dX10_place_6 ?_
  refine j_bipush hC (6) dX10_place_7 (by decide) ?_
  refine j_imul hC dX10_place_9 ?_
  refine j_iload_n hC dX10_place_10 rfl ?_
  refine j_iadd hC dX10_place_11 ?_
  exact j_iret hC hR dX10_place_12 rfl ⟨_, rfl, plc_i p fell e, rfl⟩


theorem wt_deep {S : Ast} (h : LSt S) {p fell e f : Nat} (hp : p < cn S 50) (hf : fell ≤ 400) (he : e < cn S 44) (hff : f ≤ 40) {co : Int32} (hco : rg co 0 10000) : (S.1 45 e + co).toInt = (S.1 45 e).toInt + co.toInt := by
  have a := (h.2.2.2.1 e he).1
  have a1 := a.1
  have a2 := a.2
  have b1 := hco.1
  have b2 := hco.2
  exact i_add (by omega) (by omega)
theorem wt_bef {S : Ast} (h : LSt S) {p fell e f : Nat} (hp : p < cn S 50) (hf : fell ≤ 400) (he : e < cn S 44) (hff : f ≤ 40) {g : Int32} (hg : g.toInt = abv S p) : (g - (S.1 49 0 - nI fell)).toInt = abv S p - (S.1 49 0).toInt + fell := by
  have a := h.ab hp
  have b := h.2.2.2.2.2
  have b1 := b.1
  have b2 := b.2
  have e1 := nI_toInt (n := fell) (by omega)
  have e2 : (S.1 49 0 - nI fell).toInt = (S.1 49 0).toInt - fell := by rw [i_sub (by omega) (by omega), e1]
  rw [i_sub (by omega) (by omega), e2, hg]
  omega
theorem wt_beh {S : Ast} (h : LSt S) {p fell e f : Nat} (hp : p < cn S 50) (hf : fell ≤ 400) (he : e < cn S 44) (hff : f ≤ 40) : (S.1 51 p - (S.1 49 0 - nI fell - nI f)).toInt = (S.1 51 p).toInt - (S.1 49 0).toInt + ((fell + f : Nat) : Int) := by
  have a := (h.2.2.1 p hp).1
  have a1 := a.1
  have a2 := a.2
  have b := h.2.2.2.2.2
  have b1 := b.1
  have b2 := b.2
  have e1 := nI_toInt (n := fell) (by omega)
  have e3 := nI_toInt (n := f) (by omega)
  have e2 : (S.1 49 0 - nI fell).toInt = (S.1 49 0).toInt - fell := by rw [i_sub (by omega) (by omega), e1]
  have e4 : (S.1 49 0 - nI fell - nI f).toInt = (S.1 49 0).toInt - fell - f := by rw [i_sub (by omega) (by omega), e2, e3]
  rw [i_sub (by omega) (by omega), e4]
  omega
theorem wt_l {S : Ast} (h : LSt S) {p fell e f : Nat} (hp : p < cn S 50) (hf : fell ≤ 400) (he : e < cn S 44) (hff : f ≤ 40) : ((S.1 45 e).toInt64 * (S.1 45 e).toInt64 * (nI f).toInt64).toInt = (S.1 45 e).toInt * (S.1 45 e).toInt * f := by
  have a := (h.2.2.2.1 e he).1
  have a1 := a.1
  have a2 := a.2
  have e3 := nI_toInt (n := f) (by omega)
  have q := mul_rg (a := (S.1 45 e).toInt) (b := (S.1 45 e).toInt) (by omega) a2 (by omega) a2
  have e1 : ((S.1 45 e).toInt64 * (S.1 45 e).toInt64).toInt = (S.1 45 e).toInt * (S.1 45 e).toInt := by
    rw [l_mul] <;> rw [Int32.toInt_toInt64] <;> omega
  have q2 := mul_rg (b := (f : Int)) (B := 40) q.1 q.2 (by omega) (by omega)
  rw [l_mul] <;> rw [e1, Int32.toInt_toInt64, e3] <;> omega
theorem wt_r {S : Ast} (h : LSt S) {p : Nat} (hp : p < cn S 50) : (1000 * (S.1 52 p).toInt64 * (S.1 53 p).toInt64).toInt = 1000 * (S.1 52 p).toInt * (S.1 53 p).toInt := by
  have a := (h.2.2.1 p hp).2.1
  have a1 := a.1
  have a2 := a.2
  have b := (h.2.2.1 p hp).2.2
  have b1 := b.1
  have b2 := b.2
  have e1 : (1000 * (S.1 52 p).toInt64).toInt = 1000 * (S.1 52 p).toInt := by
    rw [l_mul] <;> rw [l1000, Int32.toInt_toInt64] <;> omega
  have q := mul_rg (a := 1000 * (S.1 52 p).toInt) (b := (S.1 53 p).toInt) (A := 10000000) (by omega) (by omega) b1 b2
  rw [l_mul] <;> rw [e1, Int32.toInt_toInt64] <;> omega
theorem wt_own {S : Ast} (h : LSt S) {p fell e f : Nat} (hp : p < cn S 50) (hf : fell ≤ 400) (he : e < cn S 44) (hff : f ≤ 40) {di : Int32} (hd : rg di 0 1000) {x : Int32} (hx : x.toInt = (S.1 51 p).toInt - (S.1 49 0).toInt + ((fell + f : Nat) : Int)) (h0 : 0 ≤ x.toInt) {R : Int64} {r : Int} (hR : R.toInt = r) (hr : 0 ≤ r ∧ r < NEV) : (R + (S.1 52 p).toInt64 * ((S.1 46 e).toInt64 + di.toInt64 * x.toInt64)).toInt = r + own S di.toInt p e (fell + f) := by
  obtain ⟨⟨g1, g2⟩, ⟨l1, l2⟩, n1⟩ := h.2.2.1 p hp
  obtain ⟨w1, p1, p2⟩ := h.2.2.2.1 e he
  obtain ⟨b1, b2⟩ := h.2.2.2.2.2
  have d1 := hd.1
  have d2 := hd.2
  have a := mul_rg d1 d2 h0 (B := 200800) (by omega)
  have e1 : (di.toInt64 * x.toInt64).toInt = di.toInt * x.toInt := by
    rw [l_mul] <;> rw [Int32.toInt_toInt64, Int32.toInt_toInt64] <;> omega
  have e2 : ((S.1 46 e).toInt64 + di.toInt64 * x.toInt64).toInt = (S.1 46 e).toInt + di.toInt * x.toInt := by
    rw [l_add] <;> rw [e1, Int32.toInt_toInt64] <;> omega
  have b := mul_rg (a := (S.1 52 p).toInt) (A := 10000) (b := (S.1 46 e).toInt + di.toInt * x.toInt) (B := 200900000) (by omega) (by omega) (by omega) (by omega)
  have e3 : ((S.1 52 p).toInt64 * ((S.1 46 e).toInt64 + di.toInt64 * x.toInt64)).toInt = (S.1 52 p).toInt * ((S.1 46 e).toInt + di.toInt * x.toInt) := by
    rw [l_mul] <;> rw [e2, Int32.toInt_toInt64] <;> omega
  have n := hr.2
  unfold NEV at n
  have e4 : own S di.toInt p e (fell + f) = (S.1 52 p).toInt * ((S.1 46 e).toInt + di.toInt * x.toInt) := by unfold own; rw [hx]
  rw [e4, l_add] <;> rw [e3, hR] <;> omega

set_option maxRecDepth 100000 in
set_option maxHeartbeats 4000000 in
theorem m_with (K : Kx) {w : Wd} {m : Nat} {ad : Nat → Nat} {S : Ast} (p fell e f : Nat) (co di : Int32) {rs : Int} (hA : MA K.2.1 w m ad S) (hL : LSt S) (hp : p < cn S 50) (hf : fell + f ≤ 400) (he : e < cn S 44) (hff : f ≤ 40) (hco : rg co 0 10000) (hdi : rg di 0 1000) (hrs : (if p + 1 = cn S 50 then (0 : Int64) else S.2 54 (plc (p + 1) (fell + f) e)).toInt = rs) (hr0 : 0 ≤ rs) : MT K mX10_with 1 0 0 [.ref m, .int (nI p), .int (nI fell), .int (nI e), .int (nI f), .int co, .int di] w (PL fun r w' => r.toInt = cs S co.toInt di.toInt p fell e f rs ∧ w' = w) := by
  refine MT.of [some (.ref m), some (.int (nI p)), some (.int (nI fell)), some (.int (nI e)), some (.int (nI f)), some (.int co), some (.int di), none, none, none, none, none, none] (by decide) rfl (nle rfl) rfl ?_
  intro E hC hR
  have hM := MB.rf hA
  have h50 := hL.1.2
  have h44 := hL.2.1.2
  have hf0 : fell + f ≤ 400 := hf
  replace hf : fell ≤ 400 := by omega
  refine j_aload_n hC dX10_with_0 rfl ?_
  refine m_get hC hM dX10_with_1 fX10_111 (by decide) (mFg_45 _ _) ?_
  refine j_iload_n hC dX10_with_4 rfl ?_
  refine m_ldI hC hM (by decide) dX10_with_5 (ix_nI (n := 6) (by have := hL.2.1.2; omega) (by omega)) ?_
  refine j_iload hC dX10_with_6 rfl ?_
  refine j_iadd hC dX10_with_8 ?_
  refine j_istore (lv' := [some _, some _, some _, some _, some _, some _, some _, some _, none, none, none, none, none]) hC dX10_with_9 (nlt rfl) rfl ?_
  refine j_iload_n hC dX10_with_11 rfl ?_
  refine j_if_ne hC 22 dX10_with_12 (by decide) (fun c_12 => ?_) (fun c_12 => ?_)
  · refine j_aload_n hC dX10_with_22 rfl ?_
    refine m_get hC hM dX10_with_23 fX10_117 (by decide) (mFg_51 _ _) ?_
    refine j_iload_n hC dX10_with_26 rfl ?_
    refine j_iconst hC (1) dX10_with_27 (by decide) ?_
    refine j_isub hC dX10_with_28 ?_
    refine m_ldI hC hM (by decide) dX10_with_29 ((show ix (nI p - 1) 10 (p - 1) from by obtain ⟨p0, rfl⟩ : ∃ p0, p = p0 + 1 := ⟨p - 1, by have : p ≠ 0 := fun q => c_12 (by rw [q]; exact nI_0); omega⟩; rw [nI_pred]; exact ix_nI (by have := hL.1.2; omega) (by omega))) ?_
    refine j_aload_n hC dX10_with_30 rfl ?_
    refine m_get hC hM dX10_with_31 fX10_247 (by decide) (mFg_49 _ _) ?_
    refine j_iload_n hC dX10_with_34 rfl ?_
    refine j_isub hC dX10_with_35 ?_
    refine j_isub hC dX10_with_36 ?_
    refine j_istore (lv' := [some _, some _, some _, some _, some _, some _, some _, some _, some _, none, none, none, none]) hC dX10_with_37 (nlt rfl) rfl ?_
    refine j_aload_n hC dX10_with_39 rfl ?_
    refine m_get hC hM dX10_with_40 fX10_117 (by decide) (mFg_51 _ _) ?_
    refine j_iload_n hC dX10_with_43 rfl ?_
    refine m_ldI hC hM (by decide) dX10_with_44 (ix_nI (n := 10) (by have := hL.1.2; omega) (by omega)) ?_
    refine j_aload_n hC dX10_with_45 rfl ?_
    refine m_get hC hM dX10_with_46 fX10_247 (by decide) (mFg_49 _ _) ?_
    refine j_iload_n hC dX10_with_49 rfl ?_
    refine j_isub hC dX10_with_50 ?_
    refine j_iload hC dX10_with_51 rfl ?_
    refine j_isub hC dX10_with_53 ?_
    refine j_isub hC dX10_with_54 ?_
    refine j_istore (lv' := [some _, some _, some _, some _, some _, some _, some _, some _, some _, some _, none, none, none]) hC dX10_with_55 (nlt rfl) rfl ?_
    refine j_aload_n hC dX10_with_57 rfl ?_
    refine m_get hC hM dX10_with_58 fX10_111 (by decide) (mFg_45 _ _) ?_
    refine j_iload_n hC dX10_with_61 rfl ?_
    refine m_ldI hC hM (by decide) dX10_with_62 (ix_nI (n := 6) (by have := hL.2.1.2; omega) (by omega)) ?_
    refine j_i2l hC dX10_with_63 ?_
    refine j_aload_n hC dX10_with_64 rfl ?_
    refine m_get hC hM dX10_with_65 fX10_111 (by decide) (mFg_45 _ _) ?_
    refine j_iload_n hC dX10_with_68 rfl ?_
    refine m_ldI hC hM (by decide) dX10_with_69 (ix_nI (n := 6) (by have := hL.2.1.2; omega) (by omega)) ?_
    refine j_i2l hC dX10_with_70 ?_
    refine j_lmul hC dX10_with_71 ?_
    refine j_iload hC dX10_with_72 rfl ?_
    refine j_i2l hC dX10_with_74 ?_
    refine j_lmul hC dX10_with_75 ?_
    refine j_ldc2 hC dX10_with_76 nX10_178 ?_
    refine j_aload_n hC dX10_with_79 rfl ?_
    refine m_get hC hM dX10_with_80 fX10_120 (by decide) (mFg_52 _ _) ?_
    refine j_iload_n hC dX10_with_83 rfl ?_
    refine m_ldI hC hM (by decide) dX10_with_84 (ix_nI (n := 10) (by have := hL.1.2; omega) (by omega)) ?_
    refine j_i2l hC dX10_with_85 ?_
    refine j_lmul hC dX10_with_86 ?_
    refine j_aload_n hC dX10_with_87 rfl ?_
    refine m_get hC hM dX10_with_88 fX10_123 (by decide) (mFg_53 _ _) ?_
    refine j_iload_n hC dX10_with_91 rfl ?_
    refine m_ldI hC hM (by decide) dX10_with_92 (ix_nI (n := 10) (by have := hL.1.2; omega) (by omega)) ?_
    refine j_i2l hC dX10_with_93 ?_
    refine j_lmul hC dX10_with_94 ?_
    refine j_lcmp_lt hC 103 dX10_with_95 dX10_with_96 (by decide) (fun c_95 => ?_) (fun c_95 => ?_)
    · refine j_iconst hC (0) dX10_with_103 (by decide) ?_
      refine j_istore (lv' := [some _, some _, some _, some _, some _, some _, some _, some _, some _, some _, some _, none, none]) hC dX10_with_104 (nlt rfl) rfl ?_
      refine j_iload hC dX10_with_106 rfl ?_
      refine j_if_eq hC 125 dX10_with_108 (by decide) (fun c_108 => ?_) (fun c_108 => ?_)
      · refine j_ldc2 hC dX10_with_125 nX10_253 ?_
        have hdeep := wt_deep hL hp hf he hff hco
        have hbeh := wt_beh hL hp hf he hff
        first | have hbef := wt_bef hL hp hf he hff (g := S.1 48 0) (by unfold abv; rw [if_pos ((nI_eq (by omega) (by omega)).mp (c_12.trans nI_0.symm))]) | have hbef := wt_bef hL hp hf he hff (g := S.1 51 (p - 1)) (by unfold abv; rw [if_neg (fun q => c_12 (by rw [q]; exact nI_0))])
        have hn : ¬ fea S co.toInt p fell e f := fun q => by first | exact absurd ((lcmp_lt (wt_l hL hp hf he hff) (wt_r hL hp)).mp c_95) (by have := q.1; omega) | exact absurd rfl c_108 | exact absurd c_108 (by decide)
        exact j_lret hC hR dX10_with_128 rfl ⟨_, rfl, by rw [NEV_i]; unfold cs; rw [if_neg hn], rfl⟩
      · refine j_iload hC dX10_with_111 rfl ?_
        refine j_iload hC dX10_with_113 rfl ?_
        refine j_icmp_lt hC 125 dX10_with_115 (by decide) (fun c_115 => ?_) (fun c_115 => ?_)
        · refine j_ldc2 hC dX10_with_125 nX10_253 ?_
          have hdeep := wt_deep hL hp hf he hff hco
          have hbeh := wt_beh hL hp hf he hff
          first | have hbef := wt_bef hL hp hf he hff (g := S.1 48 0) (by unfold abv; rw [if_pos ((nI_eq (by omega) (by omega)).mp (c_12.trans nI_0.symm))]) | have hbef := wt_bef hL hp hf he hff (g := S.1 51 (p - 1)) (by unfold abv; rw [if_neg (fun q => c_12 (by rw [q]; exact nI_0))])
          have hn : ¬ fea S co.toInt p fell e f := fun q => absurd ((icmp_lt hbef hdeep).mp c_115) (by have := q.2.1; omega)
          exact j_lret hC hR dX10_with_128 rfl ⟨_, rfl, by rw [NEV_i]; unfold cs; rw [if_neg hn], rfl⟩
        · refine j_iload hC dX10_with_118 rfl ?_
          refine j_iload hC dX10_with_120 rfl ?_
          refine j_icmp_ge hC 129 dX10_with_122 (by decide) (fun c_122 => ?_) (fun c_122 => ?_)
          · have hdeep := wt_deep hL hp hf he hff hco
            have hbeh := wt_beh hL hp hf he hff
            first | have hbef := wt_bef hL hp hf he hff (g := S.1 48 0) (by unfold abv; rw [if_pos ((nI_eq (by omega) (by omega)).mp (c_12.trans nI_0.symm))]) | have hbef := wt_bef hL hp hf he hff (g := S.1 51 (p - 1)) (by unfold abv; rw [if_neg (fun q => c_12 (by rw [q]; exact nI_0))])
            have hca : 1000 * (S.1 52 p).toInt * (S.1 53 p).toInt ≤ (S.1 45 e).toInt * (S.1 45 e).toInt * (f : Int) := by first | exact Int.not_lt.mp (fun q => c_95 ((lcmp_lt (wt_l hL hp hf he hff) (wt_r hL hp)).mpr q)) | exact absurd rfl c_108
            have hy : fea S co.toInt p fell e f := ⟨hca, Int.not_lt.mp (fun q => c_115 ((icmp_lt hbef hdeep).mpr q)), by have := Int32.le_iff_toInt_le.mp c_122; rw [hdeep, hbeh] at this; exact this⟩
            refine j_iload_n hC dX10_with_129 rfl ?_
            refine j_iconst hC (1) dX10_with_130 (by decide) ?_
            refine j_iadd hC dX10_with_131 ?_
            refine j_aload_n hC dX10_with_132 rfl ?_
            refine m_get hC hM dX10_with_133 fX10_250 (by decide) (mFg_50 _ _) ?_
            refine j_icmp_ne hC 143 dX10_with_136 (by decide) (fun c_136 => ?_) (fun c_136 => ?_)
            · refine j_aload_n hC dX10_with_143 rfl ?_
              refine m_get hC hM dX10_with_144 fX10_126 (by decide) (mFg_54 _ _) ?_
              refine j_aload_n hC dX10_with_147 rfl ?_
              refine j_iload_n hC dX10_with_148 rfl ?_
              refine j_iconst hC (1) dX10_with_149 (by decide) ?_
              refine j_iadd hC dX10_with_150 ?_
              refine J.toI (nI_1 p) ?_
              refine j_iload_n hC dX10_with_151 rfl ?_
              refine j_iload hC dX10_with_152 rfl ?_
              refine j_iadd hC dX10_with_154 ?_
              refine J.toI (nI_add fell f) ?_
              refine j_iload_n hC dX10_with_155 rfl ?_
              refine j_callv (kc' := 0) (ks' := 0) (r := (RX10, TX10, 59)) hC (m_place K (p + 1) (fell + f) e hM.1) dX10_with_156 wX10_place lX10_255 i_yX10_place s_yX10_place hM.1.1 rfl rfl rfl (nle rfl) rfl (by decide) (by decide) (by decide) (kI fun r w' hp => ?_)
              obtain ⟨rfl, hw⟩ := hp
              rw [hw]
              clear hw w'
              refine m_ldJ hC hM (by decide) dX10_with_159 ((ix_nI (n := 26466) (plc_lt (by have := hL.1.2; have : p + 1 ≠ cn S 50 := fun q => c_136 (by rw [hL.1.1, ← q]; exact nI_1 p); omega) (by omega) (by have := hL.2.1.2; omega)) (by omega))) ?_
              refine j_lstore (lv' := [some _, some _, some _, some _, some _, some _, some _, some _, some _, some _, some _, some _, none]) hC dX10_with_160 (nlt rfl) rfl ?_
              refine j_lload hC dX10_with_162 rfl ?_
              refine j_ldc2 hC dX10_with_164 nX10_253 ?_
              refine j_lcmp_lt hC 177 dX10_with_167 dX10_with_168 (by decide) (fun c_167 => ?_) (fun c_167 => ?_)
              · refine j_lload hC dX10_with_177 rfl ?_
                refine j_aload_n hC dX10_with_179 rfl ?_
                refine m_get hC hM dX10_with_180 fX10_120 (by decide) (mFg_52 _ _) ?_
                refine j_iload_n hC dX10_with_183 rfl ?_
                refine m_ldI hC hM (by decide) dX10_with_184 (ix_nI (n := 10) (by have := hL.1.2; omega) (by omega)) ?_
                refine j_i2l hC dX10_with_185 ?_
                refine j_aload_n hC dX10_with_186 rfl ?_
                refine m_get hC hM dX10_with_187 fX10_114 (by decide) (mFg_46 _ _) ?_
                refine j_iload_n hC dX10_with_190 rfl ?_
                refine m_ldI hC hM (by decide) dX10_with_191 (ix_nI (n := 6) (by have := hL.2.1.2; omega) (by omega)) ?_
                refine j_i2l hC dX10_with_192 ?_
                refine j_iload hC dX10_with_193 rfl ?_
                refine j_i2l hC dX10_with_195 ?_
                refine j_iload hC dX10_with_196 rfl ?_
                refine j_i2l hC dX10_with_198 ?_
                refine j_lmul hC dX10_with_199 ?_
                refine j_ladd hC dX10_with_200 ?_
                refine j_lmul hC dX10_with_201 ?_
                refine j_ladd hC dX10_with_202 ?_
                first | have hpl : p + 1 = cn S 50 := (nI_eq (by omega) (by have := hL.1.2; omega)).mp ((nI_1 p).symm.trans (c_136.trans hL.1.1)) | have hpl : ¬ p + 1 = cn S 50 := fun q => c_136 (by rw [hL.1.1, ← q]; exact nI_1 p)
                skip
                first | rw [if_pos hpl] at hrs | rw [if_neg hpl] at hrs
                first | have hlt : rs < NEV := by (have := (lcmp_lt (y := NEV) (b := 1152921504606846976) hrs NEV_i).mp c_167; exact this) | have hlt : ¬ rs < NEV := fun q => c_167 ((lcmp_lt (y := NEV) (b := 1152921504606846976) hrs NEV_i).mpr q)
                refine j_lret hC hR dX10_with_203 rfl ⟨_, rfl, ?_, rfl⟩
                unfold cs; rw [if_pos hy]
                first | (rw [if_neg (show ¬ NEV ≤ rs by omega)]; exact wt_own hL hp hf he hff hdi hbeh (by have := hy.2.2; have := (hL.2.2.2.1 e he).1.1; have := hco.1; omega) hrs ⟨hr0, hlt⟩) | (rw [if_pos (show NEV ≤ rs by omega)]; exact NEV_i)
              · refine j_ldc2 hC dX10_with_171 nX10_253 ?_
                refine j_goto hC 203 dX10_with_174 (by decide) ?_
                first | have hpl : p + 1 = cn S 50 := (nI_eq (by omega) (by have := hL.1.2; omega)).mp ((nI_1 p).symm.trans (c_136.trans hL.1.1)) | have hpl : ¬ p + 1 = cn S 50 := fun q => c_136 (by rw [hL.1.1, ← q]; exact nI_1 p)
                skip
                first | rw [if_pos hpl] at hrs | rw [if_neg hpl] at hrs
                first | have hlt : rs < NEV := by (have := (lcmp_lt (y := NEV) (b := 1152921504606846976) hrs NEV_i).mp c_167; exact this) | have hlt : ¬ rs < NEV := fun q => c_167 ((lcmp_lt (y := NEV) (b := 1152921504606846976) hrs NEV_i).mpr q)
                refine j_lret hC hR dX10_with_203 rfl ⟨_, rfl, ?_, rfl⟩
                unfold cs; rw [if_pos hy]
                first | (rw [if_neg (show ¬ NEV ≤ rs by omega)]; exact wt_own hL hp hf he hff hdi hbeh (by have := hy.2.2; have := (hL.2.2.2.1 e he).1.1; have := hco.1; omega) hrs ⟨hr0, hlt⟩) | (rw [if_pos (show NEV ≤ rs by omega)]; exact NEV_i)
            · refine j_lconst hC (0) dX10_with_139 (by decide) ?_
              refine j_goto hC 160 dX10_with_140 (by decide) ?_
              refine j_lstore (lv' := [some _, some _, some _, some _, some _, some _, some _, some _, some _, some _, some _, some _, none]) hC dX10_with_160 (nlt rfl) rfl ?_
              refine j_lload hC dX10_with_162 rfl ?_
              refine j_ldc2 hC dX10_with_164 nX10_253 ?_
              refine j_lcmp_lt hC 177 dX10_with_167 dX10_with_168 (by decide) (fun c_167 => ?_) (fun c_167 => ?_)
              · refine j_lload hC dX10_with_177 rfl ?_
                refine j_aload_n hC dX10_with_179 rfl ?_
                refine m_get hC hM dX10_with_180 fX10_120 (by decide) (mFg_52 _ _) ?_
                refine j_iload_n hC dX10_with_183 rfl ?_
                refine m_ldI hC hM (by decide) dX10_with_184 (ix_nI (n := 10) (by have := hL.1.2; omega) (by omega)) ?_
                refine j_i2l hC dX10_with_185 ?_
                refine j_aload_n hC dX10_with_186 rfl ?_
                refine m_get hC hM dX10_with_187 fX10_114 (by decide) (mFg_46 _ _) ?_
                refine j_iload_n hC dX10_with_190 rfl ?_
                refine m_ldI hC hM (by decide) dX10_with_191 (ix_nI (n := 6) (by have := hL.2.1.2; omega) (by omega)) ?_
                refine j_i2l hC dX10_with_192 ?_
                refine j_iload hC dX10_with_193 rfl ?_
                refine j_i2l hC dX10_with_195 ?_
                refine j_iload hC dX10_with_196 rfl ?_
                refine j_i2l hC dX10_with_198 ?_
                refine j_lmul hC dX10_with_199 ?_
                refine j_ladd hC dX10_with_200 ?_
                refine j_lmul hC dX10_with_201 ?_
                refine j_ladd hC dX10_with_202 ?_
                first | have hpl : p + 1 = cn S 50 := (nI_eq (by omega) (by have := hL.1.2; omega)).mp ((nI_1 p).symm.trans (c_136.trans hL.1.1)) | have hpl : ¬ p + 1 = cn S 50 := fun q => c_136 (by rw [hL.1.1, ← q]; exact nI_1 p)
                skip
                first | rw [if_pos hpl] at hrs | rw [if_neg hpl] at hrs
                first | have hlt : rs < NEV := by (have := (lcmp_lt (y := NEV) (b := 1152921504606846976) hrs NEV_i).mp c_167; exact this) | have hlt : ¬ rs < NEV := fun q => c_167 ((lcmp_lt (y := NEV) (b := 1152921504606846976) hrs NEV_i).mpr q)
                refine j_lret hC hR dX10_with_203 rfl ⟨_, rfl, ?_, rfl⟩
                unfold cs; rw [if_pos hy]
                first | (rw [if_neg (show ¬ NEV ≤ rs by omega)]; exact wt_own hL hp hf he hff hdi hbeh (by have := hy.2.2; have := (hL.2.2.2.1 e he).1.1; have := hco.1; omega) hrs ⟨hr0, hlt⟩) | (rw [if_pos (show NEV ≤ rs by omega)]; exact NEV_i)
              · refine j_ldc2 hC dX10_with_171 nX10_253 ?_
                refine j_goto hC 203 dX10_with_174 (by decide) ?_
                first | have hpl : p + 1 = cn S 50 := (nI_eq (by omega) (by have := hL.1.2; omega)).mp ((nI_1 p).symm.trans (c_136.trans hL.1.1)) | have hpl : ¬ p + 1 = cn S 50 := fun q => c_136 (by rw [hL.1.1, ← q]; exact nI_1 p)
                skip
                first | rw [if_pos hpl] at hrs | rw [if_neg hpl] at hrs
                first | have hlt : rs < NEV := by (have := (lcmp_lt (y := NEV) (b := 1152921504606846976) hrs NEV_i).mp c_167; exact this) | have hlt : ¬ rs < NEV := fun q => c_167 ((lcmp_lt (y := NEV) (b := 1152921504606846976) hrs NEV_i).mpr q)
                refine j_lret hC hR dX10_with_203 rfl ⟨_, rfl, ?_, rfl⟩
                unfold cs; rw [if_pos hy]
                first | (rw [if_neg (show ¬ NEV ≤ rs by omega)]; exact wt_own hL hp hf he hff hdi hbeh (by have := hy.2.2; have := (hL.2.2.2.1 e he).1.1; have := hco.1; omega) hrs ⟨hr0, hlt⟩) | (rw [if_pos (show NEV ≤ rs by omega)]; exact NEV_i)
          · refine j_ldc2 hC dX10_with_125 nX10_253 ?_
            have hdeep := wt_deep hL hp hf he hff hco
            have hbeh := wt_beh hL hp hf he hff
            first | have hbef := wt_bef hL hp hf he hff (g := S.1 48 0) (by unfold abv; rw [if_pos ((nI_eq (by omega) (by omega)).mp (c_12.trans nI_0.symm))]) | have hbef := wt_bef hL hp hf he hff (g := S.1 51 (p - 1)) (by unfold abv; rw [if_neg (fun q => c_12 (by rw [q]; exact nI_0))])
            have hn : ¬ fea S co.toInt p fell e f := fun q => c_122 (Int32.le_iff_toInt_le.mpr (by rw [hdeep, hbeh]; exact q.2.2))
            exact j_lret hC hR dX10_with_128 rfl ⟨_, rfl, by rw [NEV_i]; unfold cs; rw [if_neg hn], rfl⟩
    · refine j_iconst hC (1) dX10_with_99 (by decide) ?_
      refine j_goto hC 104 dX10_with_100 (by decide) ?_
      refine j_istore (lv' := [some _, some _, some _, some _, some _, some _, some _, some _, some _, some _, some _, none, none]) hC dX10_with_104 (nlt rfl) rfl ?_
      refine j_iload hC dX10_with_106 rfl ?_
      refine j_if_eq hC 125 dX10_with_108 (by decide) (fun c_108 => ?_) (fun c_108 => ?_)
      · refine j_ldc2 hC dX10_with_125 nX10_253 ?_
        have hdeep := wt_deep hL hp hf he hff hco
        have hbeh := wt_beh hL hp hf he hff
        first | have hbef := wt_bef hL hp hf he hff (g := S.1 48 0) (by unfold abv; rw [if_pos ((nI_eq (by omega) (by omega)).mp (c_12.trans nI_0.symm))]) | have hbef := wt_bef hL hp hf he hff (g := S.1 51 (p - 1)) (by unfold abv; rw [if_neg (fun q => c_12 (by rw [q]; exact nI_0))])
        have hn : ¬ fea S co.toInt p fell e f := fun q => by first | exact absurd ((lcmp_lt (wt_l hL hp hf he hff) (wt_r hL hp)).mp c_95) (by have := q.1; omega) | exact absurd rfl c_108 | exact absurd c_108 (by decide)
        exact j_lret hC hR dX10_with_128 rfl ⟨_, rfl, by rw [NEV_i]; unfold cs; rw [if_neg hn], rfl⟩
      · refine j_iload hC dX10_with_111 rfl ?_
        refine j_iload hC dX10_with_113 rfl ?_
        refine j_icmp_lt hC 125 dX10_with_115 (by decide) (fun c_115 => ?_) (fun c_115 => ?_)
        · refine j_ldc2 hC dX10_with_125 nX10_253 ?_
          have hdeep := wt_deep hL hp hf he hff hco
          have hbeh := wt_beh hL hp hf he hff
          first | have hbef := wt_bef hL hp hf he hff (g := S.1 48 0) (by unfold abv; rw [if_pos ((nI_eq (by omega) (by omega)).mp (c_12.trans nI_0.symm))]) | have hbef := wt_bef hL hp hf he hff (g := S.1 51 (p - 1)) (by unfold abv; rw [if_neg (fun q => c_12 (by rw [q]; exact nI_0))])
          have hn : ¬ fea S co.toInt p fell e f := fun q => absurd ((icmp_lt hbef hdeep).mp c_115) (by have := q.2.1; omega)
          exact j_lret hC hR dX10_with_128 rfl ⟨_, rfl, by rw [NEV_i]; unfold cs; rw [if_neg hn], rfl⟩
        · refine j_iload hC dX10_with_118 rfl ?_
          refine j_iload hC dX10_with_120 rfl ?_
          refine j_icmp_ge hC 129 dX10_with_122 (by decide) (fun c_122 => ?_) (fun c_122 => ?_)
          · have hdeep := wt_deep hL hp hf he hff hco
            have hbeh := wt_beh hL hp hf he hff
            first | have hbef := wt_bef hL hp hf he hff (g := S.1 48 0) (by unfold abv; rw [if_pos ((nI_eq (by omega) (by omega)).mp (c_12.trans nI_0.symm))]) | have hbef := wt_bef hL hp hf he hff (g := S.1 51 (p - 1)) (by unfold abv; rw [if_neg (fun q => c_12 (by rw [q]; exact nI_0))])
            have hca : 1000 * (S.1 52 p).toInt * (S.1 53 p).toInt ≤ (S.1 45 e).toInt * (S.1 45 e).toInt * (f : Int) := by first | exact Int.not_lt.mp (fun q => c_95 ((lcmp_lt (wt_l hL hp hf he hff) (wt_r hL hp)).mpr q)) | exact absurd rfl c_108
            have hy : fea S co.toInt p fell e f := ⟨hca, Int.not_lt.mp (fun q => c_115 ((icmp_lt hbef hdeep).mpr q)), by have := Int32.le_iff_toInt_le.mp c_122; rw [hdeep, hbeh] at this; exact this⟩
            refine j_iload_n hC dX10_with_129 rfl ?_
            refine j_iconst hC (1) dX10_with_130 (by decide) ?_
            refine j_iadd hC dX10_with_131 ?_
            refine j_aload_n hC dX10_with_132 rfl ?_
            refine m_get hC hM dX10_with_133 fX10_250 (by decide) (mFg_50 _ _) ?_
            refine j_icmp_ne hC 143 dX10_with_136 (by decide) (fun c_136 => ?_) (fun c_136 => ?_)
            · refine j_aload_n hC dX10_with_143 rfl ?_
              refine m_get hC hM dX10_with_144 fX10_126 (by decide) (mFg_54 _ _) ?_
              refine j_aload_n hC dX10_with_147 rfl ?_
              refine j_iload_n hC dX10_with_148 rfl ?_
              refine j_iconst hC (1) dX10_with_149 (by decide) ?_
              refine j_iadd hC dX10_with_150 ?_
              refine J.toI (nI_1 p) ?_
              refine j_iload_n hC dX10_with_151 rfl ?_
              refine j_iload hC dX10_with_152 rfl ?_
              refine j_iadd hC dX10_with_154 ?_
              refine J.toI (nI_add fell f) ?_
              refine j_iload_n hC dX10_with_155 rfl ?_
              refine j_callv (kc' := 0) (ks' := 0) (r := (RX10, TX10, 59)) hC (m_place K (p + 1) (fell + f) e hM.1) dX10_with_156 wX10_place lX10_255 i_yX10_place s_yX10_place hM.1.1 rfl rfl rfl (nle rfl) rfl (by decide) (by decide) (by decide) (kI fun r w' hp => ?_)
              obtain ⟨rfl, hw⟩ := hp
              rw [hw]
              clear hw w'
              refine m_ldJ hC hM (by decide) dX10_with_159 ((ix_nI (n := 26466) (plc_lt (by have := hL.1.2; have : p + 1 ≠ cn S 50 := fun q => c_136 (by rw [hL.1.1, ← q]; exact nI_1 p); omega) (by omega) (by have := hL.2.1.2; omega)) (by omega))) ?_
              refine j_lstore (lv' := [some _, some _, some _, some _, some _, some _, some _, some _, some _, some _, some _, some _, none]) hC dX10_with_160 (nlt rfl) rfl ?_
              refine j_lload hC dX10_with_162 rfl ?_
              refine j_ldc2 hC dX10_with_164 nX10_253 ?_
              refine j_lcmp_lt hC 177 dX10_with_167 dX10_with_168 (by decide) (fun c_167 => ?_) (fun c_167 => ?_)
              · refine j_lload hC dX10_with_177 rfl ?_
                refine j_aload_n hC dX10_with_179 rfl ?_
                refine m_get hC hM dX10_with_180 fX10_120 (by decide) (mFg_52 _ _) ?_
                refine j_iload_n hC dX10_with_183 rfl ?_
                refine m_ldI hC hM (by decide) dX10_with_184 (ix_nI (n := 10) (by have := hL.1.2; omega) (by omega)) ?_
                refine j_i2l hC dX10_with_185 ?_
                refine j_aload_n hC dX10_with_186 rfl ?_
                refine m_get hC hM dX10_with_187 fX10_114 (by decide) (mFg_46 _ _) ?_
                refine j_iload_n hC dX10_with_190 rfl ?_
                refine m_ldI hC hM (by decide) dX10_with_191 (ix_nI (n := 6) (by have := hL.2.1.2; omega) (by omega)) ?_
                refine j_i2l hC dX10_with_192 ?_
                refine j_iload hC dX10_with_193 rfl ?_
                refine j_i2l hC dX10_with_195 ?_
                refine j_iload hC dX10_with_196 rfl ?_
                refine j_i2l hC dX10_with_198 ?_
                refine j_lmul hC dX10_with_199 ?_
                refine j_ladd hC dX10_with_200 ?_
                refine j_lmul hC dX10_with_201 ?_
                refine j_ladd hC dX10_with_202 ?_
                first | have hpl : p + 1 = cn S 50 := (nI_eq (by omega) (by have := hL.1.2; omega)).mp ((nI_1 p).symm.trans (c_136.trans hL.1.1)) | have hpl : ¬ p + 1 = cn S 50 := fun q => c_136 (by rw [hL.1.1, ← q]; exact nI_1 p)
                skip
                first | rw [if_pos hpl] at hrs | rw [if_neg hpl] at hrs
                first | have hlt : rs < NEV := by (have := (lcmp_lt (y := NEV) (b := 1152921504606846976) hrs NEV_i).mp c_167; exact this) | have hlt : ¬ rs < NEV := fun q => c_167 ((lcmp_lt (y := NEV) (b := 1152921504606846976) hrs NEV_i).mpr q)
                refine j_lret hC hR dX10_with_203 rfl ⟨_, rfl, ?_, rfl⟩
                unfold cs; rw [if_pos hy]
                first | (rw [if_neg (show ¬ NEV ≤ rs by omega)]; exact wt_own hL hp hf he hff hdi hbeh (by have := hy.2.2; have := (hL.2.2.2.1 e he).1.1; have := hco.1; omega) hrs ⟨hr0, hlt⟩) | (rw [if_pos (show NEV ≤ rs by omega)]; exact NEV_i)
              · refine j_ldc2 hC dX10_with_171 nX10_253 ?_
                refine j_goto hC 203 dX10_with_174 (by decide) ?_
                first | have hpl : p + 1 = cn S 50 := (nI_eq (by omega) (by have := hL.1.2; omega)).mp ((nI_1 p).symm.trans (c_136.trans hL.1.1)) | have hpl : ¬ p + 1 = cn S 50 := fun q => c_136 (by rw [hL.1.1, ← q]; exact nI_1 p)
                skip
                first | rw [if_pos hpl] at hrs | rw [if_neg hpl] at hrs
                first | have hlt : rs < NEV := by (have := (lcmp_lt (y := NEV) (b := 1152921504606846976) hrs NEV_i).mp c_167; exact this) | have hlt : ¬ rs < NEV := fun q => c_167 ((lcmp_lt (y := NEV) (b := 1152921504606846976) hrs NEV_i).mpr q)
                refine j_lret hC hR dX10_with_203 rfl ⟨_, rfl, ?_, rfl⟩
                unfold cs; rw [if_pos hy]
                first | (rw [if_neg (show ¬ NEV ≤ rs by omega)]; exact wt_own hL hp hf he hff hdi hbeh (by have := hy.2.2; have := (hL.2.2.2.1 e he).1.1; have := hco.1; omega) hrs ⟨hr0, hlt⟩) | (rw [if_pos (show NEV ≤ rs by omega)]; exact NEV_i)
            · refine j_lconst hC (0) dX10_with_139 (by decide) ?_
              refine j_goto hC 160 dX10_with_140 (by decide) ?_
              refine j_lstore (lv' := [some _, some _, some _, some _, some _, some _, some _, some _, some _, some _, some _, some _, none]) hC dX10_with_160 (nlt rfl) rfl ?_
              refine j_lload hC dX10_with_162 rfl ?_
              refine j_ldc2 hC dX10_with_164 nX10_253 ?_
              refine j_lcmp_lt hC 177 dX10_with_167 dX10_with_168 (by decide) (fun c_167 => ?_) (fun c_167 => ?_)
              · refine j_lload hC dX10_with_177 rfl ?_
                refine j_aload_n hC dX10_with_179 rfl ?_
                refine m_get hC hM dX10_with_180 fX10_120 (by decide) (mFg_52 _ _) ?_
                refine j_iload_n hC dX10_with_183 rfl ?_
                refine m_ldI hC hM (by decide) dX10_with_184 (ix_nI (n := 10) (by have := hL.1.2; omega) (by omega)) ?_
                refine j_i2l hC dX10_with_185 ?_
                refine j_aload_n hC dX10_with_186 rfl ?_
                refine m_get hC hM dX10_with_187 fX10_114 (by decide) (mFg_46 _ _) ?_
                refine j_iload_n hC dX10_with_190 rfl ?_
                refine m_ldI hC hM (by decide) dX10_with_191 (ix_nI (n := 6) (by have := hL.2.1.2; omega) (by omega)) ?_
                refine j_i2l hC dX10_with_192 ?_
                refine j_iload hC dX10_with_193 rfl ?_
                refine j_i2l hC dX10_with_195 ?_
                refine j_iload hC dX10_with_196 rfl ?_
                refine j_i2l hC dX10_with_198 ?_
                refine j_lmul hC dX10_with_199 ?_
                refine j_ladd hC dX10_with_200 ?_
                refine j_lmul hC dX10_with_201 ?_
                refine j_ladd hC dX10_with_202 ?_
                first | have hpl : p + 1 = cn S 50 := (nI_eq (by omega) (by have := hL.1.2; omega)).mp ((nI_1 p).symm.trans (c_136.trans hL.1.1)) | have hpl : ¬ p + 1 = cn S 50 := fun q => c_136 (by rw [hL.1.1, ← q]; exact nI_1 p)
                skip
                first | rw [if_pos hpl] at hrs | rw [if_neg hpl] at hrs
                first | have hlt : rs < NEV := by (have := (lcmp_lt (y := NEV) (b := 1152921504606846976) hrs NEV_i).mp c_167; exact this) | have hlt : ¬ rs < NEV := fun q => c_167 ((lcmp_lt (y := NEV) (b := 1152921504606846976) hrs NEV_i).mpr q)
                refine j_lret hC hR dX10_with_203 rfl ⟨_, rfl, ?_, rfl⟩
                unfold cs; rw [if_pos hy]
                first | (rw [if_neg (show ¬ NEV ≤ rs by omega)]; exact wt_own hL hp hf he hff hdi hbeh (by have := hy.2.2; have := (hL.2.2.2.1 e he).1.1; have := hco.1; omega) hrs ⟨hr0, hlt⟩) | (rw [if_pos (show NEV ≤ rs by omega)]; exact NEV_i)
              · refine j_ldc2 hC dX10_with_171 nX10_253 ?_
                refine j_goto hC 203 dX10_with_174 (by decide) ?_
                first | have hpl : p + 1 = cn S 50 := (nI_eq (by omega) (by have := hL.1.2; omega)).mp ((nI_1 p).symm.trans (c_136.trans hL.1.1)) | have hpl : ¬ p + 1 = cn S 50 := fun q => c_136 (by rw [hL.1.1, ← q]; exact nI_1 p)
                skip
                first | rw [if_pos hpl] at hrs | rw [if_neg hpl] at hrs
                first | have hlt : rs < NEV := by (have := (lcmp_lt (y := NEV) (b := 1152921504606846976) hrs NEV_i).mp c_167; exact this) | have hlt : ¬ rs < NEV := fun q => c_167 ((lcmp_lt (y := NEV) (b := 1152921504606846976) hrs NEV_i).mpr q)
                refine j_lret hC hR dX10_with_203 rfl ⟨_, rfl, ?_, rfl⟩
                unfold cs; rw [if_pos hy]
                first | (rw [if_neg (show ¬ NEV ≤ rs by omega)]; exact wt_own hL hp hf he hff hdi hbeh (by have := hy.2.2; have := (hL.2.2.2.1 e he).1.1; have := hco.1; omega) hrs ⟨hr0, hlt⟩) | (rw [if_pos (show NEV ≤ rs by omega)]; exact NEV_i)
          · refine j_ldc2 hC dX10_with_125 nX10_253 ?_
            have hdeep := wt_deep hL hp hf he hff hco
            have hbeh := wt_beh hL hp hf he hff
            first | have hbef := wt_bef hL hp hf he hff (g := S.1 48 0) (by unfold abv; rw [if_pos ((nI_eq (by omega) (by omega)).mp (c_12.trans nI_0.symm))]) | have hbef := wt_bef hL hp hf he hff (g := S.1 51 (p - 1)) (by unfold abv; rw [if_neg (fun q => c_12 (by rw [q]; exact nI_0))])
            have hn : ¬ fea S co.toInt p fell e f := fun q => c_122 (Int32.le_iff_toInt_le.mpr (by rw [hdeep, hbeh]; exact q.2.2))
            exact j_lret hC hR dX10_with_128 rfl ⟨_, rfl, by rw [NEV_i]; unfold cs; rw [if_neg hn], rfl⟩
  · refine j_aload_n hC dX10_with_15 rfl ?_
    refine m_get hC hM dX10_with_16 fX10_244 (by decide) (mFg_48 _ _) ?_
    refine j_goto hC 30 dX10_with_19 (by decide) ?_
    refine j_aload_n hC dX10_with_30 rfl ?_
    refine m_get hC hM dX10_with_31 fX10_247 (by decide) (mFg_49 _ _) ?_
    refine j_iload_n hC dX10_with_34 rfl ?_
    refine j_isub hC dX10_with_35 ?_
    refine j_isub hC dX10_with_36 ?_
    refine j_istore (lv' := [some _, some _, some _, some _, some _, some _, some _, some _, some _, none, none, none, none]) hC dX10_with_37 (nlt rfl) rfl ?_
    refine j_aload_n hC dX10_with_39 rfl ?_
    refine m_get hC hM dX10_with_40 fX10_117 (by decide) (mFg_51 _ _) ?_
    refine j_iload_n hC dX10_with_43 rfl ?_
    refine m_ldI hC hM (by decide) dX10_with_44 (ix_nI (n := 10) (by have := hL.1.2; omega) (by omega)) ?_
    refine j_aload_n hC dX10_with_45 rfl ?_
    refine m_get hC hM dX10_with_46 fX10_247 (by decide) (mFg_49 _ _) ?_
    refine j_iload_n hC dX10_with_49 rfl ?_
    refine j_isub hC dX10_with_50 ?_
    refine j_iload hC dX10_with_51 rfl ?_
    refine j_isub hC dX10_with_53 ?_
    refine j_isub hC dX10_with_54 ?_
    refine j_istore (lv' := [some _, some _, some _, some _, some _, some _, some _, some _, some _, some _, none, none, none]) hC dX10_with_55 (nlt rfl) rfl ?_
    refine j_aload_n hC dX10_with_57 rfl ?_
    refine m_get hC hM dX10_with_58 fX10_111 (by decide) (mFg_45 _ _) ?_
    refine j_iload_n hC dX10_with_61 rfl ?_
    refine m_ldI hC hM (by decide) dX10_with_62 (ix_nI (n := 6) (by have := hL.2.1.2; omega) (by omega)) ?_
    refine j_i2l hC dX10_with_63 ?_
    refine j_aload_n hC dX10_with_64 rfl ?_
    refine m_get hC hM dX10_with_65 fX10_111 (by decide) (mFg_45 _ _) ?_
    refine j_iload_n hC dX10_with_68 rfl ?_
    refine m_ldI hC hM (by decide) dX10_with_69 (ix_nI (n := 6) (by have := hL.2.1.2; omega) (by omega)) ?_
    refine j_i2l hC dX10_with_70 ?_
    refine j_lmul hC dX10_with_71 ?_
    refine j_iload hC dX10_with_72 rfl ?_
    refine j_i2l hC dX10_with_74 ?_
    refine j_lmul hC dX10_with_75 ?_
    refine j_ldc2 hC dX10_with_76 nX10_178 ?_
    refine j_aload_n hC dX10_with_79 rfl ?_
    refine m_get hC hM dX10_with_80 fX10_120 (by decide) (mFg_52 _ _) ?_
    refine j_iload_n hC dX10_with_83 rfl ?_
    refine m_ldI hC hM (by decide) dX10_with_84 (ix_nI (n := 10) (by have := hL.1.2; omega) (by omega)) ?_
    refine j_i2l hC dX10_with_85 ?_
    refine j_lmul hC dX10_with_86 ?_
    refine j_aload_n hC dX10_with_87 rfl ?_
    refine m_get hC hM dX10_with_88 fX10_123 (by decide) (mFg_53 _ _) ?_
    refine j_iload_n hC dX10_with_91 rfl ?_
    refine m_ldI hC hM (by decide) dX10_with_92 (ix_nI (n := 10) (by have := hL.1.2; omega) (by omega)) ?_
    refine j_i2l hC dX10_with_93 ?_
    refine j_lmul hC dX10_with_94 ?_
    refine j_lcmp_lt hC 103 dX10_with_95 dX10_with_96 (by decide) (fun c_95 => ?_) (fun c_95 => ?_)
    · refine j_iconst hC (0) dX10_with_103 (by decide) ?_
      refine j_istore (lv' := [some _, some _, some _, some _, some _, some _, some _, some _, some _, some _, some _, none, none]) hC dX10_with_104 (nlt rfl) rfl ?_
      refine j_iload hC dX10_with_106 rfl ?_
      refine j_if_eq hC 125 dX10_with_108 (by decide) (fun c_108 => ?_) (fun c_108 => ?_)
      · refine j_ldc2 hC dX10_with_125 nX10_253 ?_
        have hdeep := wt_deep hL hp hf he hff hco
        have hbeh := wt_beh hL hp hf he hff
        first | have hbef := wt_bef hL hp hf he hff (g := S.1 48 0) (by unfold abv; rw [if_pos ((nI_eq (by omega) (by omega)).mp (c_12.trans nI_0.symm))]) | have hbef := wt_bef hL hp hf he hff (g := S.1 51 (p - 1)) (by unfold abv; rw [if_neg (fun q => c_12 (by rw [q]; exact nI_0))])
        have hn : ¬ fea S co.toInt p fell e f := fun q => by first | exact absurd ((lcmp_lt (wt_l hL hp hf he hff) (wt_r hL hp)).mp c_95) (by have := q.1; omega) | exact absurd rfl c_108 | exact absurd c_108 (by decide)
        exact j_lret hC hR dX10_with_128 rfl ⟨_, rfl, by rw [NEV_i]; unfold cs; rw [if_neg hn], rfl⟩
      · refine j_iload hC dX10_with_111 rfl ?_
        refine j_iload hC dX10_with_113 rfl ?_
        refine j_icmp_lt hC 125 dX10_with_115 (by decide) (fun c_115 => ?_) (fun c_115 => ?_)
        · refine j_ldc2 hC dX10_with_125 nX10_253 ?_
          have hdeep := wt_deep hL hp hf he hff hco
          have hbeh := wt_beh hL hp hf he hff
          first | have hbef := wt_bef hL hp hf he hff (g := S.1 48 0) (by unfold abv; rw [if_pos ((nI_eq (by omega) (by omega)).mp (c_12.trans nI_0.symm))]) | have hbef := wt_bef hL hp hf he hff (g := S.1 51 (p - 1)) (by unfold abv; rw [if_neg (fun q => c_12 (by rw [q]; exact nI_0))])
          have hn : ¬ fea S co.toInt p fell e f := fun q => absurd ((icmp_lt hbef hdeep).mp c_115) (by have := q.2.1; omega)
          exact j_lret hC hR dX10_with_128 rfl ⟨_, rfl, by rw [NEV_i]; unfold cs; rw [if_neg hn], rfl⟩
        · refine j_iload hC dX10_with_118 rfl ?_
          refine j_iload hC dX10_with_120 rfl ?_
          refine j_icmp_ge hC 129 dX10_with_122 (by decide) (fun c_122 => ?_) (fun c_122 => ?_)
          · have hdeep := wt_deep hL hp hf he hff hco
            have hbeh := wt_beh hL hp hf he hff
            first | have hbef := wt_bef hL hp hf he hff (g := S.1 48 0) (by unfold abv; rw [if_pos ((nI_eq (by omega) (by omega)).mp (c_12.trans nI_0.symm))]) | have hbef := wt_bef hL hp hf he hff (g := S.1 51 (p - 1)) (by unfold abv; rw [if_neg (fun q => c_12 (by rw [q]; exact nI_0))])
            have hca : 1000 * (S.1 52 p).toInt * (S.1 53 p).toInt ≤ (S.1 45 e).toInt * (S.1 45 e).toInt * (f : Int) := by first | exact Int.not_lt.mp (fun q => c_95 ((lcmp_lt (wt_l hL hp hf he hff) (wt_r hL hp)).mpr q)) | exact absurd rfl c_108
            have hy : fea S co.toInt p fell e f := ⟨hca, Int.not_lt.mp (fun q => c_115 ((icmp_lt hbef hdeep).mpr q)), by have := Int32.le_iff_toInt_le.mp c_122; rw [hdeep, hbeh] at this; exact this⟩
            refine j_iload_n hC dX10_with_129 rfl ?_
            refine j_iconst hC (1) dX10_with_130 (by decide) ?_
            refine j_iadd hC dX10_with_131 ?_
            refine j_aload_n hC dX10_with_132 rfl ?_
            refine m_get hC hM dX10_with_133 fX10_250 (by decide) (mFg_50 _ _) ?_
            refine j_icmp_ne hC 143 dX10_with_136 (by decide) (fun c_136 => ?_) (fun c_136 => ?_)
            · refine j_aload_n hC dX10_with_143 rfl ?_
              refine m_get hC hM dX10_with_144 fX10_126 (by decide) (mFg_54 _ _) ?_
              refine j_aload_n hC dX10_with_147 rfl ?_
              refine j_iload_n hC dX10_with_148 rfl ?_
              refine j_iconst hC (1) dX10_with_149 (by decide) ?_
              refine j_iadd hC dX10_with_150 ?_
              refine J.toI (nI_1 p) ?_
              refine j_iload_n hC dX10_with_151 rfl ?_
              refine j_iload hC dX10_with_152 rfl ?_
              refine j_iadd hC dX10_with_154 ?_
              refine J.toI (nI_add fell f) ?_
              refine j_iload_n hC dX10_with_155 rfl ?_
              refine j_callv (kc' := 0) (ks' := 0) (r := (RX10, TX10, 59)) hC (m_place K (p + 1) (fell + f) e hM.1) dX10_with_156 wX10_place lX10_255 i_yX10_place s_yX10_place hM.1.1 rfl rfl rfl (nle rfl) rfl (by decide) (by decide) (by decide) (kI fun r w' hp => ?_)
              obtain ⟨rfl, hw⟩ := hp
              rw [hw]
              clear hw w'
              refine m_ldJ hC hM (by decide) dX10_with_159 ((ix_nI (n := 26466) (plc_lt (by have := hL.1.2; have : p + 1 ≠ cn S 50 := fun q => c_136 (by rw [hL.1.1, ← q]; exact nI_1 p); omega) (by omega) (by have := hL.2.1.2; omega)) (by omega))) ?_
              refine j_lstore (lv' := [some _, some _, some _, some _, some _, some _, some _, some _, some _, some _, some _, some _, none]) hC dX10_with_160 (nlt rfl) rfl ?_
              refine j_lload hC dX10_with_162 rfl ?_
              refine j_ldc2 hC dX10_with_164 nX10_253 ?_
              refine j_lcmp_lt hC 177 dX10_with_167 dX10_with_168 (by decide) (fun c_167 => ?_) (fun c_167 => ?_)
              · refine j_lload hC dX10_with_177 rfl ?_
                refine j_aload_n hC dX10_with_179 rfl ?_
                refine m_get hC hM dX10_with_180 fX10_120 (by decide) (mFg_52 _ _) ?_
                refine j_iload_n hC dX10_with_183 rfl ?_
                refine m_ldI hC hM (by decide) dX10_with_184 (ix_nI (n := 10) (by have := hL.1.2; omega) (by omega)) ?_
                refine j_i2l hC dX10_with_185 ?_
                refine j_aload_n hC dX10_with_186 rfl ?_
                refine m_get hC hM dX10_with_187 fX10_114 (by decide) (mFg_46 _ _) ?_
                refine j_iload_n hC dX10_with_190 rfl ?_
                refine m_ldI hC hM (by decide) dX10_with_191 (ix_nI (n := 6) (by have := hL.2.1.2; omega) (by omega)) ?_
                refine j_i2l hC dX10_with_192 ?_
                refine j_iload hC dX10_with_193 rfl ?_
                refine j_i2l hC dX10_with_195 ?_
                refine j_iload hC dX10_with_196 rfl ?_
                refine j_i2l hC dX10_with_198 ?_
                refine j_lmul hC dX10_with_199 ?_
                refine j_ladd hC dX10_with_200 ?_
                refine j_lmul hC dX10_with_201 ?_
                refine j_ladd hC dX10_with_202 ?_
                first | have hpl : p + 1 = cn S 50 := (nI_eq (by omega) (by have := hL.1.2; omega)).mp ((nI_1 p).symm.trans (c_136.trans hL.1.1)) | have hpl : ¬ p + 1 = cn S 50 := fun q => c_136 (by rw [hL.1.1, ← q]; exact nI_1 p)
                skip
                first | rw [if_pos hpl] at hrs | rw [if_neg hpl] at hrs
                first | have hlt : rs < NEV := by (have := (lcmp_lt (y := NEV) (b := 1152921504606846976) hrs NEV_i).mp c_167; exact this) | have hlt : ¬ rs < NEV := fun q => c_167 ((lcmp_lt (y := NEV) (b := 1152921504606846976) hrs NEV_i).mpr q)
                refine j_lret hC hR dX10_with_203 rfl ⟨_, rfl, ?_, rfl⟩
                unfold cs; rw [if_pos hy]
                first | (rw [if_neg (show ¬ NEV ≤ rs by omega)]; exact wt_own hL hp hf he hff hdi hbeh (by have := hy.2.2; have := (hL.2.2.2.1 e he).1.1; have := hco.1; omega) hrs ⟨hr0, hlt⟩) | (rw [if_pos (show NEV ≤ rs by omega)]; exact NEV_i)
              · refine j_ldc2 hC dX10_with_171 nX10_253 ?_
                refine j_goto hC 203 dX10_with_174 (by decide) ?_
                first | have hpl : p + 1 = cn S 50 := (nI_eq (by omega) (by have := hL.1.2; omega)).mp ((nI_1 p).symm.trans (c_136.trans hL.1.1)) | have hpl : ¬ p + 1 = cn S 50 := fun q => c_136 (by rw [hL.1.1, ← q]; exact nI_1 p)
                skip
                first | rw [if_pos hpl] at hrs | rw [if_neg hpl] at hrs
                first | have hlt : rs < NEV := by (have := (lcmp_lt (y := NEV) (b := 1152921504606846976) hrs NEV_i).mp c_167; exact this) | have hlt : ¬ rs < NEV := fun q => c_167 ((lcmp_lt (y := NEV) (b := 1152921504606846976) hrs NEV_i).mpr q)
                refine j_lret hC hR dX10_with_203 rfl ⟨_, rfl, ?_, rfl⟩
                unfold cs; rw [if_pos hy]
                first | (rw [if_neg (show ¬ NEV ≤ rs by omega)]; exact wt_own hL hp hf he hff hdi hbeh (by have := hy.2.2; have := (hL.2.2.2.1 e he).1.1; have := hco.1; omega) hrs ⟨hr0, hlt⟩) | (rw [if_pos (show NEV ≤ rs by omega)]; exact NEV_i)
            · refine j_lconst hC (0) dX10_with_139 (by decide) ?_
              refine j_goto hC 160 dX10_with_140 (by decide) ?_
              refine j_lstore (lv' := [some _, some _, some _, some _, some _, some _, some _, some _, some _, some _, some _, some _, none]) hC dX10_with_160 (nlt rfl) rfl ?_
              refine j_lload hC dX10_with_162 rfl ?_
              refine j_ldc2 hC dX10_with_164 nX10_253 ?_
              refine j_lcmp_lt hC 177 dX10_with_167 dX10_with_168 (by decide) (fun c_167 => ?_) (fun c_167 => ?_)
              · refine j_lload hC dX10_with_177 rfl ?_
                refine j_aload_n hC dX10_with_179 rfl ?_
                refine m_get hC hM dX10_with_180 fX10_120 (by decide) (mFg_52 _ _) ?_
                refine j_iload_n hC dX10_with_183 rfl ?_
                refine m_ldI hC hM (by decide) dX10_with_184 (ix_nI (n := 10) (by have := hL.1.2; omega) (by omega)) ?_
                refine j_i2l hC dX10_with_185 ?_
                refine j_aload_n hC dX10_with_186 rfl ?_
                refine m_get hC hM dX10_with_187 fX10_114 (by decide) (mFg_46 _ _) ?_
                refine j_iload_n hC dX10_with_190 rfl ?_
                refine m_ldI hC hM (by decide) dX10_with_191 (ix_nI (n := 6) (by have := hL.2.1.2; omega) (by omega)) ?_
                refine j_i2l hC dX10_with_192 ?_
                refine j_iload hC dX10_with_193 rfl ?_
                refine j_i2l hC dX10_with_195 ?_
                refine j_iload hC dX10_with_196 rfl ?_
                refine j_i2l hC dX10_with_198 ?_
                refine j_lmul hC dX10_with_199 ?_
                refine j_ladd hC dX10_with_200 ?_
                refine j_lmul hC dX10_with_201 ?_
                refine j_ladd hC dX10_with_202 ?_
                first | have hpl : p + 1 = cn S 50 := (nI_eq (by omega) (by have := hL.1.2; omega)).mp ((nI_1 p).symm.trans (c_136.trans hL.1.1)) | have hpl : ¬ p + 1 = cn S 50 := fun q => c_136 (by rw [hL.1.1, ← q]; exact nI_1 p)
                skip
                first | rw [if_pos hpl] at hrs | rw [if_neg hpl] at hrs
                first | have hlt : rs < NEV := by (have := (lcmp_lt (y := NEV) (b := 1152921504606846976) hrs NEV_i).mp c_167; exact this) | have hlt : ¬ rs < NEV := fun q => c_167 ((lcmp_lt (y := NEV) (b := 1152921504606846976) hrs NEV_i).mpr q)
                refine j_lret hC hR dX10_with_203 rfl ⟨_, rfl, ?_, rfl⟩
                unfold cs; rw [if_pos hy]
                first | (rw [if_neg (show ¬ NEV ≤ rs by omega)]; exact wt_own hL hp hf he hff hdi hbeh (by have := hy.2.2; have := (hL.2.2.2.1 e he).1.1; have := hco.1; omega) hrs ⟨hr0, hlt⟩) | (rw [if_pos (show NEV ≤ rs by omega)]; exact NEV_i)
              · refine j_ldc2 hC dX10_with_171 nX10_253 ?_
                refine j_goto hC 203 dX10_with_174 (by decide) ?_
                first | have hpl : p + 1 = cn S 50 := (nI_eq (by omega) (by have := hL.1.2; omega)).mp ((nI_1 p).symm.trans (c_136.trans hL.1.1)) | have hpl : ¬ p + 1 = cn S 50 := fun q => c_136 (by rw [hL.1.1, ← q]; exact nI_1 p)
                skip
                first | rw [if_pos hpl] at hrs | rw [if_neg hpl] at hrs
                first | have hlt : rs < NEV := by (have := (lcmp_lt (y := NEV) (b := 1152921504606846976) hrs NEV_i).mp c_167; exact this) | have hlt : ¬ rs < NEV := fun q => c_167 ((lcmp_lt (y := NEV) (b := 1152921504606846976) hrs NEV_i).mpr q)
                refine j_lret hC hR dX10_with_203 rfl ⟨_, rfl, ?_, rfl⟩
                unfold cs; rw [if_pos hy]
                first | (rw [if_neg (show ¬ NEV ≤ rs by omega)]; exact wt_own hL hp hf he hff hdi hbeh (by have := hy.2.2; have := (hL.2.2.2.1 e he).1.1; have := hco.1; omega) hrs ⟨hr0, hlt⟩) | (rw [if_pos (show NEV ≤ rs by omega)]; exact NEV_i)
          · refine j_ldc2 hC dX10_with_125 nX10_253 ?_
            have hdeep := wt_deep hL hp hf he hff hco
            have hbeh := wt_beh hL hp hf he hff
            first | have hbef := wt_bef hL hp hf he hff (g := S.1 48 0) (by unfold abv; rw [if_pos ((nI_eq (by omega) (by omega)).mp (c_12.trans nI_0.symm))]) | have hbef := wt_bef hL hp hf he hff (g := S.1 51 (p - 1)) (by unfold abv; rw [if_neg (fun q => c_12 (by rw [q]; exact nI_0))])
            have hn : ¬ fea S co.toInt p fell e f := fun q => c_122 (Int32.le_iff_toInt_le.mpr (by rw [hdeep, hbeh]; exact q.2.2))
            exact j_lret hC hR dX10_with_128 rfl ⟨_, rfl, by rw [NEV_i]; unfold cs; rw [if_neg hn], rfl⟩
    · refine j_iconst hC (1) dX10_with_99 (by decide) ?_
      refine j_goto hC 104 dX10_with_100 (by decide) ?_
      refine j_istore (lv' := [some _, some _, some _, some _, some _, some _, some _, some _, some _, some _, some _, none, none]) hC dX10_with_104 (nlt rfl) rfl ?_
      refine j_iload hC dX10_with_106 rfl ?_
      refine j_if_eq hC 125 dX10_with_108 (by decide) (fun c_108 => ?_) (fun c_108 => ?_)
      · refine j_ldc2 hC dX10_with_125 nX10_253 ?_
        have hdeep := wt_deep hL hp hf he hff hco
        have hbeh := wt_beh hL hp hf he hff
        first | have hbef := wt_bef hL hp hf he hff (g := S.1 48 0) (by unfold abv; rw [if_pos ((nI_eq (by omega) (by omega)).mp (c_12.trans nI_0.symm))]) | have hbef := wt_bef hL hp hf he hff (g := S.1 51 (p - 1)) (by unfold abv; rw [if_neg (fun q => c_12 (by rw [q]; exact nI_0))])
        have hn : ¬ fea S co.toInt p fell e f := fun q => by first | exact absurd ((lcmp_lt (wt_l hL hp hf he hff) (wt_r hL hp)).mp c_95) (by have := q.1; omega) | exact absurd rfl c_108 | exact absurd c_108 (by decide)
        exact j_lret hC hR dX10_with_128 rfl ⟨_, rfl, by rw [NEV_i]; unfold cs; rw [if_neg hn], rfl⟩
      · refine j_iload hC dX10_with_111 rfl ?_
        refine j_iload hC dX10_with_113 rfl ?_
        refine j_icmp_lt hC 125 dX10_with_115 (by decide) (fun c_115 => ?_) (fun c_115 => ?_)
        · refine j_ldc2 hC dX10_with_125 nX10_253 ?_
          have hdeep := wt_deep hL hp hf he hff hco
          have hbeh := wt_beh hL hp hf he hff
          first | have hbef := wt_bef hL hp hf he hff (g := S.1 48 0) (by unfold abv; rw [if_pos ((nI_eq (by omega) (by omega)).mp (c_12.trans nI_0.symm))]) | have hbef := wt_bef hL hp hf he hff (g := S.1 51 (p - 1)) (by unfold abv; rw [if_neg (fun q => c_12 (by rw [q]; exact nI_0))])
          have hn : ¬ fea S co.toInt p fell e f := fun q => absurd ((icmp_lt hbef hdeep).mp c_115) (by have := q.2.1; omega)
          exact j_lret hC hR dX10_with_128 rfl ⟨_, rfl, by rw [NEV_i]; unfold cs; rw [if_neg hn], rfl⟩
        · refine j_iload hC dX10_with_118 rfl ?_
          refine j_iload hC dX10_with_120 rfl ?_
          refine j_icmp_ge hC 129 dX10_with_122 (by decide) (fun c_122 => ?_) (fun c_122 => ?_)
          · have hdeep := wt_deep hL hp hf he hff hco
            have hbeh := wt_beh hL hp hf he hff
            first | have hbef := wt_bef hL hp hf he hff (g := S.1 48 0) (by unfold abv; rw [if_pos ((nI_eq (by omega) (by omega)).mp (c_12.trans nI_0.symm))]) | have hbef := wt_bef hL hp hf he hff (g := S.1 51 (p - 1)) (by unfold abv; rw [if_neg (fun q => c_12 (by rw [q]; exact nI_0))])
            have hca : 1000 * (S.1 52 p).toInt * (S.1 53 p).toInt ≤ (S.1 45 e).toInt * (S.1 45 e).toInt * (f : Int) := by first | exact Int.not_lt.mp (fun q => c_95 ((lcmp_lt (wt_l hL hp hf he hff) (wt_r hL hp)).mpr q)) | exact absurd rfl c_108
            have hy : fea S co.toInt p fell e f := ⟨hca, Int.not_lt.mp (fun q => c_115 ((icmp_lt hbef hdeep).mpr q)), by have := Int32.le_iff_toInt_le.mp c_122; rw [hdeep, hbeh] at this; exact this⟩
            refine j_iload_n hC dX10_with_129 rfl ?_
            refine j_iconst hC (1) dX10_with_130 (by decide) ?_
            refine j_iadd hC dX10_with_131 ?_
            refine j_aload_n hC dX10_with_132 rfl ?_
            refine m_get hC hM dX10_with_133 fX10_250 (by decide) (mFg_50 _ _) ?_
            refine j_icmp_ne hC 143 dX10_with_136 (by decide) (fun c_136 => ?_) (fun c_136 => ?_)
            · refine j_aload_n hC dX10_with_143 rfl ?_
              refine m_get hC hM dX10_with_144 fX10_126 (by decide) (mFg_54 _ _) ?_
              refine j_aload_n hC dX10_with_147 rfl ?_
              refine j_iload_n hC dX10_with_148 rfl ?_
              refine j_iconst hC (1) dX10_with_149 (by decide) ?_
              refine j_iadd hC dX10_with_150 ?_
              refine J.toI (nI_1 p) ?_
              refine j_iload_n hC dX10_with_151 rfl ?_
              refine j_iload hC dX10_with_152 rfl ?_
              refine j_iadd hC dX10_with_154 ?_
              refine J.toI (nI_add fell f) ?_
              refine j_iload_n hC dX10_with_155 rfl ?_
              refine j_callv (kc' := 0) (ks' := 0) (r := (RX10, TX10, 59)) hC (m_place K (p + 1) (fell + f) e hM.1) dX10_with_156 wX10_place lX10_255 i_yX10_place s_yX10_place hM.1.1 rfl rfl rfl (nle rfl) rfl (by decide) (by decide) (by decide) (kI fun r w' hp => ?_)
              obtain ⟨rfl, hw⟩ := hp
              rw [hw]
              clear hw w'
              refine m_ldJ hC hM (by decide) dX10_with_159 ((ix_nI (n := 26466) (plc_lt (by have := hL.1.2; have : p + 1 ≠ cn S 50 := fun q => c_136 (by rw [hL.1.1, ← q]; exact nI_1 p); omega) (by omega) (by have := hL.2.1.2; omega)) (by omega))) ?_
              refine j_lstore (lv' := [some _, some _, some _, some _, some _, some _, some _, some _, some _, some _, some _, some _, none]) hC dX10_with_160 (nlt rfl) rfl ?_
              refine j_lload hC dX10_with_162 rfl ?_
              refine j_ldc2 hC dX10_with_164 nX10_253 ?_
              refine j_lcmp_lt hC 177 dX10_with_167 dX10_with_168 (by decide) (fun c_167 => ?_) (fun c_167 => ?_)
              · refine j_lload hC dX10_with_177 rfl ?_
                refine j_aload_n hC dX10_with_179 rfl ?_
                refine m_get hC hM dX10_with_180 fX10_120 (by decide) (mFg_52 _ _) ?_
                refine j_iload_n hC dX10_with_183 rfl ?_
                refine m_ldI hC hM (by decide) dX10_with_184 (ix_nI (n := 10) (by have := hL.1.2; omega) (by omega)) ?_
                refine j_i2l hC dX10_with_185 ?_
                refine j_aload_n hC dX10_with_186 rfl ?_
                refine m_get hC hM dX10_with_187 fX10_114 (by decide) (mFg_46 _ _) ?_
                refine j_iload_n hC dX10_with_190 rfl ?_
                refine m_ldI hC hM (by decide) dX10_with_191 (ix_nI (n := 6) (by have := hL.2.1.2; omega) (by omega)) ?_
                refine j_i2l hC dX10_with_192 ?_
                refine j_iload hC dX10_with_193 rfl ?_
                refine j_i2l hC dX10_with_195 ?_
                refine j_iload hC dX10_with_196 rfl ?_
                refine j_i2l hC dX10_with_198 ?_
                refine j_lmul hC dX10_with_199 ?_
                refine j_ladd hC dX10_with_200 ?_
                refine j_lmul hC dX10_with_201 ?_
                refine j_ladd hC dX10_with_202 ?_
                first | have hpl : p + 1 = cn S 50 := (nI_eq (by omega) (by have := hL.1.2; omega)).mp ((nI_1 p).symm.trans (c_136.trans hL.1.1)) | have hpl : ¬ p + 1 = cn S 50 := fun q => c_136 (by rw [hL.1.1, ← q]; exact nI_1 p)
                skip
                first | rw [if_pos hpl] at hrs | rw [if_neg hpl] at hrs
                first | have hlt : rs < NEV := by (have := (lcmp_lt (y := NEV) (b := 1152921504606846976) hrs NEV_i).mp c_167; exact this) | have hlt : ¬ rs < NEV := fun q => c_167 ((lcmp_lt (y := NEV) (b := 1152921504606846976) hrs NEV_i).mpr q)
                refine j_lret hC hR dX10_with_203 rfl ⟨_, rfl, ?_, rfl⟩
                unfold cs; rw [if_pos hy]
                first | (rw [if_neg (show ¬ NEV ≤ rs by omega)]; exact wt_own hL hp hf he hff hdi hbeh (by have := hy.2.2; have := (hL.2.2.2.1 e he).1.1; have := hco.1; omega) hrs ⟨hr0, hlt⟩) | (rw [if_pos (show NEV ≤ rs by omega)]; exact NEV_i)
              · refine j_ldc2 hC dX10_with_171 nX10_253 ?_
                refine j_goto hC 203 dX10_with_174 (by decide) ?_
                first | have hpl : p + 1 = cn S 50 := (nI_eq (by omega) (by have := hL.1.2; omega)).mp ((nI_1 p).symm.trans (c_136.trans hL.1.1)) | have hpl : ¬ p + 1 = cn S 50 := fun q => c_136 (by rw [hL.1.1, ← q]; exact nI_1 p)
                skip
                first | rw [if_pos hpl] at hrs | rw [if_neg hpl] at hrs
                first | have hlt : rs < NEV := by (have := (lcmp_lt (y := NEV) (b := 1152921504606846976) hrs NEV_i).mp c_167; exact this) | have hlt : ¬ rs < NEV := fun q => c_167 ((lcmp_lt (y := NEV) (b := 1152921504606846976) hrs NEV_i).mpr q)
                refine j_lret hC hR dX10_with_203 rfl ⟨_, rfl, ?_, rfl⟩
                unfold cs; rw [if_pos hy]
                first | (rw [if_neg (show ¬ NEV ≤ rs by omega)]; exact wt_own hL hp hf he hff hdi hbeh (by have := hy.2.2; have := (hL.2.2.2.1 e he).1.1; have := hco.1; omega) hrs ⟨hr0, hlt⟩) | (rw [if_pos (show NEV ≤ rs by omega)]; exact NEV_i)
            · refine j_lconst hC (0) dX10_with_139 (by decide) ?_
              refine j_goto hC 160 dX10_with_140 (by decide) ?_
              refine j_lstore (lv' := [some _, some _, some _, some _, some _, some _, some _, some _, some _, some _, some _, some _, none]) hC dX10_with_160 (nlt rfl) rfl ?_
              refine j_lload hC dX10_with_162 rfl ?_
              refine j_ldc2 hC dX10_with_164 nX10_253 ?_
              refine j_lcmp_lt hC 177 dX10_with_167 dX10_with_168 (by decide) (fun c_167 => ?_) (fun c_167 => ?_)
              · refine j_lload hC dX10_with_177 rfl ?_
                refine j_aload_n hC dX10_with_179 rfl ?_
                refine m_get hC hM dX10_with_180 fX10_120 (by decide) (mFg_52 _ _) ?_
                refine j_iload_n hC dX10_with_183 rfl ?_
                refine m_ldI hC hM (by decide) dX10_with_184 (ix_nI (n := 10) (by have := hL.1.2; omega) (by omega)) ?_
                refine j_i2l hC dX10_with_185 ?_
                refine j_aload_n hC dX10_with_186 rfl ?_
                refine m_get hC hM dX10_with_187 fX10_114 (by decide) (mFg_46 _ _) ?_
                refine j_iload_n hC dX10_with_190 rfl ?_
                refine m_ldI hC hM (by decide) dX10_with_191 (ix_nI (n := 6) (by have := hL.2.1.2; omega) (by omega)) ?_
                refine j_i2l hC dX10_with_192 ?_
                refine j_iload hC dX10_with_193 rfl ?_
                refine j_i2l hC dX10_with_195 ?_
                refine j_iload hC dX10_with_196 rfl ?_
                refine j_i2l hC dX10_with_198 ?_
                refine j_lmul hC dX10_with_199 ?_
                refine j_ladd hC dX10_with_200 ?_
                refine j_lmul hC dX10_with_201 ?_
                refine j_ladd hC dX10_with_202 ?_
                first | have hpl : p + 1 = cn S 50 := (nI_eq (by omega) (by have := hL.1.2; omega)).mp ((nI_1 p).symm.trans (c_136.trans hL.1.1)) | have hpl : ¬ p + 1 = cn S 50 := fun q => c_136 (by rw [hL.1.1, ← q]; exact nI_1 p)
                skip
                first | rw [if_pos hpl] at hrs | rw [if_neg hpl] at hrs
                first | have hlt : rs < NEV := by (have := (lcmp_lt (y := NEV) (b := 1152921504606846976) hrs NEV_i).mp c_167; exact this) | have hlt : ¬ rs < NEV := fun q => c_167 ((lcmp_lt (y := NEV) (b := 1152921504606846976) hrs NEV_i).mpr q)
                refine j_lret hC hR dX10_with_203 rfl ⟨_, rfl, ?_, rfl⟩
                unfold cs; rw [if_pos hy]
                first | (rw [if_neg (show ¬ NEV ≤ rs by omega)]; exact wt_own hL hp hf he hff hdi hbeh (by have := hy.2.2; have := (hL.2.2.2.1 e he).1.1; have := hco.1; omega) hrs ⟨hr0, hlt⟩) | (rw [if_pos (show NEV ≤ rs by omega)]; exact NEV_i)
              · refine j_ldc2 hC dX10_with_171 nX10_253 ?_
                refine j_goto hC 203 dX10_with_174 (by decide) ?_
                first | have hpl : p + 1 = cn S 50 := (nI_eq (by omega) (by have := hL.1.2; omega)).mp ((nI_1 p).symm.trans (c_136.trans hL.1.1)) | have hpl : ¬ p + 1 = cn S 50 := fun q => c_136 (by rw [hL.1.1, ← q]; exact nI_1 p)
                skip
                first | rw [if_pos hpl] at hrs | rw [if_neg hpl] at hrs
                first | have hlt : rs < NEV := by (have := (lcmp_lt (y := NEV) (b := 1152921504606846976) hrs NEV_i).mp c_167; exact this) | have hlt : ¬ rs < NEV := fun q => c_167 ((lcmp_lt (y := NEV) (b := 1152921504606846976) hrs NEV_i).mpr q)
                refine j_lret hC hR dX10_with_203 rfl ⟨_, rfl, ?_, rfl⟩
                unfold cs; rw [if_pos hy]
                first | (rw [if_neg (show ¬ NEV ≤ rs by omega)]; exact wt_own hL hp hf he hff hdi hbeh (by have := hy.2.2; have := (hL.2.2.2.1 e he).1.1; have := hco.1; omega) hrs ⟨hr0, hlt⟩) | (rw [if_pos (show NEV ≤ rs by omega)]; exact NEV_i)
          · refine j_ldc2 hC dX10_with_125 nX10_253 ?_
            have hdeep := wt_deep hL hp hf he hff hco
            have hbeh := wt_beh hL hp hf he hff
            first | have hbef := wt_bef hL hp hf he hff (g := S.1 48 0) (by unfold abv; rw [if_pos ((nI_eq (by omega) (by omega)).mp (c_12.trans nI_0.symm))]) | have hbef := wt_bef hL hp hf he hff (g := S.1 51 (p - 1)) (by unfold abv; rw [if_neg (fun q => c_12 (by rw [q]; exact nI_0))])
            have hn : ¬ fea S co.toInt p fell e f := fun q => c_122 (Int32.le_iff_toInt_le.mpr (by rw [hdeep, hbeh]; exact q.2.2))
            exact j_lret hC hR dX10_with_128 rfl ⟨_, rfl, by rw [NEV_i]; unfold cs; rw [if_neg hn], rfl⟩

