
def cn (S : Ast) (k : Nat) : Nat := (S.1 k 0).toNatClampNeg
def CN (S : Ast) (k b : Nat) : Prop := S.1 k 0 = nI (cn S k) ∧ cn S k ≤ b
theorem CN.ix {S : Ast} {k b : Nat} (h : CN S k b) (B : Int32) (hb : b < 2 ^ 31) (hB : B = nI b) (hne : ¬ S.1 k 0 = B) : ix (S.1 k 0) b (cn S k) := by
  have hlt : cn S k < b := by
    rcases Nat.lt_or_ge (cn S k) b with q | q
    · exact q
    · exfalso
      apply hne
      rw [hB, h.1, show cn S k = b by have := h.2; omega]
  refine ⟨?_, rfl⟩
  rw [h.1]
  exact vp_in_nI hlt hb
theorem wI_in {v lo hi : Int32} (h : ¬ wI v lo hi = 0) : ¬ v < lo ∧ ¬ hi < v := by
  unfold wI at h
  by_cases h1 : v < lo
  · simp [h1] at h
  · by_cases h2 : hi < v
    · simp [h1, h2] at h
    · exact ⟨h1, h2⟩
theorem wI_ix {v : Int32} {n b : Nat} (hn : n ≤ b) (hb : b < 2 ^ 30) (h : ¬ wI v 0 (nI n - 1) = 0) : v = nI v.toNatClampNeg ∧ v.toNatClampNeg < n ∧ ix v b v.toNatClampNeg := by
  obtain ⟨h1, h2⟩ := wI_in h
  obtain ⟨j, hj, rfl⟩ := nI_of h1
  rw [nI_clamp hj]
  have hjn : j < n := by
    rcases Nat.lt_or_ge j n with q | q
    · exact q
    · exfalso
      apply h2
      cases n with
      | zero =>
        refine Int32.lt_iff_toInt_lt.mpr ?_
        rw [nI_toInt hj]
        have : (nI 0 - 1).toInt = -1 := by decide
        omega
      | succ n =>
        rw [nI_pred]
        exact nI_lt (by omega) hj
  exact ⟨rfl, hjn, ix_nI (by omega) (by omega)⟩
theorem isn {S : Ast} (h : CN S 1 24) {k : Int32} (hk : ¬ wI k 0 (S.1 1 0 - 1) = 0) : k = nI k.toNatClampNeg ∧ k.toNatClampNeg < cn S 1 ∧ ix k 24 k.toNatClampNeg := by
  rw [h.1] at hk
  exact wI_ix h.2 (by omega) hk
section TS
variable {K : Kx} {own : String} {cc : ByteArray} {nL d : Nat} {E : Ex} {kc ks : Nat} {w : Wd} {pc : Nat} {lv : List (Option Value)} {st : List Value}
theorem j_tableIn (hC : BX K own cc nL d E) {dflt lo hi off : Int} {offs : Array Int} {len : Nat} {x : Int32} (tgt : Nat) (hd : decode cc pc = .ok (.tableswitch dflt lo hi offs, len)) (h1' : ¬ x.toInt < lo) (h2' : ¬ hi < x.toInt) (ho : offs[(x.toInt - lo).toNat]? = some off) (ht : (pc : Int) + off = (tgt : Int)) (k : J K cc E kc ks w tgt lv st) : J K cc E kc ks w pc lv (.int x :: st) := by
  obtain ⟨p, e, R, s, m, args, below, meth, c, Q⟩ := E
  obtain ⟨hx, hb, hml, hown, hts, hK, hSt, hlk, hfr, hlo, hBs⟩ := hC
  intro H locs cells slots ls h1 h2 h3 h4 h5 h6
  exact lv_tableIn hx hb hd h1' h2' ho ht (k H locs cells slots ls h1 h2 h3 h4 h5 h6)
theorem j_tableOut (hC : BX K own cc nL d E) {dflt lo hi : Int} {offs : Array Int} {len : Nat} {x : Int32} (tgt : Nat) (hd : decode cc pc = .ok (.tableswitch dflt lo hi offs, len)) (h : x.toInt < lo ∨ hi < x.toInt) (ht : (pc : Int) + dflt = (tgt : Int)) (k : J K cc E kc ks w tgt lv st) : J K cc E kc ks w pc lv (.int x :: st) := by
  obtain ⟨p, e, R, s, m, args, below, meth, c, Q⟩ := E
  obtain ⟨hx, hb, hml, hown, hts, hK, hSt, hlk, hfr, hlo, hBs⟩ := hC
  intro H locs cells slots ls h1 h2 h3 h4 h5 h6
  exact lv_tableOut hx hb hd h ht (k H locs cells slots ls h1 h2 h3 h4 h5 h6)
end TS
theorem tab_cases (x : Int32) (n : Nat) (hn : n < 2 ^ 31) (N : Int) (hN : N = (n : Int) - 1) : (x.toInt < 0 ∨ N < x.toInt) ∨ ∃ j : Nat, j < n ∧ x = nI j := by
  rcases pk_ix x hn with h | h | h
  · left; left
    have := Int32.lt_iff_toInt_lt.mp h
    simpa using this
  · left; right
    have := Int32.le_iff_toInt_le.mp h
    rw [nI_toInt hn] at this
    omega
  · right; exact h


abbrev okN (S : Ast) (g b r : Int32) : Prop := ¬ S.1 1 0 = S.1 0 0 ∧ ¬ wI g (-100000) 100000 = 0 ∧ ¬ wI b (-100000) 100000 = 0 ∧ ¬ g ≤ b ∧ ¬ wI r 1 100000 = 0
def sN (S : Ast) (g b r : Int32) : Ast := uI (uI (uI (uI (uI S 2 (cn S 1) g) 3 (cn S 1) b) 4 (cn S 1) r) 5 (cn S 1) (-1)) 1 0 (S.1 1 0 + 1)
abbrev okP (S : Ast) (f t l x : Int32) : Prop := ¬ S.1 10 0 = 40 ∧ ¬ wI f 0 (S.1 1 0 - 1) = 0 ∧ ¬ wI t 0 (S.1 1 0 - 1) = 0 ∧ ¬ f = t ∧ ¬ wI l 1 10000 = 0 ∧ ¬ wI x 10 3000 = 0
def sP (S : Ast) (f t l x : Int32) : Ast := uI (uI (uI (uI (uI S 11 (cn S 10) f) 12 (cn S 10) t) 13 (cn S 10) l) 14 (cn S 10) x) 10 0 (S.1 10 0 + 1)
abbrev okA (S : Ast) (n q l : Int32) : Prop := ¬ S.1 18 0 = 24 ∧ ¬ wI n 0 (S.1 1 0 - 1) = 0 ∧ ¬ wI q 1 1000000 = 0 ∧ ¬ wI l 0 1000 = 0
def sA (S : Ast) (n q l : Int32) : Ast := uI (uI (uI (uI S 19 (cn S 18) n) 20 (cn S 18) q) 21 (cn S 18) l) 18 0 (S.1 18 0 + 1)
abbrev okR (mi v : Int32) : Prop := ¬ wI mi 0 1439 = 0 ∧ ¬ wI v 0 20000 = 0
abbrev okU (S : Ast) (n t on off ra : Int32) : Prop := ¬ S.1 24 0 = 8 ∧ ¬ wI n 0 (S.1 1 0 - 1) = 0 ∧ ¬ wI t 0 (S.1 1 0 - 1) = 0 ∧ ¬ n = t ∧ ¬ on ≤ off ∧ ¬ wI ra 1 100000 = 0
def sU (S : Ast) (n t on off ra : Int32) : Ast := uI (uI (uI (uI (uI (uI S 25 (cn S 24) n) 26 (cn S 24) t) 27 (cn S 24) on) 28 (cn S 24) off) 29 (cn S 24) ra) 24 0 (S.1 24 0 + 1)
abbrev okG (S : Ast) (n h ra : Int32) : Prop := ¬ S.1 31 0 = 8 ∧ ¬ wI n 0 (S.1 1 0 - 1) = 0 ∧ ¬ wI h 0 200000 = 0 ∧ ¬ wI ra 1 1000000 = 0
def sG (S : Ast) (n h ra : Int32) : Ast := uI (uI (uI (uI S 32 (cn S 31) n) 33 (cn S 31) h) 34 (cn S 31) ra) 31 0 (S.1 31 0 + 1)
abbrev okL (S : Ast) (c n ra : Int32) : Prop := ¬ S.1 35 0 = 8 ∧ ¬ wI c 0 7 = 0 ∧ ¬ wI n 0 (S.1 1 0 - 1) = 0 ∧ ¬ wI ra 1 100000 = 0
def sL (S : Ast) (c n ra : Int32) : Ast := uI (uI (uI (uI S 36 (cn S 35) c) 37 (cn S 35) n) 38 (cn S 35) ra) 35 0 (S.1 35 0 + 1)
abbrev okS (S : Ast) (n c : Int32) : Prop := ¬ wI n 0 (S.1 1 0 - 1) = 0 ∧ ¬ wI c (-1) 7 = 0

set_option maxRecDepth 100000 in
set_option maxHeartbeats 4000000 in
theorem m_is (K : Kx) {w : Wd} (v lo hi : Int32)  : MT K mX10_is 0 0 0 [.int v, .int lo, .int hi] w (PI fun r w' => r = wI v lo hi ∧ w' = w) := by
  refine MT.of [some (.int v), some (.int lo), some (.int hi)] (by decide) rfl (nle rfl) rfl ?_
  intro E hC hR
  refine j_iload_n hC dX10_is_0 rfl ?_
  refine j_iload_n hC dX10_is_1 rfl ?_
  refine j_icmp_lt hC 14 dX10_is_2 (by decide) (fun c_2 => ?_) (fun c_2 => ?_)
  · refine j_iconst hC (0) dX10_is_14 (by decide) ?_
    exact j_zret hC hR dX10_is_15 rfl (by decide) ⟨_, rfl, by first | (simp [wI, c_2]; done) | (simp [wI, c_2, c_7]; done), rfl⟩
  · refine j_iload_n hC dX10_is_5 rfl ?_
    refine j_iload_n hC dX10_is_6 rfl ?_
    refine j_icmp_gt hC 14 dX10_is_7 (by decide) (fun c_7 => ?_) (fun c_7 => ?_)
    · refine j_iconst hC (0) dX10_is_14 (by decide) ?_
      exact j_zret hC hR dX10_is_15 rfl (by decide) ⟨_, rfl, by first | (simp [wI, c_2]; done) | (simp [wI, c_2, c_7]; done), rfl⟩
    · refine j_iconst hC (1) dX10_is_10 (by decide) ?_
      refine j_goto hC 15 dX10_is_11 (by decide) ?_
      exact j_zret hC hR dX10_is_15 rfl (by decide) ⟨_, rfl, by first | (simp [wI, c_2]; done) | (simp [wI, c_2, c_7]; done), rfl⟩

set_option maxRecDepth 100000 in
set_option maxHeartbeats 4000000 in
theorem m_isNode (K : Kx) {w : Wd} {m : Nat} {ad : Nat → Nat} {S : Ast} (k : Int32) (hA : MA K.2.1 w m ad S)  : MT K mX10_isNode 1 0 0 [.ref m, .int k] w (PI fun r w' => r = wI k 0 (S.1 1 0 - 1) ∧ w' = w) := by
  refine MT.of [some (.ref m), some (.int k)] (by decide) rfl (nle rfl) rfl ?_
  intro E hC hR
  have hM := MB.rf hA
  refine j_iload_n hC dX10_isNode_0 rfl ?_
  refine j_iconst hC (0) dX10_isNode_1 (by decide) ?_
  refine j_aload_n hC dX10_isNode_2 rfl ?_
  refine m_get hC hM dX10_isNode_3 fX10_142 (by decide) (mFg_1 _ _) ?_
  refine j_iconst hC (1) dX10_isNode_6 (by decide) ?_
  refine j_isub hC dX10_isNode_7 ?_
  refine j_calls (kc' := 0) (ks' := 0) hC (m_is K k 0 (S.1 1 0 - 1)) dX10_isNode_8 wX10_is lX10_145 t_yX10_is rfl rfl (nle rfl) rfl (by decide) (by decide) (by decide) (kI fun r w' hp => ?_)
  obtain ⟨rfl, hw⟩ := hp
  rw [hw]
  clear hw w'
  exact j_zret hC hR dX10_isNode_11 rfl (wI_nar _ _ _) ⟨_, rfl, rfl, rfl⟩

set_option maxRecDepth 100000 in
set_option maxHeartbeats 4000000 in
theorem m_node (K : Kx) {w : Wd} {m : Nat} {ad : Nat → Nat} {S : Ast} (g b r : Int32) (hA : MA K.2.1 w m ad S) (h1 : CN S 1 24) (h0 : ¬ S.1 1 0 = S.1 0 0 → cn S 1 < 24) : MT K mX10_node 2 0 0 [.ref m, .int g, .int b, .int r] w (PI fun rr w' => rr = (if okN S g b r then S.1 1 0 else (-1)) ∧ MB K.2.1 w w' m ad (if okN S g b r then sN S g b r else S)) := by
  refine MT.of [some (.ref m), some (.int g), some (.int b), some (.int r)] (by decide) rfl (nle rfl) rfl ?_
  intro E hC hR
  have hM := MB.rf hA
  refine j_aload_n hC dX10_node_0 rfl ?_
  refine m_get hC hM dX10_node_1 fX10_142 (by decide) (mFg_1 _ _) ?_
  refine j_aload_n hC dX10_node_4 rfl ?_
  refine m_get hC hM dX10_node_5 fX10_138 (by decide) (mFg_0 _ _) ?_
  refine j_icmp_eq hC 48 dX10_node_8 (by decide) (fun c_8 => ?_) (fun c_8 => ?_)
  · refine j_iconst hC (-1) dX10_node_48 (by decide) ?_
    have hok : ¬ okN S g b r := by simp [okN, c_8, Int32.not_le, Int32.not_lt]
    exact j_iret hC hR dX10_node_49 rfl ⟨_, rfl, by rw [if_neg hok], by rw [if_neg hok]; exact hM⟩
  · refine j_iload_n hC dX10_node_11 rfl ?_
    refine j_ldc hC dX10_node_12 nX10_149 ?_
    refine j_ldc hC dX10_node_14 nX10_150 ?_
    refine j_calls (kc' := 0) (ks' := 0) hC (m_is K g (-100000) 100000) dX10_node_16 wX10_is lX10_145 t_yX10_is rfl rfl (nle rfl) rfl (by decide) (by decide) (by decide) (kI fun r w' hp => ?_)
    obtain ⟨rfl, hw⟩ := hp
    rw [hw]
    clear hw w'
    refine j_if_eq hC 48 dX10_node_19 (by decide) (fun c_19 => ?_) (fun c_19 => ?_)
    · refine j_iconst hC (-1) dX10_node_48 (by decide) ?_
      have hok : ¬ okN S g b r := by simp [okN, c_8, c_19, Int32.not_le, Int32.not_lt]
      exact j_iret hC hR dX10_node_49 rfl ⟨_, rfl, by rw [if_neg hok], by rw [if_neg hok]; exact hM⟩
    · refine j_iload_n hC dX10_node_22 rfl ?_
      refine j_ldc hC dX10_node_23 nX10_149 ?_
      refine j_ldc hC dX10_node_25 nX10_150 ?_
      refine j_calls (kc' := 0) (ks' := 0) hC (m_is K b (-100000) 100000) dX10_node_27 wX10_is lX10_145 t_yX10_is rfl rfl (nle rfl) rfl (by decide) (by decide) (by decide) (kI fun r w' hp => ?_)
      obtain ⟨rfl, hw⟩ := hp
      rw [hw]
      clear hw w'
      refine j_if_eq hC 48 dX10_node_30 (by decide) (fun c_30 => ?_) (fun c_30 => ?_)
      · refine j_iconst hC (-1) dX10_node_48 (by decide) ?_
        have hok : ¬ okN S g b r := by simp [okN, c_8, c_19, c_30, Int32.not_le, Int32.not_lt]
        exact j_iret hC hR dX10_node_49 rfl ⟨_, rfl, by rw [if_neg hok], by rw [if_neg hok]; exact hM⟩
      · refine j_iload_n hC dX10_node_33 rfl ?_
        refine j_iload_n hC dX10_node_34 rfl ?_
        refine j_icmp_ge hC 48 dX10_node_35 (by decide) (fun c_35 => ?_) (fun c_35 => ?_)
        · refine j_iconst hC (-1) dX10_node_48 (by decide) ?_
          have hok : ¬ okN S g b r := by simp [okN, c_8, c_19, c_30, c_35, Int32.not_le, Int32.not_lt]
          exact j_iret hC hR dX10_node_49 rfl ⟨_, rfl, by rw [if_neg hok], by rw [if_neg hok]; exact hM⟩
        · refine j_iload_n hC dX10_node_38 rfl ?_
          refine j_iconst hC (1) dX10_node_39 (by decide) ?_
          refine j_ldc hC dX10_node_40 nX10_150 ?_
          refine j_calls (kc' := 0) (ks' := 0) hC (m_is K r 1 100000) dX10_node_42 wX10_is lX10_145 t_yX10_is rfl rfl (nle rfl) rfl (by decide) (by decide) (by decide) (kI fun r w' hp => ?_)
          obtain ⟨rfl, hw⟩ := hp
          rw [hw]
          clear hw w'
          refine j_if_ne hC 50 dX10_node_45 (by decide) (fun c_45 => ?_) (fun c_45 => ?_)
          · have hx : ix (S.1 1 0) 24 (cn S 1) := ⟨by rw [h1.1]; exact vp_in_nI (h0 c_8) (by omega), rfl⟩
            refine j_aload_n hC dX10_node_50 rfl ?_
            refine m_get hC hM dX10_node_51 fX10_7 (by decide) (mFg_2 _ _) ?_
            refine j_aload_n hC dX10_node_54 rfl ?_
            refine m_get hC hM dX10_node_55 fX10_142 (by decide) (mFg_1 _ _) ?_
            refine j_iload_n hC dX10_node_58 rfl ?_
            refine m_stI hC hM (by decide) dX10_node_59 (hx) (fun w1 hM => ?_)
            refine j_aload_n hC dX10_node_60 rfl ?_
            refine m_get hC hM dX10_node_61 fX10_13 (by decide) (mFg_3 _ _) ?_
            refine j_aload_n hC dX10_node_64 rfl ?_
            refine m_get hC hM dX10_node_65 fX10_142 (by decide) (mFg_1 _ _) ?_
            refine j_iload_n hC dX10_node_68 rfl ?_
            refine m_stI hC hM (by decide) dX10_node_69 (hx) (fun w2 hM => ?_)
            refine j_aload_n hC dX10_node_70 rfl ?_
            refine m_get hC hM dX10_node_71 fX10_16 (by decide) (mFg_4 _ _) ?_
            refine j_aload_n hC dX10_node_74 rfl ?_
            refine m_get hC hM dX10_node_75 fX10_142 (by decide) (mFg_1 _ _) ?_
            refine j_iload_n hC dX10_node_78 rfl ?_
            refine m_stI hC hM (by decide) dX10_node_79 (hx) (fun w3 hM => ?_)
            refine j_aload_n hC dX10_node_80 rfl ?_
            refine m_get hC hM dX10_node_81 fX10_19 (by decide) (mFg_5 _ _) ?_
            refine j_aload_n hC dX10_node_84 rfl ?_
            refine m_get hC hM dX10_node_85 fX10_142 (by decide) (mFg_1 _ _) ?_
            refine j_iconst hC (-1) dX10_node_88 (by decide) ?_
            refine m_stI hC hM (by decide) dX10_node_89 (hx) (fun w4 hM => ?_)
            refine j_aload_n hC dX10_node_90 rfl ?_
            refine j_dup hC dX10_node_91 rfl ?_
            refine m_get hC hM dX10_node_92 fX10_142 (by decide) (mFg_1 _ _) ?_
            refine j_iconst hC (1) dX10_node_95 (by decide) ?_
            refine j_iadd hC dX10_node_96 ?_
            refine m_putI hC hM (by decide) dX10_node_97 fX10_142 rfl (by decide) rfl rfl (mFs_1 _ _ _) (fun w5 hM => ?_)
            refine j_aload_n hC dX10_node_100 rfl ?_
            refine m_get hC hM dX10_node_101 fX10_142 (by decide) (mFg_1 _ _) ?_
            refine j_iconst hC (1) dX10_node_104 (by decide) ?_
            refine j_isub hC dX10_node_105 ?_
            have hok : okN S g b r := by simp [okN, c_8, c_19, c_30, c_35, c_45, Int32.not_le, Int32.not_lt]
            exact j_iret hC hR dX10_node_106 rfl ⟨_, rfl, by rw [if_pos hok]; exact Int32.add_sub_cancel _ _, by rw [if_pos hok]; exact hM⟩
          · refine j_iconst hC (-1) dX10_node_48 (by decide) ?_
            have hok : ¬ okN S g b r := by simp [okN, c_8, c_19, c_30, c_35, c_45, Int32.not_le, Int32.not_lt]
            exact j_iret hC hR dX10_node_49 rfl ⟨_, rfl, by rw [if_neg hok], by rw [if_neg hok]; exact hM⟩

set_option maxRecDepth 100000 in
set_option maxHeartbeats 4000000 in
theorem m_pipe (K : Kx) {w : Wd} {m : Nat} {ad : Nat → Nat} {S : Ast} (f t l x : Int32) (hA : MA K.2.1 w m ad S) (h2 : CN S 10 40) : MT K mX10_pipe 2 0 0 [.ref m, .int f, .int t, .int l, .int x] w (PI fun rr w' => rr = (if okP S f t l x then S.1 10 0 else (-1)) ∧ MB K.2.1 w w' m ad (if okP S f t l x then sP S f t l x else S)) := by
  refine MT.of [some (.ref m), some (.int f), some (.int t), some (.int l), some (.int x)] (by decide) rfl (nle rfl) rfl ?_
  intro E hC hR
  have hM := MB.rf hA
  refine j_aload_n hC dX10_pipe_0 rfl ?_
  refine m_get hC hM dX10_pipe_1 fX10_151 (by decide) (mFg_10 _ _) ?_
  refine j_bipush hC (40) dX10_pipe_4 (by decide) ?_
  refine j_icmp_eq hC 54 dX10_pipe_6 (by decide) (fun c_6 => ?_) (fun c_6 => ?_)
  · refine j_iconst hC (-1) dX10_pipe_54 (by decide) ?_
    have hok : ¬ okP S f t l x := by simp [okP, c_6, Int32.not_le, Int32.not_lt]
    exact j_iret hC hR dX10_pipe_55 rfl ⟨_, rfl, by rw [if_neg hok], by rw [if_neg hok]; exact hM⟩
  · refine j_aload_n hC dX10_pipe_9 rfl ?_
    refine j_iload_n hC dX10_pipe_10 rfl ?_
    refine j_callv (kc' := 0) (ks' := 0) (r := (RX10, TX10, 59)) hC (m_isNode K f hA) dX10_pipe_11 wX10_isNode lX10_154 i_yX10_isNode s_yX10_isNode hM.1.1 rfl rfl rfl (nle rfl) rfl (by decide) (by decide) (by decide) (kI fun r w' hp => ?_)
    obtain ⟨rfl, hw⟩ := hp
    rw [hw]
    clear hw w'
    refine j_if_eq hC 54 dX10_pipe_14 (by decide) (fun c_14 => ?_) (fun c_14 => ?_)
    · refine j_iconst hC (-1) dX10_pipe_54 (by decide) ?_
      have hok : ¬ okP S f t l x := by simp [okP, c_6, c_14, Int32.not_le, Int32.not_lt]
      exact j_iret hC hR dX10_pipe_55 rfl ⟨_, rfl, by rw [if_neg hok], by rw [if_neg hok]; exact hM⟩
    · refine j_aload_n hC dX10_pipe_17 rfl ?_
      refine j_iload_n hC dX10_pipe_18 rfl ?_
      refine j_callv (kc' := 0) (ks' := 0) (r := (RX10, TX10, 59)) hC (m_isNode K t hA) dX10_pipe_19 wX10_isNode lX10_154 i_yX10_isNode s_yX10_isNode hM.1.1 rfl rfl rfl (nle rfl) rfl (by decide) (by decide) (by decide) (kI fun r w' hp => ?_)
      obtain ⟨rfl, hw⟩ := hp
      rw [hw]
      clear hw w'
      refine j_if_eq hC 54 dX10_pipe_22 (by decide) (fun c_22 => ?_) (fun c_22 => ?_)
      · refine j_iconst hC (-1) dX10_pipe_54 (by decide) ?_
        have hok : ¬ okP S f t l x := by simp [okP, c_6, c_14, c_22, Int32.not_le, Int32.not_lt]
        exact j_iret hC hR dX10_pipe_55 rfl ⟨_, rfl, by rw [if_neg hok], by rw [if_neg hok]; exact hM⟩
      · refine j_iload_n hC dX10_pipe_25 rfl ?_
        refine j_iload_n hC dX10_pipe_26 rfl ?_
        refine j_icmp_eq hC 54 dX10_pipe_27 (by decide) (fun c_27 => ?_) (fun c_27 => ?_)
        · refine j_iconst hC (-1) dX10_pipe_54 (by decide) ?_
          have hok : ¬ okP S f t l x := by simp [okP, c_6, c_14, c_22, c_27, Int32.not_le, Int32.not_lt]
          exact j_iret hC hR dX10_pipe_55 rfl ⟨_, rfl, by rw [if_neg hok], by rw [if_neg hok]; exact hM⟩
        · refine j_iload_n hC dX10_pipe_30 rfl ?_
          refine j_iconst hC (1) dX10_pipe_31 (by decide) ?_
          refine j_sipush hC (10000) dX10_pipe_32 (by decide) ?_
          refine j_calls (kc' := 0) (ks' := 0) hC (m_is K l 1 10000) dX10_pipe_35 wX10_is lX10_145 t_yX10_is rfl rfl (nle rfl) rfl (by decide) (by decide) (by decide) (kI fun r w' hp => ?_)
          obtain ⟨rfl, hw⟩ := hp
          rw [hw]
          clear hw w'
          refine j_if_eq hC 54 dX10_pipe_38 (by decide) (fun c_38 => ?_) (fun c_38 => ?_)
          · refine j_iconst hC (-1) dX10_pipe_54 (by decide) ?_
            have hok : ¬ okP S f t l x := by simp [okP, c_6, c_14, c_22, c_27, c_38, Int32.not_le, Int32.not_lt]
            exact j_iret hC hR dX10_pipe_55 rfl ⟨_, rfl, by rw [if_neg hok], by rw [if_neg hok]; exact hM⟩
          · refine j_iload hC dX10_pipe_41 rfl ?_
            refine j_bipush hC (10) dX10_pipe_43 (by decide) ?_
            refine j_sipush hC (3000) dX10_pipe_45 (by decide) ?_
            refine j_calls (kc' := 0) (ks' := 0) hC (m_is K x 10 3000) dX10_pipe_48 wX10_is lX10_145 t_yX10_is rfl rfl (nle rfl) rfl (by decide) (by decide) (by decide) (kI fun r w' hp => ?_)
            obtain ⟨rfl, hw⟩ := hp
            rw [hw]
            clear hw w'
            refine j_if_ne hC 56 dX10_pipe_51 (by decide) (fun c_51 => ?_) (fun c_51 => ?_)
            · have hx : ix (S.1 10 0) 40 (cn S 10) := CN.ix h2 (40) (by omega) (by decide) c_6
              refine j_aload_n hC dX10_pipe_56 rfl ?_
              refine m_get hC hM dX10_pipe_57 fX10_35 (by decide) (mFg_11 _ _) ?_
              refine j_aload_n hC dX10_pipe_60 rfl ?_
              refine m_get hC hM dX10_pipe_61 fX10_151 (by decide) (mFg_10 _ _) ?_
              refine j_iload_n hC dX10_pipe_64 rfl ?_
              refine m_stI hC hM (by decide) dX10_pipe_65 (hx) (fun w1 hM => ?_)
              refine j_aload_n hC dX10_pipe_66 rfl ?_
              refine m_get hC hM dX10_pipe_67 fX10_38 (by decide) (mFg_12 _ _) ?_
              refine j_aload_n hC dX10_pipe_70 rfl ?_
              refine m_get hC hM dX10_pipe_71 fX10_151 (by decide) (mFg_10 _ _) ?_
              refine j_iload_n hC dX10_pipe_74 rfl ?_
              refine m_stI hC hM (by decide) dX10_pipe_75 (hx) (fun w2 hM => ?_)
              refine j_aload_n hC dX10_pipe_76 rfl ?_
              refine m_get hC hM dX10_pipe_77 fX10_41 (by decide) (mFg_13 _ _) ?_
              refine j_aload_n hC dX10_pipe_80 rfl ?_
              refine m_get hC hM dX10_pipe_81 fX10_151 (by decide) (mFg_10 _ _) ?_
              refine j_iload_n hC dX10_pipe_84 rfl ?_
              refine m_stI hC hM (by decide) dX10_pipe_85 (hx) (fun w3 hM => ?_)
              refine j_aload_n hC dX10_pipe_86 rfl ?_
              refine m_get hC hM dX10_pipe_87 fX10_44 (by decide) (mFg_14 _ _) ?_
              refine j_aload_n hC dX10_pipe_90 rfl ?_
              refine m_get hC hM dX10_pipe_91 fX10_151 (by decide) (mFg_10 _ _) ?_
              refine j_iload hC dX10_pipe_94 rfl ?_
              refine m_stI hC hM (by decide) dX10_pipe_96 (hx) (fun w4 hM => ?_)
              refine j_aload_n hC dX10_pipe_97 rfl ?_
              refine j_dup hC dX10_pipe_98 rfl ?_
              refine m_get hC hM dX10_pipe_99 fX10_151 (by decide) (mFg_10 _ _) ?_
              refine j_iconst hC (1) dX10_pipe_102 (by decide) ?_
              refine j_iadd hC dX10_pipe_103 ?_
              refine m_putI hC hM (by decide) dX10_pipe_104 fX10_151 rfl (by decide) rfl rfl (mFs_10 _ _ _) (fun w5 hM => ?_)
              refine j_aload_n hC dX10_pipe_107 rfl ?_
              refine m_get hC hM dX10_pipe_108 fX10_151 (by decide) (mFg_10 _ _) ?_
              refine j_iconst hC (1) dX10_pipe_111 (by decide) ?_
              refine j_isub hC dX10_pipe_112 ?_
              have hok : okP S f t l x := by simp [okP, c_6, c_14, c_22, c_27, c_38, c_51, Int32.not_le, Int32.not_lt]
              exact j_iret hC hR dX10_pipe_113 rfl ⟨_, rfl, by rw [if_pos hok]; exact Int32.add_sub_cancel _ _, by rw [if_pos hok]; exact hM⟩
            · refine j_iconst hC (-1) dX10_pipe_54 (by decide) ?_
              have hok : ¬ okP S f t l x := by simp [okP, c_6, c_14, c_22, c_27, c_38, c_51, Int32.not_le, Int32.not_lt]
              exact j_iret hC hR dX10_pipe_55 rfl ⟨_, rfl, by rw [if_neg hok], by rw [if_neg hok]; exact hM⟩

set_option maxRecDepth 100000 in
set_option maxHeartbeats 4000000 in
theorem m_area (K : Kx) {w : Wd} {m : Nat} {ad : Nat → Nat} {S : Ast} (n q l : Int32) (hA : MA K.2.1 w m ad S) (h2 : CN S 18 24) : MT K mX10_area 2 0 0 [.ref m, .int n, .int q, .int l] w (PI fun rr w' => rr = (if okA S n q l then S.1 18 0 else (-1)) ∧ MB K.2.1 w w' m ad (if okA S n q l then sA S n q l else S)) := by
  refine MT.of [some (.ref m), some (.int n), some (.int q), some (.int l)] (by decide) rfl (nle rfl) rfl ?_
  intro E hC hR
  have hM := MB.rf hA
  refine j_aload_n hC dX10_area_0 rfl ?_
  refine m_get hC hM dX10_area_1 fX10_158 (by decide) (mFg_18 _ _) ?_
  refine j_bipush hC (24) dX10_area_4 (by decide) ?_
  refine j_icmp_eq hC 38 dX10_area_6 (by decide) (fun c_6 => ?_) (fun c_6 => ?_)
  · refine j_iconst hC (-1) dX10_area_38 (by decide) ?_
    have hok : ¬ okA S n q l := by simp [okA, c_6, Int32.not_le, Int32.not_lt]
    exact j_iret hC hR dX10_area_39 rfl ⟨_, rfl, by rw [if_neg hok], by rw [if_neg hok]; exact hM⟩
  · refine j_aload_n hC dX10_area_9 rfl ?_
    refine j_iload_n hC dX10_area_10 rfl ?_
    refine j_callv (kc' := 0) (ks' := 0) (r := (RX10, TX10, 59)) hC (m_isNode K n hA) dX10_area_11 wX10_isNode lX10_154 i_yX10_isNode s_yX10_isNode hM.1.1 rfl rfl rfl (nle rfl) rfl (by decide) (by decide) (by decide) (kI fun r w' hp => ?_)
    obtain ⟨rfl, hw⟩ := hp
    rw [hw]
    clear hw w'
    refine j_if_eq hC 38 dX10_area_14 (by decide) (fun c_14 => ?_) (fun c_14 => ?_)
    · refine j_iconst hC (-1) dX10_area_38 (by decide) ?_
      have hok : ¬ okA S n q l := by simp [okA, c_6, c_14, Int32.not_le, Int32.not_lt]
      exact j_iret hC hR dX10_area_39 rfl ⟨_, rfl, by rw [if_neg hok], by rw [if_neg hok]; exact hM⟩
    · refine j_iload_n hC dX10_area_17 rfl ?_
      refine j_iconst hC (1) dX10_area_18 (by decide) ?_
      refine j_ldc hC dX10_area_19 nX10_161 ?_
      refine j_calls (kc' := 0) (ks' := 0) hC (m_is K q 1 1000000) dX10_area_21 wX10_is lX10_145 t_yX10_is rfl rfl (nle rfl) rfl (by decide) (by decide) (by decide) (kI fun r w' hp => ?_)
      obtain ⟨rfl, hw⟩ := hp
      rw [hw]
      clear hw w'
      refine j_if_eq hC 38 dX10_area_24 (by decide) (fun c_24 => ?_) (fun c_24 => ?_)
      · refine j_iconst hC (-1) dX10_area_38 (by decide) ?_
        have hok : ¬ okA S n q l := by simp [okA, c_6, c_14, c_24, Int32.not_le, Int32.not_lt]
        exact j_iret hC hR dX10_area_39 rfl ⟨_, rfl, by rw [if_neg hok], by rw [if_neg hok]; exact hM⟩
      · refine j_iload_n hC dX10_area_27 rfl ?_
        refine j_iconst hC (0) dX10_area_28 (by decide) ?_
        refine j_sipush hC (1000) dX10_area_29 (by decide) ?_
        refine j_calls (kc' := 0) (ks' := 0) hC (m_is K l 0 1000) dX10_area_32 wX10_is lX10_145 t_yX10_is rfl rfl (nle rfl) rfl (by decide) (by decide) (by decide) (kI fun r w' hp => ?_)
        obtain ⟨rfl, hw⟩ := hp
        rw [hw]
        clear hw w'
        refine j_if_ne hC 40 dX10_area_35 (by decide) (fun c_35 => ?_) (fun c_35 => ?_)
        · have hx : ix (S.1 18 0) 24 (cn S 18) := CN.ix h2 (24) (by omega) (by decide) c_6
          refine j_aload_n hC dX10_area_40 rfl ?_
          refine m_get hC hM dX10_area_41 fX10_56 (by decide) (mFg_19 _ _) ?_
          refine j_aload_n hC dX10_area_44 rfl ?_
          refine m_get hC hM dX10_area_45 fX10_158 (by decide) (mFg_18 _ _) ?_
          refine j_iload_n hC dX10_area_48 rfl ?_
          refine m_stI hC hM (by decide) dX10_area_49 (hx) (fun w1 hM => ?_)
          refine j_aload_n hC dX10_area_50 rfl ?_
          refine m_get hC hM dX10_area_51 fX10_59 (by decide) (mFg_20 _ _) ?_
          refine j_aload_n hC dX10_area_54 rfl ?_
          refine m_get hC hM dX10_area_55 fX10_158 (by decide) (mFg_18 _ _) ?_
          refine j_iload_n hC dX10_area_58 rfl ?_
          refine m_stI hC hM (by decide) dX10_area_59 (hx) (fun w2 hM => ?_)
          refine j_aload_n hC dX10_area_60 rfl ?_
          refine m_get hC hM dX10_area_61 fX10_62 (by decide) (mFg_21 _ _) ?_
          refine j_aload_n hC dX10_area_64 rfl ?_
          refine m_get hC hM dX10_area_65 fX10_158 (by decide) (mFg_18 _ _) ?_
          refine j_iload_n hC dX10_area_68 rfl ?_
          refine m_stI hC hM (by decide) dX10_area_69 (hx) (fun w3 hM => ?_)
          refine j_aload_n hC dX10_area_70 rfl ?_
          refine j_dup hC dX10_area_71 rfl ?_
          refine m_get hC hM dX10_area_72 fX10_158 (by decide) (mFg_18 _ _) ?_
          refine j_iconst hC (1) dX10_area_75 (by decide) ?_
          refine j_iadd hC dX10_area_76 ?_
          refine m_putI hC hM (by decide) dX10_area_77 fX10_158 rfl (by decide) rfl rfl (mFs_18 _ _ _) (fun w4 hM => ?_)
          refine j_aload_n hC dX10_area_80 rfl ?_
          refine m_get hC hM dX10_area_81 fX10_158 (by decide) (mFg_18 _ _) ?_
          refine j_iconst hC (1) dX10_area_84 (by decide) ?_
          refine j_isub hC dX10_area_85 ?_
          have hok : okA S n q l := by simp [okA, c_6, c_14, c_24, c_35, Int32.not_le, Int32.not_lt]
          exact j_iret hC hR dX10_area_86 rfl ⟨_, rfl, by rw [if_pos hok]; exact Int32.add_sub_cancel _ _, by rw [if_pos hok]; exact hM⟩
        · refine j_iconst hC (-1) dX10_area_38 (by decide) ?_
          have hok : ¬ okA S n q l := by simp [okA, c_6, c_14, c_24, c_35, Int32.not_le, Int32.not_lt]
          exact j_iret hC hR dX10_area_39 rfl ⟨_, rfl, by rw [if_neg hok], by rw [if_neg hok]; exact hM⟩

set_option maxRecDepth 100000 in
set_option maxHeartbeats 4000000 in
theorem m_pump (K : Kx) {w : Wd} {m : Nat} {ad : Nat → Nat} {S : Ast} (n t on off ra : Int32) (hA : MA K.2.1 w m ad S) (h2 : CN S 24 8) : MT K mX10_pump 2 0 0 [.ref m, .int n, .int t, .int on, .int off, .int ra] w (PI fun rr w' => rr = (if okU S n t on off ra then S.1 24 0 else (-1)) ∧ MB K.2.1 w w' m ad (if okU S n t on off ra then sU S n t on off ra else S)) := by
  refine MT.of [some (.ref m), some (.int n), some (.int t), some (.int on), some (.int off), some (.int ra)] (by decide) rfl (nle rfl) rfl ?_
  intro E hC hR
  have hM := MB.rf hA
  refine j_aload_n hC dX10_pump_0 rfl ?_
  refine m_get hC hM dX10_pump_1 fX10_162 (by decide) (mFg_24 _ _) ?_
  refine j_bipush hC (8) dX10_pump_4 (by decide) ?_
  refine j_icmp_eq hC 47 dX10_pump_6 (by decide) (fun c_6 => ?_) (fun c_6 => ?_)
  · refine j_iconst hC (-1) dX10_pump_47 (by decide) ?_
    have hok : ¬ okU S n t on off ra := by simp [okU, c_6, Int32.not_le, Int32.not_lt]
    exact j_iret hC hR dX10_pump_48 rfl ⟨_, rfl, by rw [if_neg hok], by rw [if_neg hok]; exact hM⟩
  · refine j_aload_n hC dX10_pump_9 rfl ?_
    refine j_iload_n hC dX10_pump_10 rfl ?_
    refine j_callv (kc' := 0) (ks' := 0) (r := (RX10, TX10, 59)) hC (m_isNode K n hA) dX10_pump_11 wX10_isNode lX10_154 i_yX10_isNode s_yX10_isNode hM.1.1 rfl rfl rfl (nle rfl) rfl (by decide) (by decide) (by decide) (kI fun r w' hp => ?_)
    obtain ⟨rfl, hw⟩ := hp
    rw [hw]
    clear hw w'
    refine j_if_eq hC 47 dX10_pump_14 (by decide) (fun c_14 => ?_) (fun c_14 => ?_)
    · refine j_iconst hC (-1) dX10_pump_47 (by decide) ?_
      have hok : ¬ okU S n t on off ra := by simp [okU, c_6, c_14, Int32.not_le, Int32.not_lt]
      exact j_iret hC hR dX10_pump_48 rfl ⟨_, rfl, by rw [if_neg hok], by rw [if_neg hok]; exact hM⟩
    · refine j_aload_n hC dX10_pump_17 rfl ?_
      refine j_iload_n hC dX10_pump_18 rfl ?_
      refine j_callv (kc' := 0) (ks' := 0) (r := (RX10, TX10, 59)) hC (m_isNode K t hA) dX10_pump_19 wX10_isNode lX10_154 i_yX10_isNode s_yX10_isNode hM.1.1 rfl rfl rfl (nle rfl) rfl (by decide) (by decide) (by decide) (kI fun r w' hp => ?_)
      obtain ⟨rfl, hw⟩ := hp
      rw [hw]
      clear hw w'
      refine j_if_eq hC 47 dX10_pump_22 (by decide) (fun c_22 => ?_) (fun c_22 => ?_)
      · refine j_iconst hC (-1) dX10_pump_47 (by decide) ?_
        have hok : ¬ okU S n t on off ra := by simp [okU, c_6, c_14, c_22, Int32.not_le, Int32.not_lt]
        exact j_iret hC hR dX10_pump_48 rfl ⟨_, rfl, by rw [if_neg hok], by rw [if_neg hok]; exact hM⟩
      · refine j_iload_n hC dX10_pump_25 rfl ?_
        refine j_iload_n hC dX10_pump_26 rfl ?_
        refine j_icmp_eq hC 47 dX10_pump_27 (by decide) (fun c_27 => ?_) (fun c_27 => ?_)
        · refine j_iconst hC (-1) dX10_pump_47 (by decide) ?_
          have hok : ¬ okU S n t on off ra := by simp [okU, c_6, c_14, c_22, c_27, Int32.not_le, Int32.not_lt]
          exact j_iret hC hR dX10_pump_48 rfl ⟨_, rfl, by rw [if_neg hok], by rw [if_neg hok]; exact hM⟩
        · refine j_iload_n hC dX10_pump_30 rfl ?_
          refine j_iload hC dX10_pump_31 rfl ?_
          refine j_icmp_le hC 47 dX10_pump_33 (by decide) (fun c_33 => ?_) (fun c_33 => ?_)
          · refine j_iconst hC (-1) dX10_pump_47 (by decide) ?_
            have hok : ¬ okU S n t on off ra := by simp [okU, c_6, c_14, c_22, c_27, c_33, Int32.not_le, Int32.not_lt]
            exact j_iret hC hR dX10_pump_48 rfl ⟨_, rfl, by rw [if_neg hok], by rw [if_neg hok]; exact hM⟩
          · refine j_iload hC dX10_pump_36 rfl ?_
            refine j_iconst hC (1) dX10_pump_38 (by decide) ?_
            refine j_ldc hC dX10_pump_39 nX10_150 ?_
            refine j_calls (kc' := 0) (ks' := 0) hC (m_is K ra 1 100000) dX10_pump_41 wX10_is lX10_145 t_yX10_is rfl rfl (nle rfl) rfl (by decide) (by decide) (by decide) (kI fun r w' hp => ?_)
            obtain ⟨rfl, hw⟩ := hp
            rw [hw]
            clear hw w'
            refine j_if_ne hC 49 dX10_pump_44 (by decide) (fun c_44 => ?_) (fun c_44 => ?_)
            · have hx : ix (S.1 24 0) 8 (cn S 24) := CN.ix h2 (8) (by omega) (by decide) c_6
              refine j_aload_n hC dX10_pump_49 rfl ?_
              refine m_get hC hM dX10_pump_50 fX10_71 (by decide) (mFg_25 _ _) ?_
              refine j_aload_n hC dX10_pump_53 rfl ?_
              refine m_get hC hM dX10_pump_54 fX10_162 (by decide) (mFg_24 _ _) ?_
              refine j_iload_n hC dX10_pump_57 rfl ?_
              refine m_stI hC hM (by decide) dX10_pump_58 (hx) (fun w1 hM => ?_)
              refine j_aload_n hC dX10_pump_59 rfl ?_
              refine m_get hC hM dX10_pump_60 fX10_74 (by decide) (mFg_26 _ _) ?_
              refine j_aload_n hC dX10_pump_63 rfl ?_
              refine m_get hC hM dX10_pump_64 fX10_162 (by decide) (mFg_24 _ _) ?_
              refine j_iload_n hC dX10_pump_67 rfl ?_
              refine m_stI hC hM (by decide) dX10_pump_68 (hx) (fun w2 hM => ?_)
              refine j_aload_n hC dX10_pump_69 rfl ?_
              refine m_get hC hM dX10_pump_70 fX10_77 (by decide) (mFg_27 _ _) ?_
              refine j_aload_n hC dX10_pump_73 rfl ?_
              refine m_get hC hM dX10_pump_74 fX10_162 (by decide) (mFg_24 _ _) ?_
              refine j_iload_n hC dX10_pump_77 rfl ?_
              refine m_stI hC hM (by decide) dX10_pump_78 (hx) (fun w3 hM => ?_)
              refine j_aload_n hC dX10_pump_79 rfl ?_
              refine m_get hC hM dX10_pump_80 fX10_80 (by decide) (mFg_28 _ _) ?_
              refine j_aload_n hC dX10_pump_83 rfl ?_
              refine m_get hC hM dX10_pump_84 fX10_162 (by decide) (mFg_24 _ _) ?_
              refine j_iload hC dX10_pump_87 rfl ?_
              refine m_stI hC hM (by decide) dX10_pump_89 (hx) (fun w4 hM => ?_)
              refine j_aload_n hC dX10_pump_90 rfl ?_
              refine m_get hC hM dX10_pump_91 fX10_83 (by decide) (mFg_29 _ _) ?_
              refine j_aload_n hC dX10_pump_94 rfl ?_
              refine m_get hC hM dX10_pump_95 fX10_162 (by decide) (mFg_24 _ _) ?_
              refine j_iload hC dX10_pump_98 rfl ?_
              refine m_stI hC hM (by decide) dX10_pump_100 (hx) (fun w5 hM => ?_)
              refine j_aload_n hC dX10_pump_101 rfl ?_
              refine j_dup hC dX10_pump_102 rfl ?_
              refine m_get hC hM dX10_pump_103 fX10_162 (by decide) (mFg_24 _ _) ?_
              refine j_iconst hC (1) dX10_pump_106 (by decide) ?_
              refine j_iadd hC dX10_pump_107 ?_
              refine m_putI hC hM (by decide) dX10_pump_108 fX10_162 rfl (by decide) rfl rfl (mFs_24 _ _ _) (fun w6 hM => ?_)
              refine j_aload_n hC dX10_pump_111 rfl ?_
              refine m_get hC hM dX10_pump_112 fX10_162 (by decide) (mFg_24 _ _) ?_
              refine j_iconst hC (1) dX10_pump_115 (by decide) ?_
              refine j_isub hC dX10_pump_116 ?_
              have hok : okU S n t on off ra := by simp [okU, c_6, c_14, c_22, c_27, c_33, c_44, Int32.not_le, Int32.not_lt]
              exact j_iret hC hR dX10_pump_117 rfl ⟨_, rfl, by rw [if_pos hok]; exact Int32.add_sub_cancel _ _, by rw [if_pos hok]; exact hM⟩
            · refine j_iconst hC (-1) dX10_pump_47 (by decide) ?_
              have hok : ¬ okU S n t on off ra := by simp [okU, c_6, c_14, c_22, c_27, c_33, c_44, Int32.not_le, Int32.not_lt]
              exact j_iret hC hR dX10_pump_48 rfl ⟨_, rfl, by rw [if_neg hok], by rw [if_neg hok]; exact hM⟩

set_option maxRecDepth 100000 in
set_option maxHeartbeats 4000000 in
theorem m_gate (K : Kx) {w : Wd} {m : Nat} {ad : Nat → Nat} {S : Ast} (n h ra : Int32) (hA : MA K.2.1 w m ad S) (h2 : CN S 31 8) : MT K mX10_gate 2 0 0 [.ref m, .int n, .int h, .int ra] w (PI fun rr w' => rr = (if okG S n h ra then S.1 31 0 else (-1)) ∧ MB K.2.1 w w' m ad (if okG S n h ra then sG S n h ra else S)) := by
  refine MT.of [some (.ref m), some (.int n), some (.int h), some (.int ra)] (by decide) rfl (nle rfl) rfl ?_
  intro E hC hR
  have hM := MB.rf hA
  refine j_aload_n hC dX10_gate_0 rfl ?_
  refine m_get hC hM dX10_gate_1 fX10_165 (by decide) (mFg_31 _ _) ?_
  refine j_bipush hC (8) dX10_gate_4 (by decide) ?_
  refine j_icmp_eq hC 37 dX10_gate_6 (by decide) (fun c_6 => ?_) (fun c_6 => ?_)
  · refine j_iconst hC (-1) dX10_gate_37 (by decide) ?_
    have hok : ¬ okG S n h ra := by simp [okG, c_6, Int32.not_le, Int32.not_lt]
    exact j_iret hC hR dX10_gate_38 rfl ⟨_, rfl, by rw [if_neg hok], by rw [if_neg hok]; exact hM⟩
  · refine j_aload_n hC dX10_gate_9 rfl ?_
    refine j_iload_n hC dX10_gate_10 rfl ?_
    refine j_callv (kc' := 0) (ks' := 0) (r := (RX10, TX10, 59)) hC (m_isNode K n hA) dX10_gate_11 wX10_isNode lX10_154 i_yX10_isNode s_yX10_isNode hM.1.1 rfl rfl rfl (nle rfl) rfl (by decide) (by decide) (by decide) (kI fun r w' hp => ?_)
    obtain ⟨rfl, hw⟩ := hp
    rw [hw]
    clear hw w'
    refine j_if_eq hC 37 dX10_gate_14 (by decide) (fun c_14 => ?_) (fun c_14 => ?_)
    · refine j_iconst hC (-1) dX10_gate_37 (by decide) ?_
      have hok : ¬ okG S n h ra := by simp [okG, c_6, c_14, Int32.not_le, Int32.not_lt]
      exact j_iret hC hR dX10_gate_38 rfl ⟨_, rfl, by rw [if_neg hok], by rw [if_neg hok]; exact hM⟩
    · refine j_iload_n hC dX10_gate_17 rfl ?_
      refine j_iconst hC (0) dX10_gate_18 (by decide) ?_
      refine j_ldc hC dX10_gate_19 nX10_168 ?_
      refine j_calls (kc' := 0) (ks' := 0) hC (m_is K h 0 200000) dX10_gate_21 wX10_is lX10_145 t_yX10_is rfl rfl (nle rfl) rfl (by decide) (by decide) (by decide) (kI fun r w' hp => ?_)
      obtain ⟨rfl, hw⟩ := hp
      rw [hw]
      clear hw w'
      refine j_if_eq hC 37 dX10_gate_24 (by decide) (fun c_24 => ?_) (fun c_24 => ?_)
      · refine j_iconst hC (-1) dX10_gate_37 (by decide) ?_
        have hok : ¬ okG S n h ra := by simp [okG, c_6, c_14, c_24, Int32.not_le, Int32.not_lt]
        exact j_iret hC hR dX10_gate_38 rfl ⟨_, rfl, by rw [if_neg hok], by rw [if_neg hok]; exact hM⟩
      · refine j_iload_n hC dX10_gate_27 rfl ?_
        refine j_iconst hC (1) dX10_gate_28 (by decide) ?_
        refine j_ldc hC dX10_gate_29 nX10_161 ?_
        refine j_calls (kc' := 0) (ks' := 0) hC (m_is K ra 1 1000000) dX10_gate_31 wX10_is lX10_145 t_yX10_is rfl rfl (nle rfl) rfl (by decide) (by decide) (by decide) (kI fun r w' hp => ?_)
        obtain ⟨rfl, hw⟩ := hp
        rw [hw]
        clear hw w'
        refine j_if_ne hC 39 dX10_gate_34 (by decide) (fun c_34 => ?_) (fun c_34 => ?_)
        · have hx : ix (S.1 31 0) 8 (cn S 31) := CN.ix h2 (8) (by omega) (by decide) c_6
          refine j_aload_n hC dX10_gate_39 rfl ?_
          refine m_get hC hM dX10_gate_40 fX10_90 (by decide) (mFg_32 _ _) ?_
          refine j_aload_n hC dX10_gate_43 rfl ?_
          refine m_get hC hM dX10_gate_44 fX10_165 (by decide) (mFg_31 _ _) ?_
          refine j_iload_n hC dX10_gate_47 rfl ?_
          refine m_stI hC hM (by decide) dX10_gate_48 (hx) (fun w1 hM => ?_)
          refine j_aload_n hC dX10_gate_49 rfl ?_
          refine m_get hC hM dX10_gate_50 fX10_93 (by decide) (mFg_33 _ _) ?_
          refine j_aload_n hC dX10_gate_53 rfl ?_
          refine m_get hC hM dX10_gate_54 fX10_165 (by decide) (mFg_31 _ _) ?_
          refine j_iload_n hC dX10_gate_57 rfl ?_
          refine m_stI hC hM (by decide) dX10_gate_58 (hx) (fun w2 hM => ?_)
          refine j_aload_n hC dX10_gate_59 rfl ?_
          refine m_get hC hM dX10_gate_60 fX10_96 (by decide) (mFg_34 _ _) ?_
          refine j_aload_n hC dX10_gate_63 rfl ?_
          refine m_get hC hM dX10_gate_64 fX10_165 (by decide) (mFg_31 _ _) ?_
          refine j_iload_n hC dX10_gate_67 rfl ?_
          refine m_stI hC hM (by decide) dX10_gate_68 (hx) (fun w3 hM => ?_)
          refine j_aload_n hC dX10_gate_69 rfl ?_
          refine j_dup hC dX10_gate_70 rfl ?_
          refine m_get hC hM dX10_gate_71 fX10_165 (by decide) (mFg_31 _ _) ?_
          refine j_iconst hC (1) dX10_gate_74 (by decide) ?_
          refine j_iadd hC dX10_gate_75 ?_
          refine m_putI hC hM (by decide) dX10_gate_76 fX10_165 rfl (by decide) rfl rfl (mFs_31 _ _ _) (fun w4 hM => ?_)
          refine j_aload_n hC dX10_gate_79 rfl ?_
          refine m_get hC hM dX10_gate_80 fX10_165 (by decide) (mFg_31 _ _) ?_
          refine j_iconst hC (1) dX10_gate_83 (by decide) ?_
          refine j_isub hC dX10_gate_84 ?_
          have hok : okG S n h ra := by simp [okG, c_6, c_14, c_24, c_34, Int32.not_le, Int32.not_lt]
          exact j_iret hC hR dX10_gate_85 rfl ⟨_, rfl, by rw [if_pos hok]; exact Int32.add_sub_cancel _ _, by rw [if_pos hok]; exact hM⟩
        · refine j_iconst hC (-1) dX10_gate_37 (by decide) ?_
          have hok : ¬ okG S n h ra := by simp [okG, c_6, c_14, c_24, c_34, Int32.not_le, Int32.not_lt]
          exact j_iret hC hR dX10_gate_38 rfl ⟨_, rfl, by rw [if_neg hok], by rw [if_neg hok]; exact hM⟩

set_option maxRecDepth 100000 in
set_option maxHeartbeats 4000000 in
theorem m_gully (K : Kx) {w : Wd} {m : Nat} {ad : Nat → Nat} {S : Ast} (c n ra : Int32) (hA : MA K.2.1 w m ad S) (h2 : CN S 35 8) : MT K mX10_gully 2 0 0 [.ref m, .int c, .int n, .int ra] w (PI fun rr w' => rr = (if okL S c n ra then S.1 35 0 else (-1)) ∧ MB K.2.1 w w' m ad (if okL S c n ra then sL S c n ra else S)) := by
  refine MT.of [some (.ref m), some (.int c), some (.int n), some (.int ra)] (by decide) rfl (nle rfl) rfl ?_
  intro E hC hR
  have hM := MB.rf hA
  refine j_aload_n hC dX10_gully_0 rfl ?_
  refine m_get hC hM dX10_gully_1 fX10_169 (by decide) (mFg_35 _ _) ?_
  refine j_bipush hC (8) dX10_gully_4 (by decide) ?_
  refine j_icmp_eq hC 37 dX10_gully_6 (by decide) (fun c_6 => ?_) (fun c_6 => ?_)
  · refine j_iconst hC (-1) dX10_gully_37 (by decide) ?_
    have hok : ¬ okL S c n ra := by simp [okL, c_6, Int32.not_le, Int32.not_lt]
    exact j_iret hC hR dX10_gully_38 rfl ⟨_, rfl, by rw [if_neg hok], by rw [if_neg hok]; exact hM⟩
  · refine j_iload_n hC dX10_gully_9 rfl ?_
    refine j_iconst hC (0) dX10_gully_10 (by decide) ?_
    refine j_bipush hC (7) dX10_gully_11 (by decide) ?_
    refine j_calls (kc' := 0) (ks' := 0) hC (m_is K c 0 7) dX10_gully_13 wX10_is lX10_145 t_yX10_is rfl rfl (nle rfl) rfl (by decide) (by decide) (by decide) (kI fun r w' hp => ?_)
    obtain ⟨rfl, hw⟩ := hp
    rw [hw]
    clear hw w'
    refine j_if_eq hC 37 dX10_gully_16 (by decide) (fun c_16 => ?_) (fun c_16 => ?_)
    · refine j_iconst hC (-1) dX10_gully_37 (by decide) ?_
      have hok : ¬ okL S c n ra := by simp [okL, c_6, c_16, Int32.not_le, Int32.not_lt]
      exact j_iret hC hR dX10_gully_38 rfl ⟨_, rfl, by rw [if_neg hok], by rw [if_neg hok]; exact hM⟩
    · refine j_aload_n hC dX10_gully_19 rfl ?_
      refine j_iload_n hC dX10_gully_20 rfl ?_
      refine j_callv (kc' := 0) (ks' := 0) (r := (RX10, TX10, 59)) hC (m_isNode K n hA) dX10_gully_21 wX10_isNode lX10_154 i_yX10_isNode s_yX10_isNode hM.1.1 rfl rfl rfl (nle rfl) rfl (by decide) (by decide) (by decide) (kI fun r w' hp => ?_)
      obtain ⟨rfl, hw⟩ := hp
      rw [hw]
      clear hw w'
      refine j_if_eq hC 37 dX10_gully_24 (by decide) (fun c_24 => ?_) (fun c_24 => ?_)
      · refine j_iconst hC (-1) dX10_gully_37 (by decide) ?_
        have hok : ¬ okL S c n ra := by simp [okL, c_6, c_16, c_24, Int32.not_le, Int32.not_lt]
        exact j_iret hC hR dX10_gully_38 rfl ⟨_, rfl, by rw [if_neg hok], by rw [if_neg hok]; exact hM⟩
      · refine j_iload_n hC dX10_gully_27 rfl ?_
        refine j_iconst hC (1) dX10_gully_28 (by decide) ?_
        refine j_ldc hC dX10_gully_29 nX10_150 ?_
        refine j_calls (kc' := 0) (ks' := 0) hC (m_is K ra 1 100000) dX10_gully_31 wX10_is lX10_145 t_yX10_is rfl rfl (nle rfl) rfl (by decide) (by decide) (by decide) (kI fun r w' hp => ?_)
        obtain ⟨rfl, hw⟩ := hp
        rw [hw]
        clear hw w'
        refine j_if_ne hC 39 dX10_gully_34 (by decide) (fun c_34 => ?_) (fun c_34 => ?_)
        · have hx : ix (S.1 35 0) 8 (cn S 35) := CN.ix h2 (8) (by omega) (by decide) c_6
          refine j_aload_n hC dX10_gully_39 rfl ?_
          refine m_get hC hM dX10_gully_40 fX10_99 (by decide) (mFg_36 _ _) ?_
          refine j_aload_n hC dX10_gully_43 rfl ?_
          refine m_get hC hM dX10_gully_44 fX10_169 (by decide) (mFg_35 _ _) ?_
          refine j_iload_n hC dX10_gully_47 rfl ?_
          refine m_stI hC hM (by decide) dX10_gully_48 (hx) (fun w1 hM => ?_)
          refine j_aload_n hC dX10_gully_49 rfl ?_
          refine m_get hC hM dX10_gully_50 fX10_102 (by decide) (mFg_37 _ _) ?_
          refine j_aload_n hC dX10_gully_53 rfl ?_
          refine m_get hC hM dX10_gully_54 fX10_169 (by decide) (mFg_35 _ _) ?_
          refine j_iload_n hC dX10_gully_57 rfl ?_
          refine m_stI hC hM (by decide) dX10_gully_58 (hx) (fun w2 hM => ?_)
          refine j_aload_n hC dX10_gully_59 rfl ?_
          refine m_get hC hM dX10_gully_60 fX10_105 (by decide) (mFg_38 _ _) ?_
          refine j_aload_n hC dX10_gully_63 rfl ?_
          refine m_get hC hM dX10_gully_64 fX10_169 (by decide) (mFg_35 _ _) ?_
          refine j_iload_n hC dX10_gully_67 rfl ?_
          refine m_stI hC hM (by decide) dX10_gully_68 (hx) (fun w3 hM => ?_)
          refine j_aload_n hC dX10_gully_69 rfl ?_
          refine j_dup hC dX10_gully_70 rfl ?_
          refine m_get hC hM dX10_gully_71 fX10_169 (by decide) (mFg_35 _ _) ?_
          refine j_iconst hC (1) dX10_gully_74 (by decide) ?_
          refine j_iadd hC dX10_gully_75 ?_
          refine m_putI hC hM (by decide) dX10_gully_76 fX10_169 rfl (by decide) rfl rfl (mFs_35 _ _ _) (fun w4 hM => ?_)
          refine j_aload_n hC dX10_gully_79 rfl ?_
          refine m_get hC hM dX10_gully_80 fX10_169 (by decide) (mFg_35 _ _) ?_
          refine j_iconst hC (1) dX10_gully_83 (by decide) ?_
          refine j_isub hC dX10_gully_84 ?_
          have hok : okL S c n ra := by simp [okL, c_6, c_16, c_24, c_34, Int32.not_le, Int32.not_lt]
          exact j_iret hC hR dX10_gully_85 rfl ⟨_, rfl, by rw [if_pos hok]; exact Int32.add_sub_cancel _ _, by rw [if_pos hok]; exact hM⟩
        · refine j_iconst hC (-1) dX10_gully_37 (by decide) ?_
          have hok : ¬ okL S c n ra := by simp [okL, c_6, c_16, c_24, c_34, Int32.not_le, Int32.not_lt]
          exact j_iret hC hR dX10_gully_38 rfl ⟨_, rfl, by rw [if_neg hok], by rw [if_neg hok]; exact hM⟩

set_option maxRecDepth 100000 in
set_option maxHeartbeats 4000000 in
theorem m_rain (K : Kx) {w : Wd} {m : Nat} {ad : Nat → Nat} {S : Ast} (mi v : Int32) (hA : MA K.2.1 w m ad S)  : MT K mX10_rain 1 0 0 [.ref m, .int mi, .int v] w (PI fun rr w' => rr = (if okR mi v then S.1 23 mi.toNatClampNeg else (-1)) ∧ MB K.2.1 w w' m ad (if okR mi v then uI S 23 mi.toNatClampNeg v else S)) := by
  refine MT.of [some (.ref m), some (.int mi), some (.int v), none] (by decide) rfl (nle rfl) rfl ?_
  intro E hC hR
  have hM := MB.rf hA
  refine j_iload_n hC dX10_rain_0 rfl ?_
  refine j_iconst hC (0) dX10_rain_1 (by decide) ?_
  refine j_sipush hC (1439) dX10_rain_2 (by decide) ?_
  refine j_calls (kc' := 0) (ks' := 0) hC (m_is K mi 0 1439) dX10_rain_5 wX10_is lX10_145 t_yX10_is rfl rfl (nle rfl) rfl (by decide) (by decide) (by decide) (kI fun r w' hp => ?_)
  obtain ⟨rfl, hw⟩ := hp
  rw [hw]
  clear hw w'
  refine j_if_eq hC 22 dX10_rain_8 (by decide) (fun c_8 => ?_) (fun c_8 => ?_)
  · refine j_iconst hC (-1) dX10_rain_22 (by decide) ?_
    have hok : ¬ okR mi v := by simp [okR, c_8, Int32.not_le, Int32.not_lt]
    exact j_iret hC hR dX10_rain_23 rfl ⟨_, rfl, by rw [if_neg hok], by rw [if_neg hok]; exact hM⟩
  · refine j_iload_n hC dX10_rain_11 rfl ?_
    refine j_iconst hC (0) dX10_rain_12 (by decide) ?_
    refine j_sipush hC (20000) dX10_rain_13 (by decide) ?_
    refine j_calls (kc' := 0) (ks' := 0) hC (m_is K v 0 20000) dX10_rain_16 wX10_is lX10_145 t_yX10_is rfl rfl (nle rfl) rfl (by decide) (by decide) (by decide) (kI fun r w' hp => ?_)
    obtain ⟨rfl, hw⟩ := hp
    rw [hw]
    clear hw w'
    refine j_if_ne hC 24 dX10_rain_19 (by decide) (fun c_19 => ?_) (fun c_19 => ?_)
    · have hx : ix mi 1440 mi.toNatClampNeg := (wI_ix (n := 1440) (b := 1440) (Nat.le_refl _) (by omega) (show ¬ wI mi 0 (nI 1440 - 1) = 0 from c_8)).2.2
      refine j_aload_n hC dX10_rain_24 rfl ?_
      refine m_get hC hM dX10_rain_25 fX10_68 (by decide) (mFg_23 _ _) ?_
      refine j_iload_n hC dX10_rain_28 rfl ?_
      refine m_ldI hC hM (by decide) dX10_rain_29 (hx) ?_
      refine j_istore_n (lv' := [some _, some _, some _, some _]) hC dX10_rain_30 (nlt rfl) rfl ?_
      refine j_aload_n hC dX10_rain_31 rfl ?_
      refine m_get hC hM dX10_rain_32 fX10_68 (by decide) (mFg_23 _ _) ?_
      refine j_iload_n hC dX10_rain_35 rfl ?_
      refine j_iload_n hC dX10_rain_36 rfl ?_
      refine m_stI hC hM (by decide) dX10_rain_37 (hx) (fun w1 hM => ?_)
      refine j_iload_n hC dX10_rain_38 rfl ?_
      have hok : okR mi v := by simp [okR, c_8, c_19, Int32.not_le, Int32.not_lt]
      exact j_iret hC hR dX10_rain_39 rfl ⟨_, rfl, by rw [if_pos hok], by rw [if_pos hok]; exact hM⟩
    · refine j_iconst hC (-1) dX10_rain_22 (by decide) ?_
      have hok : ¬ okR mi v := by simp [okR, c_8, c_19, Int32.not_le, Int32.not_lt]
      exact j_iret hC hR dX10_rain_23 rfl ⟨_, rfl, by rw [if_neg hok], by rw [if_neg hok]; exact hM⟩

set_option maxRecDepth 100000 in
set_option maxHeartbeats 4000000 in
theorem m_street (K : Kx) {w : Wd} {m : Nat} {ad : Nat → Nat} {S : Ast} (n c : Int32) (hA : MA K.2.1 w m ad S) (h1 : CN S 1 24) : MT K mX10_street 2 0 0 [.ref m, .int n, .int c] w (PI fun rr w' => rr = (if okS S n c then S.1 5 n.toNatClampNeg else (-2)) ∧ MB K.2.1 w w' m ad (if okS S n c then uI S 5 n.toNatClampNeg c else S)) := by
  refine MT.of [some (.ref m), some (.int n), some (.int c), none] (by decide) rfl (nle rfl) rfl ?_
  intro E hC hR
  have hM := MB.rf hA
  refine j_aload_n hC dX10_street_0 rfl ?_
  refine j_iload_n hC dX10_street_1 rfl ?_
  refine j_callv (kc' := 0) (ks' := 0) (r := (RX10, TX10, 59)) hC (m_isNode K n hA) dX10_street_2 wX10_isNode lX10_154 i_yX10_isNode s_yX10_isNode hM.1.1 rfl rfl rfl (nle rfl) rfl (by decide) (by decide) (by decide) (kI fun r w' hp => ?_)
  obtain ⟨rfl, hw⟩ := hp
  rw [hw]
  clear hw w'
  refine j_if_eq hC 18 dX10_street_5 (by decide) (fun c_5 => ?_) (fun c_5 => ?_)
  · refine j_bipush hC (-2) dX10_street_18 (by decide) ?_
    have hok : ¬ okS S n c := by simp [okS, c_5, Int32.not_le, Int32.not_lt]
    exact j_iret hC hR dX10_street_20 rfl ⟨_, rfl, by rw [if_neg hok], by rw [if_neg hok]; exact hM⟩
  · refine j_iload_n hC dX10_street_8 rfl ?_
    refine j_iconst hC (-1) dX10_street_9 (by decide) ?_
    refine j_bipush hC (7) dX10_street_10 (by decide) ?_
    refine j_calls (kc' := 0) (ks' := 0) hC (m_is K c (-1) 7) dX10_street_12 wX10_is lX10_145 t_yX10_is rfl rfl (nle rfl) rfl (by decide) (by decide) (by decide) (kI fun r w' hp => ?_)
    obtain ⟨rfl, hw⟩ := hp
    rw [hw]
    clear hw w'
    refine j_if_ne hC 21 dX10_street_15 (by decide) (fun c_15 => ?_) (fun c_15 => ?_)
    · have hx := (isn h1 c_5).2.2
      refine j_aload_n hC dX10_street_21 rfl ?_
      refine m_get hC hM dX10_street_22 fX10_19 (by decide) (mFg_5 _ _) ?_
      refine j_iload_n hC dX10_street_25 rfl ?_
      refine m_ldI hC hM (by decide) dX10_street_26 (hx) ?_
      refine j_istore_n (lv' := [some _, some _, some _, some _]) hC dX10_street_27 (nlt rfl) rfl ?_
      refine j_aload_n hC dX10_street_28 rfl ?_
      refine m_get hC hM dX10_street_29 fX10_19 (by decide) (mFg_5 _ _) ?_
      refine j_iload_n hC dX10_street_32 rfl ?_
      refine j_iload_n hC dX10_street_33 rfl ?_
      refine m_stI hC hM (by decide) dX10_street_34 (hx) (fun w1 hM => ?_)
      refine j_iload_n hC dX10_street_35 rfl ?_
      have hok : okS S n c := by simp [okS, c_5, c_15, Int32.not_le, Int32.not_lt]
      exact j_iret hC hR dX10_street_36 rfl ⟨_, rfl, by rw [if_pos hok], by rw [if_pos hok]; exact hM⟩
    · refine j_bipush hC (-2) dX10_street_18 (by decide) ?_
      have hok : ¬ okS S n c := by simp [okS, c_5, c_15, Int32.not_le, Int32.not_lt]
      exact j_iret hC hR dX10_street_20 rfl ⟨_, rfl, by rw [if_neg hok], by rw [if_neg hok]; exact hM⟩

