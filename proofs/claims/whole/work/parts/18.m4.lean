
theorem out_ne {x : Int32} {N : Int} (h : x.toInt < 0 ∨ N < x.toInt) (v : Int32) (h1 : 0 ≤ v.toInt) (h2 : v.toInt ≤ N) : ¬ x = v := by
  intro q
  subst q
  omega
def rLit (S : Ast) (x : Int32) : Int64 := if x = 0 then S.2 41 0 else if x = 1 then smJ (S.2 6) (cn S 1) else if x = 2 then smJ (S.2 39) 8 else if x = 3 then S.2 42 0 else if x = 4 then S.2 43 0 else -1
def rCnt (S : Ast) (x : Int32) : Int32 := if x = 0 then S.1 1 0 else if x = 1 then S.1 10 0 else if x = 2 then S.1 18 0 else if x = 3 then S.1 24 0 else if x = 4 then S.1 31 0 else if x = 5 then S.1 35 0 else if x = 6 then S.1 44 0 else if x = 7 then S.1 50 0 else if x = 8 then S.1 40 0 else -1
def rKeep (S : Ast) : Int32 := if S.2 41 0 = smJ (S.2 6) (cn S 1) + smJ (S.2 39) 8 + S.2 42 0 + S.2 43 0 then 1 else 0
abbrev okLi (S : Ast) (wi pr : Int32) : Prop := ¬ S.1 44 0 = 6 ∧ ¬ wI wi 10 3000 = 0 ∧ ¬ wI pr 0 100000 = 0 ∧ (S.1 44 0 ≤ 0 ∨ S.1 45 (cn S 44 - 1) < wi)
def sLi (S : Ast) (wi pr : Int32) : Ast := uI (uI (uI (uI S 45 (cn S 44) wi) 46 (cn S 44) pr) 44 0 (S.1 44 0 + 1)) 55 0 0
abbrev okB (g b : Int32) : Prop := ¬ wI g (-100000) 100000 = 0 ∧ ¬ wI b (-100000) 100000 = 0
def sB (S : Ast) (g b : Int32) : Ast := uI (uI (uI (uI (uI S 47 0 1) 48 0 g) 49 0 b) 50 0 0) 55 0 0
abbrev okPc (S : Ast) (g l e : Int32) : Prop := ¬ S.1 47 0 = 0 ∧ ¬ S.1 50 0 = 10 ∧ ¬ wI g (-100000) 100000 = 0 ∧ ¬ wI l 1 10000 = 0 ∧ ¬ wI e 0 10000 = 0
def sPc (S : Ast) (g l e : Int32) : Ast := uI (uI (uI (uI (uI S 51 (cn S 50) g) 52 (cn S 50) l) 53 (cn S 50) e) 50 0 (S.1 50 0 + 1)) 55 0 0
abbrev okLd (S : Ast) (k x : Int32) : Prop := ¬ S.1 55 0 = 0 ∧ ¬ wI k 0 (S.1 50 0 - 1) = 0 ∧ ¬ wI x 0 2 = 0
def rLd (S : Ast) (j : Nat) (x : Int32) : Int32 := if x = 0 then S.1 56 j else if x = 1 then S.1 57 j else S.1 58 j

set_option maxRecDepth 100000 in
set_option maxHeartbeats 4000000 in
theorem m_litres (K : Kx) {w : Wd} {m : Nat} {ad : Nat → Nat} {S : Ast} (x : Int32) (hA : MA K.2.1 w m ad S) (h1 : CN S 1 24) : MT K mX10_litres 1 0 0 [.ref m, .int x] w (PL fun r w' => r = rLit S x ∧ w' = w) := by
  refine MT.of [some (.ref m), some (.int x)] (by decide) rfl (nle rfl) rfl ?_
  intro E hC hR
  have hM := MB.rf hA
  refine j_iload_n hC dX10_litres_0 rfl ?_
  rcases tab_cases x 5 (by omega) 4 (by decide) with h | ⟨j, hj, rfl⟩
  · refine j_tableOut hC 61 dX10_litres_1 h (by decide) ?_
    refine j_ldc2 hC dX10_litres_61 nX10_225 ?_
    exact j_lret hC hR dX10_litres_64 rfl ⟨_, rfl, by simp [rLit, out_ne h 0 (by decide) (by decide), out_ne h 1 (by decide) (by decide), out_ne h 2 (by decide) (by decide), out_ne h 3 (by decide) (by decide), out_ne h 4 (by decide) (by decide)], rfl⟩
  · rcases (show j = 0 ∨ j = 1 ∨ j = 2 ∨ j = 3 ∨ j = 4 by omega) with rfl | rfl | rfl | rfl | rfl
    · refine j_tableIn (off := 35) hC 36 dX10_litres_1 (by decide) (by decide) (by decide) (by decide) ?_
      refine j_aload_n hC dX10_litres_36 rfl ?_
      refine m_get hC hM dX10_litres_37 fX10_174 (by decide) (mFg_41 _ _) ?_
      exact j_lret hC hR dX10_litres_40 rfl ⟨_, rfl, rfl, rfl⟩
    · refine j_tableIn (off := 40) hC 41 dX10_litres_1 (by decide) (by decide) (by decide) (by decide) ?_
      refine j_aload_n hC dX10_litres_41 rfl ?_
      refine j_callv (kc' := 0) (ks' := 0) (r := (RX10, TX10, 59)) hC (m_inNodes K hA h1) dX10_litres_42 wX10_inNodes lX10_227 i_yX10_inNodes s_yX10_inNodes hM.1.1 rfl rfl rfl (nle rfl) rfl (by decide) (by decide) (by decide) (kL fun r w' hp => ?_)
      obtain ⟨rfl, hw⟩ := hp
      rw [hw]
      clear hw w'
      exact j_lret hC hR dX10_litres_45 rfl ⟨_, rfl, rfl, rfl⟩
    · refine j_tableIn (off := 45) hC 46 dX10_litres_1 (by decide) (by decide) (by decide) (by decide) ?_
      refine j_aload_n hC dX10_litres_46 rfl ?_
      refine j_callv (kc' := 0) (ks' := 0) (r := (RX10, TX10, 59)) hC (m_inCells K hA) dX10_litres_47 wX10_inCells lX10_231 i_yX10_inCells s_yX10_inCells hM.1.1 rfl rfl rfl (nle rfl) rfl (by decide) (by decide) (by decide) (kL fun r w' hp => ?_)
      obtain ⟨rfl, hw⟩ := hp
      rw [hw]
      clear hw w'
      exact j_lret hC hR dX10_litres_50 rfl ⟨_, rfl, rfl, rfl⟩
    · refine j_tableIn (off := 50) hC 51 dX10_litres_1 (by decide) (by decide) (by decide) (by decide) ?_
      refine j_aload_n hC dX10_litres_51 rfl ?_
      refine m_get hC hM dX10_litres_52 fX10_188 (by decide) (mFg_42 _ _) ?_
      exact j_lret hC hR dX10_litres_55 rfl ⟨_, rfl, rfl, rfl⟩
    · refine j_tableIn (off := 55) hC 56 dX10_litres_1 (by decide) (by decide) (by decide) (by decide) ?_
      refine j_aload_n hC dX10_litres_56 rfl ?_
      refine m_get hC hM dX10_litres_57 fX10_194 (by decide) (mFg_43 _ _) ?_
      exact j_lret hC hR dX10_litres_60 rfl ⟨_, rfl, rfl, rfl⟩

set_option maxRecDepth 100000 in
set_option maxHeartbeats 4000000 in
theorem m_count (K : Kx) {w : Wd} {m : Nat} {ad : Nat → Nat} {S : Ast} (x : Int32) (hA : MA K.2.1 w m ad S)  : MT K mX10_count 0 0 0 [.ref m, .int x] w (PI fun r w' => r = rCnt S x ∧ w' = w) := by
  refine MT.of [some (.ref m), some (.int x)] (by decide) rfl (nle rfl) rfl ?_
  intro E hC hR
  have hM := MB.rf hA
  refine j_iload_n hC dX10_count_0 rfl ?_
  rcases tab_cases x 9 (by omega) 8 (by decide) with h | ⟨j, hj, rfl⟩
  · refine j_tableOut hC 97 dX10_count_1 h (by decide) ?_
    refine j_iconst hC (-1) dX10_count_97 (by decide) ?_
    exact j_iret hC hR dX10_count_98 rfl ⟨_, rfl, by simp [rCnt, out_ne h 0 (by decide) (by decide), out_ne h 1 (by decide) (by decide), out_ne h 2 (by decide) (by decide), out_ne h 3 (by decide) (by decide), out_ne h 4 (by decide) (by decide), out_ne h 5 (by decide) (by decide), out_ne h 6 (by decide) (by decide), out_ne h 7 (by decide) (by decide), out_ne h 8 (by decide) (by decide)], rfl⟩
  · rcases (show j = 0 ∨ j = 1 ∨ j = 2 ∨ j = 3 ∨ j = 4 ∨ j = 5 ∨ j = 6 ∨ j = 7 ∨ j = 8 by omega) with rfl | rfl | rfl | rfl | rfl | rfl | rfl | rfl | rfl
    · refine j_tableIn (off := 51) hC 52 dX10_count_1 (by decide) (by decide) (by decide) (by decide) ?_
      refine j_aload_n hC dX10_count_52 rfl ?_
      refine m_get hC hM dX10_count_53 fX10_142 (by decide) (mFg_1 _ _) ?_
      exact j_iret hC hR dX10_count_56 rfl ⟨_, rfl, rfl, rfl⟩
    · refine j_tableIn (off := 56) hC 57 dX10_count_1 (by decide) (by decide) (by decide) (by decide) ?_
      refine j_aload_n hC dX10_count_57 rfl ?_
      refine m_get hC hM dX10_count_58 fX10_151 (by decide) (mFg_10 _ _) ?_
      exact j_iret hC hR dX10_count_61 rfl ⟨_, rfl, rfl, rfl⟩
    · refine j_tableIn (off := 61) hC 62 dX10_count_1 (by decide) (by decide) (by decide) (by decide) ?_
      refine j_aload_n hC dX10_count_62 rfl ?_
      refine m_get hC hM dX10_count_63 fX10_158 (by decide) (mFg_18 _ _) ?_
      exact j_iret hC hR dX10_count_66 rfl ⟨_, rfl, rfl, rfl⟩
    · refine j_tableIn (off := 66) hC 67 dX10_count_1 (by decide) (by decide) (by decide) (by decide) ?_
      refine j_aload_n hC dX10_count_67 rfl ?_
      refine m_get hC hM dX10_count_68 fX10_162 (by decide) (mFg_24 _ _) ?_
      exact j_iret hC hR dX10_count_71 rfl ⟨_, rfl, rfl, rfl⟩
    · refine j_tableIn (off := 71) hC 72 dX10_count_1 (by decide) (by decide) (by decide) (by decide) ?_
      refine j_aload_n hC dX10_count_72 rfl ?_
      refine m_get hC hM dX10_count_73 fX10_165 (by decide) (mFg_31 _ _) ?_
      exact j_iret hC hR dX10_count_76 rfl ⟨_, rfl, rfl, rfl⟩
    · refine j_tableIn (off := 76) hC 77 dX10_count_1 (by decide) (by decide) (by decide) (by decide) ?_
      refine j_aload_n hC dX10_count_77 rfl ?_
      refine m_get hC hM dX10_count_78 fX10_169 (by decide) (mFg_35 _ _) ?_
      exact j_iret hC hR dX10_count_81 rfl ⟨_, rfl, rfl, rfl⟩
    · refine j_tableIn (off := 81) hC 82 dX10_count_1 (by decide) (by decide) (by decide) (by decide) ?_
      refine j_aload_n hC dX10_count_82 rfl ?_
      refine m_get hC hM dX10_count_83 fX10_234 (by decide) (mFg_44 _ _) ?_
      exact j_iret hC hR dX10_count_86 rfl ⟨_, rfl, rfl, rfl⟩
    · refine j_tableIn (off := 86) hC 87 dX10_count_1 (by decide) (by decide) (by decide) (by decide) ?_
      refine j_aload_n hC dX10_count_87 rfl ?_
      refine m_get hC hM dX10_count_88 fX10_250 (by decide) (mFg_50 _ _) ?_
      exact j_iret hC hR dX10_count_91 rfl ⟨_, rfl, rfl, rfl⟩
    · refine j_tableIn (off := 91) hC 92 dX10_count_1 (by decide) (by decide) (by decide) (by decide) ?_
      refine j_aload_n hC dX10_count_92 rfl ?_
      refine m_get hC hM dX10_count_93 fX10_197 (by decide) (mFg_40 _ _) ?_
      exact j_iret hC hR dX10_count_96 rfl ⟨_, rfl, rfl, rfl⟩

set_option maxRecDepth 100000 in
set_option maxHeartbeats 4000000 in
theorem m_keeps (K : Kx) {w : Wd} {m : Nat} {ad : Nat → Nat} {S : Ast}  (hA : MA K.2.1 w m ad S) (h1 : CN S 1 24) : MT K mX10_keeps 1 0 0 [.ref m] w (PI fun r w' => r = rKeep S ∧ w' = w) := by
  refine MT.of [some (.ref m)] (by decide) rfl (nle rfl) rfl ?_
  intro E hC hR
  have hM := MB.rf hA
  refine j_aload_n hC dX10_keeps_0 rfl ?_
  refine m_get hC hM dX10_keeps_1 fX10_174 (by decide) (mFg_41 _ _) ?_
  refine j_aload_n hC dX10_keeps_4 rfl ?_
  refine j_callv (kc' := 0) (ks' := 0) (r := (RX10, TX10, 59)) hC (m_inNodes K hA h1) dX10_keeps_5 wX10_inNodes lX10_227 i_yX10_inNodes s_yX10_inNodes hM.1.1 rfl rfl rfl (nle rfl) rfl (by decide) (by decide) (by decide) (kL fun r w' hp => ?_)
  obtain ⟨rfl, hw⟩ := hp
  rw [hw]
  clear hw w'
  refine j_aload_n hC dX10_keeps_8 rfl ?_
  refine j_callv (kc' := 0) (ks' := 0) (r := (RX10, TX10, 59)) hC (m_inCells K hA) dX10_keeps_9 wX10_inCells lX10_231 i_yX10_inCells s_yX10_inCells hM.1.1 rfl rfl rfl (nle rfl) rfl (by decide) (by decide) (by decide) (kL fun r w' hp => ?_)
  obtain ⟨rfl, hw⟩ := hp
  rw [hw]
  clear hw w'
  refine j_ladd hC dX10_keeps_12 ?_
  refine j_aload_n hC dX10_keeps_13 rfl ?_
  refine m_get hC hM dX10_keeps_14 fX10_188 (by decide) (mFg_42 _ _) ?_
  refine j_ladd hC dX10_keeps_17 ?_
  refine j_aload_n hC dX10_keeps_18 rfl ?_
  refine m_get hC hM dX10_keeps_19 fX10_194 (by decide) (mFg_43 _ _) ?_
  refine j_ladd hC dX10_keeps_22 ?_
  refine j_lcmp_ne hC 31 dX10_keeps_23 dX10_keeps_24 (by decide) (fun c_23 => ?_) (fun c_23 => ?_)
  · refine j_iconst hC (0) dX10_keeps_31 (by decide) ?_
    exact j_zret hC hR dX10_keeps_32 rfl (by decide) ⟨_, rfl, by simp [rKeep, c_23], rfl⟩
  · refine j_iconst hC (1) dX10_keeps_27 (by decide) ?_
    refine j_goto hC 32 dX10_keeps_28 (by decide) ?_
    exact j_zret hC hR dX10_keeps_32 rfl (by decide) ⟨_, rfl, by simp [rKeep, c_23], rfl⟩

theorem ixp {S : Ast} {k b : Nat} (h : CN S k b) (hb : b < 2 ^ 31) (hp : ¬ S.1 k 0 ≤ 0) (hx : ix (S.1 k 0) b (cn S k)) : ix (S.1 k 0 - 1) b (cn S k - 1) := by
  have hc : cn S k < b := Nat.not_le.mp fun q => hx.1 (Or.inr (by rw [hx.2]; exact q))
  rw [h.1] at hp ⊢
  cases hn : cn S k with
  | zero => rw [hn] at hp; exact absurd (by decide) hp
  | succ n =>
    rw [nI_pred]
    exact ix_nI (by omega) hb
set_option maxRecDepth 100000 in
set_option maxHeartbeats 4000000 in
theorem m_list (K : Kx) {w : Wd} {m : Nat} {ad : Nat → Nat} {S : Ast} (wi pr : Int32) (hA : MA K.2.1 w m ad S) (h2 : CN S 44 6) : MT K mX10_list 1 0 0 [.ref m, .int wi, .int pr] w (PI fun rr w' => rr = (if okLi S wi pr then S.1 44 0 else (-1)) ∧ MB K.2.1 w w' m ad (if okLi S wi pr then sLi S wi pr else S)) := by
  refine MT.of [some (.ref m), some (.int wi), some (.int pr)] (by decide) rfl (nle rfl) rfl ?_
  intro E hC hR
  have hM := MB.rf hA
  refine j_aload_n hC dX10_list_0 rfl ?_
  refine m_get hC hM dX10_list_1 fX10_234 (by decide) (mFg_44 _ _) ?_
  refine j_bipush hC (6) dX10_list_4 (by decide) ?_
  refine j_icmp_eq hC 53 dX10_list_6 (by decide) (fun c_6 => ?_) (fun c_6 => ?_)
  · refine j_iconst hC (-1) dX10_list_53 (by decide) ?_
    have hok : ¬ okLi S wi pr := by simp [okLi, c_6, Int32.not_le, Int32.not_lt]
    exact j_iret hC hR dX10_list_54 rfl ⟨_, rfl, by rw [if_neg hok], by rw [if_neg hok]; exact hM⟩
  · refine j_iload_n hC dX10_list_9 rfl ?_
    refine j_bipush hC (10) dX10_list_10 (by decide) ?_
    refine j_sipush hC (3000) dX10_list_12 (by decide) ?_
    refine j_calls (kc' := 0) (ks' := 0) hC (m_is K wi 10 3000) dX10_list_15 wX10_is lX10_145 t_yX10_is rfl rfl (nle rfl) rfl (by decide) (by decide) (by decide) (kI fun r w' hp => ?_)
    obtain ⟨rfl, hw⟩ := hp
    rw [hw]
    clear hw w'
    refine j_if_eq hC 53 dX10_list_18 (by decide) (fun c_18 => ?_) (fun c_18 => ?_)
    · refine j_iconst hC (-1) dX10_list_53 (by decide) ?_
      have hok : ¬ okLi S wi pr := by simp [okLi, c_6, c_18, Int32.not_le, Int32.not_lt]
      exact j_iret hC hR dX10_list_54 rfl ⟨_, rfl, by rw [if_neg hok], by rw [if_neg hok]; exact hM⟩
    · refine j_iload_n hC dX10_list_21 rfl ?_
      refine j_iconst hC (0) dX10_list_22 (by decide) ?_
      refine j_ldc hC dX10_list_23 nX10_150 ?_
      refine j_calls (kc' := 0) (ks' := 0) hC (m_is K pr 0 100000) dX10_list_25 wX10_is lX10_145 t_yX10_is rfl rfl (nle rfl) rfl (by decide) (by decide) (by decide) (kI fun r w' hp => ?_)
      obtain ⟨rfl, hw⟩ := hp
      rw [hw]
      clear hw w'
      refine j_if_eq hC 53 dX10_list_28 (by decide) (fun c_28 => ?_) (fun c_28 => ?_)
      · refine j_iconst hC (-1) dX10_list_53 (by decide) ?_
        have hok : ¬ okLi S wi pr := by simp [okLi, c_6, c_18, c_28, Int32.not_le, Int32.not_lt]
        exact j_iret hC hR dX10_list_54 rfl ⟨_, rfl, by rw [if_neg hok], by rw [if_neg hok]; exact hM⟩
      · have hx : ix (S.1 44 0) 6 (cn S 44) := CN.ix h2 6 (by omega) (by decide) c_6
        refine j_aload_n hC dX10_list_31 rfl ?_
        refine m_get hC hM dX10_list_32 fX10_234 (by decide) (mFg_44 _ _) ?_
        refine j_if_le hC 55 dX10_list_35 (by decide) (fun c_35 => ?_) (fun c_35 => ?_)
        · refine j_aload_n hC dX10_list_55 rfl ?_
          refine m_get hC hM dX10_list_56 fX10_111 (by decide) (mFg_45 _ _) ?_
          refine j_aload_n hC dX10_list_59 rfl ?_
          refine m_get hC hM dX10_list_60 fX10_234 (by decide) (mFg_44 _ _) ?_
          refine j_iload_n hC dX10_list_63 rfl ?_
          refine m_stI hC hM (by decide) dX10_list_64 (hx) (fun w1 hM => ?_)
          refine j_aload_n hC dX10_list_65 rfl ?_
          refine m_get hC hM dX10_list_66 fX10_114 (by decide) (mFg_46 _ _) ?_
          refine j_aload_n hC dX10_list_69 rfl ?_
          refine m_get hC hM dX10_list_70 fX10_234 (by decide) (mFg_44 _ _) ?_
          refine j_iload_n hC dX10_list_73 rfl ?_
          refine m_stI hC hM (by decide) dX10_list_74 (hx) (fun w2 hM => ?_)
          refine j_aload_n hC dX10_list_75 rfl ?_
          refine j_dup hC dX10_list_76 rfl ?_
          refine m_get hC hM dX10_list_77 fX10_234 (by decide) (mFg_44 _ _) ?_
          refine j_iconst hC (1) dX10_list_80 (by decide) ?_
          refine j_iadd hC dX10_list_81 ?_
          refine m_putI hC hM (by decide) dX10_list_82 fX10_234 rfl (by decide) rfl rfl (mFs_44 _ _ _) (fun w3 hM => ?_)
          refine j_aload_n hC dX10_list_85 rfl ?_
          refine j_iconst hC (0) dX10_list_86 (by decide) ?_
          refine m_putI hC hM (by decide) dX10_list_87 fX10_237 rfl (by decide) rfl rfl (mFs_55 _ _ _) (fun w4 hM => ?_)
          refine j_aload_n hC dX10_list_90 rfl ?_
          refine m_get hC hM dX10_list_91 fX10_234 (by decide) (mFg_44 _ _) ?_
          refine j_iconst hC (1) dX10_list_94 (by decide) ?_
          refine j_isub hC dX10_list_95 ?_
          have hok : okLi S wi pr := by simp [okLi, c_6, c_18, c_28, c_35, Int32.not_le, Int32.not_lt]
          exact j_iret hC hR dX10_list_96 rfl ⟨_, rfl, by rw [if_pos hok]; exact Int32.add_sub_cancel _ _, by rw [if_pos hok]; exact hM⟩
        · refine j_iload_n hC dX10_list_38 rfl ?_
          refine j_aload_n hC dX10_list_39 rfl ?_
          refine m_get hC hM dX10_list_40 fX10_111 (by decide) (mFg_45 _ _) ?_
          refine j_aload_n hC dX10_list_43 rfl ?_
          refine m_get hC hM dX10_list_44 fX10_234 (by decide) (mFg_44 _ _) ?_
          refine j_iconst hC (1) dX10_list_47 (by decide) ?_
          refine j_isub hC dX10_list_48 ?_
          refine m_ldI hC hM (by decide) dX10_list_49 (ixp (b := 6) h2 (by omega) c_35 hx) ?_
          refine j_icmp_gt hC 55 dX10_list_50 (by decide) (fun c_50 => ?_) (fun c_50 => ?_)
          · refine j_aload_n hC dX10_list_55 rfl ?_
            refine m_get hC hM dX10_list_56 fX10_111 (by decide) (mFg_45 _ _) ?_
            refine j_aload_n hC dX10_list_59 rfl ?_
            refine m_get hC hM dX10_list_60 fX10_234 (by decide) (mFg_44 _ _) ?_
            refine j_iload_n hC dX10_list_63 rfl ?_
            refine m_stI hC hM (by decide) dX10_list_64 (hx) (fun w5 hM => ?_)
            refine j_aload_n hC dX10_list_65 rfl ?_
            refine m_get hC hM dX10_list_66 fX10_114 (by decide) (mFg_46 _ _) ?_
            refine j_aload_n hC dX10_list_69 rfl ?_
            refine m_get hC hM dX10_list_70 fX10_234 (by decide) (mFg_44 _ _) ?_
            refine j_iload_n hC dX10_list_73 rfl ?_
            refine m_stI hC hM (by decide) dX10_list_74 (hx) (fun w6 hM => ?_)
            refine j_aload_n hC dX10_list_75 rfl ?_
            refine j_dup hC dX10_list_76 rfl ?_
            refine m_get hC hM dX10_list_77 fX10_234 (by decide) (mFg_44 _ _) ?_
            refine j_iconst hC (1) dX10_list_80 (by decide) ?_
            refine j_iadd hC dX10_list_81 ?_
            refine m_putI hC hM (by decide) dX10_list_82 fX10_234 rfl (by decide) rfl rfl (mFs_44 _ _ _) (fun w7 hM => ?_)
            refine j_aload_n hC dX10_list_85 rfl ?_
            refine j_iconst hC (0) dX10_list_86 (by decide) ?_
            refine m_putI hC hM (by decide) dX10_list_87 fX10_237 rfl (by decide) rfl rfl (mFs_55 _ _ _) (fun w8 hM => ?_)
            refine j_aload_n hC dX10_list_90 rfl ?_
            refine m_get hC hM dX10_list_91 fX10_234 (by decide) (mFg_44 _ _) ?_
            refine j_iconst hC (1) dX10_list_94 (by decide) ?_
            refine j_isub hC dX10_list_95 ?_
            have hok : okLi S wi pr := by simp [okLi, c_6, c_18, c_28, c_35, c_50, Int32.not_le, Int32.not_lt]
            exact j_iret hC hR dX10_list_96 rfl ⟨_, rfl, by rw [if_pos hok]; exact Int32.add_sub_cancel _ _, by rw [if_pos hok]; exact hM⟩
          · refine j_iconst hC (-1) dX10_list_53 (by decide) ?_
            have hok : ¬ okLi S wi pr := by simp [okLi, c_6, c_18, c_28, c_35, c_50, Int32.not_le, Int32.not_lt]
            exact j_iret hC hR dX10_list_54 rfl ⟨_, rfl, by rw [if_neg hok], by rw [if_neg hok]; exact hM⟩

set_option maxRecDepth 100000 in
set_option maxHeartbeats 4000000 in
theorem m_begin (K : Kx) {w : Wd} {m : Nat} {ad : Nat → Nat} {S : Ast} (g b : Int32) (hA : MA K.2.1 w m ad S)  : MT K mX10_begin 1 0 0 [.ref m, .int g, .int b] w (PI fun rr w' => rr = (if okB g b then 1 else 0) ∧ MB K.2.1 w w' m ad (if okB g b then sB S g b else S)) := by
  refine MT.of [some (.ref m), some (.int g), some (.int b)] (by decide) rfl (nle rfl) rfl ?_
  intro E hC hR
  have hM := MB.rf hA
  refine j_iload_n hC dX10_begin_0 rfl ?_
  refine j_ldc hC dX10_begin_1 nX10_149 ?_
  refine j_ldc hC dX10_begin_3 nX10_150 ?_
  refine j_calls (kc' := 0) (ks' := 0) hC (m_is K g (-100000) 100000) dX10_begin_5 wX10_is lX10_145 t_yX10_is rfl rfl (nle rfl) rfl (by decide) (by decide) (by decide) (kI fun r w' hp => ?_)
  obtain ⟨rfl, hw⟩ := hp
  rw [hw]
  clear hw w'
  refine j_if_eq hC 22 dX10_begin_8 (by decide) (fun c_8 => ?_) (fun c_8 => ?_)
  · refine j_iconst hC (0) dX10_begin_22 (by decide) ?_
    have hok : ¬ okB g b := by simp [okB, c_8]
    exact j_zret hC hR dX10_begin_23 rfl (by decide) ⟨_, rfl, by rw [if_neg hok], by rw [if_neg hok]; exact hM⟩
  · refine j_iload_n hC dX10_begin_11 rfl ?_
    refine j_ldc hC dX10_begin_12 nX10_149 ?_
    refine j_ldc hC dX10_begin_14 nX10_150 ?_
    refine j_calls (kc' := 0) (ks' := 0) hC (m_is K b (-100000) 100000) dX10_begin_16 wX10_is lX10_145 t_yX10_is rfl rfl (nle rfl) rfl (by decide) (by decide) (by decide) (kI fun r w' hp => ?_)
    obtain ⟨rfl, hw⟩ := hp
    rw [hw]
    clear hw w'
    refine j_if_ne hC 24 dX10_begin_19 (by decide) (fun c_19 => ?_) (fun c_19 => ?_)
    · refine j_aload_n hC dX10_begin_24 rfl ?_
      refine j_iconst hC (1) dX10_begin_25 (by decide) ?_
      refine m_putI hC hM (by decide) dX10_begin_26 fX10_241 rfl (by decide) rfl rfl (mFs_47 _ _ _) (fun w1 hM => ?_)
      refine j_aload_n hC dX10_begin_29 rfl ?_
      refine j_iload_n hC dX10_begin_30 rfl ?_
      refine m_putI hC hM (by decide) dX10_begin_31 fX10_244 rfl (by decide) rfl rfl (mFs_48 _ _ _) (fun w2 hM => ?_)
      refine j_aload_n hC dX10_begin_34 rfl ?_
      refine j_iload_n hC dX10_begin_35 rfl ?_
      refine m_putI hC hM (by decide) dX10_begin_36 fX10_247 rfl (by decide) rfl rfl (mFs_49 _ _ _) (fun w3 hM => ?_)
      refine j_aload_n hC dX10_begin_39 rfl ?_
      refine j_iconst hC (0) dX10_begin_40 (by decide) ?_
      refine m_putI hC hM (by decide) dX10_begin_41 fX10_250 rfl (by decide) rfl rfl (mFs_50 _ _ _) (fun w4 hM => ?_)
      refine j_aload_n hC dX10_begin_44 rfl ?_
      refine j_iconst hC (0) dX10_begin_45 (by decide) ?_
      refine m_putI hC hM (by decide) dX10_begin_46 fX10_237 rfl (by decide) rfl rfl (mFs_55 _ _ _) (fun w5 hM => ?_)
      refine j_iconst hC (1) dX10_begin_49 (by decide) ?_
      have hok : okB g b := by simp [okB, c_8, c_19]
      exact j_zret hC hR dX10_begin_50 rfl (by decide) ⟨_, rfl, by rw [if_pos hok], by rw [if_pos hok]; exact hM⟩
    · refine j_iconst hC (0) dX10_begin_22 (by decide) ?_
      have hok : ¬ okB g b := by simp [okB, c_8, c_19]
      exact j_zret hC hR dX10_begin_23 rfl (by decide) ⟨_, rfl, by rw [if_neg hok], by rw [if_neg hok]; exact hM⟩

set_option maxRecDepth 100000 in
set_option maxHeartbeats 4000000 in
theorem m_piece (K : Kx) {w : Wd} {m : Nat} {ad : Nat → Nat} {S : Ast} (g l e : Int32) (hA : MA K.2.1 w m ad S) (h2 : CN S 50 10) : MT K mX10_piece 1 0 0 [.ref m, .int g, .int l, .int e] w (PI fun rr w' => rr = (if okPc S g l e then S.1 50 0 else (-1)) ∧ MB K.2.1 w w' m ad (if okPc S g l e then sPc S g l e else S)) := by
  refine MT.of [some (.ref m), some (.int g), some (.int l), some (.int e)] (by decide) rfl (nle rfl) rfl ?_
  intro E hC hR
  have hM := MB.rf hA
  refine j_aload_n hC dX10_piece_0 rfl ?_
  refine m_get hC hM dX10_piece_1 fX10_241 (by decide) (mFg_47 _ _) ?_
  refine j_if_eq hC 49 dX10_piece_4 (by decide) (fun c_4 => ?_) (fun c_4 => ?_)
  · refine j_iconst hC (-1) dX10_piece_49 (by decide) ?_
    have hok : ¬ okPc S g l e := by simp [okPc, c_4, Int32.not_le, Int32.not_lt]
    exact j_iret hC hR dX10_piece_50 rfl ⟨_, rfl, by rw [if_neg hok], by rw [if_neg hok]; exact hM⟩
  · refine j_aload_n hC dX10_piece_7 rfl ?_
    refine m_get hC hM dX10_piece_8 fX10_250 (by decide) (mFg_50 _ _) ?_
    refine j_bipush hC (10) dX10_piece_11 (by decide) ?_
    refine j_icmp_eq hC 49 dX10_piece_13 (by decide) (fun c_13 => ?_) (fun c_13 => ?_)
    · refine j_iconst hC (-1) dX10_piece_49 (by decide) ?_
      have hok : ¬ okPc S g l e := by simp [okPc, c_4, c_13, Int32.not_le, Int32.not_lt]
      exact j_iret hC hR dX10_piece_50 rfl ⟨_, rfl, by rw [if_neg hok], by rw [if_neg hok]; exact hM⟩
    · refine j_iload_n hC dX10_piece_16 rfl ?_
      refine j_ldc hC dX10_piece_17 nX10_149 ?_
      refine j_ldc hC dX10_piece_19 nX10_150 ?_
      refine j_calls (kc' := 0) (ks' := 0) hC (m_is K g (-100000) 100000) dX10_piece_21 wX10_is lX10_145 t_yX10_is rfl rfl (nle rfl) rfl (by decide) (by decide) (by decide) (kI fun r w' hp => ?_)
      obtain ⟨rfl, hw⟩ := hp
      rw [hw]
      clear hw w'
      refine j_if_eq hC 49 dX10_piece_24 (by decide) (fun c_24 => ?_) (fun c_24 => ?_)
      · refine j_iconst hC (-1) dX10_piece_49 (by decide) ?_
        have hok : ¬ okPc S g l e := by simp [okPc, c_4, c_13, c_24, Int32.not_le, Int32.not_lt]
        exact j_iret hC hR dX10_piece_50 rfl ⟨_, rfl, by rw [if_neg hok], by rw [if_neg hok]; exact hM⟩
      · refine j_iload_n hC dX10_piece_27 rfl ?_
        refine j_iconst hC (1) dX10_piece_28 (by decide) ?_
        refine j_sipush hC (10000) dX10_piece_29 (by decide) ?_
        refine j_calls (kc' := 0) (ks' := 0) hC (m_is K l 1 10000) dX10_piece_32 wX10_is lX10_145 t_yX10_is rfl rfl (nle rfl) rfl (by decide) (by decide) (by decide) (kI fun r w' hp => ?_)
        obtain ⟨rfl, hw⟩ := hp
        rw [hw]
        clear hw w'
        refine j_if_eq hC 49 dX10_piece_35 (by decide) (fun c_35 => ?_) (fun c_35 => ?_)
        · refine j_iconst hC (-1) dX10_piece_49 (by decide) ?_
          have hok : ¬ okPc S g l e := by simp [okPc, c_4, c_13, c_24, c_35, Int32.not_le, Int32.not_lt]
          exact j_iret hC hR dX10_piece_50 rfl ⟨_, rfl, by rw [if_neg hok], by rw [if_neg hok]; exact hM⟩
        · refine j_iload_n hC dX10_piece_38 rfl ?_
          refine j_iconst hC (0) dX10_piece_39 (by decide) ?_
          refine j_sipush hC (10000) dX10_piece_40 (by decide) ?_
          refine j_calls (kc' := 0) (ks' := 0) hC (m_is K e 0 10000) dX10_piece_43 wX10_is lX10_145 t_yX10_is rfl rfl (nle rfl) rfl (by decide) (by decide) (by decide) (kI fun r w' hp => ?_)
          obtain ⟨rfl, hw⟩ := hp
          rw [hw]
          clear hw w'
          refine j_if_ne hC 51 dX10_piece_46 (by decide) (fun c_46 => ?_) (fun c_46 => ?_)
          · have hx : ix (S.1 50 0) 10 (cn S 50) := CN.ix h2 10 (by omega) (by decide) c_13
            refine j_aload_n hC dX10_piece_51 rfl ?_
            refine m_get hC hM dX10_piece_52 fX10_117 (by decide) (mFg_51 _ _) ?_
            refine j_aload_n hC dX10_piece_55 rfl ?_
            refine m_get hC hM dX10_piece_56 fX10_250 (by decide) (mFg_50 _ _) ?_
            refine j_iload_n hC dX10_piece_59 rfl ?_
            refine m_stI hC hM (by decide) dX10_piece_60 (hx) (fun w1 hM => ?_)
            refine j_aload_n hC dX10_piece_61 rfl ?_
            refine m_get hC hM dX10_piece_62 fX10_120 (by decide) (mFg_52 _ _) ?_
            refine j_aload_n hC dX10_piece_65 rfl ?_
            refine m_get hC hM dX10_piece_66 fX10_250 (by decide) (mFg_50 _ _) ?_
            refine j_iload_n hC dX10_piece_69 rfl ?_
            refine m_stI hC hM (by decide) dX10_piece_70 (hx) (fun w2 hM => ?_)
            refine j_aload_n hC dX10_piece_71 rfl ?_
            refine m_get hC hM dX10_piece_72 fX10_123 (by decide) (mFg_53 _ _) ?_
            refine j_aload_n hC dX10_piece_75 rfl ?_
            refine m_get hC hM dX10_piece_76 fX10_250 (by decide) (mFg_50 _ _) ?_
            refine j_iload_n hC dX10_piece_79 rfl ?_
            refine m_stI hC hM (by decide) dX10_piece_80 (hx) (fun w3 hM => ?_)
            refine j_aload_n hC dX10_piece_81 rfl ?_
            refine j_dup hC dX10_piece_82 rfl ?_
            refine m_get hC hM dX10_piece_83 fX10_250 (by decide) (mFg_50 _ _) ?_
            refine j_iconst hC (1) dX10_piece_86 (by decide) ?_
            refine j_iadd hC dX10_piece_87 ?_
            refine m_putI hC hM (by decide) dX10_piece_88 fX10_250 rfl (by decide) rfl rfl (mFs_50 _ _ _) (fun w4 hM => ?_)
            refine j_aload_n hC dX10_piece_91 rfl ?_
            refine j_iconst hC (0) dX10_piece_92 (by decide) ?_
            refine m_putI hC hM (by decide) dX10_piece_93 fX10_237 rfl (by decide) rfl rfl (mFs_55 _ _ _) (fun w5 hM => ?_)
            refine j_aload_n hC dX10_piece_96 rfl ?_
            refine m_get hC hM dX10_piece_97 fX10_250 (by decide) (mFg_50 _ _) ?_
            refine j_iconst hC (1) dX10_piece_100 (by decide) ?_
            refine j_isub hC dX10_piece_101 ?_
            have hok : okPc S g l e := by simp [okPc, c_4, c_13, c_24, c_35, c_46, Int32.not_le, Int32.not_lt]
            exact j_iret hC hR dX10_piece_102 rfl ⟨_, rfl, by rw [if_pos hok]; exact Int32.add_sub_cancel _ _, by rw [if_pos hok]; exact hM⟩
          · refine j_iconst hC (-1) dX10_piece_49 (by decide) ?_
            have hok : ¬ okPc S g l e := by simp [okPc, c_4, c_13, c_24, c_35, c_46, Int32.not_le, Int32.not_lt]
            exact j_iret hC hR dX10_piece_50 rfl ⟨_, rfl, by rw [if_neg hok], by rw [if_neg hok]; exact hM⟩

set_option maxRecDepth 100000 in
set_option maxHeartbeats 4000000 in
theorem m_laid (K : Kx) {w : Wd} {m : Nat} {ad : Nat → Nat} {S : Ast} (k x : Int32) (hA : MA K.2.1 w m ad S) (h2 : CN S 50 10) : MT K mX10_laid 1 0 0 [.ref m, .int k, .int x] w (PI fun r w' => r = (if okLd S k x then rLd S k.toNatClampNeg x else (-1073741824)) ∧ w' = w) := by
  refine MT.of [some (.ref m), some (.int k), some (.int x)] (by decide) rfl (nle rfl) rfl ?_
  intro E hC hR
  have hM := MB.rf hA
  refine j_aload_n hC dX10_laid_0 rfl ?_
  refine m_get hC hM dX10_laid_1 fX10_237 (by decide) (mFg_55 _ _) ?_
  refine j_if_eq hC 30 dX10_laid_4 (by decide) (fun c_4 => ?_) (fun c_4 => ?_)
  · refine j_ldc_w hC dX10_laid_30 nX10_265 ?_
    have hok : ¬ okLd S k x := by simp [okLd, c_4]
    exact j_iret hC hR dX10_laid_33 rfl ⟨_, rfl, by rw [if_neg hok], rfl⟩
  · refine j_iload_n hC dX10_laid_7 rfl ?_
    refine j_iconst hC (0) dX10_laid_8 (by decide) ?_
    refine j_aload_n hC dX10_laid_9 rfl ?_
    refine m_get hC hM dX10_laid_10 fX10_250 (by decide) (mFg_50 _ _) ?_
    refine j_iconst hC (1) dX10_laid_13 (by decide) ?_
    refine j_isub hC dX10_laid_14 ?_
    refine j_calls (kc' := 0) (ks' := 0) hC (m_is K k 0 (S.1 50 0 - 1)) dX10_laid_15 wX10_is lX10_145 t_yX10_is rfl rfl (nle rfl) rfl (by decide) (by decide) (by decide) (kI fun r w' hp => ?_)
    obtain ⟨rfl, hw⟩ := hp
    rw [hw]
    clear hw w'
    refine j_if_eq hC 30 dX10_laid_18 (by decide) (fun c_18 => ?_) (fun c_18 => ?_)
    · refine j_ldc_w hC dX10_laid_30 nX10_265 ?_
      have hok : ¬ okLd S k x := by simp [okLd, c_4, c_18]
      exact j_iret hC hR dX10_laid_33 rfl ⟨_, rfl, by rw [if_neg hok], rfl⟩
    · refine j_iload_n hC dX10_laid_21 rfl ?_
      refine j_iconst hC (0) dX10_laid_22 (by decide) ?_
      refine j_iconst hC (2) dX10_laid_23 (by decide) ?_
      refine j_calls (kc' := 0) (ks' := 0) hC (m_is K x 0 2) dX10_laid_24 wX10_is lX10_145 t_yX10_is rfl rfl (nle rfl) rfl (by decide) (by decide) (by decide) (kI fun r w' hp => ?_)
      obtain ⟨rfl, hw⟩ := hp
      rw [hw]
      clear hw w'
      refine j_if_ne hC 34 dX10_laid_27 (by decide) (fun c_27 => ?_) (fun c_27 => ?_)
      · have hok : okLd S k x := by simp [okLd, c_4, c_18, c_27]
        obtain ⟨-, hlt, hx⟩ := wI_ix h2.2 (by omega) (show ¬ wI k 0 (nI (cn S 50) - 1) = 0 by rw [← h2.1]; exact c_18)
        refine j_iload_n hC dX10_laid_34 rfl ?_
        refine j_if_ne hC 47 dX10_laid_35 (by decide) (fun c_35 => ?_) (fun c_35 => ?_)
        · refine j_iload_n hC dX10_laid_47 rfl ?_
          refine j_iconst hC (1) dX10_laid_48 (by decide) ?_
          refine j_icmp_ne hC 61 dX10_laid_49 (by decide) (fun c_49 => ?_) (fun c_49 => ?_)
          · refine j_aload_n hC dX10_laid_61 rfl ?_
            refine m_get hC hM dX10_laid_62 fX10_135 (by decide) (mFg_58 _ _) ?_
            refine j_iload_n hC dX10_laid_65 rfl ?_
            refine m_ldI hC hM (by decide) dX10_laid_66 (hx) ?_
            exact j_iret hC hR dX10_laid_67 rfl ⟨_, rfl, by rw [if_pos hok]; simp [rLd, c_35, c_49], rfl⟩
          · refine j_aload_n hC dX10_laid_52 rfl ?_
            refine m_get hC hM dX10_laid_53 fX10_132 (by decide) (mFg_57 _ _) ?_
            refine j_iload_n hC dX10_laid_56 rfl ?_
            refine m_ldI hC hM (by decide) dX10_laid_57 (hx) ?_
            refine j_goto hC 67 dX10_laid_58 (by decide) ?_
            exact j_iret hC hR dX10_laid_67 rfl ⟨_, rfl, by rw [if_pos hok]; simp [rLd, c_35, c_49], rfl⟩
        · refine j_aload_n hC dX10_laid_38 rfl ?_
          refine m_get hC hM dX10_laid_39 fX10_129 (by decide) (mFg_56 _ _) ?_
          refine j_iload_n hC dX10_laid_42 rfl ?_
          refine m_ldI hC hM (by decide) dX10_laid_43 (hx) ?_
          refine j_goto hC 67 dX10_laid_44 (by decide) ?_
          exact j_iret hC hR dX10_laid_67 rfl ⟨_, rfl, by rw [if_pos hok]; simp [rLd, c_35], rfl⟩
      · refine j_ldc_w hC dX10_laid_30 nX10_265 ?_
        have hok : ¬ okLd S k x := by simp [okLd, c_4, c_18, c_27]
        exact j_iret hC hR dX10_laid_33 rfl ⟨_, rfl, by rw [if_neg hok], rfl⟩

