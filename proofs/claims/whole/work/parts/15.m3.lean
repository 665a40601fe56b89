
theorem l0 : (0 : Int64).toInt = 0 := by decide
theorem gOut_0 {ra ab : Int64} (h : ab ≤ 0) (hr : 0 < ra) : gOut ra ab = 0 := by
  unfold gOut
  have h1 := Int64.le_iff_toInt_le.mp h
  have h2 := Int64.lt_iff_toInt_lt.mp hr
  rw [l0] at h1 h2
  have e : ab < ra := Int64.lt_iff_toInt_lt.mpr (by omega)
  simp only [if_pos e]
  by_cases h3 : ab < 0
  · rw [if_pos h3]
  · rw [if_neg h3]
    have := Int64.not_lt.mp h3
    exact Int64.le_antisymm h this
theorem gOut_1 {ra ab : Int64} (h : ¬ ab ≤ 0) (hr : 0 < ra) : gOut ra ab = if ra < ab then ra else ab := by
  unfold gOut
  have h1 := Int64.lt_iff_toInt_lt.mp (Int64.not_le.mp h)
  have h2 := Int64.lt_iff_toInt_lt.mp hr
  rw [l0] at h1 h2
  have h3 : ¬ (if ab < ra then ab else ra) < 0 := by
    intro q
    have q' := Int64.lt_iff_toInt_lt.mp q
    rw [l0] at q'
    split at q' <;> omega
  rw [if_neg h3]
  by_cases h4 : ab < ra
  · rw [if_pos h4, if_neg (fun q => absurd (Int64.lt_iff_toInt_lt.mp h4) (by have := Int64.lt_iff_toInt_lt.mp q; omega))]
  · rw [if_neg h4]
    by_cases h5 : ra < ab
    · rw [if_pos h5]
    · rw [if_neg h5]
      exact Int64.le_antisymm (Int64.not_lt.mp h4) (Int64.not_lt.mp h5)
theorem gTake_0 {ra hd lf : Int64} (h : lf ≤ 0) (hr : 0 ≤ ra) (hh : 0 ≤ hd) : gTake ra hd lf = 0 := by
  unfold gTake
  have h1 := Int64.le_iff_toInt_le.mp h
  have h2 := Int64.le_iff_toInt_le.mp hr
  have h3 := Int64.le_iff_toInt_le.mp hh
  rw [l0] at h1 h2 h3
  have e : (if lf < 0 then 0 else lf) = (0 : Int64) := by
    by_cases h4 : lf < 0
    · rw [if_pos h4]
    · rw [if_neg h4]; exact Int64.le_antisymm h (Int64.not_lt.mp h4)
  rw [e]
  by_cases h5 : (0 : Int64) < (if hd < ra then hd else ra)
  · rw [if_pos h5]
  · rw [if_neg h5]
    have h6 := Int64.not_lt.mp h5
    refine Int64.le_antisymm h6 (Int64.le_iff_toInt_le.mpr ?_)
    rw [l0]
    split <;> omega
theorem gTake_1 {ra hd lf : Int64} (h : ¬ lf ≤ 0) : gTake ra hd lf = if (if hd < ra then hd else ra) < lf then (if hd < ra then hd else ra) else lf := by
  unfold gTake
  have h1 := Int64.not_le.mp h
  have e : ¬ lf < 0 := fun q => Int64.lt_irrefl (Int64.lt_trans h1 q)
  rw [if_neg e]
  generalize (if hd < ra then hd else ra) = q
  by_cases h4 : lf < q
  · rw [if_pos h4, if_neg (fun z => Int64.lt_irrefl (Int64.lt_trans h4 z))]
  · rw [if_neg h4]
    by_cases h5 : q < lf
    · rw [if_pos h5]
    · rw [if_neg h5]; exact Int64.le_antisymm (Int64.not_lt.mp h4) (Int64.not_lt.mp h5)

set_option maxRecDepth 100000 in
set_option maxHeartbeats 4000000 in
theorem m_rainOf (K : Kx) {w : Wd} {m : Nat} {ad : Nat → Nat} {S : Ast} {k j : Nat} (mi : Int32) (hA : MA K.2.1 w m ad S) (hk : k < 24) (hj : ix mi 1440 j) (hn : ix (S.1 19 k) 24 (S.1 19 k).toNatClampNeg) : MT K mX10_rainOf 0 0 0 [.ref m, .int (nI k), .int mi] w (PV fun w' => MB K.2.1 w w' m ad (fRain S k j)) := by
  refine MT.of [some (.ref m), some (.int (nI k)), some (.int mi), none, none] (by decide) rfl (nle rfl) rfl ?_
  intro E hC hR
  have hM := MB.rf hA
  refine j_aload_n hC dX10_rainOf_0 rfl ?_
  refine m_get hC hM dX10_rainOf_1 fX10_65 (by decide) (mFg_22 _ _) ?_
  refine j_iload_n hC dX10_rainOf_4 rfl ?_
  refine j_dup2_11 hC dX10_rainOf_5 rfl rfl ?_
  refine m_ldJ hC hM (by decide) dX10_rainOf_6 (ix_nI (n := 24) hk (by omega)) ?_
  refine j_aload_n hC dX10_rainOf_7 rfl ?_
  refine m_get hC hM dX10_rainOf_8 fX10_59 (by decide) (mFg_20 _ _) ?_
  refine j_iload_n hC dX10_rainOf_11 rfl ?_
  refine m_ldI hC hM (by decide) dX10_rainOf_12 (ix_nI (n := 24) hk (by omega)) ?_
  refine j_i2l hC dX10_rainOf_13 ?_
  refine j_aload_n hC dX10_rainOf_14 rfl ?_
  refine m_get hC hM dX10_rainOf_15 fX10_68 (by decide) (mFg_23 _ _) ?_
  refine j_iload_n hC dX10_rainOf_18 rfl ?_
  refine m_ldI hC hM (by decide) dX10_rainOf_19 (hj) ?_
  refine j_i2l hC dX10_rainOf_20 ?_
  refine j_lmul hC dX10_rainOf_21 ?_
  refine j_sipush hC (1000) dX10_rainOf_22 (by decide) ?_
  refine j_aload_n hC dX10_rainOf_25 rfl ?_
  refine m_get hC hM dX10_rainOf_26 fX10_62 (by decide) (mFg_21 _ _) ?_
  refine j_iload_n hC dX10_rainOf_29 rfl ?_
  refine m_ldI hC hM (by decide) dX10_rainOf_30 (ix_nI (n := 24) hk (by omega)) ?_
  refine j_isub hC dX10_rainOf_31 ?_
  refine j_i2l hC dX10_rainOf_32 ?_
  refine j_lmul hC dX10_rainOf_33 ?_
  refine j_ladd hC dX10_rainOf_34 ?_
  refine m_stJ hC hM (by decide) dX10_rainOf_35 (ix_nI (n := 24) hk (by omega)) (fun w1 hM => ?_)
  refine j_aload_n hC dX10_rainOf_36 rfl ?_
  refine m_get hC hM dX10_rainOf_37 fX10_65 (by decide) (mFg_22 _ _) ?_
  refine j_iload_n hC dX10_rainOf_40 rfl ?_
  refine m_ldJ hC hM (by decide) dX10_rainOf_41 (ix_nI (n := 24) hk (by omega)) ?_
  refine j_ldc2 hC dX10_rainOf_42 nX10_172 ?_
  refine j_ldiv hC dX10_rainOf_45 (by decide) ?_
  refine j_lstore_n (lv' := [some _, some _, some _, some _, none]) hC dX10_rainOf_46 (nlt rfl) rfl ?_
  refine j_aload_n hC dX10_rainOf_47 rfl ?_
  refine m_get hC hM dX10_rainOf_48 fX10_65 (by decide) (mFg_22 _ _) ?_
  refine j_iload_n hC dX10_rainOf_51 rfl ?_
  refine j_dup2_11 hC dX10_rainOf_52 rfl rfl ?_
  refine m_ldJ hC hM (by decide) dX10_rainOf_53 (ix_nI (n := 24) hk (by omega)) ?_
  refine j_lload_n hC dX10_rainOf_54 rfl ?_
  refine j_ldc2 hC dX10_rainOf_55 nX10_172 ?_
  refine j_lmul hC dX10_rainOf_58 ?_
  refine j_lsub hC dX10_rainOf_59 ?_
  refine m_stJ hC hM (by decide) dX10_rainOf_60 (ix_nI (n := 24) hk (by omega)) (fun w2 hM => ?_)
  refine j_aload_n hC dX10_rainOf_61 rfl ?_
  refine m_get hC hM dX10_rainOf_62 fX10_22 (by decide) (mFg_6 _ _) ?_
  refine j_aload_n hC dX10_rainOf_65 rfl ?_
  refine m_get hC hM dX10_rainOf_66 fX10_56 (by decide) (mFg_19 _ _) ?_
  refine j_iload_n hC dX10_rainOf_69 rfl ?_
  refine m_ldI hC hM (by decide) dX10_rainOf_70 (ix_nI (n := 24) hk (by omega)) ?_
  refine j_dup2_11 hC dX10_rainOf_71 rfl rfl ?_
  refine m_ldJ hC hM (by decide) dX10_rainOf_72 (hn) ?_
  refine j_lload_n hC dX10_rainOf_73 rfl ?_
  refine j_ladd hC dX10_rainOf_74 ?_
  refine m_stJ hC hM (by decide) dX10_rainOf_75 (hn) (fun w3 hM => ?_)
  refine j_aload_n hC dX10_rainOf_76 rfl ?_
  refine j_dup hC dX10_rainOf_77 rfl ?_
  refine m_get hC hM dX10_rainOf_78 fX10_174 (by decide) (mFg_41 _ _) ?_
  refine j_lload_n hC dX10_rainOf_81 rfl ?_
  refine j_ladd hC dX10_rainOf_82 ?_
  refine m_putJ hC hM (by decide) dX10_rainOf_83 fX10_174 rfl (by decide) rfl rfl (mFs_41 _ _ _) (fun w4 hM => ?_)
  exact j_vret hC hR dX10_rainOf_86 rfl ⟨rfl, MB.cast hM (by simp [fRain, uJ_at, uJ_uJ, uJ_1, uJ_2n])⟩

set_option maxRecDepth 100000 in
set_option maxHeartbeats 4000000 in
theorem m_flowOf (K : Kx) {w : Wd} {m : Nat} {ad : Nat → Nat} {S : Ast} {k : Nat} (hA : MA K.2.1 w m ad S) (hk : k < 40) (hf : ix (S.1 11 k) 24 (S.1 11 k).toNatClampNeg) (ht : ix (S.1 12 k) 24 (S.1 12 k).toNatClampNeg) (hft : (S.1 12 k).toNatClampNeg ≠ (S.1 11 k).toNatClampNeg) (hB : ¬ wB S k = 0) : MT K mX10_flowOf 1 0 0 [.ref m, .int (nI k)] w (PV fun w' => MB K.2.1 w w' m ad (fFlow S k)) := by
  refine MT.of [some (.ref m), some (.int (nI k)), none, none, none, none, none, none, none, none] (by decide) rfl (nle rfl) rfl ?_
  intro E hC hR
  have hM := MB.rf hA
  refine j_aload_n hC dX10_flowOf_0 rfl ?_
  refine m_get hC hM dX10_flowOf_1 fX10_35 (by decide) (mFg_11 _ _) ?_
  refine j_iload_n hC dX10_flowOf_4 rfl ?_
  refine m_ldI hC hM (by decide) dX10_flowOf_5 (ix_nI (n := 40) hk (by omega)) ?_
  refine j_istore_n (lv' := [some _, some _, some _, none, none, none, none, none, none, none]) hC dX10_flowOf_6 (nlt rfl) rfl ?_
  refine j_aload_n hC dX10_flowOf_7 rfl ?_
  refine m_get hC hM dX10_flowOf_8 fX10_38 (by decide) (mFg_12 _ _) ?_
  refine j_iload_n hC dX10_flowOf_11 rfl ?_
  refine m_ldI hC hM (by decide) dX10_flowOf_12 (ix_nI (n := 40) hk (by omega)) ?_
  refine j_istore_n (lv' := [some _, some _, some _, some _, none, none, none, none, none, none]) hC dX10_flowOf_13 (nlt rfl) rfl ?_
  refine j_aload_n hC dX10_flowOf_14 rfl ?_
  refine m_get hC hM dX10_flowOf_15 fX10_47 (by decide) (mFg_15 _ _) ?_
  refine j_iload_n hC dX10_flowOf_18 rfl ?_
  refine j_dup2_11 hC dX10_flowOf_19 rfl rfl ?_
  refine m_ldJ hC hM (by decide) dX10_flowOf_20 (ix_nI (n := 40) hk (by omega)) ?_
  refine j_aload_n hC dX10_flowOf_21 rfl ?_
  refine m_get hC hM dX10_flowOf_22 fX10_44 (by decide) (mFg_14 _ _) ?_
  refine j_iload_n hC dX10_flowOf_25 rfl ?_
  refine m_ldI hC hM (by decide) dX10_flowOf_26 (ix_nI (n := 40) hk (by omega)) ?_
  refine j_i2l hC dX10_flowOf_27 ?_
  refine j_aload_n hC dX10_flowOf_28 rfl ?_
  refine m_get hC hM dX10_flowOf_29 fX10_44 (by decide) (mFg_14 _ _) ?_
  refine j_iload_n hC dX10_flowOf_32 rfl ?_
  refine m_ldI hC hM (by decide) dX10_flowOf_33 (ix_nI (n := 40) hk (by omega)) ?_
  refine j_i2l hC dX10_flowOf_34 ?_
  refine j_lmul hC dX10_flowOf_35 ?_
  refine j_aload_n hC dX10_flowOf_36 rfl ?_
  refine m_get hC hM dX10_flowOf_37 fX10_32 (by decide) (mFg_9 _ _) ?_
  refine j_iload_n hC dX10_flowOf_40 rfl ?_
  refine m_ldJ hC hM (by decide) dX10_flowOf_41 (hf) ?_
  refine j_aload_n hC dX10_flowOf_42 rfl ?_
  refine m_get hC hM dX10_flowOf_43 fX10_32 (by decide) (mFg_9 _ _) ?_
  refine j_iload_n hC dX10_flowOf_46 rfl ?_
  refine m_ldJ hC hM (by decide) dX10_flowOf_47 (ht) ?_
  refine j_lsub hC dX10_flowOf_48 ?_
  refine j_lmul hC dX10_flowOf_49 ?_
  refine j_ladd hC dX10_flowOf_50 ?_
  refine m_stJ hC hM (by decide) dX10_flowOf_51 (ix_nI (n := 40) hk (by omega)) (fun w1 hM => ?_)
  refine j_ldc2 hC dX10_flowOf_52 nX10_178 ?_
  refine j_aload_n hC dX10_flowOf_55 rfl ?_
  refine m_get hC hM dX10_flowOf_56 fX10_41 (by decide) (mFg_13 _ _) ?_
  refine j_iload_n hC dX10_flowOf_59 rfl ?_
  refine m_ldI hC hM (by decide) dX10_flowOf_60 (ix_nI (n := 40) hk (by omega)) ?_
  refine j_i2l hC dX10_flowOf_61 ?_
  refine j_lmul hC dX10_flowOf_62 ?_
  refine j_lstore (lv' := [some _, some _, some _, some _, some _, none, none, none, none, none]) hC dX10_flowOf_63 (nlt rfl) rfl ?_
  refine j_aload_n hC dX10_flowOf_65 rfl ?_
  refine m_get hC hM dX10_flowOf_66 fX10_47 (by decide) (mFg_15 _ _) ?_
  refine j_iload_n hC dX10_flowOf_69 rfl ?_
  refine m_ldJ hC hM (by decide) dX10_flowOf_70 (ix_nI (n := 40) hk (by omega)) ?_
  refine j_lload hC dX10_flowOf_71 rfl ?_
  refine j_ldiv hC dX10_flowOf_73 (hB) ?_
  refine J.toL (y := wR S k / wB S k) (by rw [uJ_at]; rfl) ?_
  refine j_lstore (lv' := [some _, some _, some _, some _, some _, none, some _, none, none, none]) hC dX10_flowOf_74 (nlt rfl) rfl ?_
  refine j_aload_n hC dX10_flowOf_76 rfl ?_
  refine m_get hC hM dX10_flowOf_77 fX10_47 (by decide) (mFg_15 _ _) ?_
  refine j_iload_n hC dX10_flowOf_80 rfl ?_
  refine j_dup2_11 hC dX10_flowOf_81 rfl rfl ?_
  refine m_ldJ hC hM (by decide) dX10_flowOf_82 (ix_nI (n := 40) hk (by omega)) ?_
  refine j_lload hC dX10_flowOf_83 rfl ?_
  refine j_lload hC dX10_flowOf_85 rfl ?_
  refine j_lmul hC dX10_flowOf_87 ?_
  refine j_lsub hC dX10_flowOf_88 ?_
  refine m_stJ hC hM (by decide) dX10_flowOf_89 (ix_nI (n := 40) hk (by omega)) (fun w2 hM => ?_)
  refine j_lload hC dX10_flowOf_90 rfl ?_
  refine j_lconst hC (0) dX10_flowOf_92 (by decide) ?_
  refine j_lcmp_lt hC 111 dX10_flowOf_93 dX10_flowOf_94 (by decide) (fun c_93 => ?_) (fun c_93 => ?_)
  · refine j_lload hC dX10_flowOf_111 rfl ?_
    refine j_lneg hC dX10_flowOf_113 ?_
    refine j_aload_n hC dX10_flowOf_114 rfl ?_
    refine m_get hC hM dX10_flowOf_115 fX10_22 (by decide) (mFg_6 _ _) ?_
    refine j_iload_n hC dX10_flowOf_118 rfl ?_
    refine m_ldJ hC hM (by decide) dX10_flowOf_119 (ht) ?_
    refine j_calls (kc' := 0) (ks' := 0) hC (m_less K (-(wR S k / wB S k)) (S.2 6 (S.1 12 k).toNatClampNeg)) dX10_flowOf_120 wX10_less lX10_180 t_yX10_less rfl rfl (nle rfl) rfl (by decide) (by decide) (by decide) (kL fun r w' hp => ?_)
    obtain ⟨rfl, hw⟩ := hp
    rw [hw]
    clear hw w'
    refine j_lneg hC dX10_flowOf_123 ?_
    refine J.toL (y := wM S k) (by first | exact (show wM S k = _ from if_neg c_93).symm | exact (show wM S k = _ from if_pos c_93).symm) ?_
    refine j_lstore (lv' := [some _, some _, some _, some _, some _, none, some _, none, some _, none]) hC dX10_flowOf_124 (nlt rfl) rfl ?_
    refine j_aload_n hC dX10_flowOf_126 rfl ?_
    refine m_get hC hM dX10_flowOf_127 fX10_22 (by decide) (mFg_6 _ _) ?_
    refine j_iload_n hC dX10_flowOf_130 rfl ?_
    refine j_dup2_11 hC dX10_flowOf_131 rfl rfl ?_
    refine m_ldJ hC hM (by decide) dX10_flowOf_132 (hf) ?_
    refine j_lload hC dX10_flowOf_133 rfl ?_
    refine j_lsub hC dX10_flowOf_135 ?_
    refine m_stJ hC hM (by decide) dX10_flowOf_136 (hf) (fun w3 hM => ?_)
    refine j_aload_n hC dX10_flowOf_137 rfl ?_
    refine m_get hC hM dX10_flowOf_138 fX10_22 (by decide) (mFg_6 _ _) ?_
    refine j_iload_n hC dX10_flowOf_141 rfl ?_
    refine j_dup2_11 hC dX10_flowOf_142 rfl rfl ?_
    refine m_ldJ hC hM (by decide) dX10_flowOf_143 (ht) ?_
    refine j_lload hC dX10_flowOf_144 rfl ?_
    refine j_ladd hC dX10_flowOf_146 ?_
    refine m_stJ hC hM (by decide) dX10_flowOf_147 (ht) (fun w4 hM => ?_)
    refine j_aload_n hC dX10_flowOf_148 rfl ?_
    refine m_get hC hM dX10_flowOf_149 fX10_50 (by decide) (mFg_16 _ _) ?_
    refine j_iload_n hC dX10_flowOf_152 rfl ?_
    refine j_lload hC dX10_flowOf_153 rfl ?_
    refine m_stJ hC hM (by decide) dX10_flowOf_155 (ix_nI (n := 40) hk (by omega)) (fun w5 hM => ?_)
    refine j_aload_n hC dX10_flowOf_156 rfl ?_
    refine m_get hC hM dX10_flowOf_157 fX10_53 (by decide) (mFg_17 _ _) ?_
    refine j_iload_n hC dX10_flowOf_160 rfl ?_
    refine j_dup2_11 hC dX10_flowOf_161 rfl rfl ?_
    refine m_ldJ hC hM (by decide) dX10_flowOf_162 (ix_nI (n := 40) hk (by omega)) ?_
    refine j_lload hC dX10_flowOf_163 rfl ?_
    refine j_ladd hC dX10_flowOf_165 ?_
    refine m_stJ hC hM (by decide) dX10_flowOf_166 (ix_nI (n := 40) hk (by omega)) (fun w6 hM => ?_)
    exact j_vret hC hR dX10_flowOf_167 rfl ⟨rfl, MB.cast hM (by simp [fFlow, uJ_at, uJ_uJ, uJ_1, uJ_2n, uJ_i hft, wR, wB])⟩
  · refine j_lload hC dX10_flowOf_97 rfl ?_
    refine j_aload_n hC dX10_flowOf_99 rfl ?_
    refine m_get hC hM dX10_flowOf_100 fX10_22 (by decide) (mFg_6 _ _) ?_
    refine j_iload_n hC dX10_flowOf_103 rfl ?_
    refine m_ldJ hC hM (by decide) dX10_flowOf_104 (hf) ?_
    refine j_calls (kc' := 0) (ks' := 0) hC (m_less K (wR S k / wB S k) (S.2 6 (S.1 11 k).toNatClampNeg)) dX10_flowOf_105 wX10_less lX10_180 t_yX10_less rfl rfl (nle rfl) rfl (by decide) (by decide) (by decide) (kL fun r w' hp => ?_)
    obtain ⟨rfl, hw⟩ := hp
    rw [hw]
    clear hw w'
    refine j_goto hC 124 dX10_flowOf_108 (by decide) ?_
    refine J.toL (y := wM S k) (by first | exact (show wM S k = _ from if_neg c_93).symm | exact (show wM S k = _ from if_pos c_93).symm) ?_
    refine j_lstore (lv' := [some _, some _, some _, some _, some _, none, some _, none, some _, none]) hC dX10_flowOf_124 (nlt rfl) rfl ?_
    refine j_aload_n hC dX10_flowOf_126 rfl ?_
    refine m_get hC hM dX10_flowOf_127 fX10_22 (by decide) (mFg_6 _ _) ?_
    refine j_iload_n hC dX10_flowOf_130 rfl ?_
    refine j_dup2_11 hC dX10_flowOf_131 rfl rfl ?_
    refine m_ldJ hC hM (by decide) dX10_flowOf_132 (hf) ?_
    refine j_lload hC dX10_flowOf_133 rfl ?_
    refine j_lsub hC dX10_flowOf_135 ?_
    refine m_stJ hC hM (by decide) dX10_flowOf_136 (hf) (fun w7 hM => ?_)
    refine j_aload_n hC dX10_flowOf_137 rfl ?_
    refine m_get hC hM dX10_flowOf_138 fX10_22 (by decide) (mFg_6 _ _) ?_
    refine j_iload_n hC dX10_flowOf_141 rfl ?_
    refine j_dup2_11 hC dX10_flowOf_142 rfl rfl ?_
    refine m_ldJ hC hM (by decide) dX10_flowOf_143 (ht) ?_
    refine j_lload hC dX10_flowOf_144 rfl ?_
    refine j_ladd hC dX10_flowOf_146 ?_
    refine m_stJ hC hM (by decide) dX10_flowOf_147 (ht) (fun w8 hM => ?_)
    refine j_aload_n hC dX10_flowOf_148 rfl ?_
    refine m_get hC hM dX10_flowOf_149 fX10_50 (by decide) (mFg_16 _ _) ?_
    refine j_iload_n hC dX10_flowOf_152 rfl ?_
    refine j_lload hC dX10_flowOf_153 rfl ?_
    refine m_stJ hC hM (by decide) dX10_flowOf_155 (ix_nI (n := 40) hk (by omega)) (fun w9 hM => ?_)
    refine j_aload_n hC dX10_flowOf_156 rfl ?_
    refine m_get hC hM dX10_flowOf_157 fX10_53 (by decide) (mFg_17 _ _) ?_
    refine j_iload_n hC dX10_flowOf_160 rfl ?_
    refine j_dup2_11 hC dX10_flowOf_161 rfl rfl ?_
    refine m_ldJ hC hM (by decide) dX10_flowOf_162 (ix_nI (n := 40) hk (by omega)) ?_
    refine j_lload hC dX10_flowOf_163 rfl ?_
    refine j_ladd hC dX10_flowOf_165 ?_
    refine m_stJ hC hM (by decide) dX10_flowOf_166 (ix_nI (n := 40) hk (by omega)) (fun w10 hM => ?_)
    exact j_vret hC hR dX10_flowOf_167 rfl ⟨rfl, MB.cast hM (by simp [fFlow, uJ_at, uJ_uJ, uJ_1, uJ_2n, uJ_i hft, wR, wB])⟩

set_option maxRecDepth 100000 in
set_option maxHeartbeats 4000000 in
theorem m_pumpOf (K : Kx) {w : Wd} {m : Nat} {ad : Nat → Nat} {S : Ast} {k : Nat} (hA : MA K.2.1 w m ad S) (hk : k < 8) (hn : ix (S.1 25 k) 24 (S.1 25 k).toNatClampNeg) (ht : ix (S.1 26 k) 24 (S.1 26 k).toNatClampNeg) (hnt : (S.1 26 k).toNatClampNeg ≠ (S.1 25 k).toNatClampNeg) (hro : ¬ (S.1 4 (S.1 25 k).toNatClampNeg).toInt64 = 0) : MT K mX10_pumpOf 1 0 0 [.ref m, .int (nI k)] w (PV fun w' => MB K.2.1 w w' m ad (fPump S k)) := by
  refine MT.of [some (.ref m), some (.int (nI k)), none, none, none, none] (by decide) rfl (nle rfl) rfl ?_
  intro E hC hR
  have hM := MB.rf hA
  refine j_aload_n hC dX10_pumpOf_0 rfl ?_
  refine j_aload_n hC dX10_pumpOf_1 rfl ?_
  refine m_get hC hM dX10_pumpOf_2 fX10_71 (by decide) (mFg_25 _ _) ?_
  refine j_iload_n hC dX10_pumpOf_5 rfl ?_
  refine m_ldI hC hM (by decide) dX10_pumpOf_6 (ix_nI (n := 8) hk (by omega)) ?_
  refine j_callv (kc' := 0) (ks' := 0) (r := (RX10, TX10, 59)) hC (m_levelOf K (S.1 25 k) hA hn hro) dX10_pumpOf_7 wX10_levelOf lX10_184 i_yX10_levelOf s_yX10_levelOf hM.1.1 rfl rfl rfl (nle rfl) rfl (by decide) (by decide) (by decide) (kL fun r w' hp => ?_)
  obtain ⟨rfl, hw⟩ := hp
  rw [hw]
  clear hw w'
  refine j_lstore_n (lv' := [some _, some _, some _, none, none, none]) hC dX10_pumpOf_10 (nlt rfl) rfl ?_
  refine j_lload_n hC dX10_pumpOf_11 rfl ?_
  refine j_aload_n hC dX10_pumpOf_12 rfl ?_
  refine m_get hC hM dX10_pumpOf_13 fX10_77 (by decide) (mFg_27 _ _) ?_
  refine j_iload_n hC dX10_pumpOf_16 rfl ?_
  refine m_ldI hC hM (by decide) dX10_pumpOf_17 (ix_nI (n := 8) hk (by omega)) ?_
  refine j_i2l hC dX10_pumpOf_18 ?_
  refine j_lcmp_lt hC 33 dX10_pumpOf_19 dX10_pumpOf_20 (by decide) (fun c_19 => ?_) (fun c_19 => ?_)
  · refine j_lload_n hC dX10_pumpOf_33 rfl ?_
    refine j_aload_n hC dX10_pumpOf_34 rfl ?_
    refine m_get hC hM dX10_pumpOf_35 fX10_80 (by decide) (mFg_28 _ _) ?_
    refine j_iload_n hC dX10_pumpOf_38 rfl ?_
    refine m_ldI hC hM (by decide) dX10_pumpOf_39 (ix_nI (n := 8) hk (by omega)) ?_
    refine j_i2l hC dX10_pumpOf_40 ?_
    refine j_lcmp_gt hC 52 dX10_pumpOf_41 dX10_pumpOf_42 (by decide) (fun c_41 => ?_) (fun c_41 => ?_)
    · have hM := MB.cast (T := uI S 30 k (uO S k)) hM (by first | (rw [show uO S k = 1 from if_neg c_19]; done) | (rw [show uO S k = S.1 30 k from (if_pos c_19).trans (if_pos c_41), uI_id]; done) | (rw [show uO S k = 0 from (if_pos c_19).trans (if_neg c_41)]; done))
      refine j_aload_n hC dX10_pumpOf_52 rfl ?_
      refine m_get hC hM dX10_pumpOf_53 fX10_86 (by decide) (mFg_30 _ _) ?_
      refine j_iload_n hC dX10_pumpOf_56 rfl ?_
      refine m_ldZ hC hM dX10_pumpOf_57 (ix_nI (n := 8) hk (by omega)) ?_
      refine J.toI (y := uO S k) uI_at ?_
      refine j_if_eq hC 85 dX10_pumpOf_58 (by decide) (fun c_58 => ?_) (fun c_58 => ?_)
      · refine j_lconst hC (0) dX10_pumpOf_85 (by decide) ?_
        refine J.toL (y := uG S k) (by first | exact (show uG S k = _ from if_neg c_58).symm | exact (show uG S k = _ from if_pos c_58).symm) ?_
        refine j_lstore (lv' := [some _, some _, some _, none, some _, none]) hC dX10_pumpOf_86 (nlt rfl) rfl ?_
        refine j_aload_n hC dX10_pumpOf_88 rfl ?_
        refine m_get hC hM dX10_pumpOf_89 fX10_22 (by decide) (mFg_6 _ _) ?_
        refine j_aload_n hC dX10_pumpOf_92 rfl ?_
        refine m_get hC hM dX10_pumpOf_93 fX10_71 (by decide) (mFg_25 _ _) ?_
        refine j_iload_n hC dX10_pumpOf_96 rfl ?_
        refine m_ldI hC hM (by decide) dX10_pumpOf_97 (ix_nI (n := 8) hk (by omega)) ?_
        refine j_dup2_11 hC dX10_pumpOf_98 rfl rfl ?_
        refine m_ldJ hC hM (by decide) dX10_pumpOf_99 (hn) ?_
        refine j_lload hC dX10_pumpOf_100 rfl ?_
        refine j_lsub hC dX10_pumpOf_102 ?_
        refine m_stJ hC hM (by decide) dX10_pumpOf_103 (hn) (fun w1 hM => ?_)
        refine j_aload_n hC dX10_pumpOf_104 rfl ?_
        refine m_get hC hM dX10_pumpOf_105 fX10_22 (by decide) (mFg_6 _ _) ?_
        refine j_aload_n hC dX10_pumpOf_108 rfl ?_
        refine m_get hC hM dX10_pumpOf_109 fX10_74 (by decide) (mFg_26 _ _) ?_
        refine j_iload_n hC dX10_pumpOf_112 rfl ?_
        refine m_ldI hC hM (by decide) dX10_pumpOf_113 (ix_nI (n := 8) hk (by omega)) ?_
        refine j_dup2_11 hC dX10_pumpOf_114 rfl rfl ?_
        refine m_ldJ hC hM (by decide) dX10_pumpOf_115 (ht) ?_
        refine j_lload hC dX10_pumpOf_116 rfl ?_
        refine j_ladd hC dX10_pumpOf_118 ?_
        refine m_stJ hC hM (by decide) dX10_pumpOf_119 (ht) (fun w2 hM => ?_)
        exact j_vret hC hR dX10_pumpOf_120 rfl ⟨rfl, MB.cast hM (by simp [fPump, uJ_1, uI_2, uJ_i hnt])⟩
      · refine j_aload_n hC dX10_pumpOf_61 rfl ?_
        refine m_get hC hM dX10_pumpOf_62 fX10_83 (by decide) (mFg_29 _ _) ?_
        refine j_iload_n hC dX10_pumpOf_65 rfl ?_
        refine m_ldI hC hM (by decide) dX10_pumpOf_66 (ix_nI (n := 8) hk (by omega)) ?_
        refine j_i2l hC dX10_pumpOf_67 ?_
        refine j_aload_n hC dX10_pumpOf_68 rfl ?_
        refine m_get hC hM dX10_pumpOf_69 fX10_22 (by decide) (mFg_6 _ _) ?_
        refine j_aload_n hC dX10_pumpOf_72 rfl ?_
        refine m_get hC hM dX10_pumpOf_73 fX10_71 (by decide) (mFg_25 _ _) ?_
        refine j_iload_n hC dX10_pumpOf_76 rfl ?_
        refine m_ldI hC hM (by decide) dX10_pumpOf_77 (ix_nI (n := 8) hk (by omega)) ?_
        refine m_ldJ hC hM (by decide) dX10_pumpOf_78 (hn) ?_
        refine j_calls (kc' := 0) (ks' := 0) hC (m_less K (S.1 29 k).toInt64 (S.2 6 (S.1 25 k).toNatClampNeg)) dX10_pumpOf_79 wX10_less lX10_180 t_yX10_less rfl rfl (nle rfl) rfl (by decide) (by decide) (by decide) (kL fun r w' hp => ?_)
        obtain ⟨rfl, hw⟩ := hp
        rw [hw]
        clear hw w'
        refine j_goto hC 86 dX10_pumpOf_82 (by decide) ?_
        refine J.toL (y := uG S k) (by first | exact (show uG S k = _ from if_neg c_58).symm | exact (show uG S k = _ from if_pos c_58).symm) ?_
        refine j_lstore (lv' := [some _, some _, some _, none, some _, none]) hC dX10_pumpOf_86 (nlt rfl) rfl ?_
        refine j_aload_n hC dX10_pumpOf_88 rfl ?_
        refine m_get hC hM dX10_pumpOf_89 fX10_22 (by decide) (mFg_6 _ _) ?_
        refine j_aload_n hC dX10_pumpOf_92 rfl ?_
        refine m_get hC hM dX10_pumpOf_93 fX10_71 (by decide) (mFg_25 _ _) ?_
        refine j_iload_n hC dX10_pumpOf_96 rfl ?_
        refine m_ldI hC hM (by decide) dX10_pumpOf_97 (ix_nI (n := 8) hk (by omega)) ?_
        refine j_dup2_11 hC dX10_pumpOf_98 rfl rfl ?_
        refine m_ldJ hC hM (by decide) dX10_pumpOf_99 (hn) ?_
        refine j_lload hC dX10_pumpOf_100 rfl ?_
        refine j_lsub hC dX10_pumpOf_102 ?_
        refine m_stJ hC hM (by decide) dX10_pumpOf_103 (hn) (fun w3 hM => ?_)
        refine j_aload_n hC dX10_pumpOf_104 rfl ?_
        refine m_get hC hM dX10_pumpOf_105 fX10_22 (by decide) (mFg_6 _ _) ?_
        refine j_aload_n hC dX10_pumpOf_108 rfl ?_
        refine m_get hC hM dX10_pumpOf_109 fX10_74 (by decide) (mFg_26 _ _) ?_
        refine j_iload_n hC dX10_pumpOf_112 rfl ?_
        refine m_ldI hC hM (by decide) dX10_pumpOf_113 (ix_nI (n := 8) hk (by omega)) ?_
        refine j_dup2_11 hC dX10_pumpOf_114 rfl rfl ?_
        refine m_ldJ hC hM (by decide) dX10_pumpOf_115 (ht) ?_
        refine j_lload hC dX10_pumpOf_116 rfl ?_
        refine j_ladd hC dX10_pumpOf_118 ?_
        refine m_stJ hC hM (by decide) dX10_pumpOf_119 (ht) (fun w4 hM => ?_)
        exact j_vret hC hR dX10_pumpOf_120 rfl ⟨rfl, MB.cast hM (by simp [fPump, uJ_1, uI_2, uJ_i hnt])⟩
    · refine j_aload_n hC dX10_pumpOf_45 rfl ?_
      refine m_get hC hM dX10_pumpOf_46 fX10_86 (by decide) (mFg_30 _ _) ?_
      refine j_iload_n hC dX10_pumpOf_49 rfl ?_
      refine j_iconst hC (0) dX10_pumpOf_50 (by decide) ?_
      refine m_stZ hC hM dX10_pumpOf_51 (ix_nI (n := 8) hk (by omega)) (by decide) (fun w5 hM => ?_)
      have hM := MB.cast (T := uI S 30 k (uO S k)) hM (by first | (rw [show uO S k = 1 from if_neg c_19]; done) | (rw [show uO S k = S.1 30 k from (if_pos c_19).trans (if_pos c_41), uI_id]; done) | (rw [show uO S k = 0 from (if_pos c_19).trans (if_neg c_41)]; done))
      refine j_aload_n hC dX10_pumpOf_52 rfl ?_
      refine m_get hC hM dX10_pumpOf_53 fX10_86 (by decide) (mFg_30 _ _) ?_
      refine j_iload_n hC dX10_pumpOf_56 rfl ?_
      refine m_ldZ hC hM dX10_pumpOf_57 (ix_nI (n := 8) hk (by omega)) ?_
      refine J.toI (y := uO S k) uI_at ?_
      refine j_if_eq hC 85 dX10_pumpOf_58 (by decide) (fun c_58 => ?_) (fun c_58 => ?_)
      · refine j_lconst hC (0) dX10_pumpOf_85 (by decide) ?_
        refine J.toL (y := uG S k) (by first | exact (show uG S k = _ from if_neg c_58).symm | exact (show uG S k = _ from if_pos c_58).symm) ?_
        refine j_lstore (lv' := [some _, some _, some _, none, some _, none]) hC dX10_pumpOf_86 (nlt rfl) rfl ?_
        refine j_aload_n hC dX10_pumpOf_88 rfl ?_
        refine m_get hC hM dX10_pumpOf_89 fX10_22 (by decide) (mFg_6 _ _) ?_
        refine j_aload_n hC dX10_pumpOf_92 rfl ?_
        refine m_get hC hM dX10_pumpOf_93 fX10_71 (by decide) (mFg_25 _ _) ?_
        refine j_iload_n hC dX10_pumpOf_96 rfl ?_
        refine m_ldI hC hM (by decide) dX10_pumpOf_97 (ix_nI (n := 8) hk (by omega)) ?_
        refine j_dup2_11 hC dX10_pumpOf_98 rfl rfl ?_
        refine m_ldJ hC hM (by decide) dX10_pumpOf_99 (hn) ?_
        refine j_lload hC dX10_pumpOf_100 rfl ?_
        refine j_lsub hC dX10_pumpOf_102 ?_
        refine m_stJ hC hM (by decide) dX10_pumpOf_103 (hn) (fun w6 hM => ?_)
        refine j_aload_n hC dX10_pumpOf_104 rfl ?_
        refine m_get hC hM dX10_pumpOf_105 fX10_22 (by decide) (mFg_6 _ _) ?_
        refine j_aload_n hC dX10_pumpOf_108 rfl ?_
        refine m_get hC hM dX10_pumpOf_109 fX10_74 (by decide) (mFg_26 _ _) ?_
        refine j_iload_n hC dX10_pumpOf_112 rfl ?_
        refine m_ldI hC hM (by decide) dX10_pumpOf_113 (ix_nI (n := 8) hk (by omega)) ?_
        refine j_dup2_11 hC dX10_pumpOf_114 rfl rfl ?_
        refine m_ldJ hC hM (by decide) dX10_pumpOf_115 (ht) ?_
        refine j_lload hC dX10_pumpOf_116 rfl ?_
        refine j_ladd hC dX10_pumpOf_118 ?_
        refine m_stJ hC hM (by decide) dX10_pumpOf_119 (ht) (fun w7 hM => ?_)
        exact j_vret hC hR dX10_pumpOf_120 rfl ⟨rfl, MB.cast hM (by simp [fPump, uJ_1, uI_2, uJ_i hnt])⟩
      · refine j_aload_n hC dX10_pumpOf_61 rfl ?_
        refine m_get hC hM dX10_pumpOf_62 fX10_83 (by decide) (mFg_29 _ _) ?_
        refine j_iload_n hC dX10_pumpOf_65 rfl ?_
        refine m_ldI hC hM (by decide) dX10_pumpOf_66 (ix_nI (n := 8) hk (by omega)) ?_
        refine j_i2l hC dX10_pumpOf_67 ?_
        refine j_aload_n hC dX10_pumpOf_68 rfl ?_
        refine m_get hC hM dX10_pumpOf_69 fX10_22 (by decide) (mFg_6 _ _) ?_
        refine j_aload_n hC dX10_pumpOf_72 rfl ?_
        refine m_get hC hM dX10_pumpOf_73 fX10_71 (by decide) (mFg_25 _ _) ?_
        refine j_iload_n hC dX10_pumpOf_76 rfl ?_
        refine m_ldI hC hM (by decide) dX10_pumpOf_77 (ix_nI (n := 8) hk (by omega)) ?_
        refine m_ldJ hC hM (by decide) dX10_pumpOf_78 (hn) ?_
        refine j_calls (kc' := 0) (ks' := 0) hC (m_less K (S.1 29 k).toInt64 (S.2 6 (S.1 25 k).toNatClampNeg)) dX10_pumpOf_79 wX10_less lX10_180 t_yX10_less rfl rfl (nle rfl) rfl (by decide) (by decide) (by decide) (kL fun r w' hp => ?_)
        obtain ⟨rfl, hw⟩ := hp
        rw [hw]
        clear hw w'
        refine j_goto hC 86 dX10_pumpOf_82 (by decide) ?_
        refine J.toL (y := uG S k) (by first | exact (show uG S k = _ from if_neg c_58).symm | exact (show uG S k = _ from if_pos c_58).symm) ?_
        refine j_lstore (lv' := [some _, some _, some _, none, some _, none]) hC dX10_pumpOf_86 (nlt rfl) rfl ?_
        refine j_aload_n hC dX10_pumpOf_88 rfl ?_
        refine m_get hC hM dX10_pumpOf_89 fX10_22 (by decide) (mFg_6 _ _) ?_
        refine j_aload_n hC dX10_pumpOf_92 rfl ?_
        refine m_get hC hM dX10_pumpOf_93 fX10_71 (by decide) (mFg_25 _ _) ?_
        refine j_iload_n hC dX10_pumpOf_96 rfl ?_
        refine m_ldI hC hM (by decide) dX10_pumpOf_97 (ix_nI (n := 8) hk (by omega)) ?_
        refine j_dup2_11 hC dX10_pumpOf_98 rfl rfl ?_
        refine m_ldJ hC hM (by decide) dX10_pumpOf_99 (hn) ?_
        refine j_lload hC dX10_pumpOf_100 rfl ?_
        refine j_lsub hC dX10_pumpOf_102 ?_
        refine m_stJ hC hM (by decide) dX10_pumpOf_103 (hn) (fun w8 hM => ?_)
        refine j_aload_n hC dX10_pumpOf_104 rfl ?_
        refine m_get hC hM dX10_pumpOf_105 fX10_22 (by decide) (mFg_6 _ _) ?_
        refine j_aload_n hC dX10_pumpOf_108 rfl ?_
        refine m_get hC hM dX10_pumpOf_109 fX10_74 (by decide) (mFg_26 _ _) ?_
        refine j_iload_n hC dX10_pumpOf_112 rfl ?_
        refine m_ldI hC hM (by decide) dX10_pumpOf_113 (ix_nI (n := 8) hk (by omega)) ?_
        refine j_dup2_11 hC dX10_pumpOf_114 rfl rfl ?_
        refine m_ldJ hC hM (by decide) dX10_pumpOf_115 (ht) ?_
        refine j_lload hC dX10_pumpOf_116 rfl ?_
        refine j_ladd hC dX10_pumpOf_118 ?_
        refine m_stJ hC hM (by decide) dX10_pumpOf_119 (ht) (fun w9 hM => ?_)
        exact j_vret hC hR dX10_pumpOf_120 rfl ⟨rfl, MB.cast hM (by simp [fPump, uJ_1, uI_2, uJ_i hnt])⟩
  · refine j_aload_n hC dX10_pumpOf_23 rfl ?_
    refine m_get hC hM dX10_pumpOf_24 fX10_86 (by decide) (mFg_30 _ _) ?_
    refine j_iload_n hC dX10_pumpOf_27 rfl ?_
    refine j_iconst hC (1) dX10_pumpOf_28 (by decide) ?_
    refine m_stZ hC hM dX10_pumpOf_29 (ix_nI (n := 8) hk (by omega)) (by decide) (fun w10 hM => ?_)
    refine j_goto hC 52 dX10_pumpOf_30 (by decide) ?_
    have hM := MB.cast (T := uI S 30 k (uO S k)) hM (by first | (rw [show uO S k = 1 from if_neg c_19]; done) | (rw [show uO S k = S.1 30 k from (if_pos c_19).trans (if_pos c_41), uI_id]; done) | (rw [show uO S k = 0 from (if_pos c_19).trans (if_neg c_41)]; done))
    refine j_aload_n hC dX10_pumpOf_52 rfl ?_
    refine m_get hC hM dX10_pumpOf_53 fX10_86 (by decide) (mFg_30 _ _) ?_
    refine j_iload_n hC dX10_pumpOf_56 rfl ?_
    refine m_ldZ hC hM dX10_pumpOf_57 (ix_nI (n := 8) hk (by omega)) ?_
    refine J.toI (y := uO S k) uI_at ?_
    refine j_if_eq hC 85 dX10_pumpOf_58 (by decide) (fun c_58 => ?_) (fun c_58 => ?_)
    · refine j_lconst hC (0) dX10_pumpOf_85 (by decide) ?_
      refine J.toL (y := uG S k) (by first | exact (show uG S k = _ from if_neg c_58).symm | exact (show uG S k = _ from if_pos c_58).symm) ?_
      refine j_lstore (lv' := [some _, some _, some _, none, some _, none]) hC dX10_pumpOf_86 (nlt rfl) rfl ?_
      refine j_aload_n hC dX10_pumpOf_88 rfl ?_
      refine m_get hC hM dX10_pumpOf_89 fX10_22 (by decide) (mFg_6 _ _) ?_
      refine j_aload_n hC dX10_pumpOf_92 rfl ?_
      refine m_get hC hM dX10_pumpOf_93 fX10_71 (by decide) (mFg_25 _ _) ?_
      refine j_iload_n hC dX10_pumpOf_96 rfl ?_
      refine m_ldI hC hM (by decide) dX10_pumpOf_97 (ix_nI (n := 8) hk (by omega)) ?_
      refine j_dup2_11 hC dX10_pumpOf_98 rfl rfl ?_
      refine m_ldJ hC hM (by decide) dX10_pumpOf_99 (hn) ?_
      refine j_lload hC dX10_pumpOf_100 rfl ?_
      refine j_lsub hC dX10_pumpOf_102 ?_
      refine m_stJ hC hM (by decide) dX10_pumpOf_103 (hn) (fun w11 hM => ?_)
      refine j_aload_n hC dX10_pumpOf_104 rfl ?_
      refine m_get hC hM dX10_pumpOf_105 fX10_22 (by decide) (mFg_6 _ _) ?_
      refine j_aload_n hC dX10_pumpOf_108 rfl ?_
      refine m_get hC hM dX10_pumpOf_109 fX10_74 (by decide) (mFg_26 _ _) ?_
      refine j_iload_n hC dX10_pumpOf_112 rfl ?_
      refine m_ldI hC hM (by decide) dX10_pumpOf_113 (ix_nI (n := 8) hk (by omega)) ?_
      refine j_dup2_11 hC dX10_pumpOf_114 rfl rfl ?_
      refine m_ldJ hC hM (by decide) dX10_pumpOf_115 (ht) ?_
      refine j_lload hC dX10_pumpOf_116 rfl ?_
      refine j_ladd hC dX10_pumpOf_118 ?_
      refine m_stJ hC hM (by decide) dX10_pumpOf_119 (ht) (fun w12 hM => ?_)
      exact j_vret hC hR dX10_pumpOf_120 rfl ⟨rfl, MB.cast hM (by simp [fPump, uJ_1, uI_2, uJ_i hnt])⟩
    · refine j_aload_n hC dX10_pumpOf_61 rfl ?_
      refine m_get hC hM dX10_pumpOf_62 fX10_83 (by decide) (mFg_29 _ _) ?_
      refine j_iload_n hC dX10_pumpOf_65 rfl ?_
      refine m_ldI hC hM (by decide) dX10_pumpOf_66 (ix_nI (n := 8) hk (by omega)) ?_
      refine j_i2l hC dX10_pumpOf_67 ?_
      refine j_aload_n hC dX10_pumpOf_68 rfl ?_
      refine m_get hC hM dX10_pumpOf_69 fX10_22 (by decide) (mFg_6 _ _) ?_
      refine j_aload_n hC dX10_pumpOf_72 rfl ?_
      refine m_get hC hM dX10_pumpOf_73 fX10_71 (by decide) (mFg_25 _ _) ?_
      refine j_iload_n hC dX10_pumpOf_76 rfl ?_
      refine m_ldI hC hM (by decide) dX10_pumpOf_77 (ix_nI (n := 8) hk (by omega)) ?_
      refine m_ldJ hC hM (by decide) dX10_pumpOf_78 (hn) ?_
      refine j_calls (kc' := 0) (ks' := 0) hC (m_less K (S.1 29 k).toInt64 (S.2 6 (S.1 25 k).toNatClampNeg)) dX10_pumpOf_79 wX10_less lX10_180 t_yX10_less rfl rfl (nle rfl) rfl (by decide) (by decide) (by decide) (kL fun r w' hp => ?_)
      obtain ⟨rfl, hw⟩ := hp
      rw [hw]
      clear hw w'
      refine j_goto hC 86 dX10_pumpOf_82 (by decide) ?_
      refine J.toL (y := uG S k) (by first | exact (show uG S k = _ from if_neg c_58).symm | exact (show uG S k = _ from if_pos c_58).symm) ?_
      refine j_lstore (lv' := [some _, some _, some _, none, some _, none]) hC dX10_pumpOf_86 (nlt rfl) rfl ?_
      refine j_aload_n hC dX10_pumpOf_88 rfl ?_
      refine m_get hC hM dX10_pumpOf_89 fX10_22 (by decide) (mFg_6 _ _) ?_
      refine j_aload_n hC dX10_pumpOf_92 rfl ?_
      refine m_get hC hM dX10_pumpOf_93 fX10_71 (by decide) (mFg_25 _ _) ?_
      refine j_iload_n hC dX10_pumpOf_96 rfl ?_
      refine m_ldI hC hM (by decide) dX10_pumpOf_97 (ix_nI (n := 8) hk (by omega)) ?_
      refine j_dup2_11 hC dX10_pumpOf_98 rfl rfl ?_
      refine m_ldJ hC hM (by decide) dX10_pumpOf_99 (hn) ?_
      refine j_lload hC dX10_pumpOf_100 rfl ?_
      refine j_lsub hC dX10_pumpOf_102 ?_
      refine m_stJ hC hM (by decide) dX10_pumpOf_103 (hn) (fun w13 hM => ?_)
      refine j_aload_n hC dX10_pumpOf_104 rfl ?_
      refine m_get hC hM dX10_pumpOf_105 fX10_22 (by decide) (mFg_6 _ _) ?_
      refine j_aload_n hC dX10_pumpOf_108 rfl ?_
      refine m_get hC hM dX10_pumpOf_109 fX10_74 (by decide) (mFg_26 _ _) ?_
      refine j_iload_n hC dX10_pumpOf_112 rfl ?_
      refine m_ldI hC hM (by decide) dX10_pumpOf_113 (ix_nI (n := 8) hk (by omega)) ?_
      refine j_dup2_11 hC dX10_pumpOf_114 rfl rfl ?_
      refine m_ldJ hC hM (by decide) dX10_pumpOf_115 (ht) ?_
      refine j_lload hC dX10_pumpOf_116 rfl ?_
      refine j_ladd hC dX10_pumpOf_118 ?_
      refine m_stJ hC hM (by decide) dX10_pumpOf_119 (ht) (fun w14 hM => ?_)
      exact j_vret hC hR dX10_pumpOf_120 rfl ⟨rfl, MB.cast hM (by simp [fPump, uJ_1, uI_2, uJ_i hnt])⟩

set_option maxRecDepth 100000 in
set_option maxHeartbeats 4000000 in
theorem m_gateOf (K : Kx) {w : Wd} {m : Nat} {ad : Nat → Nat} {S : Ast} {k : Nat} (hA : MA K.2.1 w m ad S) (hk : k < 8) (hn : ix (S.1 32 k) 24 (S.1 32 k).toNatClampNeg) (hr : 0 < (S.1 34 k).toInt64) : MT K mX10_gateOf 1 0 0 [.ref m, .int (nI k)] w (PV fun w' => MB K.2.1 w w' m ad (fGate S k)) := by
  refine MT.of [some (.ref m), some (.int (nI k)), none, none, none, none, none] (by decide) rfl (nle rfl) rfl ?_
  intro E hC hR
  have hM := MB.rf hA
  refine j_aload_n hC dX10_gateOf_0 rfl ?_
  refine m_get hC hM dX10_gateOf_1 fX10_90 (by decide) (mFg_32 _ _) ?_
  refine j_iload_n hC dX10_gateOf_4 rfl ?_
  refine m_ldI hC hM (by decide) dX10_gateOf_5 (ix_nI (n := 8) hk (by omega)) ?_
  refine j_istore_n (lv' := [some _, some _, some _, none, none, none, none]) hC dX10_gateOf_6 (nlt rfl) rfl ?_
  refine j_aload_n hC dX10_gateOf_7 rfl ?_
  refine m_get hC hM dX10_gateOf_8 fX10_22 (by decide) (mFg_6 _ _) ?_
  refine j_iload_n hC dX10_gateOf_11 rfl ?_
  refine m_ldJ hC hM (by decide) dX10_gateOf_12 (hn) ?_
  refine j_aload_n hC dX10_gateOf_13 rfl ?_
  refine m_get hC hM dX10_gateOf_14 fX10_93 (by decide) (mFg_33 _ _) ?_
  refine j_iload_n hC dX10_gateOf_17 rfl ?_
  refine m_ldI hC hM (by decide) dX10_gateOf_18 (ix_nI (n := 8) hk (by omega)) ?_
  refine j_i2l hC dX10_gateOf_19 ?_
  refine j_aload_n hC dX10_gateOf_20 rfl ?_
  refine m_get hC hM dX10_gateOf_21 fX10_16 (by decide) (mFg_4 _ _) ?_
  refine j_iload_n hC dX10_gateOf_24 rfl ?_
  refine m_ldI hC hM (by decide) dX10_gateOf_25 (hn) ?_
  refine j_i2l hC dX10_gateOf_26 ?_
  refine j_lmul hC dX10_gateOf_27 ?_
  refine j_lsub hC dX10_gateOf_28 ?_
  refine j_lstore_n (lv' := [some _, some _, some _, some _, none, none, none]) hC dX10_gateOf_29 (nlt rfl) rfl ?_
  refine j_lload_n hC dX10_gateOf_30 rfl ?_
  refine j_lconst hC (0) dX10_gateOf_31 (by decide) ?_
  refine j_lcmp_le hC 50 dX10_gateOf_32 dX10_gateOf_33 (by decide) (fun c_32 => ?_) (fun c_32 => ?_)
  · refine j_lconst hC (0) dX10_gateOf_50 (by decide) ?_
    refine J.toL (y := gG S k) (by first | exact (show gG S k = _ from gOut_1 c_32 hr).symm | exact (show gG S k = _ from gOut_0 c_32 hr).symm) ?_
    refine j_lstore (lv' := [some _, some _, some _, some _, none, some _, none]) hC dX10_gateOf_51 (nlt rfl) rfl ?_
    refine j_aload_n hC dX10_gateOf_53 rfl ?_
    refine m_get hC hM dX10_gateOf_54 fX10_22 (by decide) (mFg_6 _ _) ?_
    refine j_iload_n hC dX10_gateOf_57 rfl ?_
    refine j_dup2_11 hC dX10_gateOf_58 rfl rfl ?_
    refine m_ldJ hC hM (by decide) dX10_gateOf_59 (hn) ?_
    refine j_lload hC dX10_gateOf_60 rfl ?_
    refine j_lsub hC dX10_gateOf_62 ?_
    refine m_stJ hC hM (by decide) dX10_gateOf_63 (hn) (fun w1 hM => ?_)
    refine j_aload_n hC dX10_gateOf_64 rfl ?_
    refine m_get hC hM dX10_gateOf_65 fX10_29 (by decide) (mFg_8 _ _) ?_
    refine j_iload_n hC dX10_gateOf_68 rfl ?_
    refine j_dup2_11 hC dX10_gateOf_69 rfl rfl ?_
    refine m_ldJ hC hM (by decide) dX10_gateOf_70 (hn) ?_
    refine j_lload hC dX10_gateOf_71 rfl ?_
    refine j_ladd hC dX10_gateOf_73 ?_
    refine m_stJ hC hM (by decide) dX10_gateOf_74 (hn) (fun w2 hM => ?_)
    refine j_aload_n hC dX10_gateOf_75 rfl ?_
    refine j_dup hC dX10_gateOf_76 rfl ?_
    refine m_get hC hM dX10_gateOf_77 fX10_188 (by decide) (mFg_42 _ _) ?_
    refine j_lload hC dX10_gateOf_80 rfl ?_
    refine j_ladd hC dX10_gateOf_82 ?_
    refine m_putJ hC hM (by decide) dX10_gateOf_83 fX10_188 rfl (by decide) rfl rfl (mFs_42 _ _ _) (fun w3 hM => ?_)
    exact j_vret hC hR dX10_gateOf_86 rfl ⟨rfl, MB.cast hM (by simp [fGate, uJ_1, uJ_2n])⟩
  · refine j_lload_n hC dX10_gateOf_36 rfl ?_
    refine j_aload_n hC dX10_gateOf_37 rfl ?_
    refine m_get hC hM dX10_gateOf_38 fX10_96 (by decide) (mFg_34 _ _) ?_
    refine j_iload_n hC dX10_gateOf_41 rfl ?_
    refine m_ldI hC hM (by decide) dX10_gateOf_42 (ix_nI (n := 8) hk (by omega)) ?_
    refine j_i2l hC dX10_gateOf_43 ?_
    refine j_calls (kc' := 0) (ks' := 0) hC (m_less K (S.2 6 (S.1 32 k).toNatClampNeg - (S.1 33 k).toInt64 * (S.1 4 (S.1 32 k).toNatClampNeg).toInt64) (S.1 34 k).toInt64) dX10_gateOf_44 wX10_less lX10_180 t_yX10_less rfl rfl (nle rfl) rfl (by decide) (by decide) (by decide) (kL fun r w' hp => ?_)
    obtain ⟨rfl, hw⟩ := hp
    rw [hw]
    clear hw w'
    refine j_goto hC 51 dX10_gateOf_47 (by decide) ?_
    refine J.toL (y := gG S k) (by first | exact (show gG S k = _ from gOut_1 c_32 hr).symm | exact (show gG S k = _ from gOut_0 c_32 hr).symm) ?_
    refine j_lstore (lv' := [some _, some _, some _, some _, none, some _, none]) hC dX10_gateOf_51 (nlt rfl) rfl ?_
    refine j_aload_n hC dX10_gateOf_53 rfl ?_
    refine m_get hC hM dX10_gateOf_54 fX10_22 (by decide) (mFg_6 _ _) ?_
    refine j_iload_n hC dX10_gateOf_57 rfl ?_
    refine j_dup2_11 hC dX10_gateOf_58 rfl rfl ?_
    refine m_ldJ hC hM (by decide) dX10_gateOf_59 (hn) ?_
    refine j_lload hC dX10_gateOf_60 rfl ?_
    refine j_lsub hC dX10_gateOf_62 ?_
    refine m_stJ hC hM (by decide) dX10_gateOf_63 (hn) (fun w4 hM => ?_)
    refine j_aload_n hC dX10_gateOf_64 rfl ?_
    refine m_get hC hM dX10_gateOf_65 fX10_29 (by decide) (mFg_8 _ _) ?_
    refine j_iload_n hC dX10_gateOf_68 rfl ?_
    refine j_dup2_11 hC dX10_gateOf_69 rfl rfl ?_
    refine m_ldJ hC hM (by decide) dX10_gateOf_70 (hn) ?_
    refine j_lload hC dX10_gateOf_71 rfl ?_
    refine j_ladd hC dX10_gateOf_73 ?_
    refine m_stJ hC hM (by decide) dX10_gateOf_74 (hn) (fun w5 hM => ?_)
    refine j_aload_n hC dX10_gateOf_75 rfl ?_
    refine j_dup hC dX10_gateOf_76 rfl ?_
    refine m_get hC hM dX10_gateOf_77 fX10_188 (by decide) (mFg_42 _ _) ?_
    refine j_lload hC dX10_gateOf_80 rfl ?_
    refine j_ladd hC dX10_gateOf_82 ?_
    refine m_putJ hC hM (by decide) dX10_gateOf_83 fX10_188 rfl (by decide) rfl rfl (mFs_42 _ _ _) (fun w6 hM => ?_)
    exact j_vret hC hR dX10_gateOf_86 rfl ⟨rfl, MB.cast hM (by simp [fGate, uJ_1, uJ_2n])⟩

set_option maxRecDepth 100000 in
set_option maxHeartbeats 4000000 in
theorem m_gullyOf (K : Kx) {w : Wd} {m : Nat} {ad : Nat → Nat} {S : Ast} {k : Nat} (hA : MA K.2.1 w m ad S) (hk : k < 8) (hn : ix (S.1 37 k) 24 (S.1 37 k).toNatClampNeg) (hc : ix (S.1 36 k) 8 (S.1 36 k).toNatClampNeg) (hr : 0 ≤ (S.1 38 k).toInt64) (hh : 0 ≤ S.2 39 (S.1 36 k).toNatClampNeg) : MT K mX10_gullyOf 1 0 0 [.ref m, .int (nI k)] w (PV fun w' => MB K.2.1 w w' m ad (fGully S k)) := by
  refine MT.of [some (.ref m), some (.int (nI k)), none, none, none, none, none] (by decide) rfl (nle rfl) rfl ?_
  intro E hC hR
  have hM := MB.rf hA
  refine j_aload_n hC dX10_gullyOf_0 rfl ?_
  refine m_get hC hM dX10_gullyOf_1 fX10_102 (by decide) (mFg_37 _ _) ?_
  refine j_iload_n hC dX10_gullyOf_4 rfl ?_
  refine m_ldI hC hM (by decide) dX10_gullyOf_5 (ix_nI (n := 8) hk (by omega)) ?_
  refine j_istore_n (lv' := [some _, some _, some _, none, none, none, none]) hC dX10_gullyOf_6 (nlt rfl) rfl ?_
  refine j_aload_n hC dX10_gullyOf_7 rfl ?_
  refine j_iload_n hC dX10_gullyOf_8 rfl ?_
  refine j_callv (kc' := 0) (ks' := 0) (r := (RX10, TX10, 59)) hC (m_fullOf K (S.1 37 k) hA hn) dX10_gullyOf_9 wX10_fullOf lX10_191 i_yX10_fullOf s_yX10_fullOf hM.1.1 rfl rfl rfl (nle rfl) rfl (by decide) (by decide) (by decide) (kL fun r w' hp => ?_)
  obtain ⟨rfl, hw⟩ := hp
  rw [hw]
  clear hw w'
  refine j_aload_n hC dX10_gullyOf_12 rfl ?_
  refine m_get hC hM dX10_gullyOf_13 fX10_22 (by decide) (mFg_6 _ _) ?_
  refine j_iload_n hC dX10_gullyOf_16 rfl ?_
  refine m_ldJ hC hM (by decide) dX10_gullyOf_17 (hn) ?_
  refine j_lsub hC dX10_gullyOf_18 ?_
  refine j_lstore_n (lv' := [some _, some _, some _, some _, none, none, none]) hC dX10_gullyOf_19 (nlt rfl) rfl ?_
  refine j_lload_n hC dX10_gullyOf_20 rfl ?_
  refine j_lconst hC (0) dX10_gullyOf_21 (by decide) ?_
  refine j_lcmp_le hC 54 dX10_gullyOf_22 dX10_gullyOf_23 (by decide) (fun c_22 => ?_) (fun c_22 => ?_)
  · refine j_lconst hC (0) dX10_gullyOf_54 (by decide) ?_
    refine J.toL (y := lG S k) (by first | exact (show lG S k = _ from gTake_1 c_22).symm | exact (show lG S k = _ from gTake_0 c_22 hr hh).symm) ?_
    refine j_lstore (lv' := [some _, some _, some _, some _, none, some _, none]) hC dX10_gullyOf_55 (nlt rfl) rfl ?_
    refine j_aload_n hC dX10_gullyOf_57 rfl ?_
    refine m_get hC hM dX10_gullyOf_58 fX10_108 (by decide) (mFg_39 _ _) ?_
    refine j_aload_n hC dX10_gullyOf_61 rfl ?_
    refine m_get hC hM dX10_gullyOf_62 fX10_99 (by decide) (mFg_36 _ _) ?_
    refine j_iload_n hC dX10_gullyOf_65 rfl ?_
    refine m_ldI hC hM (by decide) dX10_gullyOf_66 (ix_nI (n := 8) hk (by omega)) ?_
    refine j_dup2_11 hC dX10_gullyOf_67 rfl rfl ?_
    refine m_ldJ hC hM (by decide) dX10_gullyOf_68 (hc) ?_
    refine j_lload hC dX10_gullyOf_69 rfl ?_
    refine j_lsub hC dX10_gullyOf_71 ?_
    refine m_stJ hC hM (by decide) dX10_gullyOf_72 (hc) (fun w1 hM => ?_)
    refine j_aload_n hC dX10_gullyOf_73 rfl ?_
    refine m_get hC hM dX10_gullyOf_74 fX10_22 (by decide) (mFg_6 _ _) ?_
    refine j_iload_n hC dX10_gullyOf_77 rfl ?_
    refine j_dup2_11 hC dX10_gullyOf_78 rfl rfl ?_
    refine m_ldJ hC hM (by decide) dX10_gullyOf_79 (hn) ?_
    refine j_lload hC dX10_gullyOf_80 rfl ?_
    refine j_ladd hC dX10_gullyOf_82 ?_
    refine m_stJ hC hM (by decide) dX10_gullyOf_83 (hn) (fun w2 hM => ?_)
    exact j_vret hC hR dX10_gullyOf_84 rfl ⟨rfl, MB.cast hM (by simp [fGully, uJ_1, uJ_2n])⟩
  · refine j_lload_n hC dX10_gullyOf_26 rfl ?_
    refine j_aload_n hC dX10_gullyOf_27 rfl ?_
    refine m_get hC hM dX10_gullyOf_28 fX10_105 (by decide) (mFg_38 _ _) ?_
    refine j_iload_n hC dX10_gullyOf_31 rfl ?_
    refine m_ldI hC hM (by decide) dX10_gullyOf_32 (ix_nI (n := 8) hk (by omega)) ?_
    refine j_i2l hC dX10_gullyOf_33 ?_
    refine j_aload_n hC dX10_gullyOf_34 rfl ?_
    refine m_get hC hM dX10_gullyOf_35 fX10_108 (by decide) (mFg_39 _ _) ?_
    refine j_aload_n hC dX10_gullyOf_38 rfl ?_
    refine m_get hC hM dX10_gullyOf_39 fX10_99 (by decide) (mFg_36 _ _) ?_
    refine j_iload_n hC dX10_gullyOf_42 rfl ?_
    refine m_ldI hC hM (by decide) dX10_gullyOf_43 (ix_nI (n := 8) hk (by omega)) ?_
    refine m_ldJ hC hM (by decide) dX10_gullyOf_44 (hc) ?_
    refine j_calls (kc' := 0) (ks' := 0) hC (m_less K (S.1 38 k).toInt64 (S.2 39 (S.1 36 k).toNatClampNeg)) dX10_gullyOf_45 wX10_less lX10_180 t_yX10_less rfl rfl (nle rfl) rfl (by decide) (by decide) (by decide) (kL fun r w' hp => ?_)
    obtain ⟨rfl, hw⟩ := hp
    rw [hw]
    clear hw w'
    refine j_calls (kc' := 0) (ks' := 0) hC (m_less K (ful S (S.1 37 k).toNatClampNeg - S.2 6 (S.1 37 k).toNatClampNeg) (if S.2 39 (S.1 36 k).toNatClampNeg < (S.1 38 k).toInt64 then S.2 39 (S.1 36 k).toNatClampNeg else (S.1 38 k).toInt64)) dX10_gullyOf_48 wX10_less lX10_180 t_yX10_less rfl rfl (nle rfl) rfl (by decide) (by decide) (by decide) (kL fun r w' hp => ?_)
    obtain ⟨rfl, hw⟩ := hp
    rw [hw]
    clear hw w'
    refine j_goto hC 55 dX10_gullyOf_51 (by decide) ?_
    refine J.toL (y := lG S k) (by first | exact (show lG S k = _ from gTake_1 c_22).symm | exact (show lG S k = _ from gTake_0 c_22 hr hh).symm) ?_
    refine j_lstore (lv' := [some _, some _, some _, some _, none, some _, none]) hC dX10_gullyOf_55 (nlt rfl) rfl ?_
    refine j_aload_n hC dX10_gullyOf_57 rfl ?_
    refine m_get hC hM dX10_gullyOf_58 fX10_108 (by decide) (mFg_39 _ _) ?_
    refine j_aload_n hC dX10_gullyOf_61 rfl ?_
    refine m_get hC hM dX10_gullyOf_62 fX10_99 (by decide) (mFg_36 _ _) ?_
    refine j_iload_n hC dX10_gullyOf_65 rfl ?_
    refine m_ldI hC hM (by decide) dX10_gullyOf_66 (ix_nI (n := 8) hk (by omega)) ?_
    refine j_dup2_11 hC dX10_gullyOf_67 rfl rfl ?_
    refine m_ldJ hC hM (by decide) dX10_gullyOf_68 (hc) ?_
    refine j_lload hC dX10_gullyOf_69 rfl ?_
    refine j_lsub hC dX10_gullyOf_71 ?_
    refine m_stJ hC hM (by decide) dX10_gullyOf_72 (hc) (fun w3 hM => ?_)
    refine j_aload_n hC dX10_gullyOf_73 rfl ?_
    refine m_get hC hM dX10_gullyOf_74 fX10_22 (by decide) (mFg_6 _ _) ?_
    refine j_iload_n hC dX10_gullyOf_77 rfl ?_
    refine j_dup2_11 hC dX10_gullyOf_78 rfl rfl ?_
    refine m_ldJ hC hM (by decide) dX10_gullyOf_79 (hn) ?_
    refine j_lload hC dX10_gullyOf_80 rfl ?_
    refine j_ladd hC dX10_gullyOf_82 ?_
    refine m_stJ hC hM (by decide) dX10_gullyOf_83 (hn) (fun w4 hM => ?_)
    exact j_vret hC hR dX10_gullyOf_84 rfl ⟨rfl, MB.cast hM (by simp [fGully, uJ_1, uJ_2n])⟩

set_option maxRecDepth 100000 in
set_option maxHeartbeats 4000000 in
theorem m_nodeOf (K : Kx) {w : Wd} {m : Nat} {ad : Nat → Nat} {S : Ast} {k : Nat} (hA : MA K.2.1 w m ad S) (hk : k < 24) (hc : ¬ S.1 5 k < 0 → ix (S.1 5 k) 8 (S.1 5 k).toNatClampNeg) : MT K mX10_nodeOf 1 0 0 [.ref m, .int (nI k)] w (PV fun w' => MB K.2.1 w w' m ad (fNode S k)) := by
  refine MT.of [some (.ref m), some (.int (nI k)), none, none] (by decide) rfl (nle rfl) rfl ?_
  intro E hC hR
  have hM := MB.rf hA
  refine j_aload_n hC dX10_nodeOf_0 rfl ?_
  refine m_get hC hM dX10_nodeOf_1 fX10_22 (by decide) (mFg_6 _ _) ?_
  refine j_iload_n hC dX10_nodeOf_4 rfl ?_
  refine m_ldJ hC hM (by decide) dX10_nodeOf_5 (ix_nI (n := 24) hk (by omega)) ?_
  refine j_aload_n hC dX10_nodeOf_6 rfl ?_
  refine j_iload_n hC dX10_nodeOf_7 rfl ?_
  refine j_callv (kc' := 0) (ks' := 0) (r := (RX10, TX10, 59)) hC (m_fullOf K (nI k) hA (by rw [nI_clamp (by omega)]; exact ix_nI (n := 24) hk (by omega))) dX10_nodeOf_8 wX10_fullOf lX10_191 i_yX10_fullOf s_yX10_fullOf hM.1.1 rfl rfl rfl (nle rfl) rfl (by decide) (by decide) (by decide) (kL fun r w' hp => ?_)
  obtain ⟨rfl, hw⟩ := hp
  rw [hw]
  clear hw w'
  refine J.toL (y := ful S k) (by rw [nI_clamp (by omega)]) ?_
  refine j_lsub hC dX10_nodeOf_11 ?_
  refine j_lstore_n (lv' := [some _, some _, some _, none]) hC dX10_nodeOf_12 (nlt rfl) rfl ?_
  refine j_lload_n hC dX10_nodeOf_13 rfl ?_
  refine j_lconst hC (0) dX10_nodeOf_14 (by decide) ?_
  refine j_lcmp_gt hC 20 dX10_nodeOf_15 dX10_nodeOf_16 (by decide) (fun c_15 => ?_) (fun c_15 => ?_)
  · have e0 : nS S k = S.2 6 k - ful S k := if_neg (fun h => Int64.lt_irrefl (Int64.lt_trans c_15 h))
    refine j_aload_n hC dX10_nodeOf_20 rfl ?_
    refine m_get hC hM dX10_nodeOf_21 fX10_22 (by decide) (mFg_6 _ _) ?_
    refine j_iload_n hC dX10_nodeOf_24 rfl ?_
    refine j_dup2_11 hC dX10_nodeOf_25 rfl rfl ?_
    refine m_ldJ hC hM (by decide) dX10_nodeOf_26 (ix_nI (n := 24) hk (by omega)) ?_
    refine j_lload_n hC dX10_nodeOf_27 rfl ?_
    refine j_lsub hC dX10_nodeOf_28 ?_
    refine m_stJ hC hM (by decide) dX10_nodeOf_29 (ix_nI (n := 24) hk (by omega)) (fun w1 hM => ?_)
    refine j_aload_n hC dX10_nodeOf_30 rfl ?_
    refine m_get hC hM dX10_nodeOf_31 fX10_26 (by decide) (mFg_7 _ _) ?_
    refine j_iload_n hC dX10_nodeOf_34 rfl ?_
    refine j_dup2_11 hC dX10_nodeOf_35 rfl rfl ?_
    refine m_ldJ hC hM (by decide) dX10_nodeOf_36 (ix_nI (n := 24) hk (by omega)) ?_
    refine j_lload_n hC dX10_nodeOf_37 rfl ?_
    refine j_ladd hC dX10_nodeOf_38 ?_
    refine m_stJ hC hM (by decide) dX10_nodeOf_39 (ix_nI (n := 24) hk (by omega)) (fun w2 hM => ?_)
    refine j_aload_n hC dX10_nodeOf_40 rfl ?_
    refine m_get hC hM dX10_nodeOf_41 fX10_19 (by decide) (mFg_5 _ _) ?_
    refine j_iload_n hC dX10_nodeOf_44 rfl ?_
    refine m_ldI hC hM (by decide) dX10_nodeOf_45 (ix_nI (n := 24) hk (by omega)) ?_
    refine j_if_lt hC 67 dX10_nodeOf_46 (by decide) (fun c_46 => ?_) (fun c_46 => ?_)
    · refine j_aload_n hC dX10_nodeOf_67 rfl ?_
      refine j_dup hC dX10_nodeOf_68 rfl ?_
      refine m_get hC hM dX10_nodeOf_69 fX10_194 (by decide) (mFg_43 _ _) ?_
      refine j_lload_n hC dX10_nodeOf_72 rfl ?_
      refine j_ladd hC dX10_nodeOf_73 ?_
      refine m_putJ hC hM (by decide) dX10_nodeOf_74 fX10_194 rfl (by decide) rfl rfl (mFs_43 _ _ _) (fun w3 hM => ?_)
      exact j_vret hC hR dX10_nodeOf_77 rfl ⟨rfl, MB.cast hM (by unfold fNode; rw [e0]; first | (rw [if_pos (show S.1 5 k < 0 from c_46)]; simp [uJ_1, uJ_2n]; done) | (rw [if_neg (show ¬ S.1 5 k < 0 from c_46)]; simp [uJ_1, uJ_2n]; done))⟩
    · refine j_aload_n hC dX10_nodeOf_49 rfl ?_
      refine m_get hC hM dX10_nodeOf_50 fX10_108 (by decide) (mFg_39 _ _) ?_
      refine j_aload_n hC dX10_nodeOf_53 rfl ?_
      refine m_get hC hM dX10_nodeOf_54 fX10_19 (by decide) (mFg_5 _ _) ?_
      refine j_iload_n hC dX10_nodeOf_57 rfl ?_
      refine m_ldI hC hM (by decide) dX10_nodeOf_58 (ix_nI (n := 24) hk (by omega)) ?_
      refine j_dup2_11 hC dX10_nodeOf_59 rfl rfl ?_
      refine m_ldJ hC hM (by decide) dX10_nodeOf_60 (hc c_46) ?_
      refine j_lload_n hC dX10_nodeOf_61 rfl ?_
      refine j_ladd hC dX10_nodeOf_62 ?_
      refine m_stJ hC hM (by decide) dX10_nodeOf_63 (hc c_46) (fun w4 hM => ?_)
      refine j_goto hC 77 dX10_nodeOf_64 (by decide) ?_
      exact j_vret hC hR dX10_nodeOf_77 rfl ⟨rfl, MB.cast hM (by unfold fNode; rw [e0]; first | (rw [if_pos (show S.1 5 k < 0 from c_46)]; simp [uJ_1, uJ_2n]; done) | (rw [if_neg (show ¬ S.1 5 k < 0 from c_46)]; simp [uJ_1, uJ_2n]; done))⟩
  · have e0 : nS S k = 0 := by
        unfold nS
        by_cases h : S.2 6 k - ful S k < 0
        · rw [if_pos h]
        · rw [if_neg h]; exact Int64.le_antisymm (Int64.not_lt.mp c_15) (Int64.not_lt.mp h)
    exact j_vret hC hR dX10_nodeOf_19 rfl ⟨rfl, MB.cast hM (by unfold fNode; rw [e0]; simp only [Int64.sub_zero, Int64.add_zero, uJ_id]; split <;> rfl)⟩

