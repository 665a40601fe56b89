
/-- lv' says no more than lv -/
def wkl : List (Option Value) → List (Option Value) → Prop
  | [], [] => True
  | none :: t', _ :: t => wkl t' t
  | some a :: t', b :: t => b = some a ∧ wkl t' t
  | _, _ => False
theorem wkl_len : ∀ (l' l : List (Option Value)), wkl l' l → l'.length = l.length
  | [], [], _ => rfl
  | none :: t', _ :: t, h => by rw [List.length_cons, List.length_cons, wkl_len t' t h]
  | some a :: t', b :: t, h => by rw [List.length_cons, List.length_cons, wkl_len t' t h.2]
  | [], _ :: _, h => by simp [wkl] at h
  | none :: _, [], h => by simp [wkl] at h
  | some _ :: _, [], h => by simp [wkl] at h
theorem wkl_get : ∀ (l' l : List (Option Value)), wkl l' l → ∀ (i : Nat) (v : Value), l'[i]? = some (some v) → l[i]? = some (some v)
  | [], _, _, i, v, e => by simp at e
  | none :: t', _ :: t, h, 0, v, e => by simp at e
  | none :: t', _ :: t, h, i + 1, v, e => by
    rw [List.getElem?_cons_succ] at e ⊢
    exact wkl_get t' t h i v e
  | some a :: t', b :: t, h, 0, v, e => by
    rw [List.getElem?_cons_zero] at e ⊢
    rw [h.1]; exact e
  | some a :: t', b :: t, h, i + 1, v, e => by
    rw [List.getElem?_cons_succ] at e ⊢
    exact wkl_get t' t h.2 i v e
  | none :: _, [], h, _, _, _ => by simp [wkl] at h
  | some _ :: _, [], h, _, _, _ => by simp [wkl] at h
theorem lok.weak {ls : Array Slot} {l' l : List (Option Value)} (h : wkl l' l) (hl : lok ls l) : lok ls l' := by
  refine ⟨by rw [wkl_len l' l h]; exact hl.1, hl.2.1, fun q hq => ?_⟩
  obtain ⟨j, u⟩ := q
  have := ((prs_iff l' 0 j u).mp hq).2
  exact hl.at (wkl_get l' l h j u (by simpa using this))
theorem J.weak {K : Kx} {cc : ByteArray} {E : Ex} {kc ks : Nat} {w : Wd} {pc : Nat} {l' l : List (Option Value)} {st : List Value} (h : wkl l' l) (k : J K cc E kc ks w pc l' st) : J K cc E kc ks w pc l st := by
  obtain ⟨p, e, R, s, m, args, below, meth, c, Q⟩ := E
  intro H locs cells slots ls h1 h2 h3 h4 h5 h6
  exact k H locs cells slots ls h1 h2 h3 h4 h5 (h6.weak h)

set_option maxRecDepth 100000 in
set_option maxHeartbeats 4000000 in
theorem run_L1 (K : Kx) {w0 : Wd} {m : Nat} {ad : Nat → Nat} {E : Ex} {S : Ast} {x1 x2 : Int32} {j mi : Nat} (hC : BX K RX10 cX10_run 4 2 E) (hW : WSt S) (hmi : S.1 40 0 / 60 = nI mi) (hj : j = mi) (hm : mi < 1440) : ∀ (n i : Nat) (w1 : Wd), i + n = cn S 18 → MB K.2.1 w0 w1 m ad (itn (fun k T => fRain T k j) i S) → (∀ w2 : Wd, MB K.2.1 w0 w2 m ad (itn (fun k T => fRain T k j) (cn S 18) S) → J K cX10_run E 0 0 w2 59 [some (.ref m), some (.int x1), some (.int x2), some (.int (nI (cn S 18)))] []) → J K cX10_run E 0 0 w1 33 [some (.ref m), some (.int x1), some (.int x2), some (.int (nI i))] [] := by
  have hb : CN S 18 24 := hW.1.2.2.1
  intro n
  induction n with
  | zero =>
    intro i w1 hi hM kk
    have hi2 : i = cn S 18 := by omega
    subst hi2
    refine j_iload_n hC dX10_run_33 rfl ?_
    refine j_aload_n hC dX10_run_34 rfl ?_
    refine m_get hC hM dX10_run_35 fX10_158 (by decide) (mFg_18 _ _) ?_
    refine J.toI (y := nI (cn S 18)) (by rw [itn_1 (f := fun k T => fRain T k j) (fun _ _ => rfl)]; exact hb.1) ?_
    refine j_icmp_ge hC 59 dX10_run_38 (by decide) (fun c_38 => ?_) (fun c_38 => ?_)
    · exact kk _ hM
    · exact absurd (nI_le (Nat.le_refl _) (by have := hb.2; omega)) c_38
  | succ n ih =>
    intro i w1 hi hM kk
    have hil : i < cn S 18 := by omega
    refine j_iload_n hC dX10_run_33 rfl ?_
    refine j_aload_n hC dX10_run_34 rfl ?_
    refine m_get hC hM dX10_run_35 fX10_158 (by decide) (mFg_18 _ _) ?_
    refine J.toI (y := nI (cn S 18)) (by rw [itn_1 (f := fun k T => fRain T k j) (fun _ _ => rfl)]; exact hb.1) ?_
    refine j_icmp_ge hC 59 dX10_run_38 (by decide) (fun c_38 => ?_) (fun c_38 => ?_)
    · exact absurd ((nI_leI (by have := hb.2; omega) (by have := hb.2; omega)).mp c_38) (by omega)
    · refine j_aload_n hC dX10_run_41 rfl ?_
      refine j_iload_n hC dX10_run_42 rfl ?_
      refine j_aload_n hC dX10_run_43 rfl ?_
      refine m_get hC hM dX10_run_44 fX10_197 (by decide) (mFg_40 _ _) ?_
      refine j_bipush hC (60) dX10_run_47 (by decide) ?_
      refine j_idiv hC dX10_run_49 (by decide) ?_
      refine J.toI (y := nI mi) (by rw [itn_1 (f := fun k T => fRain T k j) (fun _ _ => rfl)]; exact hmi) ?_
      refine j_callv (kc' := 0) (ks' := 0) (r := (RX10, TX10, 59)) hC (m_rainOf K (S := itn (fun k T => fRain T k j) i S) (k := i) (j := j) (nI mi) hM.1 (by have := hb.2; omega) (by rw [hj]; exact ix_nI (by omega) (by omega)) (by rw [itn_1 (f := fun k T => fRain T k j) (fun _ _ => rfl)]; exact (hW.2.2.2.1 i hil).1.1)) dX10_run_50 wX10_rainOf lX10_201 i_yX10_rainOf s_yX10_rainOf hM.1.1 rfl rfl rfl (nle rfl) rfl (by decide) (by decide) (by decide) (kV fun w' hp => ?_)
      have hM := hM.tr hp
      clear hp
      refine j_iinc (v := nI (i + 1)) (lv' := [some _, some _, some _, some _]) hC dX10_run_53 rfl (nI_i1 i) (nlt rfl) rfl ?_
      refine j_goto hC 33 dX10_run_56 (by decide) ?_
      exact ih (i + 1) _ (by omega) hM kk
theorem run_L1s (K : Kx) {w0 w1 : Wd} {m : Nat} {ad : Nat → Nat} {E : Ex} {S T : Ast} {x1 x2 : Int32} {j mi : Nat} (hC : BX K RX10 cX10_run 4 2 E) (hW : WSt S) (hmi : S.1 40 0 / 60 = nI mi) (hj : j = mi) (hm : mi < 1440) (hT : itn (fun k T => fRain T k j) (cn S 18) S = T) (hM : MB K.2.1 w0 w1 m ad S) (kk : ∀ (w2 : Wd) (x3 : Int32), MB K.2.1 w0 w2 m ad T → J K cX10_run E 0 0 w2 59 [some (.ref m), some (.int x1), some (.int x2), some (.int x3)] []) : J K cX10_run E 0 0 w1 33 [some (.ref m), some (.int x1), some (.int x2), some (.int (0))] [] := by
  subst hT
  rw [← nI_0]
  exact run_L1 K hC hW hmi hj hm (cn S 18) 0 w1 (by omega) hM (fun w2 h => kk w2 _ h)

set_option maxRecDepth 100000 in
set_option maxHeartbeats 4000000 in
theorem run_L2 (K : Kx) {w0 : Wd} {m : Nat} {ad : Nat → Nat} {E : Ex} {S : Ast} {x1 x2 : Int32}  (hC : BX K RX10 cX10_run 4 2 E) (hW : WSt S)  : ∀ (n i : Nat) (w1 : Wd), i + n = cn S 1 → MB K.2.1 w0 w1 m ad (itn (fun k T => fLev T k) i S) → (∀ w2 : Wd, MB K.2.1 w0 w2 m ad (itn (fun k T => fLev T k) (cn S 1) S) → J K cX10_run E 0 0 w2 86 [some (.ref m), some (.int x1), some (.int x2), some (.int (nI (cn S 1)))] []) → J K cX10_run E 0 0 w1 61 [some (.ref m), some (.int x1), some (.int x2), some (.int (nI i))] [] := by
  have hb : CN S 1 24 := hW.1.1
  intro n
  induction n with
  | zero =>
    intro i w1 hi hM kk
    have hi2 : i = cn S 1 := by omega
    subst hi2
    refine j_iload_n hC dX10_run_61 rfl ?_
    refine j_aload_n hC dX10_run_62 rfl ?_
    refine m_get hC hM dX10_run_63 fX10_142 (by decide) (mFg_1 _ _) ?_
    refine J.toI (y := nI (cn S 1)) (by rw [itn_1 (f := fun k T => fLev T k) (fun _ _ => rfl)]; exact hb.1) ?_
    refine j_icmp_ge hC 86 dX10_run_66 (by decide) (fun c_66 => ?_) (fun c_66 => ?_)
    · exact kk _ hM
    · exact absurd (nI_le (Nat.le_refl _) (by have := hb.2; omega)) c_66
  | succ n ih =>
    intro i w1 hi hM kk
    have hil : i < cn S 1 := by omega
    refine j_iload_n hC dX10_run_61 rfl ?_
    refine j_aload_n hC dX10_run_62 rfl ?_
    refine m_get hC hM dX10_run_63 fX10_142 (by decide) (mFg_1 _ _) ?_
    refine J.toI (y := nI (cn S 1)) (by rw [itn_1 (f := fun k T => fLev T k) (fun _ _ => rfl)]; exact hb.1) ?_
    refine j_icmp_ge hC 86 dX10_run_66 (by decide) (fun c_66 => ?_) (fun c_66 => ?_)
    · exact absurd ((nI_leI (by have := hb.2; omega) (by have := hb.2; omega)).mp c_66) (by omega)
    · refine j_aload_n hC dX10_run_69 rfl ?_
      refine m_get hC hM dX10_run_70 fX10_32 (by decide) (mFg_9 _ _) ?_
      refine j_iload_n hC dX10_run_73 rfl ?_
      refine j_aload_n hC dX10_run_74 rfl ?_
      refine j_iload_n hC dX10_run_75 rfl ?_
      refine j_callv (kc' := 0) (ks' := 0) (r := (RX10, TX10, 59)) hC (m_levelOf K (S := itn (fun k T => fLev T k) i S) (nI i) hM.1 (by rw [nI_clamp (by have := hb.2; omega)]; exact ix_nI (by have := hb.2; omega) (by omega)) (by rw [nI_clamp (by have := hb.2; omega), itn_1 (f := fun k T => fLev T k) (fun _ _ => rfl)]; exact hW.ro hil)) dX10_run_76 wX10_levelOf lX10_184 i_yX10_levelOf s_yX10_levelOf hM.1.1 rfl rfl rfl (nle rfl) rfl (by decide) (by decide) (by decide) (kL fun r w' hp => ?_)
      obtain ⟨rfl, hw⟩ := hp
      rw [hw]
      clear hw w'
      refine J.toL (y := lvl (itn (fun k T => fLev T k) i S) i) (by rw [nI_clamp (by have := hb.2; omega)]) ?_
      refine m_stJ hC hM (by decide) dX10_run_79 (ix_nI (n := 24) (by have := hb.2; omega) (by omega)) (fun w1 hM => ?_)
      refine j_iinc (v := nI (i + 1)) (lv' := [some _, some _, some _, some _]) hC dX10_run_80 rfl (nI_i1 i) (nlt rfl) rfl ?_
      refine j_goto hC 61 dX10_run_83 (by decide) ?_
      exact ih (i + 1) _ (by omega) hM kk
theorem run_L2s (K : Kx) {w0 w1 : Wd} {m : Nat} {ad : Nat → Nat} {E : Ex} {S T : Ast} {x1 x2 : Int32}  (hC : BX K RX10 cX10_run 4 2 E) (hW : WSt S)  (hT : itn (fun k T => fLev T k) (cn S 1) S = T) (hM : MB K.2.1 w0 w1 m ad S) (kk : ∀ (w2 : Wd) (x3 : Int32), MB K.2.1 w0 w2 m ad T → J K cX10_run E 0 0 w2 86 [some (.ref m), some (.int x1), some (.int x2), some (.int x3)] []) : J K cX10_run E 0 0 w1 61 [some (.ref m), some (.int x1), some (.int x2), some (.int (0))] [] := by
  subst hT
  rw [← nI_0]
  exact run_L2 K hC hW  (cn S 1) 0 w1 (by omega) hM (fun w2 h => kk w2 _ h)

set_option maxRecDepth 100000 in
set_option maxHeartbeats 4000000 in
theorem run_L3 (K : Kx) {w0 : Wd} {m : Nat} {ad : Nat → Nat} {E : Ex} {S : Ast} {x1 x2 : Int32}  (hC : BX K RX10 cX10_run 4 2 E) (hW : WSt S)  : ∀ (n i : Nat) (w1 : Wd), i + n = cn S 10 → MB K.2.1 w0 w1 m ad (itn (fun k T => fFlow T k) i S) → (∀ w2 : Wd, MB K.2.1 w0 w2 m ad (itn (fun k T => fFlow T k) (cn S 10) S) → J K cX10_run E 0 0 w2 107 [some (.ref m), some (.int x1), some (.int x2), some (.int (nI (cn S 10)))] []) → J K cX10_run E 0 0 w1 88 [some (.ref m), some (.int x1), some (.int x2), some (.int (nI i))] [] := by
  have hb : CN S 10 40 := hW.1.2.1
  intro n
  induction n with
  | zero =>
    intro i w1 hi hM kk
    have hi2 : i = cn S 10 := by omega
    subst hi2
    refine j_iload_n hC dX10_run_88 rfl ?_
    refine j_aload_n hC dX10_run_89 rfl ?_
    refine m_get hC hM dX10_run_90 fX10_151 (by decide) (mFg_10 _ _) ?_
    refine J.toI (y := nI (cn S 10)) (by rw [itn_1 (f := fun k T => fFlow T k) (fun _ _ => rfl)]; exact hb.1) ?_
    refine j_icmp_ge hC 107 dX10_run_93 (by decide) (fun c_93 => ?_) (fun c_93 => ?_)
    · exact kk _ hM
    · exact absurd (nI_le (Nat.le_refl _) (by have := hb.2; omega)) c_93
  | succ n ih =>
    intro i w1 hi hM kk
    have hil : i < cn S 10 := by omega
    refine j_iload_n hC dX10_run_88 rfl ?_
    refine j_aload_n hC dX10_run_89 rfl ?_
    refine m_get hC hM dX10_run_90 fX10_151 (by decide) (mFg_10 _ _) ?_
    refine J.toI (y := nI (cn S 10)) (by rw [itn_1 (f := fun k T => fFlow T k) (fun _ _ => rfl)]; exact hb.1) ?_
    refine j_icmp_ge hC 107 dX10_run_93 (by decide) (fun c_93 => ?_) (fun c_93 => ?_)
    · exact absurd ((nI_leI (by have := hb.2; omega) (by have := hb.2; omega)).mp c_93) (by omega)
    · refine j_aload_n hC dX10_run_96 rfl ?_
      refine j_iload_n hC dX10_run_97 rfl ?_
      refine j_callv (kc' := 0) (ks' := 0) (r := (RX10, TX10, 59)) hC (m_flowOf K (S := itn (fun k T => fFlow T k) i S) (k := i) hM.1 (by have := hb.2; omega) (by rw [itn_1 (f := fun k T => fFlow T k) (fun _ _ => rfl)]; exact (hW.2.2.1 i hil).1.1) (by rw [itn_1 (f := fun k T => fFlow T k) (fun _ _ => rfl)]; exact (hW.2.2.1 i hil).2.1.1) (by rw [itn_1 (f := fun k T => fFlow T k) (fun _ _ => rfl)]; exact (hW.2.2.1 i hil).2.2.1) (wB_ne (by rw [itn_1 (f := fun k T => fFlow T k) (fun _ _ => rfl)]; exact (hW.2.2.1 i hil).2.2.2.1))) dX10_run_98 wX10_flowOf lX10_205 i_yX10_flowOf s_yX10_flowOf hM.1.1 rfl rfl rfl (nle rfl) rfl (by decide) (by decide) (by decide) (kV fun w' hp => ?_)
      have hM := hM.tr hp
      clear hp
      refine j_iinc (v := nI (i + 1)) (lv' := [some _, some _, some _, some _]) hC dX10_run_101 rfl (nI_i1 i) (nlt rfl) rfl ?_
      refine j_goto hC 88 dX10_run_104 (by decide) ?_
      exact ih (i + 1) _ (by omega) hM kk
theorem run_L3s (K : Kx) {w0 w1 : Wd} {m : Nat} {ad : Nat → Nat} {E : Ex} {S T : Ast} {x1 x2 : Int32}  (hC : BX K RX10 cX10_run 4 2 E) (hW : WSt S)  (hT : itn (fun k T => fFlow T k) (cn S 10) S = T) (hM : MB K.2.1 w0 w1 m ad S) (kk : ∀ (w2 : Wd) (x3 : Int32), MB K.2.1 w0 w2 m ad T → J K cX10_run E 0 0 w2 107 [some (.ref m), some (.int x1), some (.int x2), some (.int x3)] []) : J K cX10_run E 0 0 w1 88 [some (.ref m), some (.int x1), some (.int x2), some (.int (0))] [] := by
  subst hT
  rw [← nI_0]
  exact run_L3 K hC hW  (cn S 10) 0 w1 (by omega) hM (fun w2 h => kk w2 _ h)

set_option maxRecDepth 100000 in
set_option maxHeartbeats 4000000 in
theorem run_L4 (K : Kx) {w0 : Wd} {m : Nat} {ad : Nat → Nat} {E : Ex} {S : Ast} {x1 x2 : Int32}  (hC : BX K RX10 cX10_run 4 2 E) (hW : WSt S)  : ∀ (n i : Nat) (w1 : Wd), i + n = cn S 24 → MB K.2.1 w0 w1 m ad (itn (fun k T => fPump T k) i S) → (∀ w2 : Wd, MB K.2.1 w0 w2 m ad (itn (fun k T => fPump T k) (cn S 24) S) → J K cX10_run E 0 0 w2 128 [some (.ref m), some (.int x1), some (.int x2), some (.int (nI (cn S 24)))] []) → J K cX10_run E 0 0 w1 109 [some (.ref m), some (.int x1), some (.int x2), some (.int (nI i))] [] := by
  have hb : CN S 24 8 := hW.1.2.2.2.1
  intro n
  induction n with
  | zero =>
    intro i w1 hi hM kk
    have hi2 : i = cn S 24 := by omega
    subst hi2
    refine j_iload_n hC dX10_run_109 rfl ?_
    refine j_aload_n hC dX10_run_110 rfl ?_
    refine m_get hC hM dX10_run_111 fX10_162 (by decide) (mFg_24 _ _) ?_
    refine J.toI (y := nI (cn S 24)) ((congrFun (itP_1 _ S (j := 24) (by decide)) 0).trans hb.1) ?_
    refine j_icmp_ge hC 128 dX10_run_114 (by decide) (fun c_114 => ?_) (fun c_114 => ?_)
    · exact kk _ hM
    · exact absurd (nI_le (Nat.le_refl _) (by have := hb.2; omega)) c_114
  | succ n ih =>
    intro i w1 hi hM kk
    have hil : i < cn S 24 := by omega
    refine j_iload_n hC dX10_run_109 rfl ?_
    refine j_aload_n hC dX10_run_110 rfl ?_
    refine m_get hC hM dX10_run_111 fX10_162 (by decide) (mFg_24 _ _) ?_
    refine J.toI (y := nI (cn S 24)) ((congrFun (itP_1 _ S (j := 24) (by decide)) 0).trans hb.1) ?_
    refine j_icmp_ge hC 128 dX10_run_114 (by decide) (fun c_114 => ?_) (fun c_114 => ?_)
    · exact absurd ((nI_leI (by have := hb.2; omega) (by have := hb.2; omega)).mp c_114) (by omega)
    · refine j_aload_n hC dX10_run_117 rfl ?_
      refine j_iload_n hC dX10_run_118 rfl ?_
      refine j_callv (kc' := 0) (ks' := 0) (r := (RX10, TX10, 59)) hC (m_pumpOf K (S := itn (fun k T => fPump T k) i S) (k := i) hM.1 (by have := hb.2; omega) (by rw [itP_1 i S (j := 25) (by decide)]; exact (hW.2.2.2.2.1 i hil).1.1) (by rw [itP_1 i S (j := 26) (by decide)]; exact (hW.2.2.2.2.1 i hil).2.1.1) (by rw [itP_1 i S (j := 26) (by decide), itP_1 i S (j := 25) (by decide)]; exact (hW.2.2.2.2.1 i hil).2.2.1) (by rw [itP_1 i S (j := 25) (by decide), itP_1 i S (j := 4) (by decide)]; exact hW.ro (hW.2.2.2.2.1 i hil).1.2)) dX10_run_119 wX10_pumpOf lX10_209 i_yX10_pumpOf s_yX10_pumpOf hM.1.1 rfl rfl rfl (nle rfl) rfl (by decide) (by decide) (by decide) (kV fun w' hp => ?_)
      have hM := hM.tr hp
      clear hp
      refine j_iinc (v := nI (i + 1)) (lv' := [some _, some _, some _, some _]) hC dX10_run_122 rfl (nI_i1 i) (nlt rfl) rfl ?_
      refine j_goto hC 109 dX10_run_125 (by decide) ?_
      exact ih (i + 1) _ (by omega) hM kk
theorem run_L4s (K : Kx) {w0 w1 : Wd} {m : Nat} {ad : Nat → Nat} {E : Ex} {S T : Ast} {x1 x2 : Int32}  (hC : BX K RX10 cX10_run 4 2 E) (hW : WSt S)  (hT : itn (fun k T => fPump T k) (cn S 24) S = T) (hM : MB K.2.1 w0 w1 m ad S) (kk : ∀ (w2 : Wd) (x3 : Int32), MB K.2.1 w0 w2 m ad T → J K cX10_run E 0 0 w2 128 [some (.ref m), some (.int x1), some (.int x2), some (.int x3)] []) : J K cX10_run E 0 0 w1 109 [some (.ref m), some (.int x1), some (.int x2), some (.int (0))] [] := by
  subst hT
  rw [← nI_0]
  exact run_L4 K hC hW  (cn S 24) 0 w1 (by omega) hM (fun w2 h => kk w2 _ h)

set_option maxRecDepth 100000 in
set_option maxHeartbeats 4000000 in
theorem run_L5 (K : Kx) {w0 : Wd} {m : Nat} {ad : Nat → Nat} {E : Ex} {S : Ast} {x1 x2 : Int32}  (hC : BX K RX10 cX10_run 4 2 E) (hW : WSt S)  : ∀ (n i : Nat) (w1 : Wd), i + n = cn S 31 → MB K.2.1 w0 w1 m ad (itn (fun k T => fGate T k) i S) → (∀ w2 : Wd, MB K.2.1 w0 w2 m ad (itn (fun k T => fGate T k) (cn S 31) S) → J K cX10_run E 0 0 w2 149 [some (.ref m), some (.int x1), some (.int x2), some (.int (nI (cn S 31)))] []) → J K cX10_run E 0 0 w1 130 [some (.ref m), some (.int x1), some (.int x2), some (.int (nI i))] [] := by
  have hb : CN S 31 8 := hW.1.2.2.2.2.1
  intro n
  induction n with
  | zero =>
    intro i w1 hi hM kk
    have hi2 : i = cn S 31 := by omega
    subst hi2
    refine j_iload_n hC dX10_run_130 rfl ?_
    refine j_aload_n hC dX10_run_131 rfl ?_
    refine m_get hC hM dX10_run_132 fX10_165 (by decide) (mFg_31 _ _) ?_
    refine J.toI (y := nI (cn S 31)) (by rw [itn_1 (f := fun k T => fGate T k) (fun _ _ => rfl)]; exact hb.1) ?_
    refine j_icmp_ge hC 149 dX10_run_135 (by decide) (fun c_135 => ?_) (fun c_135 => ?_)
    · exact kk _ hM
    · exact absurd (nI_le (Nat.le_refl _) (by have := hb.2; omega)) c_135
  | succ n ih =>
    intro i w1 hi hM kk
    have hil : i < cn S 31 := by omega
    refine j_iload_n hC dX10_run_130 rfl ?_
    refine j_aload_n hC dX10_run_131 rfl ?_
    refine m_get hC hM dX10_run_132 fX10_165 (by decide) (mFg_31 _ _) ?_
    refine J.toI (y := nI (cn S 31)) (by rw [itn_1 (f := fun k T => fGate T k) (fun _ _ => rfl)]; exact hb.1) ?_
    refine j_icmp_ge hC 149 dX10_run_135 (by decide) (fun c_135 => ?_) (fun c_135 => ?_)
    · exact absurd ((nI_leI (by have := hb.2; omega) (by have := hb.2; omega)).mp c_135) (by omega)
    · refine j_aload_n hC dX10_run_138 rfl ?_
      refine j_iload_n hC dX10_run_139 rfl ?_
      refine j_callv (kc' := 0) (ks' := 0) (r := (RX10, TX10, 59)) hC (m_gateOf K (S := itn (fun k T => fGate T k) i S) (k := i) hM.1 (by have := hb.2; omega) (by rw [itn_1 (f := fun k T => fGate T k) (fun _ _ => rfl)]; exact (hW.2.2.2.2.2.1 i hil).1.1) (by rw [itn_1 (f := fun k T => fGate T k) (fun _ _ => rfl)]; exact i64_pos (by have := (hW.2.2.2.2.2.1 i hil).2.2.1; omega))) dX10_run_140 wX10_gateOf lX10_212 i_yX10_gateOf s_yX10_gateOf hM.1.1 rfl rfl rfl (nle rfl) rfl (by decide) (by decide) (by decide) (kV fun w' hp => ?_)
      have hM := hM.tr hp
      clear hp
      refine j_iinc (v := nI (i + 1)) (lv' := [some _, some _, some _, some _]) hC dX10_run_143 rfl (nI_i1 i) (nlt rfl) rfl ?_
      refine j_goto hC 130 dX10_run_146 (by decide) ?_
      exact ih (i + 1) _ (by omega) hM kk
theorem run_L5s (K : Kx) {w0 w1 : Wd} {m : Nat} {ad : Nat → Nat} {E : Ex} {S T : Ast} {x1 x2 : Int32}  (hC : BX K RX10 cX10_run 4 2 E) (hW : WSt S)  (hT : itn (fun k T => fGate T k) (cn S 31) S = T) (hM : MB K.2.1 w0 w1 m ad S) (kk : ∀ (w2 : Wd) (x3 : Int32), MB K.2.1 w0 w2 m ad T → J K cX10_run E 0 0 w2 149 [some (.ref m), some (.int x1), some (.int x2), some (.int x3)] []) : J K cX10_run E 0 0 w1 130 [some (.ref m), some (.int x1), some (.int x2), some (.int (0))] [] := by
  subst hT
  rw [← nI_0]
  exact run_L5 K hC hW  (cn S 31) 0 w1 (by omega) hM (fun w2 h => kk w2 _ h)

theorem NVc.gullies {S : Ast} (h : NVc S) (hW : WSt S) : ∀ i, i ≤ cn S 35 → NVc (itn (fun k T => fGully T k) i S) := by
  intro i
  induction i with
  | zero => intro _; exact h
  | succ i ih =>
    intro hi
    refine (ih (by omega)).gully ?_
    have e : (itn (fun k T => fGully T k) i S).1 = S.1 := itn_1 (f := fun k T => fGully T k) (fun _ _ => rfl) i S
    have := hW.2.2.2.2.2.2.1 i (by omega)
    unfold gullyOK nd cn at this ⊢
    rw [e]
    exact this

set_option maxRecDepth 100000 in
set_option maxHeartbeats 4000000 in
theorem run_L6 (K : Kx) {w0 : Wd} {m : Nat} {ad : Nat → Nat} {E : Ex} {S : Ast} {x1 x2 : Int32}  (hC : BX K RX10 cX10_run 4 2 E) (hW : WSt S) (hNV : NVc S) : ∀ (n i : Nat) (w1 : Wd), i + n = cn S 35 → MB K.2.1 w0 w1 m ad (itn (fun k T => fGully T k) i S) → (∀ w2 : Wd, MB K.2.1 w0 w2 m ad (itn (fun k T => fGully T k) (cn S 35) S) → J K cX10_run E 0 0 w2 170 [some (.ref m), some (.int x1), some (.int x2), some (.int (nI (cn S 35)))] []) → J K cX10_run E 0 0 w1 151 [some (.ref m), some (.int x1), some (.int x2), some (.int (nI i))] [] := by
  have hb : CN S 35 8 := hW.1.2.2.2.2.2
  intro n
  induction n with
  | zero =>
    intro i w1 hi hM kk
    have hi2 : i = cn S 35 := by omega
    subst hi2
    refine j_iload_n hC dX10_run_151 rfl ?_
    refine j_aload_n hC dX10_run_152 rfl ?_
    refine m_get hC hM dX10_run_153 fX10_169 (by decide) (mFg_35 _ _) ?_
    refine J.toI (y := nI (cn S 35)) (by rw [itn_1 (f := fun k T => fGully T k) (fun _ _ => rfl)]; exact hb.1) ?_
    refine j_icmp_ge hC 170 dX10_run_156 (by decide) (fun c_156 => ?_) (fun c_156 => ?_)
    · exact kk _ hM
    · exact absurd (nI_le (Nat.le_refl _) (by have := hb.2; omega)) c_156
  | succ n ih =>
    intro i w1 hi hM kk
    have hil : i < cn S 35 := by omega
    refine j_iload_n hC dX10_run_151 rfl ?_
    refine j_aload_n hC dX10_run_152 rfl ?_
    refine m_get hC hM dX10_run_153 fX10_169 (by decide) (mFg_35 _ _) ?_
    refine J.toI (y := nI (cn S 35)) (by rw [itn_1 (f := fun k T => fGully T k) (fun _ _ => rfl)]; exact hb.1) ?_
    refine j_icmp_ge hC 170 dX10_run_156 (by decide) (fun c_156 => ?_) (fun c_156 => ?_)
    · exact absurd ((nI_leI (by have := hb.2; omega) (by have := hb.2; omega)).mp c_156) (by omega)
    · refine j_aload_n hC dX10_run_159 rfl ?_
      refine j_iload_n hC dX10_run_160 rfl ?_
      refine j_callv (kc' := 0) (ks' := 0) (r := (RX10, TX10, 59)) hC (m_gullyOf K (S := itn (fun k T => fGully T k) i S) (k := i) hM.1 (by have := hb.2; omega) (by rw [itn_1 (f := fun k T => fGully T k) (fun _ _ => rfl)]; exact (hW.2.2.2.2.2.2.1 i hil).2.1.1) (by rw [itn_1 (f := fun k T => fGully T k) (fun _ _ => rfl)]; exact (hW.2.2.2.2.2.2.1 i hil).1) (by rw [itn_1 (f := fun k T => fGully T k) (fun _ _ => rfl)]; exact i64_nn (by have := (hW.2.2.2.2.2.2.1 i hil).2.2.1; omega)) (hNV.gullies hW i (by omega) _ (by rw [itn_1 (f := fun k T => fGully T k) (fun _ _ => rfl)]; exact Nat.not_le.mp fun q => (hW.2.2.2.2.2.2.1 i hil).1.1 (Or.inr q)))) dX10_run_161 wX10_gullyOf lX10_215 i_yX10_gullyOf s_yX10_gullyOf hM.1.1 rfl rfl rfl (nle rfl) rfl (by decide) (by decide) (by decide) (kV fun w' hp => ?_)
      have hM := hM.tr hp
      clear hp
      refine j_iinc (v := nI (i + 1)) (lv' := [some _, some _, some _, some _]) hC dX10_run_164 rfl (nI_i1 i) (nlt rfl) rfl ?_
      refine j_goto hC 151 dX10_run_167 (by decide) ?_
      exact ih (i + 1) _ (by omega) hM kk
theorem run_L6s (K : Kx) {w0 w1 : Wd} {m : Nat} {ad : Nat → Nat} {E : Ex} {S T : Ast} {x1 x2 : Int32}  (hC : BX K RX10 cX10_run 4 2 E) (hW : WSt S) (hNV : NVc S) (hT : itn (fun k T => fGully T k) (cn S 35) S = T) (hM : MB K.2.1 w0 w1 m ad S) (kk : ∀ (w2 : Wd) (x3 : Int32), MB K.2.1 w0 w2 m ad T → J K cX10_run E 0 0 w2 170 [some (.ref m), some (.int x1), some (.int x2), some (.int x3)] []) : J K cX10_run E 0 0 w1 151 [some (.ref m), some (.int x1), some (.int x2), some (.int (0))] [] := by
  subst hT
  rw [← nI_0]
  exact run_L6 K hC hW hNV (cn S 35) 0 w1 (by omega) hM (fun w2 h => kk w2 _ h)

set_option maxRecDepth 100000 in
set_option maxHeartbeats 4000000 in
theorem run_L7 (K : Kx) {w0 : Wd} {m : Nat} {ad : Nat → Nat} {E : Ex} {S : Ast} {x1 x2 : Int32}  (hC : BX K RX10 cX10_run 4 2 E) (hW : WSt S)  : ∀ (n i : Nat) (w1 : Wd), i + n = cn S 1 → MB K.2.1 w0 w1 m ad (itn (fun k T => fNode T k) i S) → (∀ w2 : Wd, MB K.2.1 w0 w2 m ad (itn (fun k T => fNode T k) (cn S 1) S) → J K cX10_run E 0 0 w2 191 [some (.ref m), some (.int x1), some (.int x2), some (.int (nI (cn S 1)))] []) → J K cX10_run E 0 0 w1 172 [some (.ref m), some (.int x1), some (.int x2), some (.int (nI i))] [] := by
  have hb : CN S 1 24 := hW.1.1
  intro n
  induction n with
  | zero =>
    intro i w1 hi hM kk
    have hi2 : i = cn S 1 := by omega
    subst hi2
    refine j_iload_n hC dX10_run_172 rfl ?_
    refine j_aload_n hC dX10_run_173 rfl ?_
    refine m_get hC hM dX10_run_174 fX10_142 (by decide) (mFg_1 _ _) ?_
    refine J.toI (y := nI (cn S 1)) (by rw [itn_1 (f := fun k T => fNode T k) (fun k T => fNode_1 T k)]; exact hb.1) ?_
    refine j_icmp_ge hC 191 dX10_run_177 (by decide) (fun c_177 => ?_) (fun c_177 => ?_)
    · exact kk _ hM
    · exact absurd (nI_le (Nat.le_refl _) (by have := hb.2; omega)) c_177
  | succ n ih =>
    intro i w1 hi hM kk
    have hil : i < cn S 1 := by omega
    refine j_iload_n hC dX10_run_172 rfl ?_
    refine j_aload_n hC dX10_run_173 rfl ?_
    refine m_get hC hM dX10_run_174 fX10_142 (by decide) (mFg_1 _ _) ?_
    refine J.toI (y := nI (cn S 1)) (by rw [itn_1 (f := fun k T => fNode T k) (fun k T => fNode_1 T k)]; exact hb.1) ?_
    refine j_icmp_ge hC 191 dX10_run_177 (by decide) (fun c_177 => ?_) (fun c_177 => ?_)
    · exact absurd ((nI_leI (by have := hb.2; omega) (by have := hb.2; omega)).mp c_177) (by omega)
    · refine j_aload_n hC dX10_run_180 rfl ?_
      refine j_iload_n hC dX10_run_181 rfl ?_
      refine j_callv (kc' := 0) (ks' := 0) (r := (RX10, TX10, 59)) hC (m_nodeOf K (S := itn (fun k T => fNode T k) i S) (k := i) hM.1 (by have := hb.2; omega) (by rw [itn_1 (f := fun k T => fNode T k) (fun k T => fNode_1 T k)]; intro q; rcases (hW.2.1 i hil).2.2.2.2 with z | z; (· exact absurd (by rw [z]; decide) q); exact z)) dX10_run_182 wX10_nodeOf lX10_218 i_yX10_nodeOf s_yX10_nodeOf hM.1.1 rfl rfl rfl (nle rfl) rfl (by decide) (by decide) (by decide) (kV fun w' hp => ?_)
      have hM := hM.tr hp
      clear hp
      refine j_iinc (v := nI (i + 1)) (lv' := [some _, some _, some _, some _]) hC dX10_run_185 rfl (nI_i1 i) (nlt rfl) rfl ?_
      refine j_goto hC 172 dX10_run_188 (by decide) ?_
      exact ih (i + 1) _ (by omega) hM kk
theorem run_L7s (K : Kx) {w0 w1 : Wd} {m : Nat} {ad : Nat → Nat} {E : Ex} {S T : Ast} {x1 x2 : Int32}  (hC : BX K RX10 cX10_run 4 2 E) (hW : WSt S)  (hT : itn (fun k T => fNode T k) (cn S 1) S = T) (hM : MB K.2.1 w0 w1 m ad S) (kk : ∀ (w2 : Wd) (x3 : Int32), MB K.2.1 w0 w2 m ad T → J K cX10_run E 0 0 w2 191 [some (.ref m), some (.int x1), some (.int x2), some (.int x3)] []) : J K cX10_run E 0 0 w1 172 [some (.ref m), some (.int x1), some (.int x2), some (.int (0))] [] := by
  subst hT
  rw [← nI_0]
  exact run_L7 K hC hW  (cn S 1) 0 w1 (by omega) hM (fun w2 h => kk w2 _ h)

set_option maxRecDepth 100000 in
set_option maxHeartbeats 4000000 in
theorem run_sec (K : Kx) {w0 w1 : Wd} {m mi : Nat} {ad : Nat → Nat} {E : Ex} {S : Ast} {x1 x2 : Int32} (hC : BX K RX10 cX10_run 4 2 E) (hW : WSt S) (hN : NVc S) (hmi : S.1 40 0 / 60 = nI mi) (hm : mi < 1440) (hM : MB K.2.1 w0 w1 m ad S) (kk : ∀ (w2 : Wd) (x3 : Int32), MB K.2.1 w0 w2 m ad (fSec S) → J K cX10_run E 0 0 w2 201 [some (.ref m), some (.int x1), some (.int x2), some (.int x3)] []) : J K cX10_run E 0 0 w1 31 [some (.ref m), some (.int x1), some (.int x2), none] [] := by
  have h1W : WSt (q1 S) := hW.cong (fun k _ _ => by rw [q1_1])
  have h2W : WSt (q2 S) := hW.cong (fun k _ _ => by rw [q2_1])
  have h3W : WSt (q3 S) := hW.cong (fun k _ _ => by rw [q3_1])
  have h4W : WSt (q4 S) := hW.cong (fun k a _ => q4_1 S a)
  have h5W : WSt (q5 S) := hW.cong (fun k a _ => q5_1 S a)
  have h6W : WSt (q6 S) := hW.cong (fun k a _ => q6_1 S a)
  have h5N : NVc (q5 S) := fun c hc => by rw [q5_39]; exact hN c hc
  refine j_iconst hC (0) dX10_run_31 (by decide) ?_
  refine j_istore_n (lv' := [some _, some _, some _, some _]) hC dX10_run_32 (nlt rfl) rfl ?_
  have hT0 : itn (fun k T => fRain T k (mn S)) (cn (S) 18) (S) = q1 S := by unfold q1; rw [show cn (S) 18 = cn S 18 from rfl]
  refine run_L1s K (S := S) (T := q1 S) (j := mn S) (mi := mi) hC hW hmi (by unfold mn; rw [hmi]; exact nI_clamp (by omega)) hm hT0 hM (fun w0 x30 hM => ?_)
  refine j_iconst hC (0) dX10_run_59 (by decide) ?_
  refine j_istore_n (lv' := [some _, some _, some _, some _]) hC dX10_run_60 (nlt rfl) rfl ?_
  have hT1 : itn (fun k T => fLev T k) (cn (q1 S) 1) (q1 S) = q2 S := by unfold q2; rw [show cn (q1 S) 1 = cn S 1 from (by unfold cn; rw [q1_1])]
  refine run_L2s K (S := q1 S) (T := q2 S) hC h1W hT1 hM (fun w1 x31 hM => ?_)
  refine j_iconst hC (0) dX10_run_86 (by decide) ?_
  refine j_istore_n (lv' := [some _, some _, some _, some _]) hC dX10_run_87 (nlt rfl) rfl ?_
  have hT2 : itn (fun k T => fFlow T k) (cn (q2 S) 10) (q2 S) = q3 S := by unfold q3; rw [show cn (q2 S) 10 = cn S 10 from (by unfold cn; rw [q2_1])]
  refine run_L3s K (S := q2 S) (T := q3 S) hC h2W hT2 hM (fun w2 x32 hM => ?_)
  refine j_iconst hC (0) dX10_run_107 (by decide) ?_
  refine j_istore_n (lv' := [some _, some _, some _, some _]) hC dX10_run_108 (nlt rfl) rfl ?_
  have hT3 : itn (fun k T => fPump T k) (cn (q3 S) 24) (q3 S) = q4 S := by unfold q4; rw [show cn (q3 S) 24 = cn S 24 from (by unfold cn; rw [q3_1])]
  refine run_L4s K (S := q3 S) (T := q4 S) hC h3W hT3 hM (fun w3 x33 hM => ?_)
  refine j_iconst hC (0) dX10_run_128 (by decide) ?_
  refine j_istore_n (lv' := [some _, some _, some _, some _]) hC dX10_run_129 (nlt rfl) rfl ?_
  have hT4 : itn (fun k T => fGate T k) (cn (q4 S) 31) (q4 S) = q5 S := by unfold q5; rw [show cn (q4 S) 31 = cn S 31 from (by unfold cn; rw [q4_1 S (by decide)])]
  refine run_L5s K (S := q4 S) (T := q5 S) hC h4W hT4 hM (fun w4 x34 hM => ?_)
  refine j_iconst hC (0) dX10_run_149 (by decide) ?_
  refine j_istore_n (lv' := [some _, some _, some _, some _]) hC dX10_run_150 (nlt rfl) rfl ?_
  have hT5 : itn (fun k T => fGully T k) (cn (q5 S) 35) (q5 S) = q6 S := by unfold q6; rw [show cn (q5 S) 35 = cn S 35 from (by unfold cn; rw [q5_1 S (by decide)])]
  refine run_L6s K (S := q5 S) (T := q6 S) hC h5W h5N hT5 hM (fun w5 x35 hM => ?_)
  refine j_iconst hC (0) dX10_run_170 (by decide) ?_
  refine j_istore_n (lv' := [some _, some _, some _, some _]) hC dX10_run_171 (nlt rfl) rfl ?_
  have hT6 : itn (fun k T => fNode T k) (cn (q6 S) 1) (q6 S) = q7 S := by unfold q7; rw [show cn (q6 S) 1 = cn S 1 from (by unfold cn; rw [q6_1 S (by decide)])]
  refine run_L7s K (S := q6 S) (T := q7 S) hC h6W hT6 hM (fun w6 x36 hM => ?_)
  refine j_aload_n hC dX10_run_191 rfl ?_
  refine j_dup hC dX10_run_192 rfl ?_
  refine m_get hC hM dX10_run_193 fX10_197 (by decide) (mFg_40 _ _) ?_
  refine j_iconst hC (1) dX10_run_196 (by decide) ?_
  refine j_iadd hC dX10_run_197 ?_
  refine J.toI (y := S.1 40 0 + 1) (by rw [show (q7 S).1 40 = S.1 40 from q7_1 S (by decide)]) ?_
  refine m_putI hC hM (by decide) dX10_run_198 fX10_197 rfl (by decide) rfl rfl (mFs_40 _ _ _) (fun w1 hM => ?_)
  exact kk _ _ hM

abbrev okRun (S : Ast) (n : Int32) : Prop := ¬ wI n 1 600 = 0 ∧ ¬ 86400 < S.1 40 0 + n
theorem div60 {s : Nat} (h : s < 86400) : nI s / 60 = nI (s / 60) := by
  rw [show (60 : Int32) = nI 60 by decide]
  exact pk_div (by omega) (by omega) (by omega)
theorem okRun_n {S : Ast} {n : Int32} {s : Nat} (h40 : S.1 40 0 = nI s) (hs : s ≤ 86400) (hok : okRun S n) : n = nI n.toNatClampNeg ∧ 1 ≤ n.toNatClampNeg ∧ n.toNatClampNeg ≤ 600 ∧ s + n.toNatClampNeg ≤ 86400 := by
  obtain ⟨h1, h2⟩ := hok
  obtain ⟨h3, h4⟩ := wI_in h1
  have h5 : ¬ n < 0 := fun q => h3 (by
    rw [Int32.lt_iff_toInt_lt] at q ⊢
    have e0 : (0 : Int32).toInt = 0 := by decide
    have e1 : (1 : Int32).toInt = 1 := by decide
    omega)
  obtain ⟨j, hj, rfl⟩ := nI_of h5
  rw [nI_clamp hj]
  have e1 : ¬ nI j < nI 1 := h3
  have e2 : ¬ nI 600 < nI j := h4
  rw [nI_ltI hj (by omega)] at e1
  rw [nI_ltI (by omega) hj] at e2
  rw [h40, nI_add] at h2
  have e3 : ¬ nI 86400 < nI (s + j) := h2
  rw [nI_ltI (by omega) (by omega)] at e3
  exact ⟨rfl, by omega, by omega, by omega⟩

set_option maxRecDepth 100000 in
set_option maxHeartbeats 4000000 in
theorem m_run (K : Kx) {w : Wd} {m : Nat} {ad : Nat → Nat} {S : Ast} {s : Nat} (n : Int32) (hA : MA K.2.1 w m ad S) (hW : WSt S) (h40 : S.1 40 0 = nI s) (hs : s ≤ 86400) (hNV : okRun S n → ∀ t, t < n.toNatClampNeg → NVc (fRun S t)) : MT K mX10_run 2 0 0 [.ref m, .int n] w (PI fun r w' => r = (if okRun S n then (fRun S n.toNatClampNeg).1 40 0 else (-1)) ∧ MB K.2.1 w w' m ad (if okRun S n then fRun S n.toNatClampNeg else S)) := by
  refine MT.of [some (.ref m), some (.int n), none, none] (by decide) rfl (nle rfl) rfl ?_
  intro E hC hR
  have hM := MB.rf hA
  refine j_iload_n hC dX10_run_0 rfl ?_
  refine j_iconst hC (1) dX10_run_1 (by decide) ?_
  refine j_sipush hC (600) dX10_run_2 (by decide) ?_
  refine j_calls (kc' := 0) (ks' := 0) hC (m_is K n 1 600) dX10_run_5 wX10_is lX10_145 t_yX10_is rfl rfl (nle rfl) rfl (by decide) (by decide) (by decide) (kI fun r w' hp => ?_)
  obtain ⟨rfl, hw⟩ := hp
  rw [hw]
  clear hw w'
  refine j_if_eq hC 22 dX10_run_8 (by decide) (fun c_8 => ?_) (fun c_8 => ?_)
  · refine j_iconst hC (-1) dX10_run_22 (by decide) ?_
    have hok : ¬ okRun S n := by simp [okRun, c_8, Int32.not_le, Int32.not_lt]
    exact j_iret hC hR dX10_run_23 rfl ⟨_, rfl, by rw [if_neg hok], by rw [if_neg hok]; exact hM⟩
  · refine j_aload_n hC dX10_run_11 rfl ?_
    refine m_get hC hM dX10_run_12 fX10_197 (by decide) (mFg_40 _ _) ?_
    refine j_iload_n hC dX10_run_15 rfl ?_
    refine j_iadd hC dX10_run_16 ?_
    refine j_ldc hC dX10_run_17 nX10_200 ?_
    refine j_icmp_le hC 24 dX10_run_19 (by decide) (fun c_19 => ?_) (fun c_19 => ?_)
    · have hok : okRun S n := by simp [okRun, c_8, Int32.not_lt]; exact c_19
      obtain ⟨hn, hn1, hn6, hns⟩ := okRun_n h40 hs hok
      replace hNV := hNV hok
      generalize n.toNatClampNeg = N at hn hn1 hn6 hns hNV
      subst hn
      refine j_iconst hC (0) dX10_run_24 (by decide) ?_
      refine j_istore_n (lv' := [some _, some _, some _, none]) hC dX10_run_25 (nlt rfl) rfl ?_
      have loop : ∀ (u t : Nat) (w1 : Wd), t + u = N → MB K.2.1 w w1 m ad (fRun S t) → J K cX10_run E 0 0 w1 26 [some (.ref m), some (.int (nI N)), some (.int (nI t)), none] [] := by
        intro u
        induction u with
        | zero =>
          intro t w1 ht hM
          have ht2 : t = N := by omega
          subst ht2
          refine j_iload_n hC dX10_run_26 rfl ?_
          refine j_iload_n hC dX10_run_27 rfl ?_
          refine j_icmp_ge hC 207 dX10_run_28 (by decide) (fun c_28 => ?_) (fun c_28 => ?_)
          · refine j_aload_n hC dX10_run_207 rfl ?_
            refine m_get hC hM dX10_run_208 fX10_197 (by decide) (mFg_40 _ _) ?_
            exact j_iret hC hR dX10_run_211 rfl ⟨_, rfl, by rw [if_pos hok, nI_clamp (by omega)], by rw [if_pos hok, nI_clamp (by omega)]; exact hM⟩
          · exact absurd (nI_le (Nat.le_refl _) (by omega)) c_28
        | succ u ih =>
          intro t w1 ht hM
          refine j_iload_n hC dX10_run_26 rfl ?_
          refine j_iload_n hC dX10_run_27 rfl ?_
          refine j_icmp_ge hC 207 dX10_run_28 (by decide) (fun c_28 => ?_) (fun c_28 => ?_)
          · exact absurd ((nI_leI (by omega) (by omega)).mp c_28) (by omega)
          · refine run_sec K (S := fRun S t) (mi := (s + t) / 60) hC (hW.run t) (hNV t (by omega)) (by rw [fRun_40 S h40 t]; exact div60 (by omega)) (by omega) hM (fun w2 x3 hM => ?_)
            refine j_iinc (v := nI (t + 1)) (lv' := [some _, some _, some _, some _]) hC dX10_run_201 rfl (nI_i1 t) (nlt rfl) rfl ?_
            refine j_goto hC 26 dX10_run_204 (by decide) ?_
            refine J.weak (l' := [some (.ref m), some (.int (nI N)), some (.int (nI (t + 1))), none]) ⟨rfl, rfl, rfl, trivial⟩ ?_
            exact ih (t + 1) _ (by omega) hM
      exact loop N 0 _ (by omega) hM
    · refine j_iconst hC (-1) dX10_run_22 (by decide) ?_
      have hok : ¬ okRun S n := by simp [okRun, c_8, c_19, Int32.not_le, Int32.not_lt]
      exact j_iret hC hR dX10_run_23 rfl ⟨_, rfl, by rw [if_neg hok], by rw [if_neg hok]; exact hM⟩

