
def rL2 (S : Ast) (co di : Int32) : Int := if S.1 50 0 = 0 then -1 else if allV S co di < NEV then allV S co di else -2
def sL2 (S : Ast) (co di : Int32) : Ast := if S.1 50 0 = 0 then S else if allV S co di < NEV then TL (uI S 55 0 1) S co.toInt di.toInt (cn S 50) (cn S 44) (cn S 50) else uI S 55 0 0
theorem rL2_y {S : Ast} {co di : Int32} (h1 : ¬ wI co 0 10000 = 0) (h2 : ¬ wI di 0 1000 = 0) : rLay S co di = rL2 S co di ∧ sLay S co di = sL2 S co di := by
  unfold rLay rL2 sLay sL2
  by_cases h0 : S.1 50 0 = 0
  · rw [if_neg (fun q => q.1 h0), if_pos h0, if_neg (fun q => q.1 h0), if_pos h0]
    exact ⟨rfl, rfl⟩
  · have hok : okY S co di := ⟨h0, h1, h2⟩
    rw [if_pos hok, if_neg h0, if_pos hok, if_neg h0]
    exact ⟨rfl, rfl⟩
theorem rL2_n {S : Ast} {co di : Int32} (h : wI co 0 10000 = 0 ∨ wI di 0 1000 = 0) : rLay S co di = -1 ∧ sLay S co di = S := by
  unfold rLay sLay
  have hn : ¬ okY S co di := fun q => by rcases h with z | z; (· exact q.2.1 z); exact q.2.2 z
  rw [if_neg hn, if_neg hn]
  exact ⟨rfl, rfl⟩
theorem same55 (S : Ast) (v : Int32) : same (uI S 55 0 v) S := fun k hk => uI_1n (fun q => hk (by rw [q]; decide))
theorem NP.u55 {S : Ast} {np : Nat} (h : NP S np) (v : Int32) : NP (uI S 55 0 v) np := h.cong (fun k hk => uI_1n (fun q => by subst q; revert hk; decide))
theorem l_m2 : (-2 : Int64).toInt = -2 := by decide
theorem l_m1 : (-1 : Int64).toInt = -1 := by decide

set_option maxRecDepth 100000 in
set_option maxHeartbeats 4000000 in
theorem c_layBest (K : Kx) {w : Wd} {O : Nat → Prop} {ad : Nat → Nat → Nat} {z : Zx} {np : Nat} {S : Ast} (co di : Int32) (hA : SA K.2.1 w O ad z np S) (hL : LSt S) (hnp : NP S np) (hco : rg co 0 10000) (hdi : rg di 0 1000) : MT K mX4_layBest 7 0 0 [.ref (ad 9 0), .int co, .int di] w (PL fun r w' => r.toInt = rL2 S co di ∧ CQ K.2.1 w O (ad 0 0) w' (sL2 S co di)) := by
  refine MT.of [some (.ref (ad 9 0)), some (.int co), some (.int di), none, none] (by decide) rfl (nle rfl) rfl ?_
  intro E hC hR
  have hS := SB.rf hA
  have c50 := (same55 S 0).cn (k := 50) (by decide)
  have c44 := (same55 S 0).cn (k := 44) (by decide)
  have loop : ¬ S.1 50 0 = 0 → 0 < cn S 50 → 0 < cn S 44 → ∀ (n : Nat) (w1 : Wd) (ce : Nat → Int64) (le : Nat → Nat → Int64), n ≤ cn S 50 → SB K.2.1 w w1 O ad (co, di, ce, le) np (uI S 55 0 0) → LD (uI S 55 0 0) co.toInt di.toInt le n → J K cX4_layBest E 0 0 w1 47 [some (.ref (ad 9 0)), some (.int co), some (.int di), some (.int (nI n - 1)), none] [] := by
    intro c_4 hP hN n
    induction n with
    | zero =>
      intro w1 ce le hn hS hD
      refine j_iload_n hC dX4_layBest_47 rfl ?_
      refine j_if_lt hC 62 dX4_layBest_48 (by decide) (fun c_48 => ?_) (fun c_48 => ?_)
      · refine j_aload_n hC dX4_layBest_62 rfl ?_
        refine j_get hC cfX4 dX4_layBest_63 fX4_18 (by decide) hS.1.line rfl ?_
        refine j_iconst hC (0) dX4_layBest_66 (by decide) ?_
        refine J.toI nI_0.symm ?_
        obtain ⟨mc1, hl1⟩ := (hS.1.lst (j := 11) (by decide)).sz
        refine j_callv (kc' := 0) (ks' := 0) (r := (RJx4a65c, TJx4a65c, 3)) hC (c_get K (hS.1.lst (j := 11) (by decide)) (by rw [vN_e11]; have := hnp.1; omega)) dX4_layBest_67 wJx4a65c_get_915e3 lX4_29 i_yJx4a65c_get_915e3 s_yJx4a65c_get_915e3 hl1 rfl rfl rfl (nle rfl) rfl (by decide) (by decide) (by decide) (kA fun r w' hp => ?_)
        obtain ⟨rfl, hw⟩ := hp
        rw [hw]
        clear hw w'
        refine j_cast (r := (RX6, TX6, 7)) hC dX4_layBest_70 kX4_62 (hS.1.piece (show 0 < np by have := hnp.1; omega)) rfl ?_
        refine j_get hC cfX6 dX4_layBest_73 fX4_91 (by decide) (hS.1.piece (show 0 < np by have := hnp.1; omega)) rfl ?_
        refine j_iconst hC (0) dX4_layBest_76 (by decide) ?_
        refine j_aldJ hC dX4_layBest_77 (hS.1.le (show 0 < np by have := hnp.1; omega)) (⟨by unfold vp_in; decide, by decide⟩ : ix 0 ((40 * 0 + 1) * 6) 0) ?_
        have hal : (le 0 0).toInt = VV (uI S 55 0 0) co.toInt di.toInt (cn (uI S 55 0 0) 50) (cn (uI S 55 0 0) 44) (cn (uI S 55 0 0) 50) 0 0 := by have q := hD 0 (Nat.le_refl _) (by rw [c50]; exact hP) 0 (Nat.zero_le _) 0 (by rw [c44]; exact hN); rw [Nat.sub_zero] at q; exact q
        have hal2 : allV S co di = (le 0 0).toInt := by unfold allV; rw [if_neg (by omega), hal, c50, c44, VV_same (same55 S 0)]
        refine j_lstore_n (lv' := [some _, some _, some _, some _, none]) hC dX4_layBest_78 (nlt rfl) rfl ?_
        refine j_lload_n hC dX4_layBest_79 rfl ?_
        refine j_ldc2 hC dX4_layBest_80 nX4_94 ?_
        refine j_lcmp_lt hC 91 dX4_layBest_83 dX4_layBest_84 (by decide) (fun c_83 => ?_) (fun c_83 => ?_)
        · refine j_aload_n hC dX4_layBest_91 rfl ?_
          have hlt : allV S co di < NEV := by rw [hal2, ← NEV_i]; exact Int64.lt_iff_toInt_lt.mp c_83
          refine j_callv (kc' := 0) (ks' := 0) (r := (RX4, TX4, 10)) hC (c_followBest K hS.1 (hL.same (same55 S 0)) (hnp.u55 0) hco hdi hD (by rw [c44]; exact hN) (by rw [← hal, ← hal2]; exact hlt)) dX4_layBest_92 wX4_followBest lX4_96 i_yX4_followBest s_yX4_followBest hS.1.line rfl rfl rfl (nle rfl) rfl (by decide) (by decide) (by decide) (kV fun w' hp => ?_)
          have hS := hS.tr hp
          refine j_aload_n hC dX4_layBest_95 rfl ?_
          refine j_iconst hC (1) dX4_layBest_96 (by decide) ?_
          refine j_put (fs' := [_, _, _, _, _, _, _, _, _, _]) hC cfX4 dX4_layBest_97 fX4_46 rfl (by decide) hS.1.line rfl rfl (nlt rfl) rfl ?_
          refine J.gen (P := fun w3 => SB K.2.1 w w3 O ad (co, di, ce, le) np (uI (TL (uI S 55 0 0) (uI S 55 0 0) co.toInt di.toInt (cn (uI S 55 0 0) 50) (cn (uI S 55 0 0) 44) (cn (uI S 55 0 0) 50)) 55 0 1)) (hS.putLine _ co di (fun k hk => uI_1n (fun q => hk (by rw [q]; decide))) rfl ?_) (fun w3 hS3 => ?_)
          · simp [uI_at, uI_1n]
          refine j_lload_n hC dX4_layBest_100 rfl ?_
          have hT : uI (TL (uI S 55 0 0) (uI S 55 0 0) co.toInt di.toInt (cn (uI S 55 0 0) 50) (cn (uI S 55 0 0) 44) (cn (uI S 55 0 0) 50)) 55 0 1 = TL (uI S 55 0 1) S co.toInt di.toInt (cn S 50) (cn S 44) (cn S 50) := by rw [c50, c44, TL_same2 (same55 S 0), TL_55c, uI_uI]
          exact j_lret hC hR dX4_layBest_101 rfl ⟨_, rfl, by unfold rL2; rw [if_neg c_4, if_pos hlt]; exact hal2.symm, by unfold sL2; rw [if_neg c_4, if_pos hlt, ← hT]; exact ⟨_, _, _, _, hS3.1, hS3.2, rfl, by rw [hT]; exact (hnp.u55 1).TL _ _ _ _ (by have := hnp.1; omega)⟩⟩
        · refine j_ldc2 hC dX4_layBest_87 nX4_86 ?_
          have hge : ¬ allV S co di < NEV := by rw [hal2, ← NEV_i]; exact fun q => c_83 (Int64.lt_iff_toInt_lt.mpr q)
          exact j_lret hC hR dX4_layBest_90 rfl ⟨_, rfl, by unfold rL2; rw [if_neg c_4, if_neg hge]; exact l_m2, by unfold sL2; rw [if_neg c_4, if_neg hge]; exact ⟨_, _, _, _, hS.1, hS.2, rfl, hnp.u55 0⟩⟩
      · exact absurd (show nI 0 - 1 < 0 by decide) c_48
    | succ n ih =>
      intro w1 ce le hn hS hD
      rw [nI_pred n]
      refine j_iload_n hC dX4_layBest_47 rfl ?_
      refine j_if_lt hC 62 dX4_layBest_48 (by decide) (fun c_48 => ?_) (fun c_48 => ?_)
      · exact absurd c_48 (nI_pos (by have := hL.1.2; omega))
      · refine j_aload_n hC dX4_layBest_51 rfl ?_
        refine j_iload_n hC dX4_layBest_52 rfl ?_
        refine j_callv (kc' := 0) (ks' := 0) (r := (RX4, TX4, 10)) hC (c_weighPiece K n hS.1 (hL.same (same55 S 0)) (hnp.u55 0) (by rw [c50]; omega) hco hdi hD) dX4_layBest_53 wX4_weighPiece lX4_88 i_yX4_weighPiece s_yX4_weighPiece hS.1.line rfl rfl rfl (nle rfl) rfl (by decide) (by decide) (by decide) (kV fun w' hp => ?_)
        obtain ⟨ce2, le2, hS2, hD2⟩ := hp
        have hS := hS.tr hS2
        refine j_iinc (v := nI n - 1) (lv' := [some _, some _, some _, some _, none]) hC dX4_layBest_56 rfl (by rw [Int32.sub_eq_add_neg]; rfl) (nlt rfl) rfl ?_
        refine j_goto hC 47 dX4_layBest_59 (by decide) ?_
        exact ih _ _ _ (by omega) hS hD2
  refine j_aload_n hC dX4_layBest_0 rfl ?_
  refine j_get hC cfX4 dX4_layBest_1 fX4_56 (by decide) hS.1.line rfl ?_
  refine j_if_ne hC 11 dX4_layBest_4 (by decide) (fun c_4 => ?_) (fun c_4 => ?_)
  · refine j_aload_n hC dX4_layBest_11 rfl ?_
    refine j_iload_n hC dX4_layBest_12 rfl ?_
    refine j_put (fs' := [_, _, _, _, _, _, _, _, _, _]) hC cfX4 dX4_layBest_13 fX4_76 rfl (by decide) hS.1.line rfl rfl (nlt rfl) rfl ?_
    refine j_aload_n hC dX4_layBest_16 rfl ?_
    refine j_iload_n hC dX4_layBest_17 rfl ?_
    refine j_put (fs' := [_, _, _, _, _, _, _, _, _, _]) hC cfX4 dX4_layBest_18 fX4_79 rfl (by decide) (wst_s _ _ _) rfl rfl (nlt rfl) rfl ?_
    refine j_aload_n hC dX4_layBest_21 rfl ?_
    refine j_iconst hC (0) dX4_layBest_22 (by decide) ?_
    refine j_put (fs' := [_, _, _, _, _, _, _, _, _, _]) hC cfX4 dX4_layBest_23 fX4_46 rfl (by decide) (wst_s _ _ _) rfl rfl (nlt rfl) rfl ?_
    rw [wst_wst, wst_wst]
    refine J.gen (P := fun w3 => SB K.2.1 w w3 O ad (co, di, z.2.2) np (uI S 55 0 0)) (hS.putLine _ co di (fun k hk => uI_1n (fun q => hk (by rw [q]; decide))) rfl ?_) (fun w3 hS => ?_)
    · simp [uI_at, uI_1n]
    refine j_aload_n hC dX4_layBest_26 rfl ?_
    refine j_get hC cfX4 dX4_layBest_27 fX4_12 (by decide) hS.1.line rfl ?_
    obtain ⟨mc1, hl1⟩ := (hS.1.lst (j := 10) (by decide)).sz
    refine j_callv (kc' := 0) (ks' := 0) (r := (RJx4a65c, TJx4a65c, 3)) hC (c_isEmpty K hl1) dX4_layBest_30 wJx4a65c_isEmpty_aae02 lX4_82 i_yJx4a65c_isEmpty_aae02 s_yJx4a65c_isEmpty_aae02 hl1 rfl rfl rfl (nle rfl) rfl (by decide) (by decide) (by decide) (kI fun r w' hp => ?_)
    obtain ⟨hr, hw⟩ := hp
    rw [hw]
    clear hw w'
    rw [vN_e10, c44] at hr
    refine j_if_eq hC 40 dX4_layBest_33 (by decide) (fun c_33 => ?_) (fun c_33 => ?_)
    · refine j_aload_n hC dX4_layBest_40 rfl ?_
      refine j_get hC cfX4 dX4_layBest_41 fX4_56 (by decide) hS.1.line rfl ?_
      refine J.toI (y := nI (cn S 50)) ((congrFun (same55 S 0 50 (by decide)) 0).trans hL.1.1) ?_
      refine j_iconst hC (1) dX4_layBest_44 (by decide) ?_
      refine j_isub hC dX4_layBest_45 ?_
      refine j_istore_n (lv' := [some _, some _, some _, some _, none]) hC dX4_layBest_46 (nlt rfl) rfl ?_
      have hN : 0 < cn S 44 := Nat.pos_of_ne_zero (fun q => by rw [hr, if_pos (by rw [q]; exact nI_0)] at c_33; exact absurd c_33 (by decide))
      have hP : 0 < cn S 50 := Nat.pos_of_ne_zero (fun q => c_4 (by rw [hL.1.1, q]; exact nI_0))
      exact loop c_4 hP hN (cn S 50) _ z.2.2.1 z.2.2.2 (Nat.le_refl _) hS (fun k q1 q2 => by rw [c50] at q2; omega)
    · refine j_ldc2 hC dX4_layBest_36 nX4_86 ?_
      have hN0 : cn S 44 = 0 := by
        by_cases q : nI (cn S 44) = 0
        · exact (nI_eq (by have := hL.2.1.2; omega) (by omega)).mp (q.trans nI_0.symm)
        · exact absurd (hr.trans (if_neg q)) c_33
      have hge : ¬ allV S co di < NEV := by unfold allV; rw [if_pos hN0]; omega
      exact j_lret hC hR dX4_layBest_39 rfl ⟨_, rfl, by unfold rL2; rw [if_neg c_4, if_neg hge]; exact l_m2, by unfold sL2; rw [if_neg c_4, if_neg hge]; exact ⟨_, _, _, _, hS.1, hS.2, rfl, hnp.u55 0⟩⟩
  · refine j_ldc2 hC dX4_layBest_7 nX4_74 ?_
    exact j_lret hC hR dX4_layBest_10 rfl ⟨_, rfl, by unfold rL2; rw [if_pos c_4]; exact l_m1, by unfold sL2; rw [if_pos c_4]; exact ⟨_, _, _, _, hS.1, hS.2, rfl, hnp⟩⟩

set_option maxRecDepth 100000 in
set_option maxHeartbeats 4000000 in
theorem c_lay (K : Kx) {w : Wd} {O : Nat → Prop} {ad : Nat → Nat → Nat} {z : Zx} {np : Nat} {S : Ast} (co di : Int32) (hA : SA K.2.1 w O ad z np S) (hL : LSt S) (hnp : NP S np) : MT K mX9_lay 8 0 0 [.ref (ad 0 0), .int co, .int di] w (PL fun r w' => r.toInt = rLay S co di ∧ CQ K.2.1 w O (ad 0 0) w' (sLay S co di)) := by
  refine MT.of [some (.ref (ad 0 0)), some (.int co), some (.int di)] (by decide) rfl (nle rfl) rfl ?_
  intro E hC hR
  have hS := SB.rf hA
  refine j_iload_n hC dX9_lay_0 rfl ?_
  refine j_iconst hC (0) dX9_lay_1 (by decide) ?_
  refine j_sipush hC (10000) dX9_lay_2 (by decide) ?_
  refine j_calls (kc' := 0) (ks' := 0) hC (c_isWithin K co 0 10000) dX9_lay_5 wX9_isWithin lX9_68 t_yX9_isWithin rfl rfl (nle rfl) rfl (by decide) (by decide) (by decide) (kI fun r w' hp => ?_)
  obtain ⟨rfl, hw⟩ := hp
  rw [hw]
  clear hw w'
  refine j_if_eq hC 22 dX9_lay_8 (by decide) (fun c_8 => ?_) (fun c_8 => ?_)
  · refine j_ldc2 hC dX9_lay_22 nX9_157 ?_
    have hb := rL2_n (S := S) (co := co) (di := di) (Or.inl c_8)
    exact j_lret hC hR dX9_lay_25 rfl ⟨_, rfl, by rw [hb.1]; exact l_m1, by rw [hb.2]; exact ⟨_, _, _, _, hS.1, hS.2, rfl, hnp⟩⟩
  · refine j_iload_n hC dX9_lay_11 rfl ?_
    refine j_iconst hC (0) dX9_lay_12 (by decide) ?_
    refine j_sipush hC (1000) dX9_lay_13 (by decide) ?_
    refine j_calls (kc' := 0) (ks' := 0) hC (c_isWithin K di 0 1000) dX9_lay_16 wX9_isWithin lX9_68 t_yX9_isWithin rfl rfl (nle rfl) rfl (by decide) (by decide) (by decide) (kI fun r w' hp => ?_)
    obtain ⟨rfl, hw⟩ := hp
    rw [hw]
    clear hw w'
    refine j_if_ne hC 26 dX9_lay_19 (by decide) (fun c_19 => ?_) (fun c_19 => ?_)
    · refine j_aload_n hC dX9_lay_26 rfl ?_
      refine j_get hC cfX9 dX9_lay_27 fX9_42 (by decide) hS.1.x rfl ?_
      refine j_iload_n hC dX9_lay_30 rfl ?_
      refine j_iload_n hC dX9_lay_31 rfl ?_
      refine j_callv (kc' := 0) (ks' := 0) (r := (RX4, TX4, 10)) hC (c_layBest K co di hS.1 hL hnp (wI_rg c_8 (by decide) (by decide)) (wI_rg c_19 (by decide) (by decide))) dX9_lay_32 wX4_layBest lX9_189 i_yX4_layBest s_yX4_layBest hS.1.line rfl rfl rfl (nle rfl) rfl (by decide) (by decide) (by decide) (kL fun r w' hp => ?_)
      obtain ⟨hr, hq⟩ := hp
      have hb := rL2_y (S := S) c_8 c_19
      exact j_lret hC hR dX9_lay_35 rfl ⟨_, rfl, by rw [hb.1]; exact hr, by rw [hb.2]; exact hq⟩
    · refine j_ldc2 hC dX9_lay_22 nX9_157 ?_
      have hb := rL2_n (S := S) (co := co) (di := di) (Or.inr c_19)
      exact j_lret hC hR dX9_lay_25 rfl ⟨_, rfl, by rw [hb.1]; exact l_m1, by rw [hb.2]; exact ⟨_, _, _, _, hS.1, hS.2, rfl, hnp⟩⟩

