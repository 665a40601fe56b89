theorem itn_0 {α : Type} (f : Nat → α → α) (s : α) : itn f 0 s = s := rfl
set_option maxRecDepth 100000 in
set_option maxHeartbeats 4000000 in
theorem c_pass (K : Kx) {w : Wd} {O : Nat → Prop} {ad : Nat → Nat → Nat} {z : Zx} {np : Nat} {S : Ast} (hA : SA K.2.1 w O ad z np S) (hW : WSt S) (hj : ix (S.1 40 0 / 60) 1440 (mn S)) : MT K mX9_passSecond 4 0 0 [.ref (ad 0 0)] w (PV fun w' => SB K.2.1 w w' O ad z np (fSec S)) := by
  refine MT.of [some (.ref (ad 0 0)), none] (by decide) rfl (nle rfl) rfl ?_
  intro E hC hR
  have hS := SB.rf hA
  have h1W : WSt (q1 S) := hW.cong (fun k _ _ => by rw [q1_1])
  have h3W : WSt (q3 S) := hW.cong (fun k _ _ => by rw [q3_1])
  have h4W : WSt (q4 S) := hW.cong (fun k a _ => q4_1 S a)
  have h5W : WSt (q5 S) := hW.cong (fun k a _ => q5_1 S a)
  have h6W : WSt (q6 S) := hW.cong (fun k a _ => q6_1 S a)
  have h3e : itn (fun k T => fFlow T k) (cn (q1 S) 10) (itn (fun k T => fLev T k) (cn (q1 S) 1) (q1 S)) = q3 S := by
    unfold q3 q2
    rw [show cn (q1 S) 10 = cn S 10 by unfold cn; rw [q1_1], show cn (q1 S) 1 = cn S 1 by unfold cn; rw [q1_1]]
  have h4e : itn (fun k T => fPump T k) (cn (q3 S) 24) (q3 S) = q4 S := by
    unfold q4
    rw [show cn (q3 S) 24 = cn S 24 by unfold cn; rw [q3_1]]
  have h5e : itn (fun k T => fGate T k) (cn (q4 S) 31) (q4 S) = q5 S := by
    unfold q5
    rw [show cn (q4 S) 31 = cn S 31 by unfold cn; rw [q4_1 S (by decide)]]
  have h6e : itn (fun k T => fGully T k) (cn (q5 S) 35) (q5 S) = q6 S := by
    unfold q6
    rw [show cn (q5 S) 35 = cn S 35 by unfold cn; rw [q5_1 S (by decide)]]
  have h7e : itn (fun k T => fNode T k) (cn (q6 S) 1) (q6 S) = q7 S := by
    unfold q7
    rw [show cn (q6 S) 1 = cn S 1 by unfold cn; rw [q6_1 S (by decide)]]
  have loop43 : ∀ (n i : Nat) (w1 : Wd), i + n = cn (q4 S) 31 → SB K.2.1 w w1 O ad z np (itn (fun k T => fGate T k) i (q4 S)) → J K cX9_passSecond E 0 0 w1 43 [some (.ref (ad 0 0)), some (.int (nI i))] [] := by
    intro n
    induction n with
    | zero =>
      intro i w1 hi hS
      have hi2 : i = cn (q4 S) 31 := by omega
      subst hi2
      obtain ⟨T, hT⟩ : ∃ T : Ast, T = itn (fun k T => fGate T k) (cn (q4 S) 31) (q4 S) := ⟨_, rfl⟩
      rw [← hT] at hS
      have e1 : T.1 = (q4 S).1 := by rw [hT]; exact itn_1 (f := fun k T => fGate T k) (fun _ _ => rfl) (cn (q4 S) 31) (q4 S)
      have hcn : cn T 31 = cn (q4 S) 31 := by unfold cn; rw [e1]
      refine j_iload_n hC dX9_passSecond_43 rfl ?_
      refine j_aload_n hC dX9_passSecond_44 rfl ?_
      refine j_get hC cfX9 dX9_passSecond_45 fX9_25 (by decide) hS.1.x rfl ?_
      obtain ⟨mc1, hl1⟩ := (hS.1.lst (j := 5) (by decide)).sz
      refine j_callv (kc' := 0) (ks' := 0) (r := (RJx4a65c, TJx4a65c, 3)) hC (c_lsize K (hS.1.lst (j := 5) (by decide))) dX9_passSecond_48 wJx4a65c_size_8abf5 lX9_59 i_yJx4a65c_size_8abf5 s_yJx4a65c_size_8abf5 hl1 rfl rfl rfl (nle rfl) rfl (by decide) (by decide) (by decide) (kI fun r w' hp => ?_)
      obtain ⟨rfl, hw⟩ := hp
      rw [hw]
      clear hw w'
      refine J.toI (y := nI (cn (q4 S) 31)) (congrArg nI ((vN_e5 _ np).trans hcn)) ?_
      refine j_icmp_ge hC 83 dX9_passSecond_51 (by decide) (fun c_51 => ?_) (fun c_51 => ?_)
      · rw [hT] at hS
        have hS := hS.cast h5e
        refine j_aload_n hC dX9_passSecond_83 rfl ?_
        refine j_callv (kc' := 0) (ks' := 0) (r := (RX9, TX9, 14)) hC (c_drainC K hS.1 h5W) dX9_passSecond_84 wX9_drainCells lX9_215 i_yX9_drainCells s_yX9_drainCells hS.1.x rfl rfl rfl (nle rfl) rfl (by decide) (by decide) (by decide) (kV fun w' hp => ?_)
        have hS := (hS.tr hp).cast h6e
        clear hp
        refine j_aload_n hC dX9_passSecond_87 rfl ?_
        refine j_callv (kc' := 0) (ks' := 0) (r := (RX9, TX9, 14)) hC (c_spillN K hS.1 h6W) dX9_passSecond_88 wX9_spillNodes lX9_218 i_yX9_spillNodes s_yX9_spillNodes hS.1.x rfl rfl rfl (nle rfl) rfl (by decide) (by decide) (by decide) (kV fun w' hp => ?_)
        have hS := (hS.tr hp).cast h7e
        clear hp
        refine j_aload_n hC dX9_passSecond_91 rfl ?_
        refine j_dup hC dX9_passSecond_92 rfl ?_
        refine j_get hC cfX9 dX9_passSecond_93 fX9_123 (by decide) hS.1.x rfl ?_
        refine j_iconst hC (1) dX9_passSecond_96 (by decide) ?_
        refine j_iadd hC dX9_passSecond_97 ?_
        refine J.toI (y := S.1 40 0 + 1) (by rw [show (q7 S).1 40 = S.1 40 from q7_1 S (by decide)]) ?_
        refine j_put (fs' := [_, _, _, _, _, _, _, _, _, _, _, _, _, _]) hC cfX9 dX9_passSecond_98 fX9_123 rfl (by decide) hS.1.x rfl rfl (nlt rfl) rfl ?_
        refine J.gen (P := fun w' => SB K.2.1 w w' O ad z np (fSec S)) (hS.putX (fSec S) (fun k h => uI_1n h) (fun _ _ _ _ => rfl) (by rw [cel_e0]; unfold fSec; rw [uI_at, uI_1n (by decide), uI_2])) (fun w2 hS => ?_)
        exact j_vret hC hR dX9_passSecond_101 rfl ⟨rfl, hS⟩
      · exact absurd (nI_le (Nat.le_refl _) (by have := h4W.1.2.2.2.2.1.2; omega)) c_51
    | succ n ih =>
      intro i w1 hi hS
      obtain ⟨T, hT⟩ : ∃ T : Ast, T = itn (fun k T => fGate T k) i (q4 S) := ⟨_, rfl⟩
      rw [← hT] at hS
      have e1 : T.1 = (q4 S).1 := by rw [hT]; exact itn_1 (f := fun k T => fGate T k) (fun _ _ => rfl) i (q4 S)
      have hcn : cn T 31 = cn (q4 S) 31 := by unfold cn; rw [e1]
      have hil : i < cn (q4 S) 31 := by omega
      have hi3 : i < cn T 31 := by rw [hcn]; exact hil
      have hn3 : (T.1 32 i).toNatClampNeg < cn T 1 := by unfold cn; rw [e1]; exact (h4W.2.2.2.2.2.1 i hil).1.2
      refine j_iload_n hC dX9_passSecond_43 rfl ?_
      refine j_aload_n hC dX9_passSecond_44 rfl ?_
      refine j_get hC cfX9 dX9_passSecond_45 fX9_25 (by decide) hS.1.x rfl ?_
      obtain ⟨mc1, hl1⟩ := (hS.1.lst (j := 5) (by decide)).sz
      refine j_callv (kc' := 0) (ks' := 0) (r := (RJx4a65c, TJx4a65c, 3)) hC (c_lsize K (hS.1.lst (j := 5) (by decide))) dX9_passSecond_48 wJx4a65c_size_8abf5 lX9_59 i_yJx4a65c_size_8abf5 s_yJx4a65c_size_8abf5 hl1 rfl rfl rfl (nle rfl) rfl (by decide) (by decide) (by decide) (kI fun r w' hp => ?_)
      obtain ⟨rfl, hw⟩ := hp
      rw [hw]
      clear hw w'
      refine J.toI (y := nI (cn (q4 S) 31)) (congrArg nI ((vN_e5 _ np).trans hcn)) ?_
      refine j_icmp_ge hC 83 dX9_passSecond_51 (by decide) (fun c_51 => ?_) (fun c_51 => ?_)
      · exact absurd ((nI_leI (by have := h4W.1.2.2.2.2.1.2; omega) (by have := h4W.1.2.2.2.2.1.2; omega)).mp c_51) (by omega)
      · refine j_aload_n hC dX9_passSecond_54 rfl ?_
        refine j_dup hC dX9_passSecond_55 rfl ?_
        refine j_get hC cfX9 dX9_passSecond_56 fX9_172 (by decide) hS.1.x rfl ?_
        refine j_aload_n hC dX9_passSecond_59 rfl ?_
        refine j_get hC cfX9 dX9_passSecond_60 fX9_25 (by decide) hS.1.x rfl ?_
        refine j_iload_n hC dX9_passSecond_63 rfl ?_
        obtain ⟨mc2, hl2⟩ := (hS.1.lst (j := 5) (by decide)).sz
        refine j_callv (kc' := 0) (ks' := 0) (r := (RJx4a65c, TJx4a65c, 3)) hC (c_get K (hS.1.lst (j := 5) (by decide)) (by rw [vN_e5, hcn]; exact hil)) dX9_passSecond_64 wJx4a65c_get_915e3 lX9_87 i_yJx4a65c_get_915e3 s_yJx4a65c_get_915e3 hl2 rfl rfl rfl (nle rfl) rfl (by decide) (by decide) (by decide) (kA fun r w' hp => ?_)
        obtain ⟨rfl, hw⟩ := hp
        rw [hw]
        clear hw w'
        refine j_cast (r := (RX2, TX2, 3)) hC dX9_passSecond_67 kX9_109 (hS.1.gate hi3) rfl ?_
        refine j_callv (kc' := 0) (ks' := 0) (r := (RX2, TX2, 3)) hC (c_letOut K (hS.1.gate hi3) (hS.1.node hn3)) dX9_passSecond_70 wX2_letOut lX9_212 i_yX2_letOut s_yX2_letOut (hS.1.gate hi3) rfl rfl rfl (nle rfl) rfl (by decide) (by decide) (by decide) (kL fun r w' hp => ?_)
        obtain ⟨rfl, rfl⟩ := hp
        refine j_ladd hC dX9_passSecond_73 ?_
        refine j_put (fs' := [_, _, _, _, _, _, _, _, _, _, _, _, _, _]) hC cfX9 dX9_passSecond_74 fX9_172 rfl (by decide) ((wst_n (hS.1.ne (k := 0) (i := 0) (k' := 1) (i' := _) Nat.one_pos hn3 (by simp))).trans hS.1.x) rfl rfl (nlt rfl) rfl ?_
        refine J.gen (P := fun w' => SB K.2.1 w w' O ad z np (fGate T i)) (hS.gateS hn3) (fun w2 hS => ?_)
        refine j_iinc (v := nI (i + 1)) (lv' := [some _, some _]) hC dX9_passSecond_77 rfl (nI_i1 i) (nlt rfl) rfl ?_
        refine j_goto hC 43 dX9_passSecond_80 (by decide) ?_
        refine J.weak (l' := [some (.ref (ad 0 0)), some (.int (nI (i + 1)))]) (⟨rfl, rfl, trivial⟩) ?_
        exact ih (i + 1) _ (by omega) (hS.cast (show _ = itn (fun k T => fGate T k) (i + 1) (q4 S) by rw [hT]; rfl))
  have loop10 : ∀ (n i : Nat) (w1 : Wd), i + n = cn (q3 S) 24 → SB K.2.1 w w1 O ad z np (itn (fun k T => fPump T k) i (q3 S)) → J K cX9_passSecond E 0 0 w1 10 [some (.ref (ad 0 0)), some (.int (nI i))] [] := by
    intro n
    induction n with
    | zero =>
      intro i w1 hi hS
      have hi2 : i = cn (q3 S) 24 := by omega
      subst hi2
      obtain ⟨T, hT⟩ : ∃ T : Ast, T = itn (fun k T => fPump T k) (cn (q3 S) 24) (q3 S) := ⟨_, rfl⟩
      rw [← hT] at hS
      have e1 : ∀ j, j ≠ 30 → T.1 j = (q3 S).1 j := fun j hj => by rw [hT]; exact itP_1 (cn (q3 S) 24) (q3 S) hj
      have hcn : cn T 24 = cn (q3 S) 24 := by unfold cn; rw [e1 24 (by decide)]
      refine j_iload_n hC dX9_passSecond_10 rfl ?_
      refine j_aload_n hC dX9_passSecond_11 rfl ?_
      refine j_get hC cfX9 dX9_passSecond_12 fX9_22 (by decide) hS.1.x rfl ?_
      obtain ⟨mc1, hl1⟩ := (hS.1.lst (j := 4) (by decide)).sz
      refine j_callv (kc' := 0) (ks' := 0) (r := (RJx4a65c, TJx4a65c, 3)) hC (c_lsize K (hS.1.lst (j := 4) (by decide))) dX9_passSecond_15 wJx4a65c_size_8abf5 lX9_59 i_yJx4a65c_size_8abf5 s_yJx4a65c_size_8abf5 hl1 rfl rfl rfl (nle rfl) rfl (by decide) (by decide) (by decide) (kI fun r w' hp => ?_)
      obtain ⟨rfl, hw⟩ := hp
      rw [hw]
      clear hw w'
      refine J.toI (y := nI (cn (q3 S) 24)) (congrArg nI ((vN_e4 _ np).trans hcn)) ?_
      refine j_icmp_ge hC 41 dX9_passSecond_18 (by decide) (fun c_18 => ?_) (fun c_18 => ?_)
      · rw [hT] at hS
        refine j_iconst hC (0) dX9_passSecond_41 (by decide) ?_
        refine j_istore_n (lv' := [some _, some _]) hC dX9_passSecond_42 (nlt rfl) rfl ?_
        exact loop43 (cn (q4 S) 31) 0 _ (by omega) ((hS.cast h4e).cast (itn_0 (fun k T => fGate T k) (q4 S)).symm)
      · exact absurd (nI_le (Nat.le_refl _) (by have := h3W.1.2.2.2.1.2; omega)) c_18
    | succ n ih =>
      intro i w1 hi hS
      obtain ⟨T, hT⟩ : ∃ T : Ast, T = itn (fun k T => fPump T k) i (q3 S) := ⟨_, rfl⟩
      rw [← hT] at hS
      have e1 : ∀ j, j ≠ 30 → T.1 j = (q3 S).1 j := fun j hj => by rw [hT]; exact itP_1 i (q3 S) hj
      have hcn : cn T 24 = cn (q3 S) 24 := by unfold cn; rw [e1 24 (by decide)]
      have hil : i < cn (q3 S) 24 := by omega
      have hi3 : i < cn T 24 := by rw [hcn]; exact hil
      have hp3 := h3W.2.2.2.2.1 i hil
      have hn3 : (T.1 25 i).toNatClampNeg < cn T 1 := by unfold cn; rw [e1 25 (by decide), e1 1 (by decide)]; exact hp3.1.2
      have ht3 : (T.1 26 i).toNatClampNeg < cn T 1 := by unfold cn; rw [e1 26 (by decide), e1 1 (by decide)]; exact hp3.2.1.2
      have hnt : (T.1 26 i).toNatClampNeg ≠ (T.1 25 i).toNatClampNeg := by rw [e1 26 (by decide), e1 25 (by decide)]; exact hp3.2.2.1
      have hro : ¬ (T.1 4 (T.1 25 i).toNatClampNeg).toInt64 = 0 := by rw [e1 25 (by decide), e1 4 (by decide)]; exact h3W.ro hp3.1.2
      refine j_iload_n hC dX9_passSecond_10 rfl ?_
      refine j_aload_n hC dX9_passSecond_11 rfl ?_
      refine j_get hC cfX9 dX9_passSecond_12 fX9_22 (by decide) hS.1.x rfl ?_
      obtain ⟨mc1, hl1⟩ := (hS.1.lst (j := 4) (by decide)).sz
      refine j_callv (kc' := 0) (ks' := 0) (r := (RJx4a65c, TJx4a65c, 3)) hC (c_lsize K (hS.1.lst (j := 4) (by decide))) dX9_passSecond_15 wJx4a65c_size_8abf5 lX9_59 i_yJx4a65c_size_8abf5 s_yJx4a65c_size_8abf5 hl1 rfl rfl rfl (nle rfl) rfl (by decide) (by decide) (by decide) (kI fun r w' hp => ?_)
      obtain ⟨rfl, hw⟩ := hp
      rw [hw]
      clear hw w'
      refine J.toI (y := nI (cn (q3 S) 24)) (congrArg nI ((vN_e4 _ np).trans hcn)) ?_
      refine j_icmp_ge hC 41 dX9_passSecond_18 (by decide) (fun c_18 => ?_) (fun c_18 => ?_)
      · exact absurd ((nI_leI (by have := h3W.1.2.2.2.1.2; omega) (by have := h3W.1.2.2.2.1.2; omega)).mp c_18) (by omega)
      · refine j_aload_n hC dX9_passSecond_21 rfl ?_
        refine j_get hC cfX9 dX9_passSecond_22 fX9_22 (by decide) hS.1.x rfl ?_
        refine j_iload_n hC dX9_passSecond_25 rfl ?_
        obtain ⟨mc2, hl2⟩ := (hS.1.lst (j := 4) (by decide)).sz
        refine j_callv (kc' := 0) (ks' := 0) (r := (RJx4a65c, TJx4a65c, 3)) hC (c_get K (hS.1.lst (j := 4) (by decide)) (by rw [vN_e4, hcn]; exact hil)) dX9_passSecond_26 wJx4a65c_get_915e3 lX9_87 i_yJx4a65c_get_915e3 s_yJx4a65c_get_915e3 hl2 rfl rfl rfl (nle rfl) rfl (by decide) (by decide) (by decide) (kA fun r w' hp => ?_)
        obtain ⟨rfl, hw⟩ := hp
        rw [hw]
        clear hw w'
        refine j_cast (r := (RX8, TX8, 6)) hC dX9_passSecond_29 kX9_103 (hS.1.pump hi3) rfl ?_
        refine j_callv (kc' := 0) (ks' := 0) (r := (RX8, TX8, 6)) hC (c_lift K (hS.1.pump hi3) (hS.1.node hn3) (hS.1.node ht3) (hS.1.ne (k := 1) (k' := 1) hn3 ht3 (fun q => hnt q.2.symm)) hro) dX9_passSecond_32 wX8_lift lX9_209 i_yX8_lift s_yX8_lift (hS.1.pump hi3) rfl rfl rfl (nle rfl) rfl (by decide) (by decide) (by decide) (kV fun w' hp => ?_)
        subst hp
        refine J.gen (P := fun w' => SB K.2.1 w w' O ad z np (fPump T i)) (hS.pumpS hi3 hn3 ht3) (fun w2 hS => ?_)
        refine j_iinc (v := nI (i + 1)) (lv' := [some _, some _]) hC dX9_passSecond_35 rfl (nI_i1 i) (nlt rfl) rfl ?_
        refine j_goto hC 10 dX9_passSecond_38 (by decide) ?_
        refine J.weak (l' := [some (.ref (ad 0 0)), some (.int (nI (i + 1)))]) (⟨rfl, rfl, trivial⟩) ?_
        exact ih (i + 1) _ (by omega) (hS.cast (show _ = itn (fun k T => fPump T k) (i + 1) (q3 S) by rw [hT]; rfl))
  refine j_aload_n hC dX9_passSecond_0 rfl ?_
  refine j_callv (kc' := 0) (ks' := 0) (r := (RX9, TX9, 14)) hC (c_rainOn K hS.1 hW hj) dX9_passSecond_1 wX9_rainOnAreas lX9_203 i_yX9_rainOnAreas s_yX9_rainOnAreas hS.1.x rfl rfl rfl (nle rfl) rfl (by decide) (by decide) (by decide) (kV fun w' hp => ?_)
  have hS := hS.tr hp
  clear hp
  refine j_aload_n hC dX9_passSecond_4 rfl ?_
  refine j_callv (kc' := 0) (ks' := 0) (r := (RX9, TX9, 14)) hC (c_carryBy K hS.1 h1W) dX9_passSecond_5 wX9_carryByPipes lX9_206 i_yX9_carryByPipes s_yX9_carryByPipes hS.1.x rfl rfl rfl (nle rfl) rfl (by decide) (by decide) (by decide) (kV fun w' hp => ?_)
  have hS := (hS.tr hp).cast h3e
  clear hp
  refine j_iconst hC (0) dX9_passSecond_8 (by decide) ?_
  refine j_istore_n (lv' := [some _, some _]) hC dX9_passSecond_9 (nlt rfl) rfl ?_
  exact loop10 (cn (q3 S) 24) 0 _ (by omega) (hS.cast (itn_0 (fun k T => fPump T k) (q3 S)).symm)

set_option maxRecDepth 100000 in
set_option maxHeartbeats 4000000 in
theorem c_run (K : Kx) {w : Wd} {O : Nat → Prop} {ad : Nat → Nat → Nat} {z : Zx} {np : Nat} {S : Ast} {s : Nat} (n : Int32) (hA : SA K.2.1 w O ad z np S) (hW : WSt S) (h40 : S.1 40 0 = nI s) (hs : s ≤ 86400) : MT K mX9_run 5 0 0 [.ref (ad 0 0), .int n] w (PI fun r w' => r = (if okRun S n then (fRun S n.toNatClampNeg).1 40 0 else (-1)) ∧ SB K.2.1 w w' O ad z np (if okRun S n then fRun S n.toNatClampNeg else S)) := by
  refine MT.of [some (.ref (ad 0 0)), some (.int n), none] (by decide) rfl (nle rfl) rfl ?_
  intro E hC hR
  have hS := SB.rf hA
  refine j_iload_n hC dX9_run_0 rfl ?_
  refine j_iconst hC (1) dX9_run_1 (by decide) ?_
  refine j_sipush hC (600) dX9_run_2 (by decide) ?_
  refine j_calls (kc' := 0) (ks' := 0) hC (c_isWithin K n 1 600) dX9_run_5 wX9_isWithin lX9_68 t_yX9_isWithin rfl rfl (nle rfl) rfl (by decide) (by decide) (by decide) (kI fun r w' hp => ?_)
  obtain ⟨rfl, hw⟩ := hp
  rw [hw]
  clear hw w'
  refine j_if_eq hC 22 dX9_run_8 (by decide) (fun c_8 => ?_) (fun c_8 => ?_)
  · refine j_iconst hC (-1) dX9_run_22 (by decide) ?_
    have hok : ¬ okRun S n := by simp [okRun, c_8, Int32.not_le, Int32.not_lt]
    exact j_iret hC hR dX9_run_23 rfl ⟨_, rfl, by rw [if_neg hok], by rw [if_neg hok]; exact hS⟩
  · refine j_aload_n hC dX9_run_11 rfl ?_
    refine j_get hC cfX9 dX9_run_12 fX9_123 (by decide) hS.1.x rfl ?_
    refine j_iload_n hC dX9_run_15 rfl ?_
    refine j_iadd hC dX9_run_16 ?_
    refine j_ldc hC dX9_run_17 nX9_126 ?_
    refine j_icmp_le hC 24 dX9_run_19 (by decide) (fun c_19 => ?_) (fun c_19 => ?_)
    · have hok : okRun S n := by simp [okRun, c_8, Int32.not_lt]; exact c_19
      obtain ⟨hn, hn1, hn6, hns⟩ := okRun_n h40 hs hok
      generalize n.toNatClampNeg = N at hn hn1 hn6 hns
      subst hn
      refine j_iconst hC (0) dX9_run_24 (by decide) ?_
      refine j_istore_n (lv' := [some _, some _, some _]) hC dX9_run_25 (nlt rfl) rfl ?_
      have loop : ∀ (u t : Nat) (w1 : Wd), t + u = N → SB K.2.1 w w1 O ad z np (fRun S t) → J K cX9_run E 0 0 w1 26 [some (.ref (ad 0 0)), some (.int (nI N)), some (.int (nI t))] [] := by
        intro u
        induction u with
        | zero =>
          intro t w1 ht hS
          have ht2 : t = N := by omega
          subst ht2
          refine j_iload_n hC dX9_run_26 rfl ?_
          refine j_iload_n hC dX9_run_27 rfl ?_
          refine j_icmp_ge hC 41 dX9_run_28 (by decide) (fun c_28 => ?_) (fun c_28 => ?_)
          · refine j_aload_n hC dX9_run_41 rfl ?_
            refine j_get hC cfX9 dX9_run_42 fX9_123 (by decide) hS.1.x rfl ?_
            exact j_iret hC hR dX9_run_45 rfl ⟨_, rfl, by rw [if_pos hok, nI_clamp (by omega)], by rw [if_pos hok, nI_clamp (by omega)]; exact hS⟩
          · exact absurd (nI_le (Nat.le_refl _) (by omega)) c_28
        | succ u ih =>
          intro t w1 ht hS
          refine j_iload_n hC dX9_run_26 rfl ?_
          refine j_iload_n hC dX9_run_27 rfl ?_
          refine j_icmp_ge hC 41 dX9_run_28 (by decide) (fun c_28 => ?_) (fun c_28 => ?_)
          · exact absurd ((nI_leI (by omega) (by omega)).mp c_28) (by omega)
          · refine j_aload_n hC dX9_run_31 rfl ?_
            refine j_callv (kc' := 0) (ks' := 0) (r := (RX9, TX9, 14)) hC (c_pass K hS.1 (hW.run t) (by rw [fRun_40 S h40 t, div60 (by omega)]; exact ⟨vp_in_nI (by omega) (by omega), by unfold mn; rw [fRun_40 S h40 t, div60 (by omega)]⟩)) dX9_run_32 wX9_passSecond lX9_127 i_yX9_passSecond s_yX9_passSecond hS.1.x rfl rfl rfl (nle rfl) rfl (by decide) (by decide) (by decide) (kV fun w' hp => ?_)
            have hS := hS.tr hp
            clear hp
            refine j_iinc (v := nI (t + 1)) (lv' := [some _, some _, some _]) hC dX9_run_35 rfl (nI_i1 t) (nlt rfl) rfl ?_
            refine j_goto hC 26 dX9_run_38 (by decide) ?_
            exact ih (t + 1) _ (by omega) hS
      exact loop N 0 _ (by omega) hS
    · refine j_iconst hC (-1) dX9_run_22 (by decide) ?_
      have hok : ¬ okRun S n := by simp [okRun, c_8, c_19, Int32.not_le, Int32.not_lt]
      exact j_iret hC hR dX9_run_23 rfl ⟨_, rfl, by rw [if_neg hok], by rw [if_neg hok]; exact hS⟩

