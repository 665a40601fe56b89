set_option maxRecDepth 100000 in
set_option maxHeartbeats 4000000 in
theorem c_rainOn (K : Kx) {w : Wd} {O : Nat → Prop} {ad : Nat → Nat → Nat} {z : Zx} {np : Nat} {S : Ast} (hA : SA K.2.1 w O ad z np S) (hW : WSt S) (hj : ix (S.1 40 0 / 60) 1440 (mn S)) : MT K mX9_rainOnAreas 3 0 0 [.ref (ad 0 0)] w (PV fun w' => SB K.2.1 w w' O ad z np (q1 S)) := by
  refine MT.of [some (.ref (ad 0 0)), none, none] (by decide) rfl (nle rfl) rfl ?_
  intro E hC hR
  have hS := SB.rf hA
  have loop15 : ∀ (n i : Nat) (w1 : Wd), i + n = cn S 18 → SB K.2.1 w w1 O ad z np (itn (fun k T => fRain T k (mn S)) i S) → J K cX9_rainOnAreas E 0 0 w1 15 [some (.ref (ad 0 0)), some (.int (S.1 23 (mn S))), some (.int (nI i))] [] := by
    intro n
    induction n with
    | zero =>
      intro i w1 hi hS
      have hi2 : i = cn S 18 := by omega
      subst hi2
      obtain ⟨T, hT⟩ : ∃ T : Ast, T = itn (fun k T => fRain T k (mn S)) (cn S 18) S := ⟨_, rfl⟩
      rw [← hT] at hS
      have e1 : T.1 = S.1 := by rw [hT]; exact itn_1 (f := fun k T => fRain T k (mn S)) (fun _ _ => rfl) (cn S 18) S
      have hcn : cn T 18 = cn S 18 := by unfold cn; rw [e1]
      refine j_iload_n hC dX9_rainOnAreas_15 rfl ?_
      refine j_aload_n hC dX9_rainOnAreas_16 rfl ?_
      refine j_get hC cfX9 dX9_rainOnAreas_17 fX9_19 (by decide) hS.1.x rfl ?_
      obtain ⟨mc1, hl1⟩ := (hS.1.lst (j := 3) (by decide)).sz
      refine j_callv (kc' := 0) (ks' := 0) (r := (RJx4a65c, TJx4a65c, 3)) hC (c_lsize K (hS.1.lst (j := 3) (by decide))) dX9_rainOnAreas_20 wJx4a65c_size_8abf5 lX9_59 i_yJx4a65c_size_8abf5 s_yJx4a65c_size_8abf5 hl1 rfl rfl rfl (nle rfl) rfl (by decide) (by decide) (by decide) (kI fun r w' hp => ?_)
      obtain ⟨rfl, hw⟩ := hp
      rw [hw]
      clear hw w'
      refine J.toI (y := nI (cn S 18)) (congrArg nI ((vN_e3 _ np).trans hcn)) ?_
      refine j_icmp_ge hC 56 dX9_rainOnAreas_23 (by decide) (fun c_23 => ?_) (fun c_23 => ?_)
      · exact j_vret hC hR dX9_rainOnAreas_56 rfl ⟨rfl, by rw [hT] at hS; exact hS⟩
      · exact absurd (nI_le (Nat.le_refl _) (by have := hW.1.2.2.1.2; omega)) c_23
    | succ n ih =>
      intro i w1 hi hS
      obtain ⟨T, hT⟩ : ∃ T : Ast, T = itn (fun k T => fRain T k (mn S)) i S := ⟨_, rfl⟩
      rw [← hT] at hS
      have e1 : T.1 = S.1 := by rw [hT]; exact itn_1 (f := fun k T => fRain T k (mn S)) (fun _ _ => rfl) i S
      have hcn : cn T 18 = cn S 18 := by unfold cn; rw [e1]
      have hil : i < cn S 18 := by omega
      have hi3 : i < cn T 18 := by rw [hcn]; exact hil
      have hn3 : (T.1 19 i).toNatClampNeg < cn T 1 := by unfold cn; rw [e1]; exact (hW.2.2.2.1 i hil).1.2
      refine j_iload_n hC dX9_rainOnAreas_15 rfl ?_
      refine j_aload_n hC dX9_rainOnAreas_16 rfl ?_
      refine j_get hC cfX9 dX9_rainOnAreas_17 fX9_19 (by decide) hS.1.x rfl ?_
      obtain ⟨mc1, hl1⟩ := (hS.1.lst (j := 3) (by decide)).sz
      refine j_callv (kc' := 0) (ks' := 0) (r := (RJx4a65c, TJx4a65c, 3)) hC (c_lsize K (hS.1.lst (j := 3) (by decide))) dX9_rainOnAreas_20 wJx4a65c_size_8abf5 lX9_59 i_yJx4a65c_size_8abf5 s_yJx4a65c_size_8abf5 hl1 rfl rfl rfl (nle rfl) rfl (by decide) (by decide) (by decide) (kI fun r w' hp => ?_)
      obtain ⟨rfl, hw⟩ := hp
      rw [hw]
      clear hw w'
      refine J.toI (y := nI (cn S 18)) (congrArg nI ((vN_e3 _ np).trans hcn)) ?_
      refine j_icmp_ge hC 56 dX9_rainOnAreas_23 (by decide) (fun c_23 => ?_) (fun c_23 => ?_)
      · exact absurd ((nI_leI (by have := hW.1.2.2.1.2; omega) (by have := hW.1.2.2.1.2; omega)).mp c_23) (by omega)
      · refine j_aload_n hC dX9_rainOnAreas_26 rfl ?_
        refine j_dup hC dX9_rainOnAreas_27 rfl ?_
        refine j_get hC cfX9 dX9_rainOnAreas_28 fX9_163 (by decide) hS.1.x rfl ?_
        refine j_aload_n hC dX9_rainOnAreas_31 rfl ?_
        refine j_get hC cfX9 dX9_rainOnAreas_32 fX9_19 (by decide) hS.1.x rfl ?_
        refine j_iload_n hC dX9_rainOnAreas_35 rfl ?_
        obtain ⟨mc2, hl2⟩ := (hS.1.lst (j := 3) (by decide)).sz
        refine j_callv (kc' := 0) (ks' := 0) (r := (RJx4a65c, TJx4a65c, 3)) hC (c_get K (hS.1.lst (j := 3) (by decide)) (by rw [vN_e3, hcn]; exact hil)) dX9_rainOnAreas_36 wJx4a65c_get_915e3 lX9_87 i_yJx4a65c_get_915e3 s_yJx4a65c_get_915e3 hl2 rfl rfl rfl (nle rfl) rfl (by decide) (by decide) (by decide) (kA fun r w' hp => ?_)
        obtain ⟨rfl, hw⟩ := hp
        rw [hw]
        clear hw w'
        refine j_cast (r := (RX0, TX0, 3)) hC dX9_rainOnAreas_39 kX9_98 (hS.1.area hi3) rfl ?_
        refine j_iload_n hC dX9_rainOnAreas_42 rfl ?_
        refine j_callv (kc' := 0) (ks' := 0) (r := (RX0, TX0, 3)) hC (c_takeRain K (S.1 23 (mn S)) (hS.1.area hi3) (hS.1.node hn3)) dX9_rainOnAreas_43 wX0_takeRain lX9_221 i_yX0_takeRain s_yX0_takeRain (hS.1.area hi3) rfl rfl rfl (nle rfl) rfl (by decide) (by decide) (by decide) (kL fun r w' hp => ?_)
        obtain ⟨rfl, rfl⟩ := hp
        refine j_ladd hC dX9_rainOnAreas_46 ?_
        refine j_put (fs' := [_, _, _, _, _, _, _, _, _, _, _, _, _, _]) hC cfX9 dX9_rainOnAreas_47 fX9_163 rfl (by decide) ((wst_n (hS.1.ne (k := 0) (i := 0) (k' := 3) (i' := i) Nat.one_pos hi3 (by simp))).trans ((wst_n (hS.1.ne (k := 0) (i := 0) (k' := 1) (i' := _) Nat.one_pos hn3 (by simp))).trans hS.1.x)) rfl rfl (nlt rfl) rfl ?_
        refine J.gen (P := fun w' => SB K.2.1 w w' O ad z np (fRain T i (mn S))) (by have h := hS.rainS (i := i) (j := mn S) hi3 hn3; rw [congrFun e1 23] at h; exact h) (fun w2 hS => ?_)
        refine j_iinc (v := nI (i + 1)) (lv' := [some _, some _, some _]) hC dX9_rainOnAreas_50 rfl (nI_i1 i) (nlt rfl) rfl ?_
        refine j_goto hC 15 dX9_rainOnAreas_53 (by decide) ?_
        refine J.weak (l' := [some (.ref (ad 0 0)), some (.int (S.1 23 (mn S))), some (.int (nI (i + 1)))]) (⟨rfl, rfl, rfl, trivial⟩) ?_
        exact ih (i + 1) _ (by omega) (hS.cast (show _ = itn (fun k T => fRain T k (mn S)) (i + 1) S by rw [hT]; rfl))
  refine j_aload_n hC dX9_rainOnAreas_0 rfl ?_
  refine j_get hC cfX9 dX9_rainOnAreas_1 fX9_31 (by decide) hS.1.x rfl ?_
  refine j_aload_n hC dX9_rainOnAreas_4 rfl ?_
  refine j_get hC cfX9 dX9_rainOnAreas_5 fX9_123 (by decide) hS.1.x rfl ?_
  refine j_bipush hC (60) dX9_rainOnAreas_8 (by decide) ?_
  refine j_idiv hC dX9_rainOnAreas_10 (by decide) ?_
  refine j_aldI hC dX9_rainOnAreas_11 hS.1.rains (hj) ?_
  refine j_istore_n (lv' := [some _, some _, none]) hC dX9_rainOnAreas_12 (nlt rfl) rfl ?_
  refine j_iconst hC (0) dX9_rainOnAreas_13 (by decide) ?_
  refine j_istore_n (lv' := [some _, some _, some _]) hC dX9_rainOnAreas_14 (nlt rfl) rfl ?_
  exact loop15 (cn S 18) 0 _ (by omega) hS

set_option maxRecDepth 100000 in
set_option maxHeartbeats 4000000 in
theorem c_carryBy (K : Kx) {w : Wd} {O : Nat → Prop} {ad : Nat → Nat → Nat} {z : Zx} {np : Nat} {S : Ast} (hA : SA K.2.1 w O ad z np S) (hW : WSt S) : MT K mX9_carryByPipes 3 0 0 [.ref (ad 0 0)] w (PV fun w' => SB K.2.1 w w' O ad z np (itn (fun k T => fFlow T k) (cn S 10) (itn (fun k T => fLev T k) (cn S 1) S))) := by
  refine MT.of [some (.ref (ad 0 0)), none] (by decide) rfl (nle rfl) rfl ?_
  intro E hC hR
  have hS := SB.rf hA
  obtain ⟨U, hUe⟩ : ∃ U : Ast, itn (fun k T => fLev T k) (cn S 1) S = U := ⟨_, rfl⟩
  have hU1 : U.1 = S.1 := by rw [← hUe]; exact itn_1 (f := fun k T => fLev T k) (fun _ _ => rfl) _ _
  have hU : WSt U := hW.cong (fun k _ _ => by rw [hU1])
  have loop35 : ∀ (n i : Nat) (w1 : Wd), i + n = cn U 10 → SB K.2.1 w w1 O ad z np (itn (fun k T => fFlow T k) i U) → J K cX9_carryByPipes E 0 0 w1 35 [some (.ref (ad 0 0)), some (.int (nI i))] [] := by
    intro n
    induction n with
    | zero =>
      intro i w1 hi hS
      have hi2 : i = cn U 10 := by omega
      subst hi2
      obtain ⟨T, hT⟩ : ∃ T : Ast, T = itn (fun k T => fFlow T k) (cn U 10) U := ⟨_, rfl⟩
      rw [← hT] at hS
      have e1 : T.1 = U.1 := by rw [hT]; exact itn_1 (f := fun k T => fFlow T k) (fun _ _ => rfl) (cn U 10) U
      have hcn : cn T 10 = cn U 10 := by unfold cn; rw [e1]
      refine j_iload_n hC dX9_carryByPipes_35 rfl ?_
      refine j_aload_n hC dX9_carryByPipes_36 rfl ?_
      refine j_get hC cfX9 dX9_carryByPipes_37 fX9_16 (by decide) hS.1.x rfl ?_
      obtain ⟨mc1, hl1⟩ := (hS.1.lst (j := 2) (by decide)).sz
      refine j_callv (kc' := 0) (ks' := 0) (r := (RJx4a65c, TJx4a65c, 3)) hC (c_lsize K (hS.1.lst (j := 2) (by decide))) dX9_carryByPipes_40 wJx4a65c_size_8abf5 lX9_59 i_yJx4a65c_size_8abf5 s_yJx4a65c_size_8abf5 hl1 rfl rfl rfl (nle rfl) rfl (by decide) (by decide) (by decide) (kI fun r w' hp => ?_)
      obtain ⟨rfl, hw⟩ := hp
      rw [hw]
      clear hw w'
      refine J.toI (y := nI (cn U 10)) (congrArg nI ((vN_e2 _ np).trans hcn)) ?_
      refine j_icmp_ge hC 66 dX9_carryByPipes_43 (by decide) (fun c_43 => ?_) (fun c_43 => ?_)
      · exact j_vret hC hR dX9_carryByPipes_66 rfl ⟨rfl, by rw [hT, show cn U 10 = cn S 10 by unfold cn; rw [hU1], ← hUe] at hS; exact hS⟩
      · exact absurd (nI_le (Nat.le_refl _) (by have := hU.1.2.1.2; omega)) c_43
    | succ n ih =>
      intro i w1 hi hS
      obtain ⟨T, hT⟩ : ∃ T : Ast, T = itn (fun k T => fFlow T k) i U := ⟨_, rfl⟩
      rw [← hT] at hS
      have e1 : T.1 = U.1 := by rw [hT]; exact itn_1 (f := fun k T => fFlow T k) (fun _ _ => rfl) i U
      have hcn : cn T 10 = cn U 10 := by unfold cn; rw [e1]
      have hil : i < cn U 10 := by omega
      have hi3 : i < cn T 10 := by rw [hcn]; exact hil
      have hp3 := hU.2.2.1 i hil
      have hf : (T.1 11 i).toNatClampNeg < cn T 1 := by unfold cn; rw [e1]; exact hp3.1.2
      have ht : (T.1 12 i).toNatClampNeg < cn T 1 := by unfold cn; rw [e1]; exact hp3.2.1.2
      have hft : (T.1 12 i).toNatClampNeg ≠ (T.1 11 i).toNatClampNeg := by rw [e1]; exact hp3.2.2.1
      have hB : ¬ wB T i = 0 := wB_ne (by rw [e1]; exact hp3.2.2.2.1)
      refine j_iload_n hC dX9_carryByPipes_35 rfl ?_
      refine j_aload_n hC dX9_carryByPipes_36 rfl ?_
      refine j_get hC cfX9 dX9_carryByPipes_37 fX9_16 (by decide) hS.1.x rfl ?_
      obtain ⟨mc1, hl1⟩ := (hS.1.lst (j := 2) (by decide)).sz
      refine j_callv (kc' := 0) (ks' := 0) (r := (RJx4a65c, TJx4a65c, 3)) hC (c_lsize K (hS.1.lst (j := 2) (by decide))) dX9_carryByPipes_40 wJx4a65c_size_8abf5 lX9_59 i_yJx4a65c_size_8abf5 s_yJx4a65c_size_8abf5 hl1 rfl rfl rfl (nle rfl) rfl (by decide) (by decide) (by decide) (kI fun r w' hp => ?_)
      obtain ⟨rfl, hw⟩ := hp
      rw [hw]
      clear hw w'
      refine J.toI (y := nI (cn U 10)) (congrArg nI ((vN_e2 _ np).trans hcn)) ?_
      refine j_icmp_ge hC 66 dX9_carryByPipes_43 (by decide) (fun c_43 => ?_) (fun c_43 => ?_)
      · exact absurd ((nI_leI (by have := hU.1.2.1.2; omega) (by have := hU.1.2.1.2; omega)).mp c_43) (by omega)
      · refine j_aload_n hC dX9_carryByPipes_46 rfl ?_
        refine j_get hC cfX9 dX9_carryByPipes_47 fX9_16 (by decide) hS.1.x rfl ?_
        refine j_iload_n hC dX9_carryByPipes_50 rfl ?_
        obtain ⟨mc2, hl2⟩ := (hS.1.lst (j := 2) (by decide)).sz
        refine j_callv (kc' := 0) (ks' := 0) (r := (RJx4a65c, TJx4a65c, 3)) hC (c_get K (hS.1.lst (j := 2) (by decide)) (by rw [vN_e2, hcn]; exact hil)) dX9_carryByPipes_51 wJx4a65c_get_915e3 lX9_87 i_yJx4a65c_get_915e3 s_yJx4a65c_get_915e3 hl2 rfl rfl rfl (nle rfl) rfl (by decide) (by decide) (by decide) (kA fun r w' hp => ?_)
        obtain ⟨rfl, hw⟩ := hp
        rw [hw]
        clear hw w'
        refine j_cast (r := (RX7, TX7, 7)) hC dX9_carryByPipes_54 kX9_85 (hS.1.pipe hi3) rfl ?_
        refine j_callv (kc' := 0) (ks' := 0) (r := (RX7, TX7, 7)) hC (c_carry K (hS.1.pipe hi3) (hS.1.node hf) (hS.1.node ht) (hS.1.ne (k := 1) (k' := 1) hf ht (fun q => hft q.2.symm)) hB) dX9_carryByPipes_57 wX7_carry lX9_228 i_yX7_carry s_yX7_carry (hS.1.pipe hi3) rfl rfl rfl (nle rfl) rfl (by decide) (by decide) (by decide) (kV fun w' hp => ?_)
        subst hp
        refine J.gen (P := fun w' => SB K.2.1 w w' O ad z np (fFlow T i)) (hS.flowS hi3 hf ht) (fun w2 hS => ?_)
        refine j_iinc (v := nI (i + 1)) (lv' := [some _, some _]) hC dX9_carryByPipes_60 rfl (nI_i1 i) (nlt rfl) rfl ?_
        refine j_goto hC 35 dX9_carryByPipes_63 (by decide) ?_
        refine J.weak (l' := [some (.ref (ad 0 0)), some (.int (nI (i + 1)))]) (⟨rfl, rfl, trivial⟩) ?_
        exact ih (i + 1) _ (by omega) (hS.cast (show _ = itn (fun k T => fFlow T k) (i + 1) U by rw [hT]; rfl))
  have loop2 : ∀ (n i : Nat) (w1 : Wd), i + n = cn S 1 → SB K.2.1 w w1 O ad z np (itn (fun k T => fLev T k) i S) → J K cX9_carryByPipes E 0 0 w1 2 [some (.ref (ad 0 0)), some (.int (nI i))] [] := by
    intro n
    induction n with
    | zero =>
      intro i w1 hi hS
      have hi2 : i = cn S 1 := by omega
      subst hi2
      obtain ⟨T, hT⟩ : ∃ T : Ast, T = itn (fun k T => fLev T k) (cn S 1) S := ⟨_, rfl⟩
      rw [← hT] at hS
      have e1 : T.1 = S.1 := by rw [hT]; exact itn_1 (f := fun k T => fLev T k) (fun _ _ => rfl) (cn S 1) S
      have hcn : cn T 1 = cn S 1 := by unfold cn; rw [e1]
      refine j_iload_n hC dX9_carryByPipes_2 rfl ?_
      refine j_aload_n hC dX9_carryByPipes_3 rfl ?_
      refine j_get hC cfX9 dX9_carryByPipes_4 fX9_10 (by decide) hS.1.x rfl ?_
      obtain ⟨mc1, hl1⟩ := (hS.1.lst (j := 1) (by decide)).sz
      refine j_callv (kc' := 0) (ks' := 0) (r := (RJx4a65c, TJx4a65c, 3)) hC (c_lsize K (hS.1.lst (j := 1) (by decide))) dX9_carryByPipes_7 wJx4a65c_size_8abf5 lX9_59 i_yJx4a65c_size_8abf5 s_yJx4a65c_size_8abf5 hl1 rfl rfl rfl (nle rfl) rfl (by decide) (by decide) (by decide) (kI fun r w' hp => ?_)
      obtain ⟨rfl, hw⟩ := hp
      rw [hw]
      clear hw w'
      refine J.toI (y := nI (cn S 1)) (congrArg nI ((vN_e1 _ np).trans hcn)) ?_
      refine j_icmp_ge hC 33 dX9_carryByPipes_10 (by decide) (fun c_10 => ?_) (fun c_10 => ?_)
      · rw [hT] at hS
        refine j_iconst hC (0) dX9_carryByPipes_33 (by decide) ?_
        refine j_istore_n (lv' := [some _, some _]) hC dX9_carryByPipes_34 (nlt rfl) rfl ?_
        exact loop35 (cn U 10) 0 _ (by omega) (hUe ▸ hS)
      · exact absurd (nI_le (Nat.le_refl _) (by have := hW.1.1.2; omega)) c_10
    | succ n ih =>
      intro i w1 hi hS
      obtain ⟨T, hT⟩ : ∃ T : Ast, T = itn (fun k T => fLev T k) i S := ⟨_, rfl⟩
      rw [← hT] at hS
      have e1 : T.1 = S.1 := by rw [hT]; exact itn_1 (f := fun k T => fLev T k) (fun _ _ => rfl) i S
      have hcn : cn T 1 = cn S 1 := by unfold cn; rw [e1]
      have hil : i < cn S 1 := by omega
      have hi3 : i < cn T 1 := by rw [hcn]; exact hil
      have hro : ¬ (T.1 4 i).toInt64 = 0 := by rw [e1]; exact hW.ro hil
      refine j_iload_n hC dX9_carryByPipes_2 rfl ?_
      refine j_aload_n hC dX9_carryByPipes_3 rfl ?_
      refine j_get hC cfX9 dX9_carryByPipes_4 fX9_10 (by decide) hS.1.x rfl ?_
      obtain ⟨mc1, hl1⟩ := (hS.1.lst (j := 1) (by decide)).sz
      refine j_callv (kc' := 0) (ks' := 0) (r := (RJx4a65c, TJx4a65c, 3)) hC (c_lsize K (hS.1.lst (j := 1) (by decide))) dX9_carryByPipes_7 wJx4a65c_size_8abf5 lX9_59 i_yJx4a65c_size_8abf5 s_yJx4a65c_size_8abf5 hl1 rfl rfl rfl (nle rfl) rfl (by decide) (by decide) (by decide) (kI fun r w' hp => ?_)
      obtain ⟨rfl, hw⟩ := hp
      rw [hw]
      clear hw w'
      refine J.toI (y := nI (cn S 1)) (congrArg nI ((vN_e1 _ np).trans hcn)) ?_
      refine j_icmp_ge hC 33 dX9_carryByPipes_10 (by decide) (fun c_10 => ?_) (fun c_10 => ?_)
      · exact absurd ((nI_leI (by have := hW.1.1.2; omega) (by have := hW.1.1.2; omega)).mp c_10) (by omega)
      · refine j_aload_n hC dX9_carryByPipes_13 rfl ?_
        refine j_get hC cfX9 dX9_carryByPipes_14 fX9_10 (by decide) hS.1.x rfl ?_
        refine j_iload_n hC dX9_carryByPipes_17 rfl ?_
        obtain ⟨mc2, hl2⟩ := (hS.1.lst (j := 1) (by decide)).sz
        refine j_callv (kc' := 0) (ks' := 0) (r := (RJx4a65c, TJx4a65c, 3)) hC (c_get K (hS.1.lst (j := 1) (by decide)) (by rw [vN_e1, hcn]; exact hil)) dX9_carryByPipes_18 wJx4a65c_get_915e3 lX9_87 i_yJx4a65c_get_915e3 s_yJx4a65c_get_915e3 hl2 rfl rfl rfl (nle rfl) rfl (by decide) (by decide) (by decide) (kA fun r w' hp => ?_)
        obtain ⟨rfl, hw⟩ := hp
        rw [hw]
        clear hw w'
        refine j_cast (r := (RX5, TX5, 8)) hC dX9_carryByPipes_21 kX9_72 (hS.1.node hi3) rfl ?_
        refine j_callv (kc' := 0) (ks' := 0) (r := (RX5, TX5, 8)) hC (c_markLevel K (hS.1.node hi3) hro) dX9_carryByPipes_24 wX5_markLevel lX9_225 i_yX5_markLevel s_yX5_markLevel (hS.1.node hi3) rfl rfl rfl (nle rfl) rfl (by decide) (by decide) (by decide) (kV fun w' hp => ?_)
        subst hp
        refine J.gen (P := fun w' => SB K.2.1 w w' O ad z np (fLev T i)) (hS.level hi3 _) (fun w2 hS => ?_)
        refine j_iinc (v := nI (i + 1)) (lv' := [some _, some _]) hC dX9_carryByPipes_27 rfl (nI_i1 i) (nlt rfl) rfl ?_
        refine j_goto hC 2 dX9_carryByPipes_30 (by decide) ?_
        refine J.weak (l' := [some (.ref (ad 0 0)), some (.int (nI (i + 1)))]) (⟨rfl, rfl, trivial⟩) ?_
        exact ih (i + 1) _ (by omega) (hS.cast (show _ = itn (fun k T => fLev T k) (i + 1) S by rw [hT]; rfl))
  refine j_iconst hC (0) dX9_carryByPipes_0 (by decide) ?_
  refine j_istore_n (lv' := [some _, some _]) hC dX9_carryByPipes_1 (nlt rfl) rfl ?_
  exact loop2 (cn S 1) 0 _ (by omega) hS

set_option maxRecDepth 100000 in
set_option maxHeartbeats 4000000 in
theorem c_drainC (K : Kx) {w : Wd} {O : Nat → Prop} {ad : Nat → Nat → Nat} {z : Zx} {np : Nat} {S : Ast} (hA : SA K.2.1 w O ad z np S) (hW : WSt S) : MT K mX9_drainCells 3 0 0 [.ref (ad 0 0)] w (PV fun w' => SB K.2.1 w w' O ad z np (itn (fun k T => fGully T k) (cn S 35) S)) := by
  refine MT.of [some (.ref (ad 0 0)), none, none] (by decide) rfl (nle rfl) rfl ?_
  intro E hC hR
  have hS := SB.rf hA
  have loop2 : ∀ (n i : Nat) (w1 : Wd), i + n = cn S 35 → SB K.2.1 w w1 O ad z np (itn (fun k T => fGully T k) i S) → J K cX9_drainCells E 0 0 w1 2 [some (.ref (ad 0 0)), some (.int (nI i)), none] [] := by
    intro n
    induction n with
    | zero =>
      intro i w1 hi hS
      have hi2 : i = cn S 35 := by omega
      subst hi2
      obtain ⟨T, hT⟩ : ∃ T : Ast, T = itn (fun k T => fGully T k) (cn S 35) S := ⟨_, rfl⟩
      rw [← hT] at hS
      have e1 : T.1 = S.1 := by rw [hT]; exact itn_1 (f := fun k T => fGully T k) (fun _ _ => rfl) (cn S 35) S
      have hcn : cn T 35 = cn S 35 := by unfold cn; rw [e1]
      refine j_iload_n hC dX9_drainCells_2 rfl ?_
      refine j_aload_n hC dX9_drainCells_3 rfl ?_
      refine j_get hC cfX9 dX9_drainCells_4 fX9_28 (by decide) hS.1.x rfl ?_
      obtain ⟨mc1, hl1⟩ := (hS.1.lst (j := 6) (by decide)).sz
      refine j_callv (kc' := 0) (ks' := 0) (r := (RJx4a65c, TJx4a65c, 3)) hC (c_lsize K (hS.1.lst (j := 6) (by decide))) dX9_drainCells_7 wJx4a65c_size_8abf5 lX9_59 i_yJx4a65c_size_8abf5 s_yJx4a65c_size_8abf5 hl1 rfl rfl rfl (nle rfl) rfl (by decide) (by decide) (by decide) (kI fun r w' hp => ?_)
      obtain ⟨rfl, hw⟩ := hp
      rw [hw]
      clear hw w'
      refine J.toI (y := nI (cn S 35)) (congrArg nI ((vN_e6 _ np).trans hcn)) ?_
      refine j_icmp_ge hC 56 dX9_drainCells_10 (by decide) (fun c_10 => ?_) (fun c_10 => ?_)
      · exact j_vret hC hR dX9_drainCells_56 rfl ⟨rfl, by rw [hT] at hS; exact hS⟩
      · exact absurd (nI_le (Nat.le_refl _) (by have := hW.1.2.2.2.2.2.2; omega)) c_10
    | succ n ih =>
      intro i w1 hi hS
      obtain ⟨T, hT⟩ : ∃ T : Ast, T = itn (fun k T => fGully T k) i S := ⟨_, rfl⟩
      rw [← hT] at hS
      have e1 : T.1 = S.1 := by rw [hT]; exact itn_1 (f := fun k T => fGully T k) (fun _ _ => rfl) i S
      have hcn : cn T 35 = cn S 35 := by unfold cn; rw [e1]
      have hil : i < cn S 35 := by omega
      have hi3 : i < cn T 35 := by rw [hcn]; exact hil
      have hg3 := hW.2.2.2.2.2.2.1 i hil
      have hn3 : (T.1 37 i).toNatClampNeg < cn T 1 := by unfold cn; rw [e1]; exact hg3.2.1.2
      have hx : ix (T.1 36 i) 8 (T.1 36 i).toNatClampNeg := by rw [e1]; exact hg3.1
      refine j_iload_n hC dX9_drainCells_2 rfl ?_
      refine j_aload_n hC dX9_drainCells_3 rfl ?_
      refine j_get hC cfX9 dX9_drainCells_4 fX9_28 (by decide) hS.1.x rfl ?_
      obtain ⟨mc1, hl1⟩ := (hS.1.lst (j := 6) (by decide)).sz
      refine j_callv (kc' := 0) (ks' := 0) (r := (RJx4a65c, TJx4a65c, 3)) hC (c_lsize K (hS.1.lst (j := 6) (by decide))) dX9_drainCells_7 wJx4a65c_size_8abf5 lX9_59 i_yJx4a65c_size_8abf5 s_yJx4a65c_size_8abf5 hl1 rfl rfl rfl (nle rfl) rfl (by decide) (by decide) (by decide) (kI fun r w' hp => ?_)
      obtain ⟨rfl, hw⟩ := hp
      rw [hw]
      clear hw w'
      refine J.toI (y := nI (cn S 35)) (congrArg nI ((vN_e6 _ np).trans hcn)) ?_
      refine j_icmp_ge hC 56 dX9_drainCells_10 (by decide) (fun c_10 => ?_) (fun c_10 => ?_)
      · exact absurd ((nI_leI (by have := hW.1.2.2.2.2.2.2; omega) (by have := hW.1.2.2.2.2.2.2; omega)).mp c_10) (by omega)
      · refine j_aload_n hC dX9_drainCells_13 rfl ?_
        refine j_get hC cfX9 dX9_drainCells_14 fX9_28 (by decide) hS.1.x rfl ?_
        refine j_iload_n hC dX9_drainCells_17 rfl ?_
        obtain ⟨mc2, hl2⟩ := (hS.1.lst (j := 6) (by decide)).sz
        refine j_callv (kc' := 0) (ks' := 0) (r := (RJx4a65c, TJx4a65c, 3)) hC (c_get K (hS.1.lst (j := 6) (by decide)) (by rw [vN_e6, hcn]; exact hil)) dX9_drainCells_18 wJx4a65c_get_915e3 lX9_87 i_yJx4a65c_get_915e3 s_yJx4a65c_get_915e3 hl2 rfl rfl rfl (nle rfl) rfl (by decide) (by decide) (by decide) (kA fun r w' hp => ?_)
        obtain ⟨rfl, hw⟩ := hp
        rw [hw]
        clear hw w'
        refine j_cast (r := (RX3, TX3, 3)) hC dX9_drainCells_21 kX9_115 (hS.1.gully hi3) rfl ?_
        refine j_astore_n (lv' := [some _, some _, some _]) hC dX9_drainCells_24 (nlt rfl) rfl ?_
        refine j_aload_n hC dX9_drainCells_25 rfl ?_
        refine j_get hC cfX9 dX9_drainCells_26 fX9_35 (by decide) hS.1.x rfl ?_
        refine j_aload_n hC dX9_drainCells_29 rfl ?_
        refine j_get hC cfX3 dX9_drainCells_30 fX9_231 (by decide) (hS.1.gully hi3) rfl ?_
        refine j_dup2_11 hC dX9_drainCells_33 rfl rfl ?_
        refine j_aldJ hC dX9_drainCells_34 hS.1.cells (hx) ?_
        refine j_aload_n hC dX9_drainCells_35 rfl ?_
        refine j_aload_n hC dX9_drainCells_36 rfl ?_
        refine j_get hC cfX9 dX9_drainCells_37 fX9_35 (by decide) hS.1.x rfl ?_
        refine j_aload_n hC dX9_drainCells_40 rfl ?_
        refine j_get hC cfX3 dX9_drainCells_41 fX9_231 (by decide) (hS.1.gully hi3) rfl ?_
        refine j_aldJ hC dX9_drainCells_44 hS.1.cells (hx) ?_
        refine j_callv (kc' := 0) (ks' := 0) (r := (RX3, TX3, 3)) hC (c_drain K (T.2 39 (T.1 36 i).toNatClampNeg) (hS.1.gully hi3) (hS.1.node hn3)) dX9_drainCells_45 wX3_drain lX9_234 i_yX3_drain s_yX3_drain (hS.1.gully hi3) rfl rfl rfl (nle rfl) rfl (by decide) (by decide) (by decide) (kL fun r w' hp => ?_)
        obtain ⟨rfl, rfl⟩ := hp
        refine j_lsub hC dX9_drainCells_48 ?_
        refine j_astJ hC dX9_drainCells_49 ((wst_n (hS.1.ne (k := 8) (i := 0) (k' := 1) (i' := _) Nat.one_pos hn3 (by simp))).trans hS.1.cells) hx ?_
        refine J.gen (P := fun w' => SB K.2.1 w w' O ad z np (fGully T i)) (hS.gullyS hn3) (fun w2 hS => ?_)
        refine j_iinc (v := nI (i + 1)) (lv' := [some _, some _, some _]) hC dX9_drainCells_50 rfl (nI_i1 i) (nlt rfl) rfl ?_
        refine j_goto hC 2 dX9_drainCells_53 (by decide) ?_
        refine J.weak (l' := [some (.ref (ad 0 0)), some (.int (nI (i + 1))), none]) (⟨rfl, rfl, trivial⟩) ?_
        exact ih (i + 1) _ (by omega) (hS.cast (show _ = itn (fun k T => fGully T k) (i + 1) S by rw [hT]; rfl))
  refine j_iconst hC (0) dX9_drainCells_0 (by decide) ?_
  refine j_istore_n (lv' := [some _, some _, none]) hC dX9_drainCells_1 (nlt rfl) rfl ?_
  exact loop2 (cn S 35) 0 _ (by omega) hS

set_option maxRecDepth 100000 in
set_option maxHeartbeats 4000000 in
theorem c_spillN (K : Kx) {w : Wd} {O : Nat → Prop} {ad : Nat → Nat → Nat} {z : Zx} {np : Nat} {S : Ast} (hA : SA K.2.1 w O ad z np S) (hW : WSt S) : MT K mX9_spillNodes 3 0 0 [.ref (ad 0 0)] w (PV fun w' => SB K.2.1 w w' O ad z np (itn (fun k T => fNode T k) (cn S 1) S)) := by
  refine MT.of [some (.ref (ad 0 0)), none, none, none, none] (by decide) rfl (nle rfl) rfl ?_
  intro E hC hR
  have hS := SB.rf hA
  have loop2 : ∀ (n i : Nat) (w1 : Wd), i + n = cn S 1 → SB K.2.1 w w1 O ad z np (itn (fun k T => fNode T k) i S) → J K cX9_spillNodes E 0 0 w1 2 [some (.ref (ad 0 0)), some (.int (nI i)), none, none, none] [] := by
    intro n
    induction n with
    | zero =>
      intro i w1 hi hS
      have hi2 : i = cn S 1 := by omega
      subst hi2
      obtain ⟨T, hT⟩ : ∃ T : Ast, T = itn (fun k T => fNode T k) (cn S 1) S := ⟨_, rfl⟩
      rw [← hT] at hS
      have e1 : T.1 = S.1 := by rw [hT]; exact itn_1 (f := fun k T => fNode T k) (fun k T => fNode_1 T k) (cn S 1) S
      have hcn : cn T 1 = cn S 1 := by unfold cn; rw [e1]
      refine j_iload_n hC dX9_spillNodes_2 rfl ?_
      refine j_aload_n hC dX9_spillNodes_3 rfl ?_
      refine j_get hC cfX9 dX9_spillNodes_4 fX9_10 (by decide) hS.1.x rfl ?_
      obtain ⟨mc1, hl1⟩ := (hS.1.lst (j := 1) (by decide)).sz
      refine j_callv (kc' := 0) (ks' := 0) (r := (RJx4a65c, TJx4a65c, 3)) hC (c_lsize K (hS.1.lst (j := 1) (by decide))) dX9_spillNodes_7 wJx4a65c_size_8abf5 lX9_59 i_yJx4a65c_size_8abf5 s_yJx4a65c_size_8abf5 hl1 rfl rfl rfl (nle rfl) rfl (by decide) (by decide) (by decide) (kI fun r w' hp => ?_)
      obtain ⟨rfl, hw⟩ := hp
      rw [hw]
      clear hw w'
      refine J.toI (y := nI (cn S 1)) (congrArg nI ((vN_e1 _ np).trans hcn)) ?_
      refine j_icmp_ge hC 70 dX9_spillNodes_10 (by decide) (fun c_10 => ?_) (fun c_10 => ?_)
      · exact j_vret hC hR dX9_spillNodes_70 rfl ⟨rfl, by rw [hT] at hS; exact hS⟩
      · exact absurd (nI_le (Nat.le_refl _) (by have := hW.1.1.2; omega)) c_10
    | succ n ih =>
      intro i w1 hi hS
      obtain ⟨T, hT⟩ : ∃ T : Ast, T = itn (fun k T => fNode T k) i S := ⟨_, rfl⟩
      rw [← hT] at hS
      have e1 : T.1 = S.1 := by rw [hT]; exact itn_1 (f := fun k T => fNode T k) (fun k T => fNode_1 T k) i S
      have hcn : cn T 1 = cn S 1 := by unfold cn; rw [e1]
      have hil : i < cn S 1 := by omega
      have hi3 : i < cn T 1 := by rw [hcn]; exact hil
      have hx : ¬ T.1 5 i = -1 → ix (T.1 5 i) 8 (T.1 5 i).toNatClampNeg := by rw [e1]; intro q; exact ((hW.2.1 i hil).2.2.2.2).resolve_left q
      refine j_iload_n hC dX9_spillNodes_2 rfl ?_
      refine j_aload_n hC dX9_spillNodes_3 rfl ?_
      refine j_get hC cfX9 dX9_spillNodes_4 fX9_10 (by decide) hS.1.x rfl ?_
      obtain ⟨mc1, hl1⟩ := (hS.1.lst (j := 1) (by decide)).sz
      refine j_callv (kc' := 0) (ks' := 0) (r := (RJx4a65c, TJx4a65c, 3)) hC (c_lsize K (hS.1.lst (j := 1) (by decide))) dX9_spillNodes_7 wJx4a65c_size_8abf5 lX9_59 i_yJx4a65c_size_8abf5 s_yJx4a65c_size_8abf5 hl1 rfl rfl rfl (nle rfl) rfl (by decide) (by decide) (by decide) (kI fun r w' hp => ?_)
      obtain ⟨rfl, hw⟩ := hp
      rw [hw]
      clear hw w'
      refine J.toI (y := nI (cn S 1)) (congrArg nI ((vN_e1 _ np).trans hcn)) ?_
      refine j_icmp_ge hC 70 dX9_spillNodes_10 (by decide) (fun c_10 => ?_) (fun c_10 => ?_)
      · exact absurd ((nI_leI (by have := hW.1.1.2; omega) (by have := hW.1.1.2; omega)).mp c_10) (by omega)
      · refine j_aload_n hC dX9_spillNodes_13 rfl ?_
        refine j_get hC cfX9 dX9_spillNodes_14 fX9_10 (by decide) hS.1.x rfl ?_
        refine j_iload_n hC dX9_spillNodes_17 rfl ?_
        obtain ⟨mc2, hl2⟩ := (hS.1.lst (j := 1) (by decide)).sz
        refine j_callv (kc' := 0) (ks' := 0) (r := (RJx4a65c, TJx4a65c, 3)) hC (c_get K (hS.1.lst (j := 1) (by decide)) (by rw [vN_e1, hcn]; exact hil)) dX9_spillNodes_18 wJx4a65c_get_915e3 lX9_87 i_yJx4a65c_get_915e3 s_yJx4a65c_get_915e3 hl2 rfl rfl rfl (nle rfl) rfl (by decide) (by decide) (by decide) (kA fun r w' hp => ?_)
        obtain ⟨rfl, hw⟩ := hp
        rw [hw]
        clear hw w'
        refine j_cast (r := (RX5, TX5, 8)) hC dX9_spillNodes_21 kX9_72 (hS.1.node hi3) rfl ?_
        refine j_astore_n (lv' := [some _, some _, some _, none, none]) hC dX9_spillNodes_24 (nlt rfl) rfl ?_
        refine j_aload_n hC dX9_spillNodes_25 rfl ?_
        refine j_callv (kc' := 0) (ks' := 0) (r := (RX5, TX5, 8)) hC (c_spill K (hS.1.node hi3)) dX9_spillNodes_26 wX5_spill lX9_238 i_yX5_spill s_yX5_spill (hS.1.node hi3) rfl rfl rfl (nle rfl) rfl (by decide) (by decide) (by decide) (kL fun r w' hp => ?_)
        obtain ⟨rfl, rfl⟩ := hp
        refine j_lstore_n (lv' := [some _, some _, some _, some _, none]) hC dX9_spillNodes_29 (nlt rfl) rfl ?_
        refine j_aload_n hC dX9_spillNodes_30 rfl ?_
        refine j_get hC cfX5 dX9_spillNodes_31 fX9_120 (by decide) (wst_s _ _ _) rfl ?_
        refine j_iconst hC (-1) dX9_spillNodes_34 (by decide) ?_
        refine j_icmp_ne hC 51 dX9_spillNodes_35 (by decide) (fun c_35 => ?_) (fun c_35 => ?_)
        · refine j_aload_n hC dX9_spillNodes_51 rfl ?_
          refine j_get hC cfX9 dX9_spillNodes_52 fX9_35 (by decide) ((wst_n (hS.1.ne (k := 0) (i := 0) (k' := 1) (i' := _) Nat.one_pos hi3 (by simp))).trans hS.1.x) rfl ?_
          refine j_aload_n hC dX9_spillNodes_55 rfl ?_
          refine j_get hC cfX5 dX9_spillNodes_56 fX9_120 (by decide) (wst_s _ _ _) rfl ?_
          refine j_dup2_11 hC dX9_spillNodes_59 rfl rfl ?_
          refine j_aldJ hC dX9_spillNodes_60 ((wst_n (hS.1.ne (k := 8) (i := 0) (k' := 1) (i' := _) Nat.one_pos hi3 (by simp))).trans hS.1.cells) (hx c_35) ?_
          refine j_lload_n hC dX9_spillNodes_61 rfl ?_
          refine j_ladd hC dX9_spillNodes_62 ?_
          refine j_astJ hC dX9_spillNodes_63 ((wst_n (hS.1.ne (k := 8) (i := 0) (k' := 1) (i' := _) Nat.one_pos hi3 (by simp))).trans hS.1.cells) (hx c_35) ?_
          refine J.gen (P := fun w' => SB K.2.1 w w' O ad z np (fNode T i)) (hS.nodeC hi3 (fun q => (hx c_35).1 (Or.inl q))) (fun w2 hS => ?_)
          refine j_iinc (v := nI (i + 1)) (lv' := [some _, some _, some _, some _, none]) hC dX9_spillNodes_64 rfl (nI_i1 i) (nlt rfl) rfl ?_
          refine j_goto hC 2 dX9_spillNodes_67 (by decide) ?_
          refine J.weak (l' := [some (.ref (ad 0 0)), some (.int (nI (i + 1))), none, none, none]) (⟨rfl, rfl, trivial⟩) ?_
          exact ih (i + 1) _ (by omega) (hS.cast (show _ = itn (fun k T => fNode T k) (i + 1) S by rw [hT]; rfl))
        · refine j_aload_n hC dX9_spillNodes_38 rfl ?_
          refine j_dup hC dX9_spillNodes_39 rfl ?_
          refine j_get hC cfX9 dX9_spillNodes_40 fX9_175 (by decide) ((wst_n (hS.1.ne (k := 0) (i := 0) (k' := 1) (i' := _) Nat.one_pos hi3 (by simp))).trans hS.1.x) rfl ?_
          refine j_lload_n hC dX9_spillNodes_43 rfl ?_
          refine j_ladd hC dX9_spillNodes_44 ?_
          refine j_put (fs' := [_, _, _, _, _, _, _, _, _, _, _, _, _, _]) hC cfX9 dX9_spillNodes_45 fX9_175 rfl (by decide) ((wst_n (hS.1.ne (k := 0) (i := 0) (k' := 1) (i' := _) Nat.one_pos hi3 (by simp))).trans hS.1.x) rfl rfl (nlt rfl) rfl ?_
          refine J.gen (P := fun w' => SB K.2.1 w w' O ad z np (fNode T i)) (hS.nodeS hi3 (by rw [show T.1 5 i = -1 from c_35]; decide)) (fun w2 hS => ?_)
          refine j_goto hC 64 dX9_spillNodes_48 (by decide) ?_
          refine j_iinc (v := nI (i + 1)) (lv' := [some _, some _, some _, some _, none]) hC dX9_spillNodes_64 rfl (nI_i1 i) (nlt rfl) rfl ?_
          refine j_goto hC 2 dX9_spillNodes_67 (by decide) ?_
          refine J.weak (l' := [some (.ref (ad 0 0)), some (.int (nI (i + 1))), none, none, none]) (⟨rfl, rfl, trivial⟩) ?_
          exact ih (i + 1) _ (by omega) (hS.cast (show _ = itn (fun k T => fNode T k) (i + 1) S by rw [hT]; rfl))
  refine j_iconst hC (0) dX9_spillNodes_0 (by decide) ?_
  refine j_istore_n (lv' := [some _, some _, none, none, none]) hC dX9_spillNodes_1 (nlt rfl) rfl ?_
  exact loop2 (cn S 1) 0 _ (by omega) hS

