
theorem law_more {i L : Nat} (hL : L ≤ 3073) (hi : i ≤ 10000) (h : ¬ nI L - 6 < nI i) : i + 6 ≤ L := by
  rcases Nat.lt_or_ge L 6 with q | q
  · exfalso
    apply h
    rw [Int32.lt_iff_toInt_lt, i_sub]
    · rw [nI_toInt (by omega), nI_toInt (by omega)]
      have : (6 : Int32).toInt = 6 := by decide
      omega
    · rw [nI_toInt (by omega)]
      have : (6 : Int32).toInt = 6 := by decide
      omega
    · rw [nI_toInt (by omega)]
      have : (6 : Int32).toInt = 6 := by decide
      omega
  · rcases Nat.lt_or_ge L (i + 6) with p | p
    · exfalso
      apply h
      rw [Int32.lt_iff_toInt_lt, i_sub]
      · rw [nI_toInt (by omega), nI_toInt (by omega)]
        have : (6 : Int32).toInt = 6 := by decide
        omega
      · rw [nI_toInt (by omega)]
        have : (6 : Int32).toInt = 6 := by decide
        omega
      · rw [nI_toInt (by omega)]
        have : (6 : Int32).toInt = 6 := by decide
        omega
    · exact p

set_option maxRecDepth 100000 in
set_option maxHeartbeats 4000000 in
theorem law_loop (K : Kx) {b L x m : Nat} {xs : Nat → Int32} {E : Ex} (hC : BX K RL cL_law 4 9 E) (hX : SX K E b L xs) (hL : L ≤ 3073) (kk : ∀ (w : Wd) (i : Int32), J K cL_law E 0 0 w 874 [some (.ref b), some (.ref x), some (.ref m), some (.int i)] []) : ∀ (n i : Nat) (w : Wd) (S : Ast), L < i + 6 * n + 6 → i + 6 * n ≤ 5000 → JS K.2.1 w x m S → J K cL_law E (3 * n) (2233 * n) w 28 [some (.ref b), some (.ref x), some (.ref m), some (.int (nI i))] [] := by
  have hL2 : L < 2 ^ 31 := by omega
  intro n
  induction n with
  | zero =>
    intro i w S h1 h2 hS
    refine j_iload_n hC dL_law_28 rfl ?_
    refine j_aload_n hC dL_law_29 rfl ?_
    refine j_slen hC hX dL_law_30 ?_
    refine j_bipush hC (6) dL_law_31 (by decide) ?_
    refine j_isub hC dL_law_33 ?_
    refine j_icmp_gt hC 874 dL_law_34 (by decide) (fun c_34 => ?_) (fun c_34 => ?_)
    · exact kk w _
    · exact absurd (law_more hL (by omega) c_34) (by omega)
  | succ n ih =>
    intro i w S h1 h2 hS
    refine J.less (kc' := 3 * n + 3) (ks' := 2233 * n + 2233) (by omega) (by omega) ?_
    refine j_iload_n hC dL_law_28 rfl ?_
    refine j_aload_n hC dL_law_29 rfl ?_
    refine j_slen hC hX dL_law_30 ?_
    refine j_bipush hC (6) dL_law_31 (by decide) ?_
    refine j_isub hC dL_law_33 ?_
    refine j_icmp_gt hC 874 dL_law_34 (by decide) (fun c_34 => ?_) (fun c_34 => ?_)
    · exact J.less (kc' := 0) (ks' := 0) (by omega) (by omega) (kk w _)
    · have hi := law_more hL (by omega) c_34
      have kn : ∀ (w' : Wd) (T : Ast), JS K.2.1 w' x m T → J K cL_law E (3 * n) (2233 * n) w' 868 [some (.ref b), some (.ref x), some (.ref m), some (.int (nI i))] [] := by
        intro w' T hT
        refine j_iinc (v := nI (i + 6)) (lv' := [some _, some _, some _, some _]) hC dL_law_868 rfl ?_ (nlt rfl) rfl ?_
        · rw [← nI_add]; rfl
        refine j_goto hC 28 dL_law_871 (by decide) ?_
        exact ih (i + 6) w' T (by omega) (by omega) hT
      refine j_aload_n hC dL_law_37 rfl ?_
      refine j_iload_n hC dL_law_38 rfl ?_
      refine j_scr (k := i) hC hX dL_law_39 (ix_nI (by omega) hL2) ?_
      refine j_bipush hC (31) dL_law_40 (by decide) ?_
      refine j_iand hC dL_law_42 ?_
      generalize xs i &&& 31 = v
      rcases tab_cases v 21 (by omega) 20 (by decide) with h | ⟨j, hj, rfl⟩
      · refine j_tableOut hC 868 dL_law_43 h (by decide) ?_
        exact J.less (by omega) (by omega) (kn w S hS)
      · rcases (show j = 0 ∨ j = 1 ∨ j = 2 ∨ j = 3 ∨ j = 4 ∨ j = 5 ∨ j = 6 ∨ j = 7 ∨ j = 8 ∨ j = 9 ∨ j = 10 ∨ j = 11 ∨ j = 12 ∨ j = 13 ∨ j = 14 ∨ j = 15 ∨ j = 16 ∨ j = 17 ∨ j = 18 ∨ j = 19 ∨ j = 20 by omega) with rfl | rfl | rfl | rfl | rfl | rfl | rfl | rfl | rfl | rfl | rfl | rfl | rfl | rfl | rfl | rfl | rfl | rfl | rfl | rfl | rfl
        · refine j_tableIn (off := 97) hC 140 dL_law_43 (by decide) (by decide) (by decide) (by decide) ?_
          exact law_node K hC hX hL2 hi hS kn
        · refine j_tableIn (off := 140) hC 183 dL_law_43 (by decide) (by decide) (by decide) (by decide) ?_
          exact law_pipe K hC hX hL2 hi hS kn
        · refine j_tableIn (off := 193) hC 236 dL_law_43 (by decide) (by decide) (by decide) (by decide) ?_
          exact law_area K hC hX hL2 hi hS kn
        · refine j_tableIn (off := 236) hC 279 dL_law_43 (by decide) (by decide) (by decide) (by decide) ?_
          exact law_rain K hC hX hL2 hi hS kn
        · refine j_tableIn (off := 269) hC 312 dL_law_43 (by decide) (by decide) (by decide) (by decide) ?_
          exact law_pump K hC hX hL2 hi hS kn
        · refine j_tableIn (off := 332) hC 375 dL_law_43 (by decide) (by decide) (by decide) (by decide) ?_
          exact law_gate K hC hX hL2 hi hS kn
        · refine j_tableIn (off := 375) hC 418 dL_law_43 (by decide) (by decide) (by decide) (by decide) ?_
          exact law_gully K hC hX hL2 hi hS kn
        · refine j_tableIn (off := 418) hC 461 dL_law_43 (by decide) (by decide) (by decide) (by decide) ?_
          exact law_street K hC hX hL2 hi hS kn
        · refine j_tableIn (off := 451) hC 494 dL_law_43 (by decide) (by decide) (by decide) (by decide) ?_
          exact law_run K hC hX hL2 hi hS kn
        · refine j_tableIn (off := 474) hC 517 dL_law_43 (by decide) (by decide) (by decide) (by decide) ?_
          exact law_told K hC hX hL2 hi hS kn
        · refine j_tableIn (off := 508) hC 551 dL_law_43 (by decide) (by decide) (by decide) (by decide) ?_
          exact law_flow K hC hX hL2 hi hS kn
        · refine j_tableIn (off := 542) hC 585 dL_law_43 (by decide) (by decide) (by decide) (by decide) ?_
          exact law_cell K hC hX hL2 hi hS kn
        · refine j_tableIn (off := 566) hC 609 dL_law_43 (by decide) (by decide) (by decide) (by decide) ?_
          exact law_pumps K hC hX hL2 hi hS kn
        · refine j_tableIn (off := 589) hC 632 dL_law_43 (by decide) (by decide) (by decide) (by decide) ?_
          exact law_litres K hC hX hL2 hi hS kn
        · refine j_tableIn (off := 613) hC 656 dL_law_43 (by decide) (by decide) (by decide) (by decide) ?_
          exact law_keeps K hC hX hL2 hi hS kn
        · refine j_tableIn (off := 626) hC 669 dL_law_43 (by decide) (by decide) (by decide) (by decide) ?_
          exact law_list K hC hX hL2 hi hS kn
        · refine j_tableIn (off := 659) hC 702 dL_law_43 (by decide) (by decide) (by decide) (by decide) ?_
          exact law_begin K hC hX hL2 hi hS kn
        · refine j_tableIn (off := 692) hC 735 dL_law_43 (by decide) (by decide) (by decide) (by decide) ?_
          exact law_piece K hC hX hL2 hi hS kn
        · refine j_tableIn (off := 735) hC 778 dL_law_43 (by decide) (by decide) (by decide) (by decide) ?_
          exact law_lay K hC hX hL2 hi hS kn
        · refine j_tableIn (off := 769) hC 812 dL_law_43 (by decide) (by decide) (by decide) (by decide) ?_
          exact law_laid K hC hX hL2 hi hS kn
        · refine j_tableIn (off := 802) hC 845 dL_law_43 (by decide) (by decide) (by decide) (by decide) ?_
          exact law_count K hC hX hL2 hi hS kn
set_option maxRecDepth 100000 in
set_option maxHeartbeats 4000000 in
theorem law_start (K : Kx) {b L : Nat} {xs : Nat → Int32} {E : Ex} (hC : BX K RL cL_law 4 9 E) (hX : SX K E b L xs) (hL : L ≤ 3073) (kk : ∀ (w : Wd) (x m : Nat) (i : Int32), J K cL_law E 0 0 w 874 [some (.ref b), some (.ref x), some (.ref m), some (.int i)] []) : J K cL_law E 600000 7302250 (fun _ => none) 0 [some (.ref b), none, none, none] [] := by
  have hL2 : L < 2 ^ 31 := by omega
  refine j_new (kc' := 599999) (ks' := 7302236) (fs := [.int 0, .null, .null, .null, .null, .null, .null, .null, .null, .null, .int 0, .long 0, .long 0, .long 0]) hC cfX9 dL_law_0 kL_7 ibX9 inX9 (fun j hj => by rcases (show j = 0 ∨ j = 1 ∨ j = 2 ∨ j = 3 ∨ j = 4 ∨ j = 5 ∨ j = 6 ∨ j = 7 ∨ j = 8 ∨ j = 9 ∨ j = 10 ∨ j = 11 ∨ j = 12 ∨ j = 13 by omega) with rfl | rfl | rfl | rfl | rfl | rfl | rfl | rfl | rfl | rfl | rfl | rfl | rfl | rfl <;> rfl) (by decide) (by decide) (fun q0 hq0 => ?_)
  refine j_dup hC dL_law_3 rfl ?_
  refine j_aload_n hC dL_law_4 rfl ?_
  refine j_iconst hC (0) dL_law_5 (by decide) ?_
  refine j_callsS (kc' := 599999) (ks' := 7302236) hC hX (c_Lcell K hL2) dL_law_6 wL_cell lL_9 t_yL_cell rfl rfl (nle rfl) rfl (by decide) (by decide) (by decide) (kI fun r w' hp => ?_)
  obtain ⟨rfl, hw⟩ := hp
  rw [hw]
  clear hw w'
  refine j_calli (kc' := 599987) (ks' := 7300346) hC (c_Storm K (x0 L xs) (wst_s _ _ _)) dL_law_9 wX9_init lL_15 i_yX9_init rfl rfl rfl (nle rfl) rfl (by decide) (by decide) (by decide) (kV fun w1 hp => ?_)
  obtain ⟨O, ad, z, hA, hx, -, -⟩ := hp
  refine j_astore_n (lv' := [some _, some _, none, none]) hC dL_law_12 (nlt rfl) rfl ?_
  have hA := hA.shrink
  refine j_new (kc' := 599986) (ks' := 7300287) (fs := [.int 0, .int 0, .null, .null, .null, .null, .null, .null, .null, .null, .int 0, .null, .null, .null, .null, .null, .null, .null, .int 0, .null, .null, .null, .null, .null, .int 0, .null, .null, .null, .null, .null, .null, .int 0, .null, .null, .null, .int 0, .null, .null, .null, .null, .int 0, .long 0, .long 0, .long 0, .int 0, .null, .null, .int 0, .int 0, .int 0, .int 0, .null, .null, .null, .null, .int 0, .null, .null, .null]) hC cfX10 dL_law_13 kL_18 ibX10 inX10 (fun j hj => by rcases (show j = 0 ∨ j = 1 ∨ j = 2 ∨ j = 3 ∨ j = 4 ∨ j = 5 ∨ j = 6 ∨ j = 7 ∨ j = 8 ∨ j = 9 ∨ j = 10 ∨ j = 11 ∨ j = 12 ∨ j = 13 ∨ j = 14 ∨ j = 15 ∨ j = 16 ∨ j = 17 ∨ j = 18 ∨ j = 19 ∨ j = 20 ∨ j = 21 ∨ j = 22 ∨ j = 23 ∨ j = 24 ∨ j = 25 ∨ j = 26 ∨ j = 27 ∨ j = 28 ∨ j = 29 ∨ j = 30 ∨ j = 31 ∨ j = 32 ∨ j = 33 ∨ j = 34 ∨ j = 35 ∨ j = 36 ∨ j = 37 ∨ j = 38 ∨ j = 39 ∨ j = 40 ∨ j = 41 ∨ j = 42 ∨ j = 43 ∨ j = 44 ∨ j = 45 ∨ j = 46 ∨ j = 47 ∨ j = 48 ∨ j = 49 ∨ j = 50 ∨ j = 51 ∨ j = 52 ∨ j = 53 ∨ j = 54 ∨ j = 55 ∨ j = 56 ∨ j = 57 ∨ j = 58 by omega) with rfl | rfl | rfl | rfl | rfl | rfl | rfl | rfl | rfl | rfl | rfl | rfl | rfl | rfl | rfl | rfl | rfl | rfl | rfl | rfl | rfl | rfl | rfl | rfl | rfl | rfl | rfl | rfl | rfl | rfl | rfl | rfl | rfl | rfl | rfl | rfl | rfl | rfl | rfl | rfl | rfl | rfl | rfl | rfl | rfl | rfl | rfl | rfl | rfl | rfl | rfl | rfl | rfl | rfl | rfl | rfl | rfl | rfl | rfl <;> rfl) (by decide) (by decide) (fun q13 hq13 => ?_)
  refine j_dup hC dL_law_16 rfl ?_
  refine j_aload_n hC dL_law_17 rfl ?_
  refine j_iconst hC (0) dL_law_18 (by decide) ?_
  refine j_callsS (kc' := 599986) (ks' := 7300287) hC hX (c_Lcell K hL2) dL_law_19 wL_cell lL_9 t_yL_cell rfl rfl (nle rfl) rfl (by decide) (by decide) (by decide) (kI fun r w' hp => ?_)
  obtain ⟨rfl, hw⟩ := hp
  rw [hw]
  clear hw w'
  have hA2 := hA.fresh hq13 (.inr (11, [.int 0, .int 0, .null, .null, .null, .null, .null, .null, .null, .null, .int 0, .null, .null, .null, .null, .null, .null, .null, .int 0, .null, .null, .null, .null, .null, .int 0, .null, .null, .null, .null, .null, .null, .int 0, .null, .null, .null, .int 0, .null, .null, .null, .null, .int 0, .long 0, .long 0, .long 0, .int 0, .null, .null, .int 0, .int 0, .int 0, .int 0, .null, .null, .null, .null, .int 0, .null, .null, .null]))
  refine j_calli (kc' := 599944) (ks' := 7271637) hC (m_Model K (x0 L xs) (wst_s _ _ _)) dL_law_22 wX10_init lL_20 i_yX10_init rfl rfl rfl (nle rfl) rfl (by decide) (by decide) (by decide) (kV fun w2 hp => ?_)
  obtain ⟨adm, hM, hn, hf⟩ := hp
  refine j_astore_n (lv' := [some _, some _, some _, none]) hC dL_law_25 (nlt rfl) rfl ?_
  refine j_iconst hC (1) dL_law_26 (by decide) ?_
  refine j_istore_n (lv' := [some _, some _, some _, some _]) hC dL_law_27 (nlt rfl) rfl ?_
  refine J.less (kc' := 3 * 512) (ks' := 2233 * 512) (by decide) (by decide) ?_
  subst hx
  have hq : ∀ a, w1 a ≠ none → a ≠ q13 := fun a h e => h (by rw [e]; exact hq13)
  refine law_loop K hC hX hL (fun w i => kk w _ _ i) 512 1 w2 (S0 (mo (x0 L xs))) (by omega) (by omega) ⟨0, _, ad, z, 0, adm, hA2.kept (fun a ha => hf a (hq a ha.2) ?_), rfl, ?_, hM, INV.start _, fun a ha => ⟨hq a ha.2, fun k hk e => ?_⟩⟩
  · rw [wst_n (hq a ha.2)]; exact ha.2
  · refine ⟨?_, by omega, fun f hf i _ => ?_⟩
    · show cn (S0 _) 50 ≤ 0
      exact Nat.le_of_eq (by unfold cn; rfl)
    · show (if f = 0 then mo _ else 0) = 0
      exact if_neg ((show ∀ f ∈ flds 11, f ≠ 0 by decide) f hf)
  · have := hn k hk
    rw [← e, wst_n (hq a ha.2)] at this
    exact ha.2 this
