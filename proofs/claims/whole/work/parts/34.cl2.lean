set_option maxRecDepth 100000 in
set_option maxHeartbeats 4000000 in
theorem c_weighEnds (K : Kx) {w : Wd} {O : Nat → Prop} {ad : Nat → Nat → Nat} {z : Zx} {np : Nat} {S : Ast} (k e : Nat) (hA : SA K.2.1 w O ad z np S) (hL : LSt S) (hnp : NP S np) (hk : k < cn S 50) (he : e < cn S 44) (hco : rg z.1 0 10000) (hdi : rg z.2.1 0 1000) (hD : LD S z.1.toInt z.2.1.toInt z.2.2.2 (k + 1)) : MT K mX4_weighEnds 4 0 0 [.ref (ad 9 0), .int (nI k), .int (nI e)] w (PV fun w' => ∃ ce : Nat → Int64, SB K.2.1 w w' O ad (z.1, z.2.1, ce, z.2.2.2) np S ∧ ∀ j, j ≤ 40 * (k + 1) → (ce j).toInt = cfr S z.1.toInt z.2.1.toInt k e j) := by
  refine MT.of [some (.ref (ad 9 0)), some (.int (nI k)), some (.int (nI e)), none, none] (by decide) rfl (nle rfl) rfl ?_
  intro E hC hR
  have hS := SB.rf hA
  have loop : ∀ (n i : Nat) (w1 : Wd) (ce : Nat → Int64), i + n = 40 * (k + 1) + 1 → SB K.2.1 w w1 O ad (z.1, z.2.1, ce, z.2.2.2) np S → (∀ j, j < i → (ce j).toInt = cfr S z.1.toInt z.2.1.toInt k e j) → J K cX4_weighEnds E 0 0 w1 10 [some (.ref (ad 9 0)), some (.int (nI k)), some (.int (nI e)), some (.int (nI (40 * (k + 1)))), some (.int (nI (i)))] [] := by
    intro n
    induction n with
    | zero =>
      intro i w1 ce hi hS hce
      have hi2 : i = 40 * (k + 1) + 1 := by omega
      subst hi2
      refine j_iload hC dX4_weighEnds_10 rfl ?_
      refine j_iload_n hC dX4_weighEnds_12 rfl ?_
      refine j_icmp_gt hC 37 dX4_weighEnds_13 (by decide) (fun c_13 => ?_) (fun c_13 => ?_)
      · exact j_vret hC hR dX4_weighEnds_37 rfl ⟨rfl, ce, hS, fun j hj => hce j (by omega)⟩
      · exact absurd (nI_lt (Nat.lt_succ_self (40 * (k + 1))) (by have := hL.1.2; omega)) c_13
    | succ n ih =>
      intro i w1 ce hi hS hce
      refine j_iload hC dX4_weighEnds_10 rfl ?_
      refine j_iload_n hC dX4_weighEnds_12 rfl ?_
      refine j_icmp_gt hC 37 dX4_weighEnds_13 (by decide) (fun c_13 => ?_) (fun c_13 => ?_)
      · exact absurd c_13 (fun q => by rw [nI_ltI (by have := hL.1.2; omega) (by have := hL.1.2; omega)] at q; omega)
      · refine j_aload_n hC dX4_weighEnds_16 rfl ?_
        refine j_get hC cfX4 dX4_weighEnds_17 fX4_21 (by decide) hS.1.line rfl ?_
        refine j_iload hC dX4_weighEnds_20 rfl ?_
        refine j_aload_n hC dX4_weighEnds_22 rfl ?_
        refine j_iload_n hC dX4_weighEnds_23 rfl ?_
        refine j_iload_n hC dX4_weighEnds_24 rfl ?_
        refine j_iload hC dX4_weighEnds_25 rfl ?_
        refine j_callv (kc' := 0) (ks' := 0) (r := (RX4, TX4, 10)) hC (c_costFrom K k e i hS.1 hL hnp hk he (by omega) hco hdi hD) dX4_weighEnds_27 wX4_costFrom lX4_136 i_yX4_costFrom s_yX4_costFrom hS.1.line rfl rfl rfl (nle rfl) rfl (by decide) (by decide) (by decide) (kL fun r w' hp => ?_)
        obtain ⟨hr, hw⟩ := hp
        rw [hw]
        clear hw w'
        refine j_astJ hC dX4_weighEnds_30 hS.1.ce (ix_nI (n := 401) (by have := hL.1.2; omega) (by omega)) ?_
        refine J.gen (P := fun w' => SB K.2.1 w w' O ad (z.1, z.2.1, va_up ce i r, z.2.2.2) np S) (hS.putCe _ _) (fun w2 hS2 => ?_)
        refine j_iinc (v := nI (i + 1)) (lv' := [some _, some _, some _, some _, some _]) hC dX4_weighEnds_31 rfl (nI_i1 i) (nlt rfl) rfl ?_
        refine j_goto hC 10 dX4_weighEnds_34 (by decide) ?_
        refine ih (i + 1) _ _ (by omega) hS2 (fun j hj => ?_)
        by_cases hji : j = i
        · rw [hji, va_up_self]; exact hr
        · rw [va_up_ne _ _ hji]; exact hce j (by omega)
  refine j_iload_n hC dX4_weighEnds_0 rfl ?_
  refine j_iconst hC (1) dX4_weighEnds_1 (by decide) ?_
  refine j_iadd hC dX4_weighEnds_2 ?_
  refine j_bipush hC (40) dX4_weighEnds_3 (by decide) ?_
  refine j_imul hC dX4_weighEnds_5 ?_
  refine J.toI (y := nI (40 * (k + 1))) (by rw [nI_1, show (40 : Int32) = nI 40 from by decide, nI_mul, Nat.mul_comm]) ?_
  refine j_istore_n (lv' := [some _, some _, some _, some _, none]) hC dX4_weighEnds_6 (nlt rfl) rfl ?_
  refine j_iconst hC (0) dX4_weighEnds_7 (by decide) ?_
  refine j_istore (lv' := [some _, some _, some _, some _, some _]) hC dX4_weighEnds_8 (nlt rfl) rfl ?_
  refine J.weak (l' := [some (.ref (ad 9 0)), some (.int (nI k)), some (.int (nI e)), some (.int (nI (40 * (k + 1)))), some (.int (nI (0)))]) (⟨rfl, rfl, rfl, rfl, rfl, trivial⟩) ?_
  exact loop (40 * (k + 1) + 1) 0 w z.2.2.1 (by omega) hS (fun j hj => by omega)

set_option maxRecDepth 100000 in
set_option maxHeartbeats 4000000 in
theorem c_cheapest (K : Kx) {w : Wd} {O : Nat → Prop} {ad : Nat → Nat → Nat} {z : Zx} {np : Nat} {S : Ast} (a b : Nat) (h : Int32) (hA : SA K.2.1 w O ad z np S) (hab : a ≤ b) (hb : b ≤ 400) (hh : (¬ h ≤ nI b) ∨ ∃ hh : Nat, h = nI hh ∧ a ≤ hh ∧ hh ≤ b ∧ ∀ y, a + 1 ≤ y → y ≤ b → (z.2.2.1 hh).toInt ≤ (z.2.2.1 y).toInt) : MT K mX4_cheapestEnd 0 0 0 [.ref (ad 9 0), .int (nI a), .int (nI b), .int h] w (PI fun r w' => (∃ x : Nat, r = nI x ∧ a ≤ x ∧ x ≤ b ∧ ∀ y, a ≤ y → y ≤ b → (z.2.2.1 x).toInt ≤ (z.2.2.1 y).toInt) ∧ w' = w) := by
  refine MT.of [some (.ref (ad 9 0)), some (.int (nI a)), some (.int (nI b)), some (.int h), none, none] (by decide) rfl (nle rfl) rfl ?_
  intro E hC hR
  have hS := SB.rf hA
  have loop : ∀ (n c i : Nat), i + n = b + 1 → a ≤ c → c < i → (∀ y, a ≤ y → y < i → (z.2.2.1 c).toInt ≤ (z.2.2.1 y).toInt) → J K cX4_cheapestEnd E 0 0 w 35 [some (.ref (ad 9 0)), some (.int (nI a)), some (.int (nI b)), none, some (.int (nI (c))), some (.int (nI (i)))] [] := by
    intro n
    induction n with
    | zero =>
      intro c i hi h1 h2 h3
      have hi2 : i = b + 1 := by omega
      subst hi2
      refine j_iload hC dX4_cheapestEnd_35 rfl ?_
      refine j_iload_n hC dX4_cheapestEnd_37 rfl ?_
      refine j_icmp_gt hC 69 dX4_cheapestEnd_38 (by decide) (fun c_38 => ?_) (fun c_38 => ?_)
      · refine j_iload hC dX4_cheapestEnd_69 rfl ?_
        exact j_iret hC hR dX4_cheapestEnd_71 rfl ⟨_, rfl, ⟨c, rfl, h1, by omega, fun y y1 y2 => h3 y y1 (by omega)⟩, rfl⟩
      · exact absurd (nI_lt (Nat.lt_succ_self b) (by omega)) c_38
    | succ n ih =>
      intro c i hi h1 h2 h3
      refine j_iload hC dX4_cheapestEnd_35 rfl ?_
      refine j_iload_n hC dX4_cheapestEnd_37 rfl ?_
      refine j_icmp_gt hC 69 dX4_cheapestEnd_38 (by decide) (fun c_38 => ?_) (fun c_38 => ?_)
      · exact absurd c_38 (fun q => by rw [nI_ltI (by omega) (by omega)] at q; omega)
      · refine j_aload_n hC dX4_cheapestEnd_41 rfl ?_
        refine j_get hC cfX4 dX4_cheapestEnd_42 fX4_21 (by decide) hS.1.line rfl ?_
        refine j_iload hC dX4_cheapestEnd_45 rfl ?_
        refine j_aldJ hC dX4_cheapestEnd_47 hS.1.ce (ix_nI (n := 401) (by omega) (by omega)) ?_
        refine j_aload_n hC dX4_cheapestEnd_48 rfl ?_
        refine j_get hC cfX4 dX4_cheapestEnd_49 fX4_21 (by decide) hS.1.line rfl ?_
        refine j_iload hC dX4_cheapestEnd_52 rfl ?_
        refine j_aldJ hC dX4_cheapestEnd_54 hS.1.ce (ix_nI (n := 401) (by omega) (by omega)) ?_
        refine j_lcmp_ge hC 63 dX4_cheapestEnd_55 dX4_cheapestEnd_56 (by decide) (fun c_55 => ?_) (fun c_55 => ?_)
        · refine j_iinc (v := nI (i + 1)) (lv' := [some _, some _, some _, none, some _, some _]) hC dX4_cheapestEnd_63 rfl (nI_i1 i) (nlt rfl) rfl ?_
          refine j_goto hC 35 dX4_cheapestEnd_66 (by decide) ?_
          first | (refine ih i (i + 1) (by omega) (by omega) (by omega) (fun y y1 y2 => ?_); have hlt := Int.not_le.mp (fun q => c_55 (Int64.le_iff_toInt_le.mpr q)); by_cases hy : y = i; (· rw [hy]; exact Int.le_refl _); exact Int.le_of_lt (Int.lt_of_lt_of_le hlt (h3 y y1 (by omega)))) | (refine ih c (i + 1) (by omega) h1 (by omega) (fun y y1 y2 => ?_); have hle := Int64.le_iff_toInt_le.mp c_55; by_cases hy : y = i; (· rw [hy]; exact hle); exact h3 y y1 (by omega))
        · refine j_iload hC dX4_cheapestEnd_59 rfl ?_
          refine j_istore (lv' := [some _, some _, some _, none, some _, some _]) hC dX4_cheapestEnd_61 (nlt rfl) rfl ?_
          refine j_iinc (v := nI (i + 1)) (lv' := [some _, some _, some _, none, some _, some _]) hC dX4_cheapestEnd_63 rfl (nI_i1 i) (nlt rfl) rfl ?_
          refine j_goto hC 35 dX4_cheapestEnd_66 (by decide) ?_
          first | (refine ih i (i + 1) (by omega) (by omega) (by omega) (fun y y1 y2 => ?_); have hlt := Int.not_le.mp (fun q => c_55 (Int64.le_iff_toInt_le.mpr q)); by_cases hy : y = i; (· rw [hy]; exact Int.le_refl _); exact Int.le_of_lt (Int.lt_of_lt_of_le hlt (h3 y y1 (by omega)))) | (refine ih c (i + 1) (by omega) h1 (by omega) (fun y y1 y2 => ?_); have hle := Int64.le_iff_toInt_le.mp c_55; by_cases hy : y = i; (· rw [hy]; exact hle); exact h3 y y1 (by omega))
  refine j_iload_n hC dX4_cheapestEnd_0 rfl ?_
  refine j_iload_n hC dX4_cheapestEnd_1 rfl ?_
  refine j_icmp_gt hC 27 dX4_cheapestEnd_2 (by decide) (fun c_2 => ?_) (fun c_2 => ?_)
  · refine j_iload_n hC dX4_cheapestEnd_27 rfl ?_
    refine j_istore (lv' := [some _, some _, some _, some _, some _, none]) hC dX4_cheapestEnd_28 (nlt rfl) rfl ?_
    refine j_iload_n hC dX4_cheapestEnd_30 rfl ?_
    refine j_iconst hC (1) dX4_cheapestEnd_31 (by decide) ?_
    refine j_iadd hC dX4_cheapestEnd_32 ?_
    refine J.toI (nI_1 a) ?_
    refine j_istore (lv' := [some _, some _, some _, some _, some _, some _]) hC dX4_cheapestEnd_33 (nlt rfl) rfl ?_
    refine J.weak (l' := [some (.ref (ad 9 0)), some (.int (nI a)), some (.int (nI b)), none, some (.int (nI (a))), some (.int (nI (a + 1)))]) (⟨rfl, rfl, rfl, rfl, rfl, trivial⟩) ?_
    exact loop (b - a) a (a + 1) (by omega) (Nat.le_refl _) (by omega) (fun y y1 y2 => by rw [show y = a by omega]; exact Int.le_refl _)
  · obtain ⟨g0, rfl, hh1, hh2, hh3⟩ : ∃ g0 : Nat, h = nI g0 ∧ a ≤ g0 ∧ g0 ≤ b ∧ ∀ y, a + 1 ≤ y → y ≤ b → (z.2.2.1 g0).toInt ≤ (z.2.2.1 y).toInt := by
      rcases hh with q | q
      · exact absurd (Int32.le_iff_toInt_le.mpr (Int.not_lt.mp (fun z => c_2 (Int32.lt_iff_toInt_lt.mpr z)))) q
      · exact q
    refine j_aload_n hC dX4_cheapestEnd_5 rfl ?_
    refine j_get hC cfX4 dX4_cheapestEnd_6 fX4_21 (by decide) hS.1.line rfl ?_
    refine j_iload_n hC dX4_cheapestEnd_9 rfl ?_
    refine j_aldJ hC dX4_cheapestEnd_10 hS.1.ce (ix_nI (n := 401) (by omega) (by omega)) ?_
    refine j_aload_n hC dX4_cheapestEnd_11 rfl ?_
    refine j_get hC cfX4 dX4_cheapestEnd_12 fX4_21 (by decide) hS.1.line rfl ?_
    refine j_iload_n hC dX4_cheapestEnd_15 rfl ?_
    refine j_aldJ hC dX4_cheapestEnd_16 hS.1.ce (ix_nI (n := 401) (by omega) (by omega)) ?_
    refine j_lcmp_gt hC 25 dX4_cheapestEnd_17 dX4_cheapestEnd_18 (by decide) (fun c_17 => ?_) (fun c_17 => ?_)
    · refine j_iload_n hC dX4_cheapestEnd_25 rfl ?_
      first | (have hlt := Int64.lt_iff_toInt_lt.mp c_17; exact j_iret hC hR dX4_cheapestEnd_26 rfl ⟨_, rfl, ⟨g0, rfl, hh1, hh2, fun y y1 y2 => if hy : y = a then (by rw [hy]; exact Int.le_of_lt hlt) else hh3 y (by omega) y2⟩, rfl⟩) | (have hle := Int.not_lt.mp (fun q => c_17 (Int64.lt_iff_toInt_lt.mpr q)); exact j_iret hC hR dX4_cheapestEnd_26 rfl ⟨_, rfl, ⟨a, rfl, Nat.le_refl _, hab, fun y y1 y2 => if hy : y = a then (by rw [hy]; exact Int.le_refl _) else Int.le_trans hle (hh3 y (by omega) y2)⟩, rfl⟩)
    · refine j_iload_n hC dX4_cheapestEnd_21 rfl ?_
      refine j_goto hC 26 dX4_cheapestEnd_22 (by decide) ?_
      first | (have hlt := Int64.lt_iff_toInt_lt.mp c_17; exact j_iret hC hR dX4_cheapestEnd_26 rfl ⟨_, rfl, ⟨g0, rfl, hh1, hh2, fun y y1 y2 => if hy : y = a then (by rw [hy]; exact Int.le_of_lt hlt) else hh3 y (by omega) y2⟩, rfl⟩) | (have hle := Int.not_lt.mp (fun q => c_17 (Int64.lt_iff_toInt_lt.mpr q)); exact j_iret hC hR dX4_cheapestEnd_26 rfl ⟨_, rfl, ⟨a, rfl, Nat.le_refl _, hab, fun y y1 y2 => if hy : y = a then (by rw [hy]; exact Int.le_refl _) else Int.le_trans hle (hh3 y (by omega) y2)⟩, rfl⟩)

