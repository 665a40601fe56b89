
theorem wI_out {x : Int32} {N : Int} {H : Int32} (hH : H.toInt = N) (h : x.toInt < 0 ∨ N < x.toInt) : wI x 0 H = 0 := by
  unfold wI
  have e0 : (0 : Int32).toInt = 0 := by decide
  by_cases h1 : x < 0
  · rw [if_pos h1]
  · rw [if_neg h1, if_pos]
    rw [Int32.lt_iff_toInt_lt] at h1 ⊢
    omega
theorem wI_m1 (c : Int32) : wI c (-1) 7 = 0 ↔ (¬ c = -1 ∧ wI c 0 7 = 0) := by
  unfold wI
  have e0 : (0 : Int32).toInt = 0 := by decide
  have e1 : (-1 : Int32).toInt = -1 := by decide
  have e7 : (7 : Int32).toInt = 7 := by decide
  simp only [Int32.lt_iff_toInt_lt, ← Int32.toInt_inj, e0, e1, e7]
  constructor
  · intro h
    split at h
    · refine ⟨by omega, ?_⟩
      rw [if_pos (by omega)]; exact e0
    · split at h
      · refine ⟨by omega, ?_⟩
        rw [if_neg (by omega), if_pos (by omega)]; exact e0
      · exact absurd h (by decide)
  · rintro ⟨h1, h2⟩
    split at h2
    · rw [if_pos (by omega)]; exact e0
    · split at h2
      · rw [if_neg (by omega), if_pos (by omega)]; exact e0
      · exact absurd h2 (by decide)

set_option maxRecDepth 100000 in
set_option maxHeartbeats 4000000 in
theorem c_isNode (K : Kx) {w : Wd} {O : Nat → Prop} {ad : Nat → Nat → Nat} {z : Zx} {np : Nat} {S : Ast} (k : Int32) (hA : SA K.2.1 w O ad z np S) (h1 : CN S 1 24) : MT K mX9_isNode 1 0 0 [.ref (ad 0 0), .int k] w (PI fun r w' => r = wI k 0 (S.1 1 0 - 1) ∧ w' = w) := by
  refine MT.of [some (.ref (ad 0 0)), some (.int k)] (by decide) rfl (nle rfl) rfl ?_
  intro E hC hR
  have hS := SB.rf hA
  refine j_iload_n hC dX9_isNode_0 rfl ?_
  refine j_iconst hC (0) dX9_isNode_1 (by decide) ?_
  refine j_aload_n hC dX9_isNode_2 rfl ?_
  refine j_get hC cfX9 dX9_isNode_3 fX9_10 (by decide) hS.1.x rfl ?_
  obtain ⟨mc1, hl1⟩ := (hS.1.lst (j := 1) (by decide)).sz
  refine j_callv (kc' := 0) (ks' := 0) (r := (RJx4a65c, TJx4a65c, 3)) hC (c_lsize K (hS.1.lst (j := 1) (by decide))) dX9_isNode_6 wJx4a65c_size_8abf5 lX9_59 i_yJx4a65c_size_8abf5 s_yJx4a65c_size_8abf5 hl1 rfl rfl rfl (nle rfl) rfl (by decide) (by decide) (by decide) (kI fun r w' hp => ?_)
  obtain ⟨rfl, hw⟩ := hp
  rw [hw]
  clear hw w'
  refine J.toI (y := S.1 1 0) (((congrArg nI (vN_e1 S np))).trans h1.1.symm) ?_
  refine j_iconst hC (1) dX9_isNode_9 (by decide) ?_
  refine j_isub hC dX9_isNode_10 ?_
  refine j_calls (kc' := 0) (ks' := 0) hC (c_isWithin K k 0 (S.1 1 0 - 1)) dX9_isNode_11 wX9_isWithin lX9_68 t_yX9_isWithin rfl rfl (nle rfl) rfl (by decide) (by decide) (by decide) (kI fun r w' hp => ?_)
  obtain ⟨rfl, hw⟩ := hp
  rw [hw]
  clear hw w'
  exact j_zret hC hR dX9_isNode_14 rfl (wI_nar _ _ _) ⟨_, rfl, rfl, rfl⟩

def w2 (S : Ast) (a b : Int32) : Int32 := if wI a 0 (S.1 1 0 - 1) = 0 then 0 else if wI b 0 (S.1 1 0 - 1) = 0 then 0 else if a = b then 0 else 1
set_option maxRecDepth 100000 in
set_option maxHeartbeats 4000000 in
theorem c_two (K : Kx) {w : Wd} {O : Nat → Prop} {ad : Nat → Nat → Nat} {z : Zx} {np : Nat} {S : Ast} (a b : Int32) (hA : SA K.2.1 w O ad z np S) (h1 : CN S 1 24) : MT K mX9_areTwoNodes 2 0 0 [.ref (ad 0 0), .int a, .int b] w (PI fun r w' => r = w2 S a b ∧ w' = w) := by
  refine MT.of [some (.ref (ad 0 0)), some (.int a), some (.int b)] (by decide) rfl (nle rfl) rfl ?_
  intro E hC hR
  have hS := SB.rf hA
  refine j_aload_n hC dX9_areTwoNodes_0 rfl ?_
  refine j_iload_n hC dX9_areTwoNodes_1 rfl ?_
  refine j_callv (kc' := 0) (ks' := 0) (r := (RX9, TX9, 14)) hC (c_isNode K a hS.1 h1) dX9_areTwoNodes_2 wX9_isNode lX9_94 i_yX9_isNode s_yX9_isNode hS.1.x rfl rfl rfl (nle rfl) rfl (by decide) (by decide) (by decide) (kI fun r w' hp => ?_)
  obtain ⟨rfl, hw⟩ := hp
  rw [hw]
  clear hw w'
  refine j_if_eq hC 25 dX9_areTwoNodes_5 (by decide) (fun c_5 => ?_) (fun c_5 => ?_)
  · refine j_iconst hC (0) dX9_areTwoNodes_25 (by decide) ?_
    exact j_zret hC hR dX9_areTwoNodes_26 rfl (by decide) ⟨_, rfl, by simp [w2, c_5], rfl⟩
  · refine j_aload_n hC dX9_areTwoNodes_8 rfl ?_
    refine j_iload_n hC dX9_areTwoNodes_9 rfl ?_
    refine j_callv (kc' := 0) (ks' := 0) (r := (RX9, TX9, 14)) hC (c_isNode K b hS.1 h1) dX9_areTwoNodes_10 wX9_isNode lX9_94 i_yX9_isNode s_yX9_isNode hS.1.x rfl rfl rfl (nle rfl) rfl (by decide) (by decide) (by decide) (kI fun r w' hp => ?_)
    obtain ⟨rfl, hw⟩ := hp
    rw [hw]
    clear hw w'
    refine j_if_eq hC 25 dX9_areTwoNodes_13 (by decide) (fun c_13 => ?_) (fun c_13 => ?_)
    · refine j_iconst hC (0) dX9_areTwoNodes_25 (by decide) ?_
      exact j_zret hC hR dX9_areTwoNodes_26 rfl (by decide) ⟨_, rfl, by simp [w2, c_5, c_13], rfl⟩
    · refine j_iload_n hC dX9_areTwoNodes_16 rfl ?_
      refine j_iload_n hC dX9_areTwoNodes_17 rfl ?_
      refine j_icmp_eq hC 25 dX9_areTwoNodes_18 (by decide) (fun c_18 => ?_) (fun c_18 => ?_)
      · refine j_iconst hC (0) dX9_areTwoNodes_25 (by decide) ?_
        exact j_zret hC hR dX9_areTwoNodes_26 rfl (by decide) ⟨_, rfl, by simp [w2, c_5, c_13, c_18], rfl⟩
      · refine j_iconst hC (1) dX9_areTwoNodes_21 (by decide) ?_
        refine j_goto hC 26 dX9_areTwoNodes_22 (by decide) ?_
        exact j_zret hC hR dX9_areTwoNodes_26 rfl (by decide) ⟨_, rfl, by simp [w2, c_5, c_13, c_18], rfl⟩

set_option maxRecDepth 100000 in
set_option maxHeartbeats 4000000 in
theorem c_told (K : Kx) {w : Wd} {O : Nat → Prop} {ad : Nat → Nat → Nat} {z : Zx} {np : Nat} {S : Ast} (k x : Int32) (hA : SA K.2.1 w O ad z np S) (h1 : CN S 1 24) (hro : ∀ j, j < cn S 1 → ¬ (S.1 4 j).toInt64 = 0) : MT K mX9_told 3 0 0 [.ref (ad 0 0), .int k, .int x] w (PL fun r w' => r = (if okT S k x then rT S k.toNatClampNeg x else (-1099511627776)) ∧ w' = w) := by
  refine MT.of [some (.ref (ad 0 0)), some (.int k), some (.int x), none] (by decide) rfl (nle rfl) rfl ?_
  intro E hC hR
  have hS := SB.rf hA
  refine j_aload_n hC dX9_told_0 rfl ?_
  refine j_iload_n hC dX9_told_1 rfl ?_
  refine j_callv (kc' := 0) (ks' := 0) (r := (RX9, TX9, 14)) hC (c_isNode K k hS.1 h1) dX9_told_2 wX9_isNode lX9_94 i_yX9_isNode s_yX9_isNode hS.1.x rfl rfl rfl (nle rfl) rfl (by decide) (by decide) (by decide) (kI fun r w' hp => ?_)
  obtain ⟨rfl, hw⟩ := hp
  rw [hw]
  clear hw w'
  refine j_if_ne hC 12 dX9_told_5 (by decide) (fun c_5 => ?_) (fun c_5 => ?_)
  · obtain ⟨hk, hlt, hx⟩ := isn h1 c_5
    refine j_aload_n hC dX9_told_12 rfl ?_
    refine j_get hC cfX9 dX9_told_13 fX9_10 (by decide) hS.1.x rfl ?_
    refine j_iload_n hC dX9_told_16 rfl ?_
    refine J.toI hk ?_
    obtain ⟨mc1, hl1⟩ := (hS.1.lst (j := 1) (by decide)).sz
    refine j_callv (kc' := 0) (ks' := 0) (r := (RJx4a65c, TJx4a65c, 3)) hC (c_get K (hS.1.lst (j := 1) (by decide)) (by rw [vN_e1]; exact hlt)) dX9_told_17 wJx4a65c_get_915e3 lX9_87 i_yJx4a65c_get_915e3 s_yJx4a65c_get_915e3 hl1 rfl rfl rfl (nle rfl) rfl (by decide) (by decide) (by decide) (kA fun r w' hp => ?_)
    obtain ⟨rfl, hw⟩ := hp
    rw [hw]
    clear hw w'
    refine j_cast (r := (RX5, TX5, 8)) hC dX9_told_20 kX9_72 (hS.1.node hlt) rfl ?_
    refine j_astore_n (lv' := [some _, some _, some _, some _]) hC dX9_told_23 (nlt rfl) rfl ?_
    refine j_iload_n hC dX9_told_24 rfl ?_
    rcases tab_cases x 4 (by omega) 3 (by decide) with h | ⟨j, hj, rfl⟩
    · refine j_tableOut hC 76 dX9_told_25 h (by decide) ?_
      refine j_ldc2 hC dX9_told_76 nX9_130 ?_
      exact j_lret hC hR dX9_told_79 rfl ⟨_, rfl, by rw [if_neg (fun q => q.2 (wI_out (by decide) h))], rfl⟩
    · rcases (show j = 0 ∨ j = 1 ∨ j = 2 ∨ j = 3 by omega) with rfl | rfl | rfl | rfl
      · refine j_tableIn (off := 31) hC 56 dX9_told_25 (by decide) (by decide) (by decide) (by decide) ?_
        refine j_aload_n hC dX9_told_56 rfl ?_
        refine j_get hC cfX5 dX9_told_57 fX9_132 (by decide) (hS.1.node hlt) rfl ?_
        exact j_lret hC hR dX9_told_60 rfl ⟨_, rfl, by rw [if_pos ⟨c_5, by decide⟩]; rfl, rfl⟩
      · refine j_tableIn (off := 36) hC 61 dX9_told_25 (by decide) (by decide) (by decide) (by decide) ?_
        refine j_aload_n hC dX9_told_61 rfl ?_
        refine j_callv (kc' := 0) (ks' := 0) (r := (RX5, TX5, 8)) hC (c_levelNow K (hS.1.node hlt) (hro _ hlt)) dX9_told_62 wX5_levelNow lX9_136 i_yX5_levelNow s_yX5_levelNow (hS.1.node hlt) rfl rfl rfl (nle rfl) rfl (by decide) (by decide) (by decide) (kL fun r w' hp => ?_)
        obtain ⟨rfl, hw⟩ := hp
        rw [hw]
        clear hw w'
        exact j_lret hC hR dX9_told_65 rfl ⟨_, rfl, by rw [if_pos ⟨c_5, by decide⟩]; rfl, rfl⟩
      · refine j_tableIn (off := 41) hC 66 dX9_told_25 (by decide) (by decide) (by decide) (by decide) ?_
        refine j_aload_n hC dX9_told_66 rfl ?_
        refine j_get hC cfX5 dX9_told_67 fX9_140 (by decide) (hS.1.node hlt) rfl ?_
        exact j_lret hC hR dX9_told_70 rfl ⟨_, rfl, by rw [if_pos ⟨c_5, by decide⟩]; rfl, rfl⟩
      · refine j_tableIn (off := 46) hC 71 dX9_told_25 (by decide) (by decide) (by decide) (by decide) ?_
        refine j_aload_n hC dX9_told_71 rfl ?_
        refine j_get hC cfX5 dX9_told_72 fX9_143 (by decide) (hS.1.node hlt) rfl ?_
        exact j_lret hC hR dX9_told_75 rfl ⟨_, rfl, by rw [if_pos ⟨c_5, by decide⟩]; rfl, rfl⟩
  · refine j_ldc2 hC dX9_told_8 nX9_130 ?_
    exact j_lret hC hR dX9_told_11 rfl ⟨_, rfl, by rw [if_neg (fun q => q.1 c_5)], rfl⟩

set_option maxRecDepth 100000 in
set_option maxHeartbeats 4000000 in
theorem c_flow (K : Kx) {w : Wd} {O : Nat → Prop} {ad : Nat → Nat → Nat} {z : Zx} {np : Nat} {S : Ast} (k x : Int32) (hA : SA K.2.1 w O ad z np S) (h2 : CN S 10 40) : MT K mX9_flow 3 0 0 [.ref (ad 0 0), .int k, .int x] w (PL fun r w' => r = (if okF S k x then rF S k.toNatClampNeg x else (-1152921504606846976)) ∧ w' = w) := by
  refine MT.of [some (.ref (ad 0 0)), some (.int k), some (.int x), none] (by decide) rfl (nle rfl) rfl ?_
  intro E hC hR
  have hS := SB.rf hA
  refine j_iload_n hC dX9_flow_0 rfl ?_
  refine j_iconst hC (0) dX9_flow_1 (by decide) ?_
  refine j_aload_n hC dX9_flow_2 rfl ?_
  refine j_get hC cfX9 dX9_flow_3 fX9_16 (by decide) hS.1.x rfl ?_
  obtain ⟨mc1, hl1⟩ := (hS.1.lst (j := 2) (by decide)).sz
  refine j_callv (kc' := 0) (ks' := 0) (r := (RJx4a65c, TJx4a65c, 3)) hC (c_lsize K (hS.1.lst (j := 2) (by decide))) dX9_flow_6 wJx4a65c_size_8abf5 lX9_59 i_yJx4a65c_size_8abf5 s_yJx4a65c_size_8abf5 hl1 rfl rfl rfl (nle rfl) rfl (by decide) (by decide) (by decide) (kI fun r w' hp => ?_)
  obtain ⟨rfl, hw⟩ := hp
  rw [hw]
  clear hw w'
  refine J.toI (y := S.1 10 0) (((congrArg nI (vN_e2 S np))).trans h2.1.symm) ?_
  refine j_iconst hC (1) dX9_flow_9 (by decide) ?_
  refine j_isub hC dX9_flow_10 ?_
  refine j_calls (kc' := 0) (ks' := 0) hC (c_isWithin K k 0 (S.1 10 0 - 1)) dX9_flow_11 wX9_isWithin lX9_68 t_yX9_isWithin rfl rfl (nle rfl) rfl (by decide) (by decide) (by decide) (kI fun r w' hp => ?_)
  obtain ⟨rfl, hw⟩ := hp
  rw [hw]
  clear hw w'
  refine j_if_ne hC 21 dX9_flow_14 (by decide) (fun c_14 => ?_) (fun c_14 => ?_)
  · obtain ⟨hk, hlt, hx⟩ := wI_ix h2.2 (by omega) (show ¬ wI k 0 (nI (cn S 10) - 1) = 0 by rw [← h2.1]; exact c_14)
    refine j_aload_n hC dX9_flow_21 rfl ?_
    refine j_get hC cfX9 dX9_flow_22 fX9_16 (by decide) hS.1.x rfl ?_
    refine j_iload_n hC dX9_flow_25 rfl ?_
    refine J.toI hk ?_
    obtain ⟨mc2, hl2⟩ := (hS.1.lst (j := 2) (by decide)).sz
    refine j_callv (kc' := 0) (ks' := 0) (r := (RJx4a65c, TJx4a65c, 3)) hC (c_get K (hS.1.lst (j := 2) (by decide)) (by rw [vN_e2]; exact hlt)) dX9_flow_26 wJx4a65c_get_915e3 lX9_87 i_yJx4a65c_get_915e3 s_yJx4a65c_get_915e3 hl2 rfl rfl rfl (nle rfl) rfl (by decide) (by decide) (by decide) (kA fun r w' hp => ?_)
    obtain ⟨rfl, hw⟩ := hp
    rw [hw]
    clear hw w'
    refine j_cast (r := (RX7, TX7, 7)) hC dX9_flow_29 kX9_85 (hS.1.pipe hlt) rfl ?_
    refine j_astore_n (lv' := [some _, some _, some _, some _]) hC dX9_flow_32 (nlt rfl) rfl ?_
    refine j_iload_n hC dX9_flow_33 rfl ?_
    rcases tab_cases x 3 (by omega) 2 (by decide) with h | ⟨j, hj, rfl⟩
    · refine j_tableOut hC 75 dX9_flow_34 h (by decide) ?_
      refine j_ldc2 hC dX9_flow_75 nX9_146 ?_
      exact j_lret hC hR dX9_flow_78 rfl ⟨_, rfl, by rw [if_neg (fun q => q.2 (wI_out (by decide) h))], rfl⟩
    · rcases (show j = 0 ∨ j = 1 ∨ j = 2 by omega) with rfl | rfl | rfl
      · refine j_tableIn (off := 26) hC 60 dX9_flow_34 (by decide) (by decide) (by decide) (by decide) ?_
        refine j_aload_n hC dX9_flow_60 rfl ?_
        refine j_get hC cfX7 dX9_flow_61 fX9_148 (by decide) (hS.1.pipe hlt) rfl ?_
        exact j_lret hC hR dX9_flow_64 rfl ⟨_, rfl, by rw [if_pos ⟨c_14, by decide⟩]; rfl, rfl⟩
      · refine j_tableIn (off := 31) hC 65 dX9_flow_34 (by decide) (by decide) (by decide) (by decide) ?_
        refine j_aload_n hC dX9_flow_65 rfl ?_
        refine j_get hC cfX7 dX9_flow_66 fX9_151 (by decide) (hS.1.pipe hlt) rfl ?_
        exact j_lret hC hR dX9_flow_69 rfl ⟨_, rfl, by rw [if_pos ⟨c_14, by decide⟩]; rfl, rfl⟩
      · refine j_tableIn (off := 36) hC 70 dX9_flow_34 (by decide) (by decide) (by decide) (by decide) ?_
        refine j_aload_n hC dX9_flow_70 rfl ?_
        refine j_get hC cfX7 dX9_flow_71 fX9_154 (by decide) (hS.1.pipe hlt) rfl ?_
        exact j_lret hC hR dX9_flow_74 rfl ⟨_, rfl, by rw [if_pos ⟨c_14, by decide⟩]; rfl, rfl⟩
  · refine j_ldc2 hC dX9_flow_17 nX9_146 ?_
    exact j_lret hC hR dX9_flow_20 rfl ⟨_, rfl, by rw [if_neg (fun q => q.1 c_14)], rfl⟩

set_option maxRecDepth 100000 in
set_option maxHeartbeats 4000000 in
theorem c_cell (K : Kx) {w : Wd} {O : Nat → Prop} {ad : Nat → Nat → Nat} {z : Zx} {np : Nat} {S : Ast} (k : Int32) (hA : SA K.2.1 w O ad z np S)  : MT K mX9_cell 2 0 0 [.ref (ad 0 0), .int k] w (PL fun r w' => r = (if wI k 0 7 = 0 then (-1) else S.2 39 k.toNatClampNeg) ∧ w' = w) := by
  refine MT.of [some (.ref (ad 0 0)), some (.int k)] (by decide) rfl (nle rfl) rfl ?_
  intro E hC hR
  have hS := SB.rf hA
  refine j_iload_n hC dX9_cell_0 rfl ?_
  refine j_calls (kc' := 0) (ks' := 0) hC (c_isCell K k) dX9_cell_1 wX9_isCell lX9_112 t_yX9_isCell rfl rfl (nle rfl) rfl (by decide) (by decide) (by decide) (kI fun r w' hp => ?_)
  obtain ⟨rfl, hw⟩ := hp
  rw [hw]
  clear hw w'
  refine j_if_eq hC 16 dX9_cell_4 (by decide) (fun c_4 => ?_) (fun c_4 => ?_)
  · refine j_ldc2 hC dX9_cell_16 nX9_157 ?_
    exact j_lret hC hR dX9_cell_19 rfl ⟨_, rfl, by simp [c_4], rfl⟩
  · have hx := (wI_ix (n := 8) (b := 8) (Nat.le_refl _) (by omega) (show ¬ wI k 0 (nI 8 - 1) = 0 from c_4)).2.2
    refine j_aload_n hC dX9_cell_7 rfl ?_
    refine j_get hC cfX9 dX9_cell_8 fX9_35 (by decide) hS.1.x rfl ?_
    refine j_iload_n hC dX9_cell_11 rfl ?_
    refine j_aldJ hC dX9_cell_12 hS.1.cells (hx) ?_
    refine j_goto hC 19 dX9_cell_13 (by decide) ?_
    exact j_lret hC hR dX9_cell_19 rfl ⟨_, rfl, by simp [c_4], rfl⟩

set_option maxRecDepth 100000 in
set_option maxHeartbeats 4000000 in
theorem c_pumps (K : Kx) {w : Wd} {O : Nat → Prop} {ad : Nat → Nat → Nat} {z : Zx} {np : Nat} {S : Ast} (k : Int32) (hA : SA K.2.1 w O ad z np S) (h2 : CN S 24 8) : MT K mX9_pumps 3 0 0 [.ref (ad 0 0), .int k] w (PI fun r w' => r = (if wI k 0 (S.1 24 0 - 1) = 0 then (-1) else if S.1 30 k.toNatClampNeg = 0 then 0 else 1) ∧ w' = w) := by
  refine MT.of [some (.ref (ad 0 0)), some (.int k)] (by decide) rfl (nle rfl) rfl ?_
  intro E hC hR
  have hS := SB.rf hA
  refine j_iload_n hC dX9_pumps_0 rfl ?_
  refine j_iconst hC (0) dX9_pumps_1 (by decide) ?_
  refine j_aload_n hC dX9_pumps_2 rfl ?_
  refine j_get hC cfX9 dX9_pumps_3 fX9_22 (by decide) hS.1.x rfl ?_
  obtain ⟨mc1, hl1⟩ := (hS.1.lst (j := 4) (by decide)).sz
  refine j_callv (kc' := 0) (ks' := 0) (r := (RJx4a65c, TJx4a65c, 3)) hC (c_lsize K (hS.1.lst (j := 4) (by decide))) dX9_pumps_6 wJx4a65c_size_8abf5 lX9_59 i_yJx4a65c_size_8abf5 s_yJx4a65c_size_8abf5 hl1 rfl rfl rfl (nle rfl) rfl (by decide) (by decide) (by decide) (kI fun r w' hp => ?_)
  obtain ⟨rfl, hw⟩ := hp
  rw [hw]
  clear hw w'
  refine J.toI (y := S.1 24 0) (((congrArg nI (vN_e4 S np))).trans h2.1.symm) ?_
  refine j_iconst hC (1) dX9_pumps_9 (by decide) ?_
  refine j_isub hC dX9_pumps_10 ?_
  refine j_calls (kc' := 0) (ks' := 0) hC (c_isWithin K k 0 (S.1 24 0 - 1)) dX9_pumps_11 wX9_isWithin lX9_68 t_yX9_isWithin rfl rfl (nle rfl) rfl (by decide) (by decide) (by decide) (kI fun r w' hp => ?_)
  obtain ⟨rfl, hw⟩ := hp
  rw [hw]
  clear hw w'
  refine j_if_ne hC 19 dX9_pumps_14 (by decide) (fun c_14 => ?_) (fun c_14 => ?_)
  · obtain ⟨hk, hlt, hx⟩ := wI_ix h2.2 (by omega) (show ¬ wI k 0 (nI (cn S 24) - 1) = 0 by rw [← h2.1]; exact c_14)
    refine j_aload_n hC dX9_pumps_19 rfl ?_
    refine j_get hC cfX9 dX9_pumps_20 fX9_22 (by decide) hS.1.x rfl ?_
    refine j_iload_n hC dX9_pumps_23 rfl ?_
    refine J.toI hk ?_
    obtain ⟨mc2, hl2⟩ := (hS.1.lst (j := 4) (by decide)).sz
    refine j_callv (kc' := 0) (ks' := 0) (r := (RJx4a65c, TJx4a65c, 3)) hC (c_get K (hS.1.lst (j := 4) (by decide)) (by rw [vN_e4]; exact hlt)) dX9_pumps_24 wJx4a65c_get_915e3 lX9_87 i_yJx4a65c_get_915e3 s_yJx4a65c_get_915e3 hl2 rfl rfl rfl (nle rfl) rfl (by decide) (by decide) (by decide) (kA fun r w' hp => ?_)
    obtain ⟨rfl, hw⟩ := hp
    rw [hw]
    clear hw w'
    refine j_cast (r := (RX8, TX8, 6)) hC dX9_pumps_27 kX9_103 (hS.1.pump hlt) rfl ?_
    refine j_get hC cfX8 dX9_pumps_30 fX9_159 (by decide) (hS.1.pump hlt) rfl ?_
    refine j_if_eq hC 40 dX9_pumps_33 (by decide) (fun c_33 => ?_) (fun c_33 => ?_)
    · refine j_iconst hC (0) dX9_pumps_40 (by decide) ?_
      exact j_iret hC hR dX9_pumps_41 rfl ⟨_, rfl, by rw [if_neg c_14]; simp [c_33], rfl⟩
    · refine j_iconst hC (1) dX9_pumps_36 (by decide) ?_
      refine j_goto hC 41 dX9_pumps_37 (by decide) ?_
      exact j_iret hC hR dX9_pumps_41 rfl ⟨_, rfl, by rw [if_neg c_14]; simp [c_33], rfl⟩
  · refine j_iconst hC (-1) dX9_pumps_17 (by decide) ?_
    exact j_iret hC hR dX9_pumps_18 rfl ⟨_, rfl, by rw [if_pos c_14], rfl⟩

set_option maxRecDepth 100000 in
set_option maxHeartbeats 4000000 in
theorem c_litres (K : Kx) {w : Wd} {O : Nat → Prop} {ad : Nat → Nat → Nat} {z : Zx} {np : Nat} {S : Ast} (x : Int32) (hA : SA K.2.1 w O ad z np S) (h1 : CN S 1 24) : MT K mX9_litres 4 0 0 [.ref (ad 0 0), .int x] w (PL fun r w' => r = rLit S x ∧ w' = w) := by
  refine MT.of [some (.ref (ad 0 0)), some (.int x)] (by decide) rfl (nle rfl) rfl ?_
  intro E hC hR
  have hS := SB.rf hA
  refine j_iload_n hC dX9_litres_0 rfl ?_
  rcases tab_cases x 5 (by omega) 4 (by decide) with h | ⟨j, hj, rfl⟩
  · refine j_tableOut hC 61 dX9_litres_1 h (by decide) ?_
    refine j_ldc2 hC dX9_litres_61 nX9_157 ?_
    exact j_lret hC hR dX9_litres_64 rfl ⟨_, rfl, by simp [rLit, out_ne h 0 (by decide) (by decide), out_ne h 1 (by decide) (by decide), out_ne h 2 (by decide) (by decide), out_ne h 3 (by decide) (by decide), out_ne h 4 (by decide) (by decide)], rfl⟩
  · rcases (show j = 0 ∨ j = 1 ∨ j = 2 ∨ j = 3 ∨ j = 4 by omega) with rfl | rfl | rfl | rfl | rfl
    · refine j_tableIn (off := 35) hC 36 dX9_litres_1 (by decide) (by decide) (by decide) (by decide) ?_
      refine j_aload_n hC dX9_litres_36 rfl ?_
      refine j_get hC cfX9 dX9_litres_37 fX9_163 (by decide) hS.1.x rfl ?_
      exact j_lret hC hR dX9_litres_40 rfl ⟨_, rfl, rfl, rfl⟩
    · refine j_tableIn (off := 40) hC 41 dX9_litres_1 (by decide) (by decide) (by decide) (by decide) ?_
      refine j_aload_n hC dX9_litres_41 rfl ?_
      refine j_callv (kc' := 0) (ks' := 0) (r := (RX9, TX9, 14)) hC (c_litN K hS.1 h1) dX9_litres_42 wX9_litresInNodes lX9_166 i_yX9_litresInNodes s_yX9_litresInNodes hS.1.x rfl rfl rfl (nle rfl) rfl (by decide) (by decide) (by decide) (kL fun r w' hp => ?_)
      obtain ⟨rfl, hw⟩ := hp
      rw [hw]
      clear hw w'
      exact j_lret hC hR dX9_litres_45 rfl ⟨_, rfl, rfl, rfl⟩
    · refine j_tableIn (off := 45) hC 46 dX9_litres_1 (by decide) (by decide) (by decide) (by decide) ?_
      refine j_aload_n hC dX9_litres_46 rfl ?_
      refine j_callv (kc' := 0) (ks' := 0) (r := (RX9, TX9, 14)) hC (c_litC K hS.1) dX9_litres_47 wX9_litresInCells lX9_169 i_yX9_litresInCells s_yX9_litresInCells hS.1.x rfl rfl rfl (nle rfl) rfl (by decide) (by decide) (by decide) (kL fun r w' hp => ?_)
      obtain ⟨rfl, hw⟩ := hp
      rw [hw]
      clear hw w'
      exact j_lret hC hR dX9_litres_50 rfl ⟨_, rfl, rfl, rfl⟩
    · refine j_tableIn (off := 50) hC 51 dX9_litres_1 (by decide) (by decide) (by decide) (by decide) ?_
      refine j_aload_n hC dX9_litres_51 rfl ?_
      refine j_get hC cfX9 dX9_litres_52 fX9_172 (by decide) hS.1.x rfl ?_
      exact j_lret hC hR dX9_litres_55 rfl ⟨_, rfl, rfl, rfl⟩
    · refine j_tableIn (off := 55) hC 56 dX9_litres_1 (by decide) (by decide) (by decide) (by decide) ?_
      refine j_aload_n hC dX9_litres_56 rfl ?_
      refine j_get hC cfX9 dX9_litres_57 fX9_175 (by decide) hS.1.x rfl ?_
      exact j_lret hC hR dX9_litres_60 rfl ⟨_, rfl, rfl, rfl⟩

set_option maxRecDepth 100000 in
set_option maxHeartbeats 4000000 in
theorem c_keeps (K : Kx) {w : Wd} {O : Nat → Prop} {ad : Nat → Nat → Nat} {z : Zx} {np : Nat} {S : Ast}  (hA : SA K.2.1 w O ad z np S) (h1 : CN S 1 24) : MT K mX9_keeps 4 0 0 [.ref (ad 0 0)] w (PI fun r w' => r = rKeep S ∧ w' = w) := by
  refine MT.of [some (.ref (ad 0 0))] (by decide) rfl (nle rfl) rfl ?_
  intro E hC hR
  have hS := SB.rf hA
  refine j_aload_n hC dX9_keeps_0 rfl ?_
  refine j_get hC cfX9 dX9_keeps_1 fX9_163 (by decide) hS.1.x rfl ?_
  refine j_aload_n hC dX9_keeps_4 rfl ?_
  refine j_callv (kc' := 0) (ks' := 0) (r := (RX9, TX9, 14)) hC (c_litN K hS.1 h1) dX9_keeps_5 wX9_litresInNodes lX9_166 i_yX9_litresInNodes s_yX9_litresInNodes hS.1.x rfl rfl rfl (nle rfl) rfl (by decide) (by decide) (by decide) (kL fun r w' hp => ?_)
  obtain ⟨rfl, hw⟩ := hp
  rw [hw]
  clear hw w'
  refine j_aload_n hC dX9_keeps_8 rfl ?_
  refine j_callv (kc' := 0) (ks' := 0) (r := (RX9, TX9, 14)) hC (c_litC K hS.1) dX9_keeps_9 wX9_litresInCells lX9_169 i_yX9_litresInCells s_yX9_litresInCells hS.1.x rfl rfl rfl (nle rfl) rfl (by decide) (by decide) (by decide) (kL fun r w' hp => ?_)
  obtain ⟨rfl, hw⟩ := hp
  rw [hw]
  clear hw w'
  refine j_ladd hC dX9_keeps_12 ?_
  refine j_aload_n hC dX9_keeps_13 rfl ?_
  refine j_get hC cfX9 dX9_keeps_14 fX9_172 (by decide) hS.1.x rfl ?_
  refine j_ladd hC dX9_keeps_17 ?_
  refine j_aload_n hC dX9_keeps_18 rfl ?_
  refine j_get hC cfX9 dX9_keeps_19 fX9_175 (by decide) hS.1.x rfl ?_
  refine j_ladd hC dX9_keeps_22 ?_
  refine j_lcmp_ne hC 31 dX9_keeps_23 dX9_keeps_24 (by decide) (fun c_23 => ?_) (fun c_23 => ?_)
  · refine j_iconst hC (0) dX9_keeps_31 (by decide) ?_
    exact j_zret hC hR dX9_keeps_32 rfl (by decide) ⟨_, rfl, by simp [rKeep, c_23], rfl⟩
  · refine j_iconst hC (1) dX9_keeps_27 (by decide) ?_
    refine j_goto hC 32 dX9_keeps_28 (by decide) ?_
    exact j_zret hC hR dX9_keeps_32 rfl (by decide) ⟨_, rfl, by simp [rKeep, c_23], rfl⟩

set_option maxRecDepth 100000 in
set_option maxHeartbeats 4000000 in
theorem c_count (K : Kx) {w : Wd} {O : Nat → Prop} {ad : Nat → Nat → Nat} {z : Zx} {np : Nat} {S : Ast} (x : Int32) (hA : SA K.2.1 w O ad z np S) (hW : WSt S) (h44 : CN S 44 6) : MT K mX9_count 1 0 0 [.ref (ad 0 0), .int x] w (PI fun r w' => r = rCnt S x ∧ w' = w) := by
  refine MT.of [some (.ref (ad 0 0)), some (.int x)] (by decide) rfl (nle rfl) rfl ?_
  intro E hC hR
  have hS := SB.rf hA
  refine j_iload_n hC dX9_count_0 rfl ?_
  rcases tab_cases x 9 (by omega) 8 (by decide) with h | ⟨j, hj, rfl⟩
  · refine j_tableOut hC 124 dX9_count_1 h (by decide) ?_
    refine j_iconst hC (-1) dX9_count_124 (by decide) ?_
    exact j_iret hC hR dX9_count_125 rfl ⟨_, rfl, by simp [rCnt, out_ne h 0 (by decide) (by decide), out_ne h 1 (by decide) (by decide), out_ne h 2 (by decide) (by decide), out_ne h 3 (by decide) (by decide), out_ne h 4 (by decide) (by decide), out_ne h 5 (by decide) (by decide), out_ne h 6 (by decide) (by decide), out_ne h 7 (by decide) (by decide), out_ne h 8 (by decide) (by decide)], rfl⟩
  · rcases (show j = 0 ∨ j = 1 ∨ j = 2 ∨ j = 3 ∨ j = 4 ∨ j = 5 ∨ j = 6 ∨ j = 7 ∨ j = 8 by omega) with rfl | rfl | rfl | rfl | rfl | rfl | rfl | rfl | rfl
    · refine j_tableIn (off := 51) hC 52 dX9_count_1 (by decide) (by decide) (by decide) (by decide) ?_
      refine j_aload_n hC dX9_count_52 rfl ?_
      refine j_get hC cfX9 dX9_count_53 fX9_10 (by decide) hS.1.x rfl ?_
      obtain ⟨mc1, hl1⟩ := (hS.1.lst (j := 1) (by decide)).sz
      refine j_callv (kc' := 0) (ks' := 0) (r := (RJx4a65c, TJx4a65c, 3)) hC (c_lsize K (hS.1.lst (j := 1) (by decide))) dX9_count_56 wJx4a65c_size_8abf5 lX9_59 i_yJx4a65c_size_8abf5 s_yJx4a65c_size_8abf5 hl1 rfl rfl rfl (nle rfl) rfl (by decide) (by decide) (by decide) (kI fun r w' hp => ?_)
      obtain ⟨rfl, hw⟩ := hp
      rw [hw]
      clear hw w'
      refine J.toI (y := S.1 1 0) ((congrArg nI (vN_e1 S np)).trans hW.1.1.1.symm) ?_
      exact j_iret hC hR dX9_count_59 rfl ⟨_, rfl, rfl, rfl⟩
    · refine j_tableIn (off := 59) hC 60 dX9_count_1 (by decide) (by decide) (by decide) (by decide) ?_
      refine j_aload_n hC dX9_count_60 rfl ?_
      refine j_get hC cfX9 dX9_count_61 fX9_16 (by decide) hS.1.x rfl ?_
      obtain ⟨mc2, hl2⟩ := (hS.1.lst (j := 2) (by decide)).sz
      refine j_callv (kc' := 0) (ks' := 0) (r := (RJx4a65c, TJx4a65c, 3)) hC (c_lsize K (hS.1.lst (j := 2) (by decide))) dX9_count_64 wJx4a65c_size_8abf5 lX9_59 i_yJx4a65c_size_8abf5 s_yJx4a65c_size_8abf5 hl2 rfl rfl rfl (nle rfl) rfl (by decide) (by decide) (by decide) (kI fun r w' hp => ?_)
      obtain ⟨rfl, hw⟩ := hp
      rw [hw]
      clear hw w'
      refine J.toI (y := S.1 10 0) ((congrArg nI (vN_e2 S np)).trans hW.1.2.1.1.symm) ?_
      exact j_iret hC hR dX9_count_67 rfl ⟨_, rfl, rfl, rfl⟩
    · refine j_tableIn (off := 67) hC 68 dX9_count_1 (by decide) (by decide) (by decide) (by decide) ?_
      refine j_aload_n hC dX9_count_68 rfl ?_
      refine j_get hC cfX9 dX9_count_69 fX9_19 (by decide) hS.1.x rfl ?_
      obtain ⟨mc3, hl3⟩ := (hS.1.lst (j := 3) (by decide)).sz
      refine j_callv (kc' := 0) (ks' := 0) (r := (RJx4a65c, TJx4a65c, 3)) hC (c_lsize K (hS.1.lst (j := 3) (by decide))) dX9_count_72 wJx4a65c_size_8abf5 lX9_59 i_yJx4a65c_size_8abf5 s_yJx4a65c_size_8abf5 hl3 rfl rfl rfl (nle rfl) rfl (by decide) (by decide) (by decide) (kI fun r w' hp => ?_)
      obtain ⟨rfl, hw⟩ := hp
      rw [hw]
      clear hw w'
      refine J.toI (y := S.1 18 0) ((congrArg nI (vN_e3 S np)).trans hW.1.2.2.1.1.symm) ?_
      exact j_iret hC hR dX9_count_75 rfl ⟨_, rfl, rfl, rfl⟩
    · refine j_tableIn (off := 75) hC 76 dX9_count_1 (by decide) (by decide) (by decide) (by decide) ?_
      refine j_aload_n hC dX9_count_76 rfl ?_
      refine j_get hC cfX9 dX9_count_77 fX9_22 (by decide) hS.1.x rfl ?_
      obtain ⟨mc4, hl4⟩ := (hS.1.lst (j := 4) (by decide)).sz
      refine j_callv (kc' := 0) (ks' := 0) (r := (RJx4a65c, TJx4a65c, 3)) hC (c_lsize K (hS.1.lst (j := 4) (by decide))) dX9_count_80 wJx4a65c_size_8abf5 lX9_59 i_yJx4a65c_size_8abf5 s_yJx4a65c_size_8abf5 hl4 rfl rfl rfl (nle rfl) rfl (by decide) (by decide) (by decide) (kI fun r w' hp => ?_)
      obtain ⟨rfl, hw⟩ := hp
      rw [hw]
      clear hw w'
      refine J.toI (y := S.1 24 0) ((congrArg nI (vN_e4 S np)).trans hW.1.2.2.2.1.1.symm) ?_
      exact j_iret hC hR dX9_count_83 rfl ⟨_, rfl, rfl, rfl⟩
    · refine j_tableIn (off := 83) hC 84 dX9_count_1 (by decide) (by decide) (by decide) (by decide) ?_
      refine j_aload_n hC dX9_count_84 rfl ?_
      refine j_get hC cfX9 dX9_count_85 fX9_25 (by decide) hS.1.x rfl ?_
      obtain ⟨mc5, hl5⟩ := (hS.1.lst (j := 5) (by decide)).sz
      refine j_callv (kc' := 0) (ks' := 0) (r := (RJx4a65c, TJx4a65c, 3)) hC (c_lsize K (hS.1.lst (j := 5) (by decide))) dX9_count_88 wJx4a65c_size_8abf5 lX9_59 i_yJx4a65c_size_8abf5 s_yJx4a65c_size_8abf5 hl5 rfl rfl rfl (nle rfl) rfl (by decide) (by decide) (by decide) (kI fun r w' hp => ?_)
      obtain ⟨rfl, hw⟩ := hp
      rw [hw]
      clear hw w'
      refine J.toI (y := S.1 31 0) ((congrArg nI (vN_e5 S np)).trans hW.1.2.2.2.2.1.1.symm) ?_
      exact j_iret hC hR dX9_count_91 rfl ⟨_, rfl, rfl, rfl⟩
    · refine j_tableIn (off := 91) hC 92 dX9_count_1 (by decide) (by decide) (by decide) (by decide) ?_
      refine j_aload_n hC dX9_count_92 rfl ?_
      refine j_get hC cfX9 dX9_count_93 fX9_28 (by decide) hS.1.x rfl ?_
      obtain ⟨mc6, hl6⟩ := (hS.1.lst (j := 6) (by decide)).sz
      refine j_callv (kc' := 0) (ks' := 0) (r := (RJx4a65c, TJx4a65c, 3)) hC (c_lsize K (hS.1.lst (j := 6) (by decide))) dX9_count_96 wJx4a65c_size_8abf5 lX9_59 i_yJx4a65c_size_8abf5 s_yJx4a65c_size_8abf5 hl6 rfl rfl rfl (nle rfl) rfl (by decide) (by decide) (by decide) (kI fun r w' hp => ?_)
      obtain ⟨rfl, hw⟩ := hp
      rw [hw]
      clear hw w'
      refine J.toI (y := S.1 35 0) ((congrArg nI (vN_e6 S np)).trans hW.1.2.2.2.2.2.1.symm) ?_
      exact j_iret hC hR dX9_count_99 rfl ⟨_, rfl, rfl, rfl⟩
    · refine j_tableIn (off := 99) hC 100 dX9_count_1 (by decide) (by decide) (by decide) (by decide) ?_
      refine j_aload_n hC dX9_count_100 rfl ?_
      refine j_get hC cfX9 dX9_count_101 fX9_42 (by decide) hS.1.x rfl ?_
      refine j_get hC cfX4 dX9_count_104 fX9_196 (by decide) hS.1.line rfl ?_
      obtain ⟨mc7, hl7⟩ := (hS.1.lst (j := 10) (by decide)).sz
      refine j_callv (kc' := 0) (ks' := 0) (r := (RJx4a65c, TJx4a65c, 3)) hC (c_lsize K (hS.1.lst (j := 10) (by decide))) dX9_count_107 wJx4a65c_size_8abf5 lX9_59 i_yJx4a65c_size_8abf5 s_yJx4a65c_size_8abf5 hl7 rfl rfl rfl (nle rfl) rfl (by decide) (by decide) (by decide) (kI fun r w' hp => ?_)
      obtain ⟨rfl, hw⟩ := hp
      rw [hw]
      clear hw w'
      refine J.toI (y := S.1 44 0) ((congrArg nI (vN_e10 S np)).trans h44.1.symm) ?_
      exact j_iret hC hR dX9_count_110 rfl ⟨_, rfl, rfl, rfl⟩
    · refine j_tableIn (off := 110) hC 111 dX9_count_1 (by decide) (by decide) (by decide) (by decide) ?_
      refine j_aload_n hC dX9_count_111 rfl ?_
      refine j_get hC cfX9 dX9_count_112 fX9_42 (by decide) hS.1.x rfl ?_
      refine j_get hC cfX4 dX9_count_115 fX9_199 (by decide) hS.1.line rfl ?_
      exact j_iret hC hR dX9_count_118 rfl ⟨_, rfl, rfl, rfl⟩
    · refine j_tableIn (off := 118) hC 119 dX9_count_1 (by decide) (by decide) (by decide) (by decide) ?_
      refine j_aload_n hC dX9_count_119 rfl ?_
      refine j_get hC cfX9 dX9_count_120 fX9_123 (by decide) hS.1.x rfl ?_
      exact j_iret hC hR dX9_count_123 rfl ⟨_, rfl, rfl, rfl⟩

set_option maxRecDepth 100000 in
set_option maxHeartbeats 4000000 in
theorem c_rain (K : Kx) {w : Wd} {O : Nat → Prop} {ad : Nat → Nat → Nat} {z : Zx} {np : Nat} {S : Ast} (mi v : Int32) (hA : SA K.2.1 w O ad z np S)  : MT K mX9_rain 1 0 0 [.ref (ad 0 0), .int mi, .int v] w (PI fun r w' => r = (if okR mi v then S.1 23 mi.toNatClampNeg else (-1)) ∧ SB K.2.1 w w' O ad z np (if okR mi v then uI S 23 mi.toNatClampNeg v else S)) := by
  refine MT.of [some (.ref (ad 0 0)), some (.int mi), some (.int v), none] (by decide) rfl (nle rfl) rfl ?_
  intro E hC hR
  have hS := SB.rf hA
  refine j_iload_n hC dX9_rain_0 rfl ?_
  refine j_iconst hC (0) dX9_rain_1 (by decide) ?_
  refine j_sipush hC (1439) dX9_rain_2 (by decide) ?_
  refine j_calls (kc' := 0) (ks' := 0) hC (c_isWithin K mi 0 1439) dX9_rain_5 wX9_isWithin lX9_68 t_yX9_isWithin rfl rfl (nle rfl) rfl (by decide) (by decide) (by decide) (kI fun r w' hp => ?_)
  obtain ⟨rfl, hw⟩ := hp
  rw [hw]
  clear hw w'
  refine j_if_eq hC 22 dX9_rain_8 (by decide) (fun c_8 => ?_) (fun c_8 => ?_)
  · refine j_iconst hC (-1) dX9_rain_22 (by decide) ?_
    have hok : ¬ okR mi v := by simp [okR, c_8, Int32.not_le, Int32.not_lt]
    exact j_iret hC hR dX9_rain_23 rfl ⟨_, rfl, by rw [if_neg hok], by rw [if_neg hok]; exact hS⟩
  · refine j_iload_n hC dX9_rain_11 rfl ?_
    refine j_iconst hC (0) dX9_rain_12 (by decide) ?_
    refine j_sipush hC (20000) dX9_rain_13 (by decide) ?_
    refine j_calls (kc' := 0) (ks' := 0) hC (c_isWithin K v 0 20000) dX9_rain_16 wX9_isWithin lX9_68 t_yX9_isWithin rfl rfl (nle rfl) rfl (by decide) (by decide) (by decide) (kI fun r w' hp => ?_)
    obtain ⟨rfl, hw⟩ := hp
    rw [hw]
    clear hw w'
    refine j_if_ne hC 24 dX9_rain_19 (by decide) (fun c_19 => ?_) (fun c_19 => ?_)
    · have hx : ix mi 1440 mi.toNatClampNeg := (wI_ix (n := 1440) (b := 1440) (Nat.le_refl _) (by omega) (show ¬ wI mi 0 (nI 1440 - 1) = 0 from c_8)).2.2
      refine j_aload_n hC dX9_rain_24 rfl ?_
      refine j_get hC cfX9 dX9_rain_25 fX9_31 (by decide) hS.1.x rfl ?_
      refine j_iload_n hC dX9_rain_28 rfl ?_
      refine j_aldI hC dX9_rain_29 hS.1.rains (hx) ?_
      refine j_istore_n (lv' := [some _, some _, some _, some _]) hC dX9_rain_30 (nlt rfl) rfl ?_
      refine j_aload_n hC dX9_rain_31 rfl ?_
      refine j_get hC cfX9 dX9_rain_32 fX9_31 (by decide) hS.1.x rfl ?_
      refine j_iload_n hC dX9_rain_35 rfl ?_
      refine j_iload_n hC dX9_rain_36 rfl ?_
      refine j_astI hC dX9_rain_37 hS.1.rains hx ?_
      refine J.gen (P := fun w' => SB K.2.1 w w' O ad z np (uI S 23 mi.toNatClampNeg v)) (hS.putRains _ _) (fun w2 hS => ?_)
      refine j_iload_n hC dX9_rain_38 rfl ?_
      have hok : okR mi v := by simp [okR, c_8, c_19, Int32.not_le, Int32.not_lt]
      exact j_iret hC hR dX9_rain_39 rfl ⟨_, rfl, by rw [if_pos hok], by rw [if_pos hok]; exact hS⟩
    · refine j_iconst hC (-1) dX9_rain_22 (by decide) ?_
      have hok : ¬ okR mi v := by simp [okR, c_8, c_19, Int32.not_le, Int32.not_lt]
      exact j_iret hC hR dX9_rain_23 rfl ⟨_, rfl, by rw [if_neg hok], by rw [if_neg hok]; exact hS⟩

set_option maxRecDepth 100000 in
set_option maxHeartbeats 4000000 in
theorem c_street (K : Kx) {w : Wd} {O : Nat → Prop} {ad : Nat → Nat → Nat} {z : Zx} {np : Nat} {S : Ast} (n c : Int32) (hA : SA K.2.1 w O ad z np S) (h1 : CN S 1 24) : MT K mX9_street 3 0 0 [.ref (ad 0 0), .int n, .int c] w (PI fun r w' => r = (if okS S n c then S.1 5 n.toNatClampNeg else (-2)) ∧ SB K.2.1 w w' O ad z np (if okS S n c then uI S 5 n.toNatClampNeg c else S)) := by
  refine MT.of [some (.ref (ad 0 0)), some (.int n), some (.int c), none, none] (by decide) rfl (nle rfl) rfl ?_
  intro E hC hR
  have hS := SB.rf hA
  refine j_aload_n hC dX9_street_0 rfl ?_
  refine j_iload_n hC dX9_street_1 rfl ?_
  refine j_callv (kc' := 0) (ks' := 0) (r := (RX9, TX9, 14)) hC (c_isNode K n hS.1 h1) dX9_street_2 wX9_isNode lX9_94 i_yX9_isNode s_yX9_isNode hS.1.x rfl rfl rfl (nle rfl) rfl (by decide) (by decide) (by decide) (kI fun r w' hp => ?_)
  obtain ⟨rfl, hw⟩ := hp
  rw [hw]
  clear hw w'
  refine j_if_eq hC 20 dX9_street_5 (by decide) (fun c_5 => ?_) (fun c_5 => ?_)
  · refine j_bipush hC (-2) dX9_street_20 (by decide) ?_
    have hok : ¬ okS S n c := by first | exact fun q => q.1 c_5 | exact fun q => q.2 ((wI_m1 c).mpr ⟨c_10, c_17⟩)
    exact j_iret hC hR dX9_street_22 rfl ⟨_, rfl, by rw [if_neg hok], by rw [if_neg hok]; exact hS⟩
  · refine j_iload_n hC dX9_street_8 rfl ?_
    refine j_iconst hC (-1) dX9_street_9 (by decide) ?_
    refine j_icmp_eq hC 23 dX9_street_10 (by decide) (fun c_10 => ?_) (fun c_10 => ?_)
    · obtain ⟨hk, hlt, hx⟩ := isn h1 c_5
      refine j_aload_n hC dX9_street_23 rfl ?_
      refine j_get hC cfX9 dX9_street_24 fX9_10 (by decide) hS.1.x rfl ?_
      refine j_iload_n hC dX9_street_27 rfl ?_
      refine J.toI hk ?_
      obtain ⟨mc1, hl1⟩ := (hS.1.lst (j := 1) (by decide)).sz
      refine j_callv (kc' := 0) (ks' := 0) (r := (RJx4a65c, TJx4a65c, 3)) hC (c_get K (hS.1.lst (j := 1) (by decide)) (by rw [vN_e1]; exact hlt)) dX9_street_28 wJx4a65c_get_915e3 lX9_87 i_yJx4a65c_get_915e3 s_yJx4a65c_get_915e3 hl1 rfl rfl rfl (nle rfl) rfl (by decide) (by decide) (by decide) (kA fun r w' hp => ?_)
      obtain ⟨rfl, hw⟩ := hp
      rw [hw]
      clear hw w'
      refine j_cast (r := (RX5, TX5, 8)) hC dX9_street_31 kX9_72 (hS.1.node hlt) rfl ?_
      refine j_astore_n (lv' := [some _, some _, some _, some _, none]) hC dX9_street_34 (nlt rfl) rfl ?_
      refine j_aload_n hC dX9_street_35 rfl ?_
      refine j_get hC cfX5 dX9_street_36 fX9_120 (by decide) (hS.1.node hlt) rfl ?_
      refine j_istore (lv' := [some _, some _, some _, some _, some _]) hC dX9_street_39 (nlt rfl) rfl ?_
      refine j_aload_n hC dX9_street_41 rfl ?_
      refine j_iload_n hC dX9_street_42 rfl ?_
      refine j_put (fs' := [_, _, _, _, _, _, _, _]) hC cfX5 dX9_street_43 fX9_120 rfl (by decide) (hS.1.node hlt) rfl rfl (nlt rfl) rfl ?_
      refine J.gen (P := fun w' => SB K.2.1 w w' O ad z np (uI S 5 n.toNatClampNeg c)) (hS.street hlt c) (fun w2 hS => ?_)
      refine j_iload hC dX9_street_46 rfl ?_
      have hok : okS S n c := ⟨c_5, fun q => by have q2 := (wI_m1 c).mp q; first | exact q2.1 c_10 | exact c_17 q2.2⟩
      exact j_iret hC hR dX9_street_48 rfl ⟨_, rfl, by rw [if_pos hok], by rw [if_pos hok]; exact hS⟩
    · refine j_iload_n hC dX9_street_13 rfl ?_
      refine j_calls (kc' := 0) (ks' := 0) hC (c_isCell K c) dX9_street_14 wX9_isCell lX9_112 t_yX9_isCell rfl rfl (nle rfl) rfl (by decide) (by decide) (by decide) (kI fun r w' hp => ?_)
      obtain ⟨rfl, hw⟩ := hp
      rw [hw]
      clear hw w'
      refine j_if_ne hC 23 dX9_street_17 (by decide) (fun c_17 => ?_) (fun c_17 => ?_)
      · obtain ⟨hk, hlt, hx⟩ := isn h1 c_5
        refine j_aload_n hC dX9_street_23 rfl ?_
        refine j_get hC cfX9 dX9_street_24 fX9_10 (by decide) hS.1.x rfl ?_
        refine j_iload_n hC dX9_street_27 rfl ?_
        refine J.toI hk ?_
        obtain ⟨mc2, hl2⟩ := (hS.1.lst (j := 1) (by decide)).sz
        refine j_callv (kc' := 0) (ks' := 0) (r := (RJx4a65c, TJx4a65c, 3)) hC (c_get K (hS.1.lst (j := 1) (by decide)) (by rw [vN_e1]; exact hlt)) dX9_street_28 wJx4a65c_get_915e3 lX9_87 i_yJx4a65c_get_915e3 s_yJx4a65c_get_915e3 hl2 rfl rfl rfl (nle rfl) rfl (by decide) (by decide) (by decide) (kA fun r w' hp => ?_)
        obtain ⟨rfl, hw⟩ := hp
        rw [hw]
        clear hw w'
        refine j_cast (r := (RX5, TX5, 8)) hC dX9_street_31 kX9_72 (hS.1.node hlt) rfl ?_
        refine j_astore_n (lv' := [some _, some _, some _, some _, none]) hC dX9_street_34 (nlt rfl) rfl ?_
        refine j_aload_n hC dX9_street_35 rfl ?_
        refine j_get hC cfX5 dX9_street_36 fX9_120 (by decide) (hS.1.node hlt) rfl ?_
        refine j_istore (lv' := [some _, some _, some _, some _, some _]) hC dX9_street_39 (nlt rfl) rfl ?_
        refine j_aload_n hC dX9_street_41 rfl ?_
        refine j_iload_n hC dX9_street_42 rfl ?_
        refine j_put (fs' := [_, _, _, _, _, _, _, _]) hC cfX5 dX9_street_43 fX9_120 rfl (by decide) (hS.1.node hlt) rfl rfl (nlt rfl) rfl ?_
        refine J.gen (P := fun w' => SB K.2.1 w w' O ad z np (uI S 5 n.toNatClampNeg c)) (hS.street hlt c) (fun w2 hS => ?_)
        refine j_iload hC dX9_street_46 rfl ?_
        have hok : okS S n c := ⟨c_5, fun q => by have q2 := (wI_m1 c).mp q; first | exact q2.1 c_10 | exact c_17 q2.2⟩
        exact j_iret hC hR dX9_street_48 rfl ⟨_, rfl, by rw [if_pos hok], by rw [if_pos hok]; exact hS⟩
      · refine j_bipush hC (-2) dX9_street_20 (by decide) ?_
        have hok : ¬ okS S n c := by first | exact fun q => q.1 c_5 | exact fun q => q.2 ((wI_m1 c).mpr ⟨c_10, c_17⟩)
        exact j_iret hC hR dX9_street_22 rfl ⟨_, rfl, by rw [if_neg hok], by rw [if_neg hok]; exact hS⟩

