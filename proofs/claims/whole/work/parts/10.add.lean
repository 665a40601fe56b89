
theorem kA_7 : Cond.classLink "java/util/ArrayList" 7 "java/lang/Object" ∈ gtbl := gt (i := 258) (by decide +kernel) rfl


theorem wst_comm {w : Wd} {a b : Nat} {e1 e2 : va_E} (h : a ≠ b) : wst (wst w a e1) b e2 = wst (wst w b e2) a e1 := by
  funext q
  by_cases h1 : q = a
  · subst h1; rw [wst_n h, wst_s, wst_s]
  · by_cases h2 : q = b
    · subst h2; rw [wst_s, wst_n h1, wst_s]
    · rw [wst_n h2, wst_n h1, wst_n h1, wst_n h2]
theorem wst_add {w : Wd} {l r : Nat} {a b c d : va_E} (h : l ≠ r) : wst (wst (wst (wst w r a) l b) r c) l d = wst (wst w r c) l d := by
  rw [wst_comm (a := l) (b := r) h, wst_wst, wst_wst]


theorem ne_of_st {w : Wd} {l r : Nat} {e : va_E} (h : wst w l e r = none) : l ≠ r := by
  intro z
  subst z
  rw [wst_s] at h
  cases h
theorem el_st {w : Wd} {l y ci' : Nat} {mc mc' sz sz' : Int32} {e e' : Nat} {fs' : List Value} {r' : vw_C} (hl : w l = some (oList mc e sz)) (z1 : w y = some (.inr (ci', fs'))) (z2 : vwCl[ci']? = some r') (z3 : r'.1 ∈ ([RX0, RX1, RX2, RX3, RX5, RX6, RX7, RX8] : List String)) :
    ∃ (ci : Nat) (fs : List Value) (r : vw_C), wst w l (oList mc' e' sz') y = some (.inr (ci, fs)) ∧ vwCl[ci]? = some r ∧ r.1 ∈ ([RX0, RX1, RX2, RX3, RX5, RX6, RX7, RX8] : List String) := by
  refine ⟨ci', fs', r', ?_, z2, z3⟩
  rw [wst_n]
  · exact z1
  · intro z
    rw [z, hl] at z1
    cases z1
    cases z2
    revert z3
    decide

set_option maxRecDepth 100000 in
set_option maxHeartbeats 4000000 in
theorem c_AC (K : Kx) {w : Wd} {l : Nat}  : MT K mJxa1e45_init_da8c8 1 0 0 [.ref l] w (PV fun w' => w' = w) := by
  refine MT.of [some (.ref l)] (by decide) rfl (nle rfl) rfl ?_
  intro E hC hR
  refine j_aload_n hC dJxa1e45_init_da8c8_0 rfl ?_
  refine j_obj hC dJxa1e45_init_da8c8_1 lJxa1e45_1 i_objectInit c_objectInit rfl (nle rfl) (by decide) ?_
  exact j_vret hC hR dJxa1e45_init_da8c8_4 rfl ⟨rfl, rfl⟩

set_option maxRecDepth 100000 in
set_option maxHeartbeats 4000000 in
theorem c_AL (K : Kx) {w : Wd} {l : Nat} {mc : Int32} {ev : Value} {sz : Int32} (hl : w l = some (.inr (0, [.int mc, ev, .int sz]))) : MT K mJxc12de_init_da8c8 2 0 0 [.ref l] w (PV fun w' => w' = wst w l (.inr (0, [.int 0, ev, .int sz]))) := by
  refine MT.of [some (.ref l)] (by decide) rfl (nle rfl) rfl ?_
  intro E hC hR
  refine j_aload_n hC dJxc12de_init_da8c8_0 rfl ?_
  refine j_calli (kc' := 0) (ks' := 0) hC (c_AC K) dJxc12de_init_da8c8_1 wJxa1e45_init_da8c8 lJxc12de_1 i_yJxa1e45_init_da8c8 rfl rfl rfl (nle rfl) rfl (by decide) (by decide) (by decide) (kV fun w' hp => ?_)
  subst hp
  refine j_aload_n hC dJxc12de_init_da8c8_4 rfl ?_
  refine j_iconst hC (0) dJxc12de_init_da8c8_5 (by decide) ?_
  refine j_put (fs' := [_, _, _]) hC cfJx4a65c dJxc12de_init_da8c8_6 fJxc12de_7 rfl (by decide) hl rfl rfl (nlt rfl) rfl ?_
  exact j_vret hC hR dJxc12de_init_da8c8_9 rfl ⟨rfl, rfl⟩

set_option maxRecDepth 100000 in
set_option maxHeartbeats 4000000 in
theorem c_List (K : Kx) {w : Wd} {l : Nat} (hl : w l = some (.inr (0, [.int 0, .null, .int 0]))) : MT K mJx4a65c_init_da8c8 3 0 0 [.ref l] w (PV fun w' => w' = wst w l (oList 0 K.2.1.2.2.2.2.2.1 0)) := by
  refine MT.of [some (.ref l)] (by decide) rfl (nle rfl) rfl ?_
  intro E hC hR
  refine j_aload_n hC dJx4a65c_init_da8c8_0 rfl ?_
  refine j_calli (kc' := 0) (ks' := 0) hC (c_AL K hl) dJx4a65c_init_da8c8_1 wJxc12de_init_da8c8 lJx4a65c_1 i_yJxc12de_init_da8c8 rfl rfl rfl (nle rfl) rfl (by decide) (by decide) (by decide) (kV fun w' hp => ?_)
  subst hp
  refine j_aload_n hC dJx4a65c_init_da8c8_4 rfl ?_
  refine j_gets hC dJx4a65c_init_da8c8_5 ?_
  refine j_put (fs' := [_, _, _]) hC cfJx4a65c dJx4a65c_init_da8c8_8 fJx4a65c_9 rfl (by decide) (wst_s _ _ _) rfl rfl (nlt rfl) rfl ?_
  exact j_vret hC hR dJx4a65c_init_da8c8_11 rfl ⟨rfl, by rw [wst_wst]⟩

set_option maxRecDepth 100000 in
set_option maxHeartbeats 4000000 in
theorem c_copy3 (K : Kx) {w : Wd} {a0 n N : Nat} {f : Nat → Option Nat} (h0 : w a0 = some (aO K.2.1 n f)) (hnN : n ≤ N) (hN : N ≤ 60) (hel : ∀ i : Nat, i < n → ∀ y : Nat, f i = some y → ∃ (ci : Nat) (fs : List Value) (r : vw_C), w y = some (.inr (ci, fs)) ∧ vwCl[ci]? = some r ∧ r.1 ∈ ([RX0, RX1, RX2, RX3, RX5, RX6, RX7, RX8] : List String)) : MT K mJ7_copyOf_6403c 1 1 60 [.ref a0, .int (nI N), .ref K.2.1.2.2.2.2.2.2] w (PA fun r w' => w r = none ∧ w' = wst w r (aO K.2.1 N (va_cpy f (fun _ => none) 0 0 n))) := by
  refine MT.of [some (.ref a0), some (.int (nI N)), some (.ref K.2.1.2.2.2.2.2.2), none] (by decide) rfl (nle rfl) rfl ?_
  intro E hC hR
  refine j_aload_n hC dJ7_copyOf_6403c_0 rfl ?_
  refine j_ldcC hC dJ7_copyOf_6403c_1 kJ7_110 ?_
  refine j_acmp_ne hC 13 dJ7_copyOf_6403c_3 (by decide) (fun c => absurd rfl c) (fun _ => ?_)
  refine j_iload_n hC dJ7_copyOf_6403c_6 rfl ?_
  refine j_newO (n' := N) (kc' := 0) (ks' := 0) hC dJ7_copyOf_6403c_7 kJ7_2 (nI_pos (by omega)) (nI_clamp (by omega)) (by omega) (by decide) (by omega) (fun q7 hq7 => ?_)
  refine j_goto hC 24 dJ7_copyOf_6403c_10 (by decide) ?_
  refine j_astore_n (lv' := [some _, some _, some _, some _]) hC dJ7_copyOf_6403c_24 (nlt rfl) rfl ?_
  refine j_aload_n hC dJ7_copyOf_6403c_25 rfl ?_
  refine j_iconst hC (0) dJ7_copyOf_6403c_26 (by decide) ?_
  refine j_aload_n hC dJ7_copyOf_6403c_27 rfl ?_
  refine j_iconst hC (0) dJ7_copyOf_6403c_28 (by decide) ?_
  refine j_aload_n hC dJ7_copyOf_6403c_29 rfl ?_
  refine j_alenO hC dJ7_copyOf_6403c_30 ((wst_n (ne_of h0 hq7)).trans h0) ?_
  refine j_iload_n hC dJ7_copyOf_6403c_31 rfl ?_
  refine j_mmin hC dJ7_copyOf_6403c_32 lJ7_304 t_yJ9_min_7cf53 inJ9 wJ9_min_7cf53.1 rfl (nle rfl) (by decide) ?_
  refine J.toI (y := nI n) (if_neg (by rw [nI_ltI (by omega) (by omega)]; omega)) ?_
  refine j_copy hC dJ7_copyOf_6403c_35 ((wst_n (ne_of h0 hq7)).trans h0) (wst_s _ _ _) rfl (nle rfl) (by decide) (by omega) (Nat.le_refl _) hnN ?_ ?_
  · intro i hi y hy
    obtain ⟨ci, fs, r, z1, z2, z3⟩ := hel i hi y hy
    exact ⟨ci, fs, r, (wst_n (ne_of z1 hq7)).trans z1, z2, z3⟩
  refine j_aload_n hC dJ7_copyOf_6403c_38 rfl ?_
  exact j_aret hC hR dJ7_copyOf_6403c_39 rfl (Or.inr ⟨_, rfl⟩) ⟨_, rfl, hq7, by rw [wst_wst]⟩

set_option maxRecDepth 100000 in
set_option maxHeartbeats 4000000 in
theorem c_copy2 (K : Kx) {w : Wd} {a0 n N : Nat} {f : Nat → Option Nat} (h0 : w a0 = some (aO K.2.1 n f)) (hnN : n ≤ N) (hN : N ≤ 60) (hel : ∀ i : Nat, i < n → ∀ y : Nat, f i = some y → ∃ (ci : Nat) (fs : List Value) (r : vw_C), w y = some (.inr (ci, fs)) ∧ vwCl[ci]? = some r ∧ r.1 ∈ ([RX0, RX1, RX2, RX3, RX5, RX6, RX7, RX8] : List String)) : MT K mJ7_copyOf_1904c 2 1 60 [.ref a0, .int (nI N)] w (PA fun r w' => w r = none ∧ w' = wst w r (aO K.2.1 N (va_cpy f (fun _ => none) 0 0 n))) := by
  refine MT.of [some (.ref a0), some (.int (nI N))] (by decide) rfl (nle rfl) rfl ?_
  intro E hC hR
  refine j_aload_n hC dJ7_copyOf_1904c_0 rfl ?_
  refine j_iload_n hC dJ7_copyOf_1904c_1 rfl ?_
  refine j_aload_n hC dJ7_copyOf_1904c_2 rfl ?_
  refine j_getC hC dJ7_copyOf_1904c_3 h0 rfl (nle rfl) (by decide) ?_
  refine j_calls (kc' := 0) (ks' := 0) hC (c_copy3 K h0 hnN hN hel) dJ7_copyOf_1904c_6 wJ7_copyOf_6403c lJ7_300 t_yJ7_copyOf_6403c rfl rfl (nle rfl) rfl (by decide) (by decide) (by decide) (kA fun r w' hp => ?_)
  obtain ⟨hr0, rfl⟩ := hp
  exact j_aret hC hR dJ7_copyOf_1904c_9 rfl (Or.inr ⟨_, rfl⟩) ⟨_, rfl, hr0, rfl⟩

set_option maxRecDepth 100000 in
set_option maxHeartbeats 4000000 in
theorem c_newLen (K : Kx) {w : Wd} {N : Nat} (h2 : 2 ≤ N) (hN : N ≤ 1000) : MT K mJ8_newLength_cabcc 1 0 0 [.int (nI N), .int 1, .int (nI (N / 2))] w (PI fun r w' => r = nI (N + N / 2) ∧ w' = w) := by
  refine MT.of [some (.int (nI N)), some (.int 1), some (.int (nI (N / 2))), none] (by decide) rfl (nle rfl) rfl ?_
  intro E hC hR
  refine j_iload_n hC dJ8_newLength_cabcc_0 rfl ?_
  refine j_iload_n hC dJ8_newLength_cabcc_1 rfl ?_
  refine j_iload_n hC dJ8_newLength_cabcc_2 rfl ?_
  refine j_mmax hC dJ8_newLength_cabcc_3 lJ8_194 t_yJ9_max_7cf53 inJ9 wJ9_max_7cf53.1 rfl (nle rfl) (by decide) ?_
  refine J.toI (y := nI (N / 2)) (by
      by_cases h : N / 2 = 1
      · rw [h]; decide
      · rw [if_pos]; exact (nI_ltI (a := 1) (by omega) (by omega)).mpr (by omega)) ?_
  refine j_iadd hC dJ8_newLength_cabcc_6 ?_
  refine j_istore_n (lv' := [some _, some _, some _, some _]) hC dJ8_newLength_cabcc_7 (nlt rfl) rfl ?_
  refine j_iconst hC (0) dJ8_newLength_cabcc_8 (by decide) ?_
  refine j_iload_n hC dJ8_newLength_cabcc_9 rfl ?_
  refine j_icmp_ge hC 21 dJ8_newLength_cabcc_10 (by decide) (fun c_10 => ?_) (fun c_10 => ?_)
  · exact absurd c_10 (by rw [nI_add]; exact (fun q => absurd ((nI_leI (b := 0) (by omega) (by omega)).mp q) (by omega)))
  · refine j_iload_n hC dJ8_newLength_cabcc_13 rfl ?_
    refine j_ldc hC dJ8_newLength_cabcc_14 nJ8_200 ?_
    refine j_icmp_gt hC 21 dJ8_newLength_cabcc_16 (by decide) (fun c_16 => ?_) (fun c_16 => ?_)
    · exact absurd c_16 (by rw [nI_add]; exact (fun q => absurd ((nI_ltI (a := 2147483639) (by omega) (by omega)).mp q) (by omega)))
    · refine j_iload_n hC dJ8_newLength_cabcc_19 rfl ?_
      exact j_iret hC hR dJ8_newLength_cabcc_20 rfl ⟨_, rfl, nI_add _ _, rfl⟩

set_option maxRecDepth 100000 in
set_option maxHeartbeats 4000000 in
theorem c_growA (K : Kx) {w : Wd} {l : Nat} {mc sz : Int32} (hl : w l = some (oList mc K.2.1.2.2.2.2.2.1 sz)) : MT K mJx4a65c_grow_92f84 3 1 60 [.ref l, .int 1] w (PA fun r w' => w r = none ∧ w' = wst (wst w r (aO K.2.1 10 (fun _ => none))) l (oList mc r sz)) := by
  refine MT.of [some (.ref l), some (.int 1), none, none] (by decide) rfl (nle rfl) rfl ?_
  intro E hC hR
  refine j_aload_n hC dJx4a65c_grow_92f84_0 rfl ?_
  refine j_get hC cfJx4a65c dJx4a65c_grow_92f84_1 fJx4a65c_9 (by decide) hl rfl ?_
  refine j_alenE hC dJx4a65c_grow_92f84_4 ?_
  refine j_istore_n (lv' := [some _, some _, some _, none]) hC dJx4a65c_grow_92f84_5 (nlt rfl) rfl ?_
  refine j_iload_n hC dJx4a65c_grow_92f84_6 rfl ?_
  refine j_if_gt hC 20 dJx4a65c_grow_92f84_7 (by decide) (fun c_7 => ?_) (fun c_7 => ?_)
  · exact absurd c_7 (by decide)
  · refine j_aload_n hC dJx4a65c_grow_92f84_10 rfl ?_
    refine j_get hC cfJx4a65c dJx4a65c_grow_92f84_11 fJx4a65c_9 (by decide) hl rfl ?_
    refine j_gets hC dJx4a65c_grow_92f84_14 ?_
    refine j_acmp_eq hC 45 dJx4a65c_grow_92f84_17 (by decide) (fun _ => ?_) (fun c => absurd rfl c)
    refine j_aload_n hC dJx4a65c_grow_92f84_45 rfl ?_
    refine j_bipush hC (10) dJx4a65c_grow_92f84_46 (by decide) ?_
    refine j_iload_n hC dJx4a65c_grow_92f84_48 rfl ?_
    refine j_mmax hC dJx4a65c_grow_92f84_49 lJx4a65c_79 t_yJ9_max_7cf53 inJ9 wJ9_max_7cf53.1 rfl (nle rfl) (by decide) ?_
    refine j_newO (n' := 10) (kc' := 0) (ks' := 0) hC dJx4a65c_grow_92f84_52 kA_7 (by decide) (by decide) (by omega) (by decide) (by omega) (fun q52 hq52 => ?_)
    refine j_dup_x1 hC dJx4a65c_grow_92f84_55 rfl rfl ?_
    refine j_put (fs' := [_, _, _]) hC cfJx4a65c dJx4a65c_grow_92f84_56 fJx4a65c_9 rfl (by decide) ((wst_n (ne_of hl hq52)).trans hl) rfl rfl (nlt rfl) rfl ?_
    exact j_aret hC hR dJx4a65c_grow_92f84_59 rfl (Or.inr ⟨_, rfl⟩) ⟨_, rfl, hq52, rfl⟩

set_option maxRecDepth 100000 in
set_option maxHeartbeats 4000000 in
theorem c_growB (K : Kx) {w : Wd} {l e n : Nat} {mc sz : Int32} {f : Nat → Option Nat} (hl : w l = some (oList mc e sz)) (he : w e = some (aO K.2.1 n f)) (hn : 10 ≤ n) (hn4 : n ≤ 40) (hel : ∀ i : Nat, i < n → ∀ y : Nat, f i = some y → ∃ (ci : Nat) (fs : List Value) (r : vw_C), w y = some (.inr (ci, fs)) ∧ vwCl[ci]? = some r ∧ r.1 ∈ ([RX0, RX1, RX2, RX3, RX5, RX6, RX7, RX8] : List String)) : MT K mJx4a65c_grow_92f84 3 1 60 [.ref l, .int (nI (n + 1))] w (PA fun r w' => w r = none ∧ w' = wst (wst w r (aO K.2.1 (n + n / 2) (va_cpy f (fun _ => none) 0 0 n))) l (oList mc r sz)) := by
  refine MT.of [some (.ref l), some (.int (nI (n + 1))), none, none] (by decide) rfl (nle rfl) rfl ?_
  intro E hC hR
  refine j_aload_n hC dJx4a65c_grow_92f84_0 rfl ?_
  refine j_get hC cfJx4a65c dJx4a65c_grow_92f84_1 fJx4a65c_9 (by decide) hl rfl ?_
  refine j_alenO hC dJx4a65c_grow_92f84_4 he ?_
  refine j_istore_n (lv' := [some _, some _, some _, none]) hC dJx4a65c_grow_92f84_5 (nlt rfl) rfl ?_
  refine j_iload_n hC dJx4a65c_grow_92f84_6 rfl ?_
  refine j_if_gt hC 20 dJx4a65c_grow_92f84_7 (by decide) (fun c_7 => ?_) (fun c_7 => ?_)
  · refine j_iload_n hC dJx4a65c_grow_92f84_20 rfl ?_
    refine j_iload_n hC dJx4a65c_grow_92f84_21 rfl ?_
    refine j_iload_n hC dJx4a65c_grow_92f84_22 rfl ?_
    refine j_isub hC dJx4a65c_grow_92f84_23 ?_
    refine J.toI (y := 1) (by rw [pk_sub (by omega)]; rw [show n + 1 - n = 1 by omega]; decide) ?_
    refine j_iload_n hC dJx4a65c_grow_92f84_24 rfl ?_
    refine j_iconst hC (1) dJx4a65c_grow_92f84_25 (by decide) ?_
    refine j_ishr hC dJx4a65c_grow_92f84_26 ?_
    refine J.toI (y := nI (n / 2)) ?_ ?_
    · exact (pk_shrN (by omega) _ 1 (by decide)).trans rfl
    refine j_calls (kc' := 1) (ks' := 60) hC (c_newLen K (N := n) (by omega) (by omega)) dJx4a65c_grow_92f84_27 wJ8_newLength_cabcc lJx4a65c_73 t_yJ8_newLength_cabcc rfl rfl (nle rfl) rfl (by decide) (by decide) (by decide) (kI fun r w' hp => ?_)
    obtain ⟨rfl, rfl⟩ := hp
    refine j_istore_n (lv' := [some _, some _, some _, some _]) hC dJx4a65c_grow_92f84_30 (nlt rfl) rfl ?_
    refine j_aload_n hC dJx4a65c_grow_92f84_31 rfl ?_
    refine j_aload_n hC dJx4a65c_grow_92f84_32 rfl ?_
    refine j_get hC cfJx4a65c dJx4a65c_grow_92f84_33 fJx4a65c_9 (by decide) hl rfl ?_
    refine j_iload_n hC dJx4a65c_grow_92f84_36 rfl ?_
    refine j_calls (kc' := 0) (ks' := 0) hC (c_copy2 K he (N := n + n / 2) (by omega) (by omega) hel) dJx4a65c_grow_92f84_37 wJ7_copyOf_1904c lJx4a65c_66 t_yJ7_copyOf_1904c rfl rfl (nle rfl) rfl (by decide) (by decide) (by decide) (kA fun r w' hp => ?_)
    obtain ⟨hr0, rfl⟩ := hp
    refine j_dup_x1 hC dJx4a65c_grow_92f84_40 rfl rfl ?_
    refine j_put (fs' := [_, _, _]) hC cfJx4a65c dJx4a65c_grow_92f84_41 fJx4a65c_9 rfl (by decide) ((wst_n (ne_of hl hr0)).trans hl) rfl rfl (nlt rfl) rfl ?_
    exact j_aret hC hR dJx4a65c_grow_92f84_44 rfl (Or.inr ⟨_, rfl⟩) ⟨_, rfl, hr0, rfl⟩
  · exact absurd ((nI_ltI (a := 0) (by omega) (by omega)).mpr (by omega)) c_7

set_option maxRecDepth 100000 in
set_option maxHeartbeats 4000000 in
theorem c_grow0A (K : Kx) {w : Wd} {l : Nat} {mc : Int32} (hl : w l = some (oList mc K.2.1.2.2.2.2.2.1 0)) : MT K mJx4a65c_grow_d5877 4 1 60 [.ref l] w (PA fun r w' => w r = none ∧ w' = wst (wst w r (aO K.2.1 10 (fun _ => none))) l (oList mc r 0)) := by
  refine MT.of [some (.ref l)] (by decide) rfl (nle rfl) rfl ?_
  intro E hC hR
  refine j_aload_n hC dJx4a65c_grow_d5877_0 rfl ?_
  refine j_aload_n hC dJx4a65c_grow_d5877_1 rfl ?_
  refine j_get hC cfJx4a65c dJx4a65c_grow_d5877_2 fJx4a65c_48 (by decide) hl rfl ?_
  refine j_iconst hC (1) dJx4a65c_grow_d5877_5 (by decide) ?_
  refine j_iadd hC dJx4a65c_grow_d5877_6 ?_
  refine J.toI (y := 1) (by decide) ?_
  refine j_callv (kc' := 0) (ks' := 0) (r := (RJx4a65c, TJx4a65c, 3)) hC (c_growA K hl) dJx4a65c_grow_d5877_7 wJx4a65c_grow_92f84 lJx4a65c_69 i_yJx4a65c_grow_92f84 s_yJx4a65c_grow_92f84 hl rfl rfl rfl (nle rfl) rfl (by decide) (by decide) (by decide) (kA fun r w' hp => ?_)
  obtain ⟨hr0, rfl⟩ := hp
  exact j_aret hC hR dJx4a65c_grow_d5877_10 rfl (Or.inr ⟨_, rfl⟩) ⟨_, rfl, hr0, rfl⟩

set_option maxRecDepth 100000 in
set_option maxHeartbeats 4000000 in
theorem c_grow0B (K : Kx) {w : Wd} {l e n : Nat} {mc : Int32} {f : Nat → Option Nat} (hl : w l = some (oList mc e (nI n))) (he : w e = some (aO K.2.1 n f)) (hn : 10 ≤ n) (hn4 : n ≤ 40) (hel : ∀ i : Nat, i < n → ∀ y : Nat, f i = some y → ∃ (ci : Nat) (fs : List Value) (r : vw_C), w y = some (.inr (ci, fs)) ∧ vwCl[ci]? = some r ∧ r.1 ∈ ([RX0, RX1, RX2, RX3, RX5, RX6, RX7, RX8] : List String)) : MT K mJx4a65c_grow_d5877 4 1 60 [.ref l] w (PA fun r w' => w r = none ∧ w' = wst (wst w r (aO K.2.1 (n + n / 2) (va_cpy f (fun _ => none) 0 0 n))) l (oList mc r (nI n))) := by
  refine MT.of [some (.ref l)] (by decide) rfl (nle rfl) rfl ?_
  intro E hC hR
  refine j_aload_n hC dJx4a65c_grow_d5877_0 rfl ?_
  refine j_aload_n hC dJx4a65c_grow_d5877_1 rfl ?_
  refine j_get hC cfJx4a65c dJx4a65c_grow_d5877_2 fJx4a65c_48 (by decide) hl rfl ?_
  refine j_iconst hC (1) dJx4a65c_grow_d5877_5 (by decide) ?_
  refine j_iadd hC dJx4a65c_grow_d5877_6 ?_
  refine J.toI (nI_1 n) ?_
  refine j_callv (kc' := 0) (ks' := 0) (r := (RJx4a65c, TJx4a65c, 3)) hC (c_growB K hl he hn hn4 hel) dJx4a65c_grow_d5877_7 wJx4a65c_grow_92f84 lJx4a65c_69 i_yJx4a65c_grow_92f84 s_yJx4a65c_grow_92f84 hl rfl rfl rfl (nle rfl) rfl (by decide) (by decide) (by decide) (kA fun r w' hp => ?_)
  obtain ⟨hr0, rfl⟩ := hp
  exact j_aret hC hR dJx4a65c_grow_d5877_10 rfl (Or.inr ⟨_, rfl⟩) ⟨_, rfl, hr0, rfl⟩

set_option maxRecDepth 100000 in
set_option maxHeartbeats 4000000 in
theorem c_add3C (K : Kx) {w : Wd} {l e n N : Nat} {mc : Int32} {f : Nat → Option Nat} {b ci : Nat} {fs : List Value} {r0 : vw_C} (hl : w l = some (oList mc e (nI n))) (he : w e = some (aO K.2.1 N f)) (hn : n < N) (hN : N ≤ 60) (hlb : l ≠ b) (hb : w b = some (.inr (ci, fs))) (hci : vwCl[ci]? = some r0) (hca : r0.1 ∈ ([RX0, RX1, RX2, RX3, RX5, RX6, RX7, RX8] : List String)) : MT K mJx4a65c_add_72be8 5 1 60 [.ref l, .ref b, .ref e, .int (nI n)] w (PV fun w' => w' = wst (wst w e (aO K.2.1 N (va_up f n (some b)))) l (oList mc e (nI (n + 1)))) := by
  refine MT.of [some (.ref l), some (.ref b), some (.ref e), some (.int (nI n))] (by decide) rfl (nle rfl) rfl ?_
  intro E hC hR
  refine j_iload_n hC dJx4a65c_add_72be8_0 rfl ?_
  refine j_aload_n hC dJx4a65c_add_72be8_1 rfl ?_
  refine j_alenO hC dJx4a65c_add_72be8_2 he ?_
  refine j_icmp_ne hC 11 dJx4a65c_add_72be8_3 (by decide) (fun c_3 => ?_) (fun c_3 => ?_)
  · refine j_aload_n hC dJx4a65c_add_72be8_11 rfl ?_
    refine j_iload_n hC dJx4a65c_add_72be8_12 rfl ?_
    refine j_aload_n hC dJx4a65c_add_72be8_13 rfl ?_
    refine j_astO hC dJx4a65c_add_72be8_14 he (ix_nI hn (by omega)) hb hci hca ?_
    refine j_aload_n hC dJx4a65c_add_72be8_15 rfl ?_
    refine j_iload_n hC dJx4a65c_add_72be8_16 rfl ?_
    refine j_iconst hC (1) dJx4a65c_add_72be8_17 (by decide) ?_
    refine j_iadd hC dJx4a65c_add_72be8_18 ?_
    refine J.toI (nI_1 n) ?_
    refine j_put (fs' := [_, _, _]) hC cfJx4a65c dJx4a65c_add_72be8_19 fJx4a65c_48 rfl (by decide) ((wst_n (fun z => by rw [z, he] at hl; cases hl)).trans hl) rfl rfl (nlt rfl) rfl ?_
    exact j_vret hC hR dJx4a65c_add_72be8_22 rfl ⟨rfl, rfl⟩
  · exact absurd c_3 (by rw [nI_eq (by omega) (by omega)]; omega)

set_option maxRecDepth 100000 in
set_option maxHeartbeats 4000000 in
theorem c_add3A (K : Kx) {w : Wd} {l : Nat} {mc : Int32} {b ci : Nat} {fs : List Value} {r0 : vw_C} (hl : w l = some (oList mc K.2.1.2.2.2.2.2.1 0)) (hlb : l ≠ b) (hb : w b = some (.inr (ci, fs))) (hci : vwCl[ci]? = some r0) (hca : r0.1 ∈ ([RX0, RX1, RX2, RX3, RX5, RX6, RX7, RX8] : List String)) : MT K mJx4a65c_add_72be8 5 1 60 [.ref l, .ref b, .ref K.2.1.2.2.2.2.2.1, .int 0] w (PV fun w' => ∃ r : Nat, w r = none ∧ w' = wst (wst w r (aO K.2.1 10 (va_up (fun _ => none) 0 (some b)))) l (oList mc r 1)) := by
  refine MT.of [some (.ref l), some (.ref b), some (.ref K.2.1.2.2.2.2.2.1), some (.int 0)] (by decide) rfl (nle rfl) rfl ?_
  intro E hC hR
  refine j_iload_n hC dJx4a65c_add_72be8_0 rfl ?_
  refine j_aload_n hC dJx4a65c_add_72be8_1 rfl ?_
  refine j_alenE hC dJx4a65c_add_72be8_2 ?_
  refine j_icmp_ne hC 11 dJx4a65c_add_72be8_3 (by decide) (fun c_3 => ?_) (fun c_3 => ?_)
  · exact absurd rfl c_3
  · refine j_aload_n hC dJx4a65c_add_72be8_6 rfl ?_
    refine j_callv (kc' := 0) (ks' := 0) (r := (RJx4a65c, TJx4a65c, 3)) hC (c_grow0A K hl) dJx4a65c_add_72be8_7 wJx4a65c_grow_d5877 lJx4a65c_129 i_yJx4a65c_grow_d5877 s_yJx4a65c_grow_d5877 hl rfl rfl rfl (nle rfl) rfl (by decide) (by decide) (by decide) (kA fun r w' hp => ?_)
    obtain ⟨hr0, rfl⟩ := hp
    refine j_astore_n (lv' := [some _, some _, some _, some _]) hC dJx4a65c_add_72be8_10 (nlt rfl) rfl ?_
    refine j_aload_n hC dJx4a65c_add_72be8_11 rfl ?_
    refine j_iload_n hC dJx4a65c_add_72be8_12 rfl ?_
    refine j_aload_n hC dJx4a65c_add_72be8_13 rfl ?_
    refine j_astO hC dJx4a65c_add_72be8_14 ((wst_n (Ne.symm (ne_of hl hr0))).trans (wst_s _ _ _)) ((⟨by unfold vp_in; decide, by decide⟩ : ix 0 10 0)) ((wst_n (Ne.symm hlb)).trans ((wst_n (ne_of hb hr0)).trans hb)) hci hca ?_
    refine j_aload_n hC dJx4a65c_add_72be8_15 rfl ?_
    refine j_iload_n hC dJx4a65c_add_72be8_16 rfl ?_
    refine j_iconst hC (1) dJx4a65c_add_72be8_17 (by decide) ?_
    refine j_iadd hC dJx4a65c_add_72be8_18 ?_
    refine j_put (fs' := [_, _, _]) hC cfJx4a65c dJx4a65c_add_72be8_19 fJx4a65c_48 rfl (by decide) ((wst_n (ne_of hl hr0)).trans (wst_s _ _ _)) rfl rfl (nlt rfl) rfl ?_
    exact j_vret hC hR dJx4a65c_add_72be8_22 rfl ⟨rfl, r, hr0, wst_add (ne_of hl hr0)⟩

set_option maxRecDepth 100000 in
set_option maxHeartbeats 4000000 in
theorem c_add3B (K : Kx) {w : Wd} {l e n : Nat} {mc : Int32} {f : Nat → Option Nat} {b ci : Nat} {fs : List Value} {r0 : vw_C} (hl : w l = some (oList mc e (nI n))) (he : w e = some (aO K.2.1 n f)) (hn : 10 ≤ n) (hn4 : n ≤ 40) (hlb : l ≠ b) (hel : ∀ i : Nat, i < n → ∀ y : Nat, f i = some y → ∃ (ci : Nat) (fs : List Value) (r : vw_C), w y = some (.inr (ci, fs)) ∧ vwCl[ci]? = some r ∧ r.1 ∈ ([RX0, RX1, RX2, RX3, RX5, RX6, RX7, RX8] : List String)) (hb : w b = some (.inr (ci, fs))) (hci : vwCl[ci]? = some r0) (hca : r0.1 ∈ ([RX0, RX1, RX2, RX3, RX5, RX6, RX7, RX8] : List String)) : MT K mJx4a65c_add_72be8 5 1 60 [.ref l, .ref b, .ref e, .int (nI n)] w (PV fun w' => ∃ r : Nat, w r = none ∧ w' = wst (wst w r (aO K.2.1 (n + n / 2) (va_up (va_cpy f (fun _ => none) 0 0 n) n (some b)))) l (oList mc r (nI (n + 1)))) := by
  refine MT.of [some (.ref l), some (.ref b), some (.ref e), some (.int (nI n))] (by decide) rfl (nle rfl) rfl ?_
  intro E hC hR
  refine j_iload_n hC dJx4a65c_add_72be8_0 rfl ?_
  refine j_aload_n hC dJx4a65c_add_72be8_1 rfl ?_
  refine j_alenO hC dJx4a65c_add_72be8_2 he ?_
  refine j_icmp_ne hC 11 dJx4a65c_add_72be8_3 (by decide) (fun c_3 => ?_) (fun c_3 => ?_)
  · exact absurd rfl c_3
  · refine j_aload_n hC dJx4a65c_add_72be8_6 rfl ?_
    refine j_callv (kc' := 0) (ks' := 0) (r := (RJx4a65c, TJx4a65c, 3)) hC (c_grow0B K hl he hn hn4 hel) dJx4a65c_add_72be8_7 wJx4a65c_grow_d5877 lJx4a65c_129 i_yJx4a65c_grow_d5877 s_yJx4a65c_grow_d5877 hl rfl rfl rfl (nle rfl) rfl (by decide) (by decide) (by decide) (kA fun r w' hp => ?_)
    obtain ⟨hr0, rfl⟩ := hp
    refine j_astore_n (lv' := [some _, some _, some _, some _]) hC dJx4a65c_add_72be8_10 (nlt rfl) rfl ?_
    refine j_aload_n hC dJx4a65c_add_72be8_11 rfl ?_
    refine j_iload_n hC dJx4a65c_add_72be8_12 rfl ?_
    refine j_aload_n hC dJx4a65c_add_72be8_13 rfl ?_
    refine j_astO hC dJx4a65c_add_72be8_14 ((wst_n (Ne.symm (ne_of hl hr0))).trans (wst_s _ _ _)) (ix_nI (by omega) (by omega)) ((wst_n (Ne.symm hlb)).trans ((wst_n (ne_of hb hr0)).trans hb)) hci hca ?_
    refine j_aload_n hC dJx4a65c_add_72be8_15 rfl ?_
    refine j_iload_n hC dJx4a65c_add_72be8_16 rfl ?_
    refine j_iconst hC (1) dJx4a65c_add_72be8_17 (by decide) ?_
    refine j_iadd hC dJx4a65c_add_72be8_18 ?_
    refine J.toI (nI_1 n) ?_
    refine j_put (fs' := [_, _, _]) hC cfJx4a65c dJx4a65c_add_72be8_19 fJx4a65c_48 rfl (by decide) ((wst_n (ne_of hl hr0)).trans (wst_s _ _ _)) rfl rfl (nlt rfl) rfl ?_
    exact j_vret hC hR dJx4a65c_add_72be8_22 rfl ⟨rfl, r, hr0, wst_add (ne_of hl hr0)⟩

set_option maxRecDepth 100000 in
set_option maxHeartbeats 4000000 in
theorem c_addC (K : Kx) {w : Wd} {l e n N : Nat} {mc : Int32} {f : Nat → Option Nat} {b ci : Nat} {fs : List Value} {r0 : vw_C} (hl : w l = some (oList mc e (nI n))) (he : w e = some (aO K.2.1 N f)) (hn : n < N) (hN : N ≤ 60) (hlb : l ≠ b) (hb : w b = some (.inr (ci, fs))) (hci : vwCl[ci]? = some r0) (hca : r0.1 ∈ ([RX0, RX1, RX2, RX3, RX5, RX6, RX7, RX8] : List String)) : MT K mJx4a65c_add_9ea2d 6 1 60 [.ref l, .ref b] w (PI fun r w' => r = 1 ∧ w' = wst (wst w e (aO K.2.1 N (va_up f n (some b)))) l (oList (mc + 1) e (nI (n + 1)))) := by
  refine MT.of [some (.ref l), some (.ref b)] (by decide) rfl (nle rfl) rfl ?_
  intro E hC hR
  refine j_aload_n hC dJx4a65c_add_9ea2d_0 rfl ?_
  refine j_dup hC dJx4a65c_add_9ea2d_1 rfl ?_
  refine j_getR hC cfJx4a65c dJx4a65c_add_9ea2d_2 fJx4a65c_63 sf_mod (by decide) hl rfl ?_
  refine j_iconst hC (1) dJx4a65c_add_9ea2d_5 (by decide) ?_
  refine j_iadd hC dJx4a65c_add_9ea2d_6 ?_
  refine j_putR (fs' := [_, _, _]) hC cfJx4a65c dJx4a65c_add_9ea2d_7 fJx4a65c_63 sf_mod rfl (by decide) hl rfl rfl (nlt rfl) rfl ?_
  refine j_aload_n hC dJx4a65c_add_9ea2d_10 rfl ?_
  refine j_aload_n hC dJx4a65c_add_9ea2d_11 rfl ?_
  refine j_aload_n hC dJx4a65c_add_9ea2d_12 rfl ?_
  refine j_get hC cfJx4a65c dJx4a65c_add_9ea2d_13 fJx4a65c_9 (by decide) (wst_s _ _ _) rfl ?_
  refine j_aload_n hC dJx4a65c_add_9ea2d_16 rfl ?_
  refine j_get hC cfJx4a65c dJx4a65c_add_9ea2d_17 fJx4a65c_48 (by decide) (wst_s _ _ _) rfl ?_
  refine j_callv (kc' := 0) (ks' := 0) (r := (RJx4a65c, TJx4a65c, 3)) hC (c_add3C K (wst_s _ _ _) ((wst_n (fun z => by rw [← z, he] at hl; cases hl)).trans he) hn hN hlb ((wst_n (Ne.symm hlb)).trans hb) hci hca) dJx4a65c_add_9ea2d_20 wJx4a65c_add_72be8 lJx4a65c_131 i_yJx4a65c_add_72be8 s_yJx4a65c_add_72be8 (wst_s _ _ _) rfl rfl rfl (nle rfl) rfl (by decide) (by decide) (by decide) (kV fun w' hp => ?_)
  subst hp
  refine j_iconst hC (1) dJx4a65c_add_9ea2d_23 (by decide) ?_
  exact j_zret hC hR dJx4a65c_add_9ea2d_24 rfl (by decide) ⟨_, rfl, rfl, by rw [wst_comm (a := l) (b := e) (fun z => by rw [z, he] at hl; cases hl), wst_wst]⟩

set_option maxRecDepth 100000 in
set_option maxHeartbeats 4000000 in
theorem c_addA (K : Kx) {w : Wd} {l : Nat} {mc : Int32} {b ci : Nat} {fs : List Value} {r0 : vw_C} (hl : w l = some (oList mc K.2.1.2.2.2.2.2.1 0)) (hlb : l ≠ b) (hb : w b = some (.inr (ci, fs))) (hci : vwCl[ci]? = some r0) (hca : r0.1 ∈ ([RX0, RX1, RX2, RX3, RX5, RX6, RX7, RX8] : List String)) : MT K mJx4a65c_add_9ea2d 6 1 60 [.ref l, .ref b] w (PI fun r w' => r = 1 ∧ ∃ r : Nat, w r = none ∧ w' = wst (wst w r (aO K.2.1 10 (va_up (fun _ => none) 0 (some b)))) l (oList (mc + 1) r 1)) := by
  refine MT.of [some (.ref l), some (.ref b)] (by decide) rfl (nle rfl) rfl ?_
  intro E hC hR
  refine j_aload_n hC dJx4a65c_add_9ea2d_0 rfl ?_
  refine j_dup hC dJx4a65c_add_9ea2d_1 rfl ?_
  refine j_getR hC cfJx4a65c dJx4a65c_add_9ea2d_2 fJx4a65c_63 sf_mod (by decide) hl rfl ?_
  refine j_iconst hC (1) dJx4a65c_add_9ea2d_5 (by decide) ?_
  refine j_iadd hC dJx4a65c_add_9ea2d_6 ?_
  refine j_putR (fs' := [_, _, _]) hC cfJx4a65c dJx4a65c_add_9ea2d_7 fJx4a65c_63 sf_mod rfl (by decide) hl rfl rfl (nlt rfl) rfl ?_
  refine j_aload_n hC dJx4a65c_add_9ea2d_10 rfl ?_
  refine j_aload_n hC dJx4a65c_add_9ea2d_11 rfl ?_
  refine j_aload_n hC dJx4a65c_add_9ea2d_12 rfl ?_
  refine j_get hC cfJx4a65c dJx4a65c_add_9ea2d_13 fJx4a65c_9 (by decide) (wst_s _ _ _) rfl ?_
  refine j_aload_n hC dJx4a65c_add_9ea2d_16 rfl ?_
  refine j_get hC cfJx4a65c dJx4a65c_add_9ea2d_17 fJx4a65c_48 (by decide) (wst_s _ _ _) rfl ?_
  refine j_callv (kc' := 0) (ks' := 0) (r := (RJx4a65c, TJx4a65c, 3)) hC (c_add3A K (wst_s _ _ _) hlb ((wst_n (Ne.symm hlb)).trans hb) hci hca) dJx4a65c_add_9ea2d_20 wJx4a65c_add_72be8 lJx4a65c_131 i_yJx4a65c_add_72be8 s_yJx4a65c_add_72be8 (wst_s _ _ _) rfl rfl rfl (nle rfl) rfl (by decide) (by decide) (by decide) (kV fun w' hp => ?_)
  obtain ⟨r, hr0, rfl⟩ := hp
  refine j_iconst hC (1) dJx4a65c_add_9ea2d_23 (by decide) ?_
  exact j_zret hC hR dJx4a65c_add_9ea2d_24 rfl (by decide) ⟨_, rfl, rfl, r, by rw [wst_n (Ne.symm (ne_of_st hr0))] at hr0; exact hr0, by rw [wst_comm (a := l) (b := r) (ne_of_st hr0), wst_wst]⟩

set_option maxRecDepth 100000 in
set_option maxHeartbeats 4000000 in
theorem c_addB (K : Kx) {w : Wd} {l e n : Nat} {mc : Int32} {f : Nat → Option Nat} {b ci : Nat} {fs : List Value} {r0 : vw_C} (hl : w l = some (oList mc e (nI n))) (he : w e = some (aO K.2.1 n f)) (hn : 10 ≤ n) (hn4 : n ≤ 40) (hlb : l ≠ b) (hel : ∀ i : Nat, i < n → ∀ y : Nat, f i = some y → ∃ (ci : Nat) (fs : List Value) (r : vw_C), w y = some (.inr (ci, fs)) ∧ vwCl[ci]? = some r ∧ r.1 ∈ ([RX0, RX1, RX2, RX3, RX5, RX6, RX7, RX8] : List String)) (hb : w b = some (.inr (ci, fs))) (hci : vwCl[ci]? = some r0) (hca : r0.1 ∈ ([RX0, RX1, RX2, RX3, RX5, RX6, RX7, RX8] : List String)) : MT K mJx4a65c_add_9ea2d 6 1 60 [.ref l, .ref b] w (PI fun r w' => r = 1 ∧ ∃ r : Nat, w r = none ∧ w' = wst (wst w r (aO K.2.1 (n + n / 2) (va_up (va_cpy f (fun _ => none) 0 0 n) n (some b)))) l (oList (mc + 1) r (nI (n + 1)))) := by
  refine MT.of [some (.ref l), some (.ref b)] (by decide) rfl (nle rfl) rfl ?_
  intro E hC hR
  refine j_aload_n hC dJx4a65c_add_9ea2d_0 rfl ?_
  refine j_dup hC dJx4a65c_add_9ea2d_1 rfl ?_
  refine j_getR hC cfJx4a65c dJx4a65c_add_9ea2d_2 fJx4a65c_63 sf_mod (by decide) hl rfl ?_
  refine j_iconst hC (1) dJx4a65c_add_9ea2d_5 (by decide) ?_
  refine j_iadd hC dJx4a65c_add_9ea2d_6 ?_
  refine j_putR (fs' := [_, _, _]) hC cfJx4a65c dJx4a65c_add_9ea2d_7 fJx4a65c_63 sf_mod rfl (by decide) hl rfl rfl (nlt rfl) rfl ?_
  refine j_aload_n hC dJx4a65c_add_9ea2d_10 rfl ?_
  refine j_aload_n hC dJx4a65c_add_9ea2d_11 rfl ?_
  refine j_aload_n hC dJx4a65c_add_9ea2d_12 rfl ?_
  refine j_get hC cfJx4a65c dJx4a65c_add_9ea2d_13 fJx4a65c_9 (by decide) (wst_s _ _ _) rfl ?_
  refine j_aload_n hC dJx4a65c_add_9ea2d_16 rfl ?_
  refine j_get hC cfJx4a65c dJx4a65c_add_9ea2d_17 fJx4a65c_48 (by decide) (wst_s _ _ _) rfl ?_
  refine j_callv (kc' := 0) (ks' := 0) (r := (RJx4a65c, TJx4a65c, 3)) hC (c_add3B K (wst_s _ _ _) ((wst_n (fun z => by rw [← z, he] at hl; cases hl)).trans he) hn hn4 hlb (fun i hi y hy => by obtain ⟨ci', fs', r', z1, z2, z3⟩ := hel i hi y hy; exact el_st hl z1 z2 z3) ((wst_n (Ne.symm hlb)).trans hb) hci hca) dJx4a65c_add_9ea2d_20 wJx4a65c_add_72be8 lJx4a65c_131 i_yJx4a65c_add_72be8 s_yJx4a65c_add_72be8 (wst_s _ _ _) rfl rfl rfl (nle rfl) rfl (by decide) (by decide) (by decide) (kV fun w' hp => ?_)
  obtain ⟨r, hr0, rfl⟩ := hp
  refine j_iconst hC (1) dJx4a65c_add_9ea2d_23 (by decide) ?_
  exact j_zret hC hR dJx4a65c_add_9ea2d_24 rfl (by decide) ⟨_, rfl, rfl, r, by rw [wst_n (Ne.symm (ne_of_st hr0))] at hr0; exact hr0, by rw [wst_comm (a := l) (b := r) (ne_of_st hr0), wst_wst]⟩


/-- the list at l, its row at e, holds n elements at f 0, f 1 .. -/
def Lst (g : Gx) (w : Wd) (l e n : Nat) (f : Nat → Nat) : Prop := ∃ (mc : Int32) (N : Nat) (h : Nat → Option Nat), w l = some (oList mc e (nI n)) ∧ ((n = 0 ∧ e = g.2.2.2.2.2.1) ∨ (0 < n ∧ w e = some (aO g N h) ∧ n ≤ N ∧ 10 ≤ N ∧ N ≤ 60 ∧ ∀ i, i < n → h i = some (f i)))
theorem Lst.sz {g : Gx} {w : Wd} {l e n : Nat} {f : Nat → Nat} (h : Lst g w l e n f) : ∃ mc : Int32, w l = some (oList mc e (nI n)) := by
  obtain ⟨mc, N, h, h1, -⟩ := h
  exact ⟨mc, h1⟩
theorem Lst.cong {g : Gx} {w w' : Wd} {l e n : Nat} {f : Nat → Nat} (h : Lst g w l e n f) (hl : w' l = w l) (he : w e ≠ none → w' e = w e) : Lst g w' l e n f := by
  obtain ⟨mc, N, h, h1, h2⟩ := h
  refine ⟨mc, N, h, hl.trans h1, ?_⟩
  rcases h2 with h2 | ⟨h0, h2, h3⟩
  · exact Or.inl h2
  · exact Or.inr ⟨h0, (he (by rw [h2]; exact fun z => by cases z)).trans h2, h3⟩
theorem Lst.fn {g : Gx} {w : Wd} {l e n : Nat} {f f' : Nat → Nat} (h : Lst g w l e n f) (hf : ∀ i, i < n → f' i = f i) : Lst g w l e n f' := by
  obtain ⟨mc, N, h, h1, h2⟩ := h
  refine ⟨mc, N, h, h1, ?_⟩
  rcases h2 with h2 | ⟨h0, h2, h3, h4, h5, h6⟩
  · exact Or.inl h2
  · exact Or.inr ⟨h0, h2, h3, h4, h5, fun i hi => by rw [hf i hi]; exact h6 i hi⟩
/-- List.get -/
theorem c_get (K : Kx) {w : Wd} {l e n k : Nat} {f : Nat → Nat} (hl : Lst K.2.1 w l e n f) (hk : k < n) : MT K mJx4a65c_get_915e3 2 0 0 [.ref l, .int (nI k)] w (PA fun r w' => r = f k ∧ w' = w) := by
  obtain ⟨mc, N, h, h1, h2⟩ := hl
  rcases h2 with ⟨h2, -⟩ | ⟨h0, h2, h3, h4, h5, h6⟩
  · omega
  · exact c_lget K h1 h2 hk h3 (by omega) (h6 k hk)
/-- List.add -/
theorem c_add (K : Kx) {w : Wd} {l e n b ci : Nat} {f : Nat → Nat} {fs : List Value} {r0 : vw_C} (hl : Lst K.2.1 w l e n f) (hn : n ≤ 40) (hlb : l ≠ b) (hel : ∀ i : Nat, i < n → ∃ (ci : Nat) (fs : List Value) (r : vw_C), w (f i) = some (.inr (ci, fs)) ∧ vwCl[ci]? = some r ∧ r.1 ∈ ([RX0, RX1, RX2, RX3, RX5, RX6, RX7, RX8] : List String)) (hb : w b = some (.inr (ci, fs))) (hci : vwCl[ci]? = some r0) (hca : r0.1 ∈ ([RX0, RX1, RX2, RX3, RX5, RX6, RX7, RX8] : List String)) :
    MT K mJx4a65c_add_9ea2d 6 1 60 [.ref l, .ref b] w (PI fun r w' => r = 1 ∧ ∃ e' : Nat, Lst K.2.1 w' l e' (n + 1) (va_up f n b) ∧ ((e' = e ∧ 0 < n) ∨ w e' = none) ∧ ∀ a : Nat, a ≠ l → a ≠ e' → w' a = w a) := by
  obtain ⟨mc, N, h, h1, h2⟩ := hl
  rcases h2 with ⟨h2, h3⟩ | ⟨h0, h2, h3, h4, h5, h6⟩
  · subst h2
    subst h3
    refine (c_addA K h1 hlb hb hci hca).mono ?_
    rintro v w' ⟨r, rfl, rfl, q, hq, rfl⟩
    refine ⟨1, rfl, rfl, q, ⟨mc + 1, 10, _, wst_s _ _ _, Or.inr ⟨by omega, (wst_n (Ne.symm (ne_of h1 hq))).trans (wst_s _ _ _), by omega, by omega, by omega, fun i hi => ?_⟩⟩, Or.inr hq, fun a ha1 ha2 => by rw [wst_n ha1, wst_n ha2]⟩
    rw [show i = 0 by omega, va_up_self, va_up_self]
  · by_cases hnN : n < N
    · refine (c_addC K h1 h2 hnN h5 hlb hb hci hca).mono ?_
      rintro v w' ⟨r, rfl, rfl, rfl⟩
      refine ⟨1, rfl, rfl, e, ⟨mc + 1, N, _, wst_s _ _ _, Or.inr ⟨by omega, (wst_n (fun z => by rw [z, h1] at h2; cases h2)).trans (wst_s _ _ _), by omega, h4, h5, fun i hi => ?_⟩⟩, Or.inl ⟨rfl, h0⟩, fun a ha1 ha2 => by rw [wst_n ha1, wst_n ha2]⟩
      by_cases hin : i = n
      · rw [hin, va_up_self, va_up_self]
      · rw [va_up_ne _ _ hin, va_up_ne _ _ hin]; exact h6 i (by omega)
    · have hNn : N = n := by omega
      subst hNn
      refine (c_addB K h1 h2 h4 hn hlb (fun i hi y hy => ?_) hb hci hca).mono ?_
      · rw [h6 i hi] at hy
        cases hy
        exact hel i hi
      · rintro v w' ⟨r, rfl, rfl, q, hq, rfl⟩
        refine ⟨1, rfl, rfl, q, ⟨mc + 1, _, _, wst_s _ _ _, Or.inr ⟨by omega, (wst_n (Ne.symm (ne_of h1 hq))).trans (wst_s _ _ _), by omega, by omega, by omega, fun i hi => ?_⟩⟩, Or.inr hq, fun a ha1 ha2 => by rw [wst_n ha1, wst_n ha2]⟩
        by_cases hin : i = N
        · rw [hin, va_up_self, va_up_self]
        · rw [va_up_ne _ _ hin, va_up_ne _ _ hin, pk_cpy_in (Nat.zero_le _) (by omega)]
          rw [show 0 + (i - 0) = i by omega]
          exact h6 i (by omega)

