
def car (S : Ast) (k e f : Nat) : Prop := 1000 * (S.1 52 k).toInt * (S.1 53 k).toInt ≤ (S.1 45 e).toInt * (S.1 45 e).toInt * (f : Int)
theorem clampL {q : Int64} {c s : Int} (hs : 0 < s) (hc : 0 ≤ c) (hq : q.toInt = (c + s - 1) / s) : ∃ lf : Nat, Int64.toInt32 (if (if q < 41 then q else 41) < 1 then 1 else (if q < 41 then q else 41)) = nI lf ∧ 1 ≤ lf ∧ lf ≤ 41 ∧ ∀ f : Nat, 1 ≤ f → f ≤ 40 → (lf ≤ f ↔ c ≤ s * (f : Int)) := by
  have l41 : (41 : Int64).toInt = 41 := by decide
  have l1 : (1 : Int64).toInt = 1 := by decide
  have key : ∀ f : Nat, q.toInt ≤ (f : Int) ↔ c ≤ s * (f : Int) := by
    intro f
    have h1 := @Int.ediv_lt_iff_lt_mul (c + s - 1) ((f : Int) + 1) s hs
    rw [← hq] at h1
    have h2 : ((f : Int) + 1) * s = s * (f : Int) + s := by rw [Int.add_mul, Int.one_mul, Int.mul_comm]
    rw [h2] at h1
    omega
  have h0 : 0 ≤ q.toInt := by rw [hq]; exact Int.ediv_nonneg (by omega) (by omega)
  by_cases h41 : q < 41
  · rw [if_pos h41]
    rw [Int64.lt_iff_toInt_lt, l41] at h41
    by_cases h1 : q < 1
    · rw [if_pos h1]
      rw [Int64.lt_iff_toInt_lt, l1] at h1
      refine ⟨1, by decide, by omega, by omega, fun f hf1 hf2 => ?_⟩
      have := key f
      omega
    · rw [if_neg h1]
      rw [Int64.lt_iff_toInt_lt, l1] at h1
      refine ⟨q.toInt.toNat, ?_, by omega, by omega, fun f hf1 hf2 => ?_⟩
      · apply Int32.toInt_inj.mp
        rw [Int64.toInt_toInt32, bmod32 (by omega) (by omega), nI_toInt (by omega)]
        omega
      · have := key f
        omega
  · rw [if_neg h41, if_neg (by decide)]
    rw [Int64.lt_iff_toInt_lt, l41] at h41
    refine ⟨41, by decide, by omega, by omega, fun f hf1 hf2 => ?_⟩
    have := key f
    omega
theorem lfall {S : Ast} (h : LSt S) {k e : Nat} (hk : k < cn S 50) (he : e < cn S 44) : ¬ (S.1 45 e).toInt64 * (S.1 45 e).toInt64 = 0 ∧ ∃ lf : Nat, Int64.toInt32 (if (if (1000 * (S.1 52 k).toInt64 * (S.1 53 k).toInt64 + (S.1 45 e).toInt64 * (S.1 45 e).toInt64 - 1) / ((S.1 45 e).toInt64 * (S.1 45 e).toInt64) < 41 then (1000 * (S.1 52 k).toInt64 * (S.1 53 k).toInt64 + (S.1 45 e).toInt64 * (S.1 45 e).toInt64 - 1) / ((S.1 45 e).toInt64 * (S.1 45 e).toInt64) else 41) < 1 then 1 else (if (1000 * (S.1 52 k).toInt64 * (S.1 53 k).toInt64 + (S.1 45 e).toInt64 * (S.1 45 e).toInt64 - 1) / ((S.1 45 e).toInt64 * (S.1 45 e).toInt64) < 41 then (1000 * (S.1 52 k).toInt64 * (S.1 53 k).toInt64 + (S.1 45 e).toInt64 * (S.1 45 e).toInt64 - 1) / ((S.1 45 e).toInt64 * (S.1 45 e).toInt64) else 41)) = nI lf ∧ 1 ≤ lf ∧ lf ≤ 41 ∧ ∀ f : Nat, 1 ≤ f → f ≤ 40 → (lf ≤ f ↔ car S k e f) := by
  have a := (h.2.2.2.1 e he).1
  have a1 := a.1
  have a2 := a.2
  have q := mul_rg (a := (S.1 45 e).toInt) (b := (S.1 45 e).toInt) (by omega) a2 (by omega) a2
  have q1 : 1 ≤ (S.1 45 e).toInt * (S.1 45 e).toInt := by
    have := Int.mul_le_mul (a := 1) (b := 1) (c := (S.1 45 e).toInt) (d := (S.1 45 e).toInt) (by omega) (by omega) (by omega) (by omega)
    omega
  have e1 : ((S.1 45 e).toInt64 * (S.1 45 e).toInt64).toInt = (S.1 45 e).toInt * (S.1 45 e).toInt := by
    rw [l_mul] <;> rw [Int32.toInt_toInt64] <;> omega
  have b := (h.2.2.1 k hk).2.1
  have b1 := b.1
  have b2 := b.2
  have c := (h.2.2.1 k hk).2.2
  have c1 := c.1
  have c2 := c.2
  have e2 := wt_r h hk
  have r := mul_rg (a := 1000 * (S.1 52 k).toInt) (b := (S.1 53 k).toInt) (A := 10000000) (by omega) (by omega) c1 c2
  have e3 : (1000 * (S.1 52 k).toInt64 * (S.1 53 k).toInt64 + (S.1 45 e).toInt64 * (S.1 45 e).toInt64).toInt = 1000 * (S.1 52 k).toInt * (S.1 53 k).toInt + (S.1 45 e).toInt * (S.1 45 e).toInt := by
    rw [l_add] <;> rw [e1, e2] <;> omega
  have l1 : (1 : Int64).toInt = 1 := by decide
  have e4 : (1000 * (S.1 52 k).toInt64 * (S.1 53 k).toInt64 + (S.1 45 e).toInt64 * (S.1 45 e).toInt64 - 1).toInt = 1000 * (S.1 52 k).toInt * (S.1 53 k).toInt + (S.1 45 e).toInt * (S.1 45 e).toInt - 1 := by
    rw [l_sub] <;> rw [e3, l1] <;> omega
  refine ⟨fun z => by rw [z, l0] at e1; omega, ?_⟩
  refine clampL (c := 1000 * (S.1 52 k).toInt * (S.1 53 k).toInt) (s := (S.1 45 e).toInt * (S.1 45 e).toInt) (by omega) r.1 ?_
  have hd0 : 0 ≤ (1000 * (S.1 52 k).toInt * (S.1 53 k).toInt + (S.1 45 e).toInt * (S.1 45 e).toInt - 1) / ((S.1 45 e).toInt * (S.1 45 e).toInt) := Int.ediv_nonneg (by omega) (by omega)
  have hd1 : (1000 * (S.1 52 k).toInt * (S.1 53 k).toInt + (S.1 45 e).toInt * (S.1 45 e).toInt - 1) / ((S.1 45 e).toInt * (S.1 45 e).toInt) ≤ 1000 * (S.1 52 k).toInt * (S.1 53 k).toInt + (S.1 45 e).toInt * (S.1 45 e).toInt - 1 := Int.ediv_le_self _ (by omega)
  rw [Int64.toInt_div, e4, e1, Int.tdiv_eq_ediv_of_nonneg (by omega), bmod_id (by omega) (by omega)]

set_option maxRecDepth 100000 in
set_option maxHeartbeats 4000000 in
theorem c_leastFall (K : Kx) {w : Wd} {O : Nat → Prop} {ad : Nat → Nat → Nat} {z : Zx} {np : Nat} {S : Ast} (k e : Nat) (hA : SA K.2.1 w O ad z np S) (hL : LSt S) (hnp : NP S np) (hk : k < cn S 50) (he : e < cn S 44) : MT K mX4_leastFall 3 0 0 [.ref (ad 9 0), .int (nI k), .int (nI e)] w (PI fun r w' => (∃ lf : Nat, r = nI lf ∧ 1 ≤ lf ∧ lf ≤ 41 ∧ ∀ f : Nat, 1 ≤ f → f ≤ 40 → (lf ≤ f ↔ car S k e f)) ∧ w' = w) := by
  refine MT.of [some (.ref (ad 9 0)), some (.int (nI k)), some (.int (nI e)), none, none, none, none, none, none, none, none, none] (by decide) rfl (nle rfl) rfl ?_
  intro E hC hR
  have hS := SB.rf hA
  refine j_aload_n hC dX4_leastFall_0 rfl ?_
  refine j_get hC cfX4 dX4_leastFall_1 fX4_18 (by decide) hS.1.line rfl ?_
  refine j_iload_n hC dX4_leastFall_4 rfl ?_
  obtain ⟨mc1, hl1⟩ := (hS.1.lst (j := 11) (by decide)).sz
  refine j_callv (kc' := 0) (ks' := 0) (r := (RJx4a65c, TJx4a65c, 3)) hC (c_get K (hS.1.lst (j := 11) (by decide)) (by rw [vN_e11]; exact Nat.lt_of_lt_of_le hk hnp.1)) dX4_leastFall_5 wJx4a65c_get_915e3 lX4_29 i_yJx4a65c_get_915e3 s_yJx4a65c_get_915e3 hl1 rfl rfl rfl (nle rfl) rfl (by decide) (by decide) (by decide) (kA fun r w' hp => ?_)
  obtain ⟨rfl, hw⟩ := hp
  rw [hw]
  clear hw w'
  refine j_cast (r := (RX6, TX6, 7)) hC dX4_leastFall_8 kX4_62 (hS.1.piece (Nat.lt_of_lt_of_le hk hnp.1)) rfl ?_
  refine j_astore_n (lv' := [some _, some _, some _, some _, none, none, none, none, none, none, none, none]) hC dX4_leastFall_11 (nlt rfl) rfl ?_
  refine j_aload_n hC dX4_leastFall_12 rfl ?_
  refine j_get hC cfX4 dX4_leastFall_13 fX4_12 (by decide) hS.1.line rfl ?_
  refine j_iload_n hC dX4_leastFall_16 rfl ?_
  obtain ⟨mc2, hl2⟩ := (hS.1.lst (j := 10) (by decide)).sz
  refine j_callv (kc' := 0) (ks' := 0) (r := (RJx4a65c, TJx4a65c, 3)) hC (c_get K (hS.1.lst (j := 10) (by decide)) (by rw [vN_e10]; exact he)) dX4_leastFall_17 wJx4a65c_get_915e3 lX4_29 i_yJx4a65c_get_915e3 s_yJx4a65c_get_915e3 hl2 rfl rfl rfl (nle rfl) rfl (by decide) (by decide) (by decide) (kA fun r w' hp => ?_)
  obtain ⟨rfl, hw⟩ := hp
  rw [hw]
  clear hw w'
  refine j_cast (r := (RX1, TX1, 2)) hC dX4_leastFall_20 kX4_33 (hS.1.entry he) rfl ?_
  refine j_get hC cfX1 dX4_leastFall_23 fX4_35 (by decide) (hS.1.entry he) rfl ?_
  refine j_i2l hC dX4_leastFall_26 ?_
  refine j_lstore (lv' := [some _, some _, some _, some _, some _, none, none, none, none, none, none, none]) hC dX4_leastFall_27 (nlt rfl) rfl ?_
  refine j_lload hC dX4_leastFall_29 rfl ?_
  refine j_lload hC dX4_leastFall_31 rfl ?_
  refine j_lmul hC dX4_leastFall_33 ?_
  refine j_lstore (lv' := [some _, some _, some _, some _, some _, none, some _, none, none, none, none, none]) hC dX4_leastFall_34 (nlt rfl) rfl ?_
  refine j_ldc2 hC dX4_leastFall_36 nX4_143 ?_
  refine j_aload_n hC dX4_leastFall_39 rfl ?_
  refine j_get hC cfX6 dX4_leastFall_40 fX4_68 (by decide) (hS.1.piece (Nat.lt_of_lt_of_le hk hnp.1)) rfl ?_
  refine j_i2l hC dX4_leastFall_43 ?_
  refine j_lmul hC dX4_leastFall_44 ?_
  refine j_aload_n hC dX4_leastFall_45 rfl ?_
  refine j_get hC cfX6 dX4_leastFall_46 fX4_71 (by decide) (hS.1.piece (Nat.lt_of_lt_of_le hk hnp.1)) rfl ?_
  refine j_i2l hC dX4_leastFall_49 ?_
  refine j_lmul hC dX4_leastFall_50 ?_
  refine j_lstore (lv' := [some _, some _, some _, some _, some _, none, some _, none, some _, none, none, none]) hC dX4_leastFall_51 (nlt rfl) rfl ?_
  refine j_lload hC dX4_leastFall_53 rfl ?_
  refine j_lload hC dX4_leastFall_55 rfl ?_
  refine j_ladd hC dX4_leastFall_57 ?_
  refine j_lconst hC (1) dX4_leastFall_58 (by decide) ?_
  refine j_lsub hC dX4_leastFall_59 ?_
  refine j_lload hC dX4_leastFall_60 rfl ?_
  refine j_ldiv hC dX4_leastFall_62 ((lfall hL hk he).1) ?_
  refine j_lstore (lv' := [some _, some _, some _, some _, some _, none, some _, none, some _, none, some _, none]) hC dX4_leastFall_63 (nlt rfl) rfl ?_
  refine j_lconst hC (1) dX4_leastFall_65 (by decide) ?_
  refine j_ldc2 hC dX4_leastFall_66 nX4_145 ?_
  refine j_lload hC dX4_leastFall_69 rfl ?_
  refine j_mminL hC dX4_leastFall_71 lX4_130 t_yJ9_min_f86c9 inJ9 wJ9_min_f86c9.1 rfl (nle rfl) (by decide) ?_
  refine j_mmaxL hC dX4_leastFall_74 lX4_147 t_yJ9_max_f86c9 inJ9 wJ9_max_f86c9.1 rfl (nle rfl) (by decide) ?_
  refine j_l2i hC dX4_leastFall_77 ?_
  exact j_iret hC hR dX4_leastFall_78 rfl ⟨_, rfl, (lfall hL hk he).2, rfl⟩


abbrev cov (S : Ast) (co : Int) (k e d : Nat) : Prop := (S.1 45 e).toInt + co ≤ abv S k - (S.1 49 0).toInt + (d : Int)
theorem cov_i {S : Ast} (h : LSt S) {k e d : Nat} (hk : k < cn S 50) (he : e < cn S 44) (hd : d ≤ 400) {co : Int32} (hco : rg co 0 10000) {g : Int32} (hg : g.toInt = abv S k) : (g - S.1 49 0 + nI d < co + S.1 45 e) ↔ ¬ cov S co.toInt k e d := by
  have a := h.ab hk
  have b := h.2.2.2.2.2
  have b1 := b.1
  have b2 := b.2
  have w := (h.2.2.2.1 e he).1
  have w1 := w.1
  have w2 := w.2
  have c1 := hco.1
  have c2 := hco.2
  have e1 := nI_toInt (n := d) (by omega)
  have e2 : (g - S.1 49 0).toInt = abv S k - (S.1 49 0).toInt := by rw [i_sub (by omega) (by omega), hg]
  have e3 : (g - S.1 49 0 + nI d).toInt = abv S k - (S.1 49 0).toInt + d := by rw [i_add (by omega) (by omega), e2, e1]
  have e4 : (co + S.1 45 e).toInt = co.toInt + (S.1 45 e).toInt := i_add (by omega) (by omega)
  rw [Int32.lt_iff_toInt_lt, e3, e4]
  unfold cov
  omega

set_option maxRecDepth 100000 in
set_option maxHeartbeats 4000000 in
theorem c_cov (K : Kx) {w : Wd} {O : Nat → Prop} {ad : Nat → Nat → Nat} {z : Zx} {np : Nat} {S : Ast} (k e d : Nat) (hA : SA K.2.1 w O ad z np S) (hL : LSt S) (hnp : NP S np) (hk : k < cn S 50) (he : e < cn S 44) (hd : d ≤ 400) (hco : rg z.1 0 10000) : MT K mX4_isCoveredAtBegin 3 0 0 [.ref (ad 9 0), .int (nI k), .int (nI e), .int (nI d)] w (PI fun r w' => r = (if cov S z.1.toInt k e d then 1 else 0) ∧ w' = w) := by
  refine MT.of [some (.ref (ad 9 0)), some (.int (nI k)), some (.int (nI e)), some (.int (nI d)), none] (by decide) rfl (nle rfl) rfl ?_
  intro E hC hR
  have hS := SB.rf hA
  refine j_iload_n hC dX4_isCoveredAtBegin_0 rfl ?_
  refine j_if_ne hC 11 dX4_isCoveredAtBegin_1 (by decide) (fun c_1 => ?_) (fun c_1 => ?_)
  · refine j_aload_n hC dX4_isCoveredAtBegin_11 rfl ?_
    refine j_get hC cfX4 dX4_isCoveredAtBegin_12 fX4_18 (by decide) hS.1.line rfl ?_
    refine j_iload_n hC dX4_isCoveredAtBegin_15 rfl ?_
    refine j_iconst hC (1) dX4_isCoveredAtBegin_16 (by decide) ?_
    refine j_isub hC dX4_isCoveredAtBegin_17 ?_
    have hk0 : k ≠ 0 := fun q => c_1 (by rw [q]; exact nI_0)
    refine J.toI (y := nI (k - 1)) (by obtain ⟨k0, rfl⟩ : ∃ k0, k = k0 + 1 := ⟨k - 1, by omega⟩; exact nI_pred k0) ?_
    obtain ⟨mc1, hl1⟩ := (hS.1.lst (j := 11) (by decide)).sz
    refine j_callv (kc' := 0) (ks' := 0) (r := (RJx4a65c, TJx4a65c, 3)) hC (c_get K (hS.1.lst (j := 11) (by decide)) (by rw [vN_e11]; have := hnp.1; omega)) dX4_isCoveredAtBegin_18 wJx4a65c_get_915e3 lX4_29 i_yJx4a65c_get_915e3 s_yJx4a65c_get_915e3 hl1 rfl rfl rfl (nle rfl) rfl (by decide) (by decide) (by decide) (kA fun r w' hp => ?_)
    obtain ⟨rfl, hw⟩ := hp
    rw [hw]
    clear hw w'
    refine j_cast (r := (RX6, TX6, 7)) hC dX4_isCoveredAtBegin_21 kX4_62 (hS.1.piece (show k - 1 < np by have := hnp.1; omega)) rfl ?_
    refine j_get hC cfX6 dX4_isCoveredAtBegin_24 fX4_67 (by decide) (hS.1.piece (show k - 1 < np by have := hnp.1; omega)) rfl ?_
    refine j_istore (lv' := [some _, some _, some _, some _, some _]) hC dX4_isCoveredAtBegin_27 (nlt rfl) rfl ?_
    first | have hg : (S.1 48 0).toInt = abv S k := (by unfold abv; rw [if_pos ((nI_eq (a := k) (b := 0) (by have := hL.1.2; omega) (by omega)).mp (c_1.trans nI_0.symm))]) | have hg : (S.1 51 (k - 1)).toInt = abv S k := (by unfold abv; rw [if_neg (fun q => c_1 (by rw [q]; exact nI_0))])
    refine j_iload hC dX4_isCoveredAtBegin_29 rfl ?_
    refine j_aload_n hC dX4_isCoveredAtBegin_31 rfl ?_
    refine j_get hC cfX4 dX4_isCoveredAtBegin_32 fX4_53 (by decide) hS.1.line rfl ?_
    refine j_isub hC dX4_isCoveredAtBegin_35 ?_
    refine j_iload_n hC dX4_isCoveredAtBegin_36 rfl ?_
    refine j_iadd hC dX4_isCoveredAtBegin_37 ?_
    refine j_aload_n hC dX4_isCoveredAtBegin_38 rfl ?_
    refine j_get hC cfX4 dX4_isCoveredAtBegin_39 fX4_76 (by decide) hS.1.line rfl ?_
    refine j_aload_n hC dX4_isCoveredAtBegin_42 rfl ?_
    refine j_get hC cfX4 dX4_isCoveredAtBegin_43 fX4_12 (by decide) hS.1.line rfl ?_
    refine j_iload_n hC dX4_isCoveredAtBegin_46 rfl ?_
    obtain ⟨mc2, hl2⟩ := (hS.1.lst (j := 10) (by decide)).sz
    refine j_callv (kc' := 0) (ks' := 0) (r := (RJx4a65c, TJx4a65c, 3)) hC (c_get K (hS.1.lst (j := 10) (by decide)) (by rw [vN_e10]; exact he)) dX4_isCoveredAtBegin_47 wJx4a65c_get_915e3 lX4_29 i_yJx4a65c_get_915e3 s_yJx4a65c_get_915e3 hl2 rfl rfl rfl (nle rfl) rfl (by decide) (by decide) (by decide) (kA fun r w' hp => ?_)
    obtain ⟨rfl, hw⟩ := hp
    rw [hw]
    clear hw w'
    refine j_cast (r := (RX1, TX1, 2)) hC dX4_isCoveredAtBegin_50 kX4_33 (hS.1.entry he) rfl ?_
    refine j_get hC cfX1 dX4_isCoveredAtBegin_53 fX4_35 (by decide) (hS.1.entry he) rfl ?_
    refine j_iadd hC dX4_isCoveredAtBegin_56 ?_
    refine j_icmp_lt hC 64 dX4_isCoveredAtBegin_57 (by decide) (fun c_57 => ?_) (fun c_57 => ?_)
    · refine j_iconst hC (0) dX4_isCoveredAtBegin_64 (by decide) ?_
      first | (have hcv : ¬ cov S z.1.toInt k e d := (cov_i hL hk he hd hco hg).mp c_57; exact j_zret hC hR dX4_isCoveredAtBegin_65 rfl (by decide) ⟨_, rfl, by rw [if_neg hcv], rfl⟩) | (have hcv : cov S z.1.toInt k e d := Decidable.of_not_not (fun q => c_57 ((cov_i hL hk he hd hco hg).mpr q)); exact j_zret hC hR dX4_isCoveredAtBegin_65 rfl (by decide) ⟨_, rfl, by rw [if_pos hcv], rfl⟩)
    · refine j_iconst hC (1) dX4_isCoveredAtBegin_60 (by decide) ?_
      refine j_goto hC 65 dX4_isCoveredAtBegin_61 (by decide) ?_
      first | (have hcv : ¬ cov S z.1.toInt k e d := (cov_i hL hk he hd hco hg).mp c_57; exact j_zret hC hR dX4_isCoveredAtBegin_65 rfl (by decide) ⟨_, rfl, by rw [if_neg hcv], rfl⟩) | (have hcv : cov S z.1.toInt k e d := Decidable.of_not_not (fun q => c_57 ((cov_i hL hk he hd hco hg).mpr q)); exact j_zret hC hR dX4_isCoveredAtBegin_65 rfl (by decide) ⟨_, rfl, by rw [if_pos hcv], rfl⟩)
  · refine j_aload_n hC dX4_isCoveredAtBegin_4 rfl ?_
    refine j_get hC cfX4 dX4_isCoveredAtBegin_5 fX4_50 (by decide) hS.1.line rfl ?_
    refine j_goto hC 27 dX4_isCoveredAtBegin_8 (by decide) ?_
    refine j_istore (lv' := [some _, some _, some _, some _, some _]) hC dX4_isCoveredAtBegin_27 (nlt rfl) rfl ?_
    first | have hg : (S.1 48 0).toInt = abv S k := (by unfold abv; rw [if_pos ((nI_eq (a := k) (b := 0) (by have := hL.1.2; omega) (by omega)).mp (c_1.trans nI_0.symm))]) | have hg : (S.1 51 (k - 1)).toInt = abv S k := (by unfold abv; rw [if_neg (fun q => c_1 (by rw [q]; exact nI_0))])
    refine j_iload hC dX4_isCoveredAtBegin_29 rfl ?_
    refine j_aload_n hC dX4_isCoveredAtBegin_31 rfl ?_
    refine j_get hC cfX4 dX4_isCoveredAtBegin_32 fX4_53 (by decide) hS.1.line rfl ?_
    refine j_isub hC dX4_isCoveredAtBegin_35 ?_
    refine j_iload_n hC dX4_isCoveredAtBegin_36 rfl ?_
    refine j_iadd hC dX4_isCoveredAtBegin_37 ?_
    refine j_aload_n hC dX4_isCoveredAtBegin_38 rfl ?_
    refine j_get hC cfX4 dX4_isCoveredAtBegin_39 fX4_76 (by decide) hS.1.line rfl ?_
    refine j_aload_n hC dX4_isCoveredAtBegin_42 rfl ?_
    refine j_get hC cfX4 dX4_isCoveredAtBegin_43 fX4_12 (by decide) hS.1.line rfl ?_
    refine j_iload_n hC dX4_isCoveredAtBegin_46 rfl ?_
    obtain ⟨mc3, hl3⟩ := (hS.1.lst (j := 10) (by decide)).sz
    refine j_callv (kc' := 0) (ks' := 0) (r := (RJx4a65c, TJx4a65c, 3)) hC (c_get K (hS.1.lst (j := 10) (by decide)) (by rw [vN_e10]; exact he)) dX4_isCoveredAtBegin_47 wJx4a65c_get_915e3 lX4_29 i_yJx4a65c_get_915e3 s_yJx4a65c_get_915e3 hl3 rfl rfl rfl (nle rfl) rfl (by decide) (by decide) (by decide) (kA fun r w' hp => ?_)
    obtain ⟨rfl, hw⟩ := hp
    rw [hw]
    clear hw w'
    refine j_cast (r := (RX1, TX1, 2)) hC dX4_isCoveredAtBegin_50 kX4_33 (hS.1.entry he) rfl ?_
    refine j_get hC cfX1 dX4_isCoveredAtBegin_53 fX4_35 (by decide) (hS.1.entry he) rfl ?_
    refine j_iadd hC dX4_isCoveredAtBegin_56 ?_
    refine j_icmp_lt hC 64 dX4_isCoveredAtBegin_57 (by decide) (fun c_57 => ?_) (fun c_57 => ?_)
    · refine j_iconst hC (0) dX4_isCoveredAtBegin_64 (by decide) ?_
      first | (have hcv : ¬ cov S z.1.toInt k e d := (cov_i hL hk he hd hco hg).mp c_57; exact j_zret hC hR dX4_isCoveredAtBegin_65 rfl (by decide) ⟨_, rfl, by rw [if_neg hcv], rfl⟩) | (have hcv : cov S z.1.toInt k e d := Decidable.of_not_not (fun q => c_57 ((cov_i hL hk he hd hco hg).mpr q)); exact j_zret hC hR dX4_isCoveredAtBegin_65 rfl (by decide) ⟨_, rfl, by rw [if_pos hcv], rfl⟩)
    · refine j_iconst hC (1) dX4_isCoveredAtBegin_60 (by decide) ?_
      refine j_goto hC 65 dX4_isCoveredAtBegin_61 (by decide) ?_
      first | (have hcv : ¬ cov S z.1.toInt k e d := (cov_i hL hk he hd hco hg).mp c_57; exact j_zret hC hR dX4_isCoveredAtBegin_65 rfl (by decide) ⟨_, rfl, by rw [if_neg hcv], rfl⟩) | (have hcv : cov S z.1.toInt k e d := Decidable.of_not_not (fun q => c_57 ((cov_i hL hk he hd hco hg).mpr q)); exact j_zret hC hR dX4_isCoveredAtBegin_65 rfl (by decide) ⟨_, rfl, by rw [if_pos hcv], rfl⟩)


def cfr (S : Ast) (co di : Int) (k e d : Nat) : Int := if (S.1 51 k).toInt - (S.1 49 0).toInt + (d : Int) < co + (S.1 45 e).toInt then NEV else own S di k e d + VV S co di (cn S 50) (cn S 44) (cn S 50 - (k + 1)) d e
/-- the rows of the pieces from q on hold the least costs -/
def LD (S : Ast) (co di : Int) (le : Nat → Nat → Int64) (q : Nat) : Prop := ∀ k, q ≤ k → k < cn S 50 → ∀ d, d ≤ 40 * k → ∀ e, e < cn S 44 → (le k (d * 6 + e)).toInt = VV S co di (cn S 50) (cn S 44) (cn S 50 - k) d e
theorem LD.mono {S : Ast} {co di : Int} {le : Nat → Nat → Int64} {q q' : Nat} (h : LD S co di le q) (hq : q ≤ q') : LD S co di le q' := fun k h1 h2 => h k (by omega) h2
theorem cf_depth {S : Ast} (h : LSt S) {k e d : Nat} (hk : k < cn S 50) (he : e < cn S 44) (hd : d ≤ 400) {co : Int32} (hco : rg co 0 10000) : ((S.1 51 k).toInt64 - (S.1 49 0).toInt64 + (nI d).toInt64).toInt = (S.1 51 k).toInt - (S.1 49 0).toInt + (d : Int) ∧ ((co + S.1 45 e).toInt64).toInt = co.toInt + (S.1 45 e).toInt := by
  have a := (h.2.2.1 k hk).1
  have a1 := a.1
  have a2 := a.2
  have b := h.2.2.2.2.2
  have b1 := b.1
  have b2 := b.2
  have w := (h.2.2.2.1 e he).1
  have w1 := w.1
  have w2 := w.2
  have c1 := hco.1
  have c2 := hco.2
  have e1 := nI_toInt (n := d) (by omega)
  have e2 : ((S.1 51 k).toInt64 - (S.1 49 0).toInt64).toInt = (S.1 51 k).toInt - (S.1 49 0).toInt := by
    rw [l_sub] <;> rw [Int32.toInt_toInt64, Int32.toInt_toInt64] <;> omega
  refine ⟨?_, ?_⟩
  · rw [l_add] <;> rw [e2, Int32.toInt_toInt64, e1] <;> omega
  · rw [Int32.toInt_toInt64, i_add (by omega) (by omega)]
theorem cf_own {S : Ast} (h : LSt S) {k e d : Nat} (hk : k < cn S 50) (he : e < cn S 44) (hd : d ≤ 400) {di : Int32} (hdi : rg di 0 1000) (h0 : 0 ≤ (S.1 51 k).toInt - (S.1 49 0).toInt + (d : Int)) {x : Int64} (hx : x.toInt = (S.1 51 k).toInt - (S.1 49 0).toInt + (d : Int)) : ((S.1 52 k).toInt64 * ((S.1 46 e).toInt64 + di.toInt64 * x)).toInt = own S di.toInt k e d ∧ 0 ≤ own S di.toInt k e d ∧ own S di.toInt k e d ≤ OWB := by
  have ob := own_rg h (di := di.toInt) ⟨hdi.1, hdi.2⟩ hk he (d := d) (by omega) h0
  refine ⟨?_, ob⟩
  obtain ⟨⟨g1, g2⟩, ⟨l1, l2⟩, n1⟩ := h.2.2.1 k hk
  obtain ⟨w1, p1, p2⟩ := h.2.2.2.1 e he
  obtain ⟨b1, b2⟩ := h.2.2.2.2.2
  have d1 := hdi.1
  have d2 := hdi.2
  have a := mul_rg d1 d2 h0 (B := 200800) (by omega)
  have e1 : (di.toInt64 * x).toInt = di.toInt * ((S.1 51 k).toInt - (S.1 49 0).toInt + (d : Int)) := by
    rw [l_mul] <;> rw [Int32.toInt_toInt64, hx] <;> omega
  have e2 : ((S.1 46 e).toInt64 + di.toInt64 * x).toInt = (S.1 46 e).toInt + di.toInt * ((S.1 51 k).toInt - (S.1 49 0).toInt + (d : Int)) := by
    rw [l_add] <;> rw [e1, Int32.toInt_toInt64] <;> omega
  have b := mul_rg (a := (S.1 52 k).toInt) (A := 10000) (b := (S.1 46 e).toInt + di.toInt * ((S.1 51 k).toInt - (S.1 49 0).toInt + (d : Int))) (B := 200900000) (by omega) (by omega) (by omega) (by omega)
  unfold own
  rw [l_mul] <;> rw [e2, Int32.toInt_toInt64] <;> omega

set_option maxRecDepth 100000 in
set_option maxHeartbeats 4000000 in
theorem c_costFrom (K : Kx) {w : Wd} {O : Nat → Prop} {ad : Nat → Nat → Nat} {z : Zx} {np : Nat} {S : Ast} (k e d : Nat) (hA : SA K.2.1 w O ad z np S) (hL : LSt S) (hnp : NP S np) (hk : k < cn S 50) (he : e < cn S 44) (hd1 : d ≤ 40 * (k + 1)) (hco : rg z.1 0 10000) (hdi : rg z.2.1 0 1000) (hD : LD S z.1.toInt z.2.1.toInt z.2.2.2 (k + 1)) : MT K mX4_costFrom 3 0 0 [.ref (ad 9 0), .int (nI k), .int (nI e), .int (nI d)] w (PL fun r w' => r.toInt = cfr S z.1.toInt z.2.1.toInt k e d ∧ w' = w) := by
  refine MT.of [some (.ref (ad 9 0)), some (.int (nI k)), some (.int (nI e)), some (.int (nI d)), none, none, none, none, none, none] (by decide) rfl (nle rfl) rfl ?_
  intro E hC hR
  have hS := SB.rf hA
  have hd : d ≤ 400 := by have := hL.1.2; omega
  refine j_aload_n hC dX4_costFrom_0 rfl ?_
  refine j_get hC cfX4 dX4_costFrom_1 fX4_18 (by decide) hS.1.line rfl ?_
  refine j_iload_n hC dX4_costFrom_4 rfl ?_
  obtain ⟨mc1, hl1⟩ := (hS.1.lst (j := 11) (by decide)).sz
  refine j_callv (kc' := 0) (ks' := 0) (r := (RJx4a65c, TJx4a65c, 3)) hC (c_get K (hS.1.lst (j := 11) (by decide)) (by rw [vN_e11]; exact Nat.lt_of_lt_of_le hk hnp.1)) dX4_costFrom_5 wJx4a65c_get_915e3 lX4_29 i_yJx4a65c_get_915e3 s_yJx4a65c_get_915e3 hl1 rfl rfl rfl (nle rfl) rfl (by decide) (by decide) (by decide) (kA fun r w' hp => ?_)
  obtain ⟨rfl, hw⟩ := hp
  rw [hw]
  clear hw w'
  refine j_cast (r := (RX6, TX6, 7)) hC dX4_costFrom_8 kX4_62 (hS.1.piece (Nat.lt_of_lt_of_le hk hnp.1)) rfl ?_
  refine j_astore (lv' := [some _, some _, some _, some _, some _, none, none, none, none, none]) hC dX4_costFrom_11 (nlt rfl) rfl ?_
  refine j_aload_n hC dX4_costFrom_13 rfl ?_
  refine j_get hC cfX4 dX4_costFrom_14 fX4_12 (by decide) hS.1.line rfl ?_
  refine j_iload_n hC dX4_costFrom_17 rfl ?_
  obtain ⟨mc2, hl2⟩ := (hS.1.lst (j := 10) (by decide)).sz
  refine j_callv (kc' := 0) (ks' := 0) (r := (RJx4a65c, TJx4a65c, 3)) hC (c_get K (hS.1.lst (j := 10) (by decide)) (by rw [vN_e10]; exact he)) dX4_costFrom_18 wJx4a65c_get_915e3 lX4_29 i_yJx4a65c_get_915e3 s_yJx4a65c_get_915e3 hl2 rfl rfl rfl (nle rfl) rfl (by decide) (by decide) (by decide) (kA fun r w' hp => ?_)
  obtain ⟨rfl, hw⟩ := hp
  rw [hw]
  clear hw w'
  refine j_cast (r := (RX1, TX1, 2)) hC dX4_costFrom_21 kX4_33 (hS.1.entry he) rfl ?_
  refine j_astore (lv' := [some _, some _, some _, some _, some _, some _, none, none, none, none]) hC dX4_costFrom_24 (nlt rfl) rfl ?_
  refine j_aload hC dX4_costFrom_26 rfl ?_
  refine j_get hC cfX6 dX4_costFrom_28 fX4_67 (by decide) (hS.1.piece (Nat.lt_of_lt_of_le hk hnp.1)) rfl ?_
  refine j_i2l hC dX4_costFrom_31 ?_
  refine j_aload_n hC dX4_costFrom_32 rfl ?_
  refine j_get hC cfX4 dX4_costFrom_33 fX4_53 (by decide) hS.1.line rfl ?_
  refine j_i2l hC dX4_costFrom_36 ?_
  refine j_lsub hC dX4_costFrom_37 ?_
  refine j_iload_n hC dX4_costFrom_38 rfl ?_
  refine j_i2l hC dX4_costFrom_39 ?_
  refine j_ladd hC dX4_costFrom_40 ?_
  refine j_lstore (lv' := [some _, some _, some _, some _, some _, some _, some _, none, none, none]) hC dX4_costFrom_41 (nlt rfl) rfl ?_
  refine j_lload hC dX4_costFrom_43 rfl ?_
  refine j_aload_n hC dX4_costFrom_45 rfl ?_
  refine j_get hC cfX4 dX4_costFrom_46 fX4_76 (by decide) hS.1.line rfl ?_
  refine j_aload hC dX4_costFrom_49 rfl ?_
  refine j_get hC cfX1 dX4_costFrom_51 fX4_35 (by decide) (hS.1.entry he) rfl ?_
  refine j_iadd hC dX4_costFrom_54 ?_
  refine j_i2l hC dX4_costFrom_55 ?_
  refine j_lcmp_ge hC 64 dX4_costFrom_56 dX4_costFrom_57 (by decide) (fun c_56 => ?_) (fun c_56 => ?_)
  · obtain ⟨hx, hcw⟩ := cf_depth hL hk he hd hco
    have hge : ¬ (S.1 51 k).toInt - (S.1 49 0).toInt + (d : Int) < z.1.toInt + (S.1 45 e).toInt := by have := Int64.le_iff_toInt_le.mp c_56; rw [hx, hcw] at this; omega
    have hd0 : 0 ≤ (S.1 51 k).toInt - (S.1 49 0).toInt + (d : Int) := by have := hco.1; have := (hL.2.2.2.1 e he).1.1; omega
    obtain ⟨ho, ho1, ho2⟩ := cf_own hL hk he hd hdi hd0 hx
    refine j_aload hC dX4_costFrom_64 rfl ?_
    refine j_get hC cfX6 dX4_costFrom_66 fX4_68 (by decide) (hS.1.piece (Nat.lt_of_lt_of_le hk hnp.1)) rfl ?_
    refine j_i2l hC dX4_costFrom_69 ?_
    refine j_aload hC dX4_costFrom_70 rfl ?_
    refine j_get hC cfX1 dX4_costFrom_72 fX4_140 (by decide) (hS.1.entry he) rfl ?_
    refine j_i2l hC dX4_costFrom_75 ?_
    refine j_aload_n hC dX4_costFrom_76 rfl ?_
    refine j_get hC cfX4 dX4_costFrom_77 fX4_79 (by decide) hS.1.line rfl ?_
    refine j_i2l hC dX4_costFrom_80 ?_
    refine j_lload hC dX4_costFrom_81 rfl ?_
    refine j_lmul hC dX4_costFrom_83 ?_
    refine j_ladd hC dX4_costFrom_84 ?_
    refine j_lmul hC dX4_costFrom_85 ?_
    refine j_lstore (lv' := [some _, some _, some _, some _, some _, some _, some _, none, some _, none]) hC dX4_costFrom_86 (nlt rfl) rfl ?_
    refine j_iload_n hC dX4_costFrom_88 rfl ?_
    refine j_iconst hC (1) dX4_costFrom_89 (by decide) ?_
    refine j_iadd hC dX4_costFrom_90 ?_
    refine j_aload_n hC dX4_costFrom_91 rfl ?_
    refine j_get hC cfX4 dX4_costFrom_92 fX4_56 (by decide) hS.1.line rfl ?_
    refine j_icmp_lt hC 101 dX4_costFrom_95 (by decide) (fun c_95 => ?_) (fun c_95 => ?_)
    · refine j_lload hC dX4_costFrom_101 rfl ?_
      refine j_aload_n hC dX4_costFrom_103 rfl ?_
      refine j_get hC cfX4 dX4_costFrom_104 fX4_18 (by decide) hS.1.line rfl ?_
      refine j_iload_n hC dX4_costFrom_107 rfl ?_
      refine j_iconst hC (1) dX4_costFrom_108 (by decide) ?_
      refine j_iadd hC dX4_costFrom_109 ?_
      have hP : k + 1 < cn S 50 := by have q : nI (k + 1) < nI (cn S 50) := (by rw [← nI_1, ← hL.1.1]; exact c_95); exact (nI_ltI (by have := hL.1.2; omega) (by have := hL.1.2; omega)).mp q
      refine J.toI (nI_1 k) ?_
      obtain ⟨mc3, hl3⟩ := (hS.1.lst (j := 11) (by decide)).sz
      refine j_callv (kc' := 0) (ks' := 0) (r := (RJx4a65c, TJx4a65c, 3)) hC (c_get K (hS.1.lst (j := 11) (by decide)) (by rw [vN_e11]; have := hnp.1; omega)) dX4_costFrom_110 wJx4a65c_get_915e3 lX4_29 i_yJx4a65c_get_915e3 s_yJx4a65c_get_915e3 hl3 rfl rfl rfl (nle rfl) rfl (by decide) (by decide) (by decide) (kA fun r w' hp => ?_)
      obtain ⟨rfl, hw⟩ := hp
      rw [hw]
      clear hw w'
      refine j_cast (r := (RX6, TX6, 7)) hC dX4_costFrom_113 kX4_62 (hS.1.piece (show k + 1 < np by have := hnp.1; omega)) rfl ?_
      refine j_get hC cfX6 dX4_costFrom_116 fX4_91 (by decide) (hS.1.piece (show k + 1 < np by have := hnp.1; omega)) rfl ?_
      refine j_iload_n hC dX4_costFrom_119 rfl ?_
      refine j_bipush hC (6) dX4_costFrom_120 (by decide) ?_
      refine j_imul hC dX4_costFrom_122 ?_
      refine j_iload_n hC dX4_costFrom_123 rfl ?_
      refine j_iadd hC dX4_costFrom_124 ?_
      refine J.toI (y := nI (d * 6 + e)) (by rw [show (6 : Int32) = nI 6 from by decide, nI_mul, nI_add]) ?_
      refine j_aldJ hC dX4_costFrom_125 (hS.1.le (show k + 1 < np by have := hnp.1; omega)) (ix_nI (by have := hL.2.1.2; omega) (by have := hL.1.2; omega)) ?_
      refine j_ladd hC dX4_costFrom_126 ?_
      have hv := hD (k + 1) (Nat.le_refl _) hP d (by omega) e he
      have hvr := VV_rg hL hco.1 ⟨hdi.1, hdi.2⟩ (cn S 50 - (k + 1)) d e (by omega) he (by omega)
      exact j_lret hC hR dX4_costFrom_127 rfl ⟨_, rfl, by unfold cfr; rw [if_neg hge]; unfold OWB at ho2; unfold NEV at hvr; rw [l_add] <;> rw [ho, hv] <;> omega, rfl⟩
    · refine j_lload hC dX4_costFrom_98 rfl ?_
      have hP : cn S 50 - (k + 1) = 0 := by have q : ¬ k + 1 < cn S 50 := fun q => c_95 (by rw [nI_1, hL.1.1]; exact nI_lt q (by have := hL.1.2; omega)); omega
      exact j_lret hC hR dX4_costFrom_100 rfl ⟨_, rfl, by unfold cfr; rw [if_neg hge, hP, ho]; exact (Int.add_zero _).symm, rfl⟩
  · refine j_ldc2 hC dX4_costFrom_60 nX4_94 ?_
    obtain ⟨hx, hcw⟩ := cf_depth hL hk he hd hco
    have hlt : (S.1 51 k).toInt - (S.1 49 0).toInt + (d : Int) < z.1.toInt + (S.1 45 e).toInt := by have := Int.not_le.mp (fun q => c_56 (Int64.le_iff_toInt_le.mpr q)); rw [hx, hcw] at this; exact this
    exact j_lret hC hR dX4_costFrom_63 rfl ⟨_, rfl, by unfold cfr; rw [if_pos hlt]; exact NEV_i, rfl⟩

