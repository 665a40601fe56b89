
theorem ne_cls {w : Wd} {a b c1 c2 : Nat} {f1 f2 : List Value} (h1 : w a = some (.inr (c1, f1))) (h2 : w b = some (.inr (c2, f2))) (h : c1 ≠ c2) : a ≠ b := by
  intro z
  rw [z, h2] at h1
  cases h1
  exact h rfl
theorem wst_id {w : Wd} {a : Nat} {e : va_E} (h : w a = some e) : wst w a e = w := by
  funext q
  by_cases hq : q = a
  · rw [hq, wst_s, h]
  · rw [wst_n hq]
theorem wst_c1 {w : Wd} {a f t : Nat} {p1 p2 p3 p4 n1 n2 : va_E} (h1 : a ≠ f) (h2 : a ≠ t) : wst (wst (wst (wst (wst (wst w a p1) a p2) f n1) t n2) a p3) a p4 = wst (wst (wst w f n1) t n2) a p4 := by
  rw [wst_wst w, wst_wst, wst_comm (w := w) h1, wst_comm h2, wst_wst]
theorem wst_c2 {w : Wd} {a f t : Nat} {p1 p2 p3 p4 n1 n2 : va_E} (h1 : a ≠ f) (h2 : a ≠ t) (h3 : f ≠ t) : wst (wst (wst (wst (wst (wst w a p1) a p2) t n2) f n1) a p3) a p4 = wst (wst (wst w f n1) t n2) a p4 := by
  rw [wst_c1 h2 h1, wst_comm (w := w) (Ne.symm h3)]
theorem wst_c3 {w : Wd} {a f t : Nat} {p1 n1 n2 : va_E} (h1 : a ≠ f) (h2 : a ≠ t) : wst (wst (wst w a p1) f n1) t n2 = wst (wst (wst w f n1) t n2) a p1 := by
  rw [wst_comm (w := w) h1, wst_comm h2]
def wI (v lo hi : Int32) : Int32 := if v < lo then 0 else if hi < v then 0 else 1
abbrev oArea (n : Nat) (ca re : Int64) : va_E := .inr (1, [.ref n, .long ca, .long re])
abbrev oEntry (wi pr : Int32) : va_E := .inr (2, [.int wi, .int pr])
abbrev oGate (n : Nat) (si : Int64) (ra : Int32) : va_E := .inr (3, [.ref n, .long si, .int ra])
abbrev oGully (ce : Int32) (n : Nat) (ra : Int32) : va_E := .inr (4, [.int ce, .ref n, .int ra])
abbrev oPiece (le : Nat) (gr ln nd en fa bt : Int32) : va_E := .inr (7, [.ref le, .int gr, .int ln, .int nd, .int en, .int fa, .int bt])
abbrev oPipe (f t : Nat) (sq rs re ml ma : Int64) : va_E := .inr (8, [.ref f, .ref t, .long sq, .long rs, .long re, .long ml, .long ma])
abbrev oPump (n t : Nat) (on off ra io : Int32) : va_E := .inr (9, [.ref n, .ref t, .int on, .int off, .int ra, .int io])
/-- what a pipe moves -/
def pMv (want liF liT : Int64) : Int64 := if want < 0 then -(if liT < -want then liT else -want) else if liF < want then liF else want
theorem pMv_neg {x : Int64} (h : x < 0) (li li2 : Int64) : li - pMv x li li2 = li + (if li2 < -x then li2 else -x) ∧ li2 + pMv x li li2 = li2 - (if li2 < -x then li2 else -x) ∧ pMv x li li2 = -(if li2 < -x then li2 else -x) := by
  have e : pMv x li li2 = -(if li2 < -x then li2 else -x) := if_pos h
  rw [e]
  exact ⟨by rw [Int64.sub_eq_add_neg, Int64.neg_neg], by rw [Int64.sub_eq_add_neg], rfl⟩
/-- whether a pump is on behind its look at the level -/
def pOn (lvl : Int64) (on off io : Int32) : Int32 := if lvl < on.toInt64 then if off.toInt64 < lvl then io else 0 else 1
def pGv (io : Int32) (ra li : Int64) : Int64 := if io = 0 then 0 else if li < ra then li else ra
def gOut (ra ab : Int64) : Int64 := if (if ab < ra then ab else ra) < 0 then 0 else if ab < ra then ab else ra
def gTake (ra held left : Int64) : Int64 := if (if left < 0 then 0 else left) < (if held < ra then held else ra) then (if left < 0 then 0 else left) else if held < ra then held else ra

set_option maxRecDepth 100000 in
set_option maxHeartbeats 4000000 in
theorem c_isWithin (K : Kx) {w : Wd} (v lo hi : Int32)  : MT K mX9_isWithin 0 0 0 [.int v, .int lo, .int hi] w (PI fun r w' => r = wI v lo hi ∧ w' = w) := by
  refine MT.of [some (.int v), some (.int lo), some (.int hi)] (by decide) rfl (nle rfl) rfl ?_
  intro E hC hR
  refine j_iload_n hC dX9_isWithin_0 rfl ?_
  refine j_iload_n hC dX9_isWithin_1 rfl ?_
  refine j_icmp_lt hC 14 dX9_isWithin_2 (by decide) (fun c_2 => ?_) (fun c_2 => ?_)
  · refine j_iconst hC (0) dX9_isWithin_14 (by decide) ?_
    exact j_zret hC hR dX9_isWithin_15 rfl (by decide) ⟨_, rfl, by first | (simp [wI, c_2]; done) | (simp [wI, c_2, c_7]; done), rfl⟩
  · refine j_iload_n hC dX9_isWithin_5 rfl ?_
    refine j_iload_n hC dX9_isWithin_6 rfl ?_
    refine j_icmp_gt hC 14 dX9_isWithin_7 (by decide) (fun c_7 => ?_) (fun c_7 => ?_)
    · refine j_iconst hC (0) dX9_isWithin_14 (by decide) ?_
      exact j_zret hC hR dX9_isWithin_15 rfl (by decide) ⟨_, rfl, by first | (simp [wI, c_2]; done) | (simp [wI, c_2, c_7]; done), rfl⟩
    · refine j_iconst hC (1) dX9_isWithin_10 (by decide) ?_
      refine j_goto hC 15 dX9_isWithin_11 (by decide) ?_
      exact j_zret hC hR dX9_isWithin_15 rfl (by decide) ⟨_, rfl, by first | (simp [wI, c_2]; done) | (simp [wI, c_2, c_7]; done), rfl⟩

theorem wI_nar (v lo hi : Int32) : narrow .boolean (.int (wI v lo hi)) = .int (wI v lo hi) := by
  unfold wI
  split
  · decide
  · split <;> decide
set_option maxRecDepth 100000 in
set_option maxHeartbeats 4000000 in
theorem c_isHeight (K : Kx) {w : Wd} (v : Int32)  : MT K mX9_isHeight 1 0 0 [.int v] w (PI fun r w' => r = wI v (-100000) 100000 ∧ w' = w) := by
  refine MT.of [some (.int v)] (by decide) rfl (nle rfl) rfl ?_
  intro E hC hR
  refine j_iload_n hC dX9_isHeight_0 rfl ?_
  refine j_ldc hC dX9_isHeight_1 nX9_202 ?_
  refine j_ldc hC dX9_isHeight_3 nX9_67 ?_
  refine j_calls (kc' := 0) (ks' := 0) hC (c_isWithin K v (-100000) 100000) dX9_isHeight_5 wX9_isWithin lX9_68 t_yX9_isWithin rfl rfl (nle rfl) rfl (by decide) (by decide) (by decide) (kI fun r w' hp => ?_)
  obtain ⟨rfl, rfl⟩ := hp
  exact j_zret hC hR dX9_isHeight_8 rfl (wI_nar _ _ _) ⟨_, rfl, rfl, rfl⟩

set_option maxRecDepth 100000 in
set_option maxHeartbeats 4000000 in
theorem c_isCell (K : Kx) {w : Wd} (v : Int32)  : MT K mX9_isCell 1 0 0 [.int v] w (PI fun r w' => r = wI v 0 7 ∧ w' = w) := by
  refine MT.of [some (.int v)] (by decide) rfl (nle rfl) rfl ?_
  intro E hC hR
  refine j_iload_n hC dX9_isCell_0 rfl ?_
  refine j_iconst hC (0) dX9_isCell_1 (by decide) ?_
  refine j_bipush hC (7) dX9_isCell_2 (by decide) ?_
  refine j_calls (kc' := 0) (ks' := 0) hC (c_isWithin K v 0 7) dX9_isCell_4 wX9_isWithin lX9_68 t_yX9_isWithin rfl rfl (nle rfl) rfl (by decide) (by decide) (by decide) (kI fun r w' hp => ?_)
  obtain ⟨rfl, rfl⟩ := hp
  exact j_zret hC hR dX9_isCell_7 rfl (wI_nar _ _ _) ⟨_, rfl, rfl, rfl⟩

set_option maxRecDepth 100000 in
set_option maxHeartbeats 4000000 in
theorem c_Area (K : Kx) {w : Wd} {a n : Nat} (sq lo : Int32) (ha : w a = some (.inr (1, [.null, .long 0, .long 0]))) : MT K mX0_init 1 0 0 [.ref a, .ref n, .int sq, .int lo] w (PV fun w' => w' = wst w a (oArea n (sq.toInt64 * (1000 - lo).toInt64) 0)) := by
  refine MT.of [some (.ref a), some (.ref n), some (.int sq), some (.int lo)] (by decide) rfl (nle rfl) rfl ?_
  intro E hC hR
  refine j_aload_n hC dX0_init_0 rfl ?_
  refine j_obj hC dX0_init_1 lX0_3 i_objectInit c_objectInit rfl (nle rfl) (by decide) ?_
  refine j_aload_n hC dX0_init_4 rfl ?_
  refine j_aload_n hC dX0_init_5 rfl ?_
  refine j_putF (fs' := [_, _, _]) hC cfX0 dX0_init_6 hR.nm fX0_9 rfl rfl (by decide) ha rfl rfl (nlt rfl) rfl ?_
  refine j_aload_n hC dX0_init_9 rfl ?_
  refine j_iload_n hC dX0_init_10 rfl ?_
  refine j_i2l hC dX0_init_11 ?_
  refine j_sipush hC (1000) dX0_init_12 (by decide) ?_
  refine j_iload_n hC dX0_init_15 rfl ?_
  refine j_isub hC dX0_init_16 ?_
  refine j_i2l hC dX0_init_17 ?_
  refine j_lmul hC dX0_init_18 ?_
  refine j_putF (fs' := [_, _, _]) hC cfX0 dX0_init_19 hR.nm fX0_15 rfl rfl (by decide) (wst_s _ _ _) rfl rfl (nlt rfl) rfl ?_
  exact j_vret hC hR dX0_init_22 rfl ⟨rfl, by simp only [wst_wst]⟩

set_option maxRecDepth 100000 in
set_option maxHeartbeats 4000000 in
theorem c_takeRain (K : Kx) {w : Wd} {a n : Nat} {ca re : Int64} {bo ro : Int32} {fu li ma ov ga : Int64} {sr : Int32} (rn : Int32) (ha : w a = some (oArea n ca re)) (hn : w n = some (oNode bo ro fu li ma ov ga sr)) : MT K mX0_takeRain 0 0 0 [.ref a, .int rn] w (PL fun r w' => r = (re + ca * rn.toInt64) / 60000000 ∧ w' = wst (wst w n (oNode bo ro fu (li + (re + ca * rn.toInt64) / 60000000) ma ov ga sr)) a (oArea n ca ((re + ca * rn.toInt64) - (re + ca * rn.toInt64) / 60000000 * 60000000))) := by
  refine MT.of [some (.ref a), some (.int rn), none, none] (by decide) rfl (nle rfl) rfl ?_
  intro E hC hR
  refine j_aload_n hC dX0_takeRain_0 rfl ?_
  refine j_dup hC dX0_takeRain_1 rfl ?_
  refine j_get hC cfX0 dX0_takeRain_2 fX0_19 (by decide) ha rfl ?_
  refine j_aload_n hC dX0_takeRain_5 rfl ?_
  refine j_get hC cfX0 dX0_takeRain_6 fX0_15 (by decide) ha rfl ?_
  refine j_iload_n hC dX0_takeRain_9 rfl ?_
  refine j_i2l hC dX0_takeRain_10 ?_
  refine j_lmul hC dX0_takeRain_11 ?_
  refine j_ladd hC dX0_takeRain_12 ?_
  refine j_put (fs' := [_, _, _]) hC cfX0 dX0_takeRain_13 fX0_19 rfl (by decide) ha rfl rfl (nlt rfl) rfl ?_
  refine j_aload_n hC dX0_takeRain_16 rfl ?_
  refine j_get hC cfX0 dX0_takeRain_17 fX0_19 (by decide) (wst_s _ _ _) rfl ?_
  refine j_ldc2 hC dX0_takeRain_20 nX0_22 ?_
  refine j_ldiv hC dX0_takeRain_23 (by decide) ?_
  refine j_lstore_n (lv' := [some _, some _, some _, none]) hC dX0_takeRain_24 (nlt rfl) rfl ?_
  refine j_aload_n hC dX0_takeRain_25 rfl ?_
  refine j_dup hC dX0_takeRain_26 rfl ?_
  refine j_get hC cfX0 dX0_takeRain_27 fX0_19 (by decide) (wst_s _ _ _) rfl ?_
  refine j_ldc2 hC dX0_takeRain_30 nX0_22 ?_
  refine j_lrem hC dX0_takeRain_33 (by decide) ?_
  refine j_put (fs' := [_, _, _]) hC cfX0 dX0_takeRain_34 fX0_19 rfl (by decide) (wst_s _ _ _) rfl rfl (nlt rfl) rfl ?_
  refine j_aload_n hC dX0_takeRain_37 rfl ?_
  refine j_get hC cfX0 dX0_takeRain_38 fX0_9 (by decide) (wst_s _ _ _) rfl ?_
  refine j_dup hC dX0_takeRain_41 rfl ?_
  refine j_get hC cfX5 dX0_takeRain_42 fX0_24 (by decide) ((wst_n (Ne.symm (ne_cls ha hn (by decide)))).trans ((wst_n (Ne.symm (ne_cls ha hn (by decide)))).trans hn)) rfl ?_
  refine j_lload_n hC dX0_takeRain_45 rfl ?_
  refine j_ladd hC dX0_takeRain_46 ?_
  refine j_put (fs' := [_, _, _, _, _, _, _, _]) hC cfX5 dX0_takeRain_47 fX0_24 rfl (by decide) ((wst_n (Ne.symm (ne_cls ha hn (by decide)))).trans ((wst_n (Ne.symm (ne_cls ha hn (by decide)))).trans hn)) rfl rfl (nlt rfl) rfl ?_
  refine j_lload_n hC dX0_takeRain_50 rfl ?_
  exact j_lret hC hR dX0_takeRain_51 rfl ⟨_, rfl, rfl, by rw [wst_wst, wst_comm (ne_cls ha hn (by decide))]⟩

set_option maxRecDepth 100000 in
set_option maxHeartbeats 4000000 in
theorem c_Entry (K : Kx) {w : Wd} {a : Nat} (wi pr : Int32) (ha : w a = some (.inr (2, [.int 0, .int 0]))) : MT K mX1_init 1 0 0 [.ref a, .int wi, .int pr] w (PV fun w' => w' = wst w a (oEntry wi pr)) := by
  refine MT.of [some (.ref a), some (.int wi), some (.int pr)] (by decide) rfl (nle rfl) rfl ?_
  intro E hC hR
  refine j_aload_n hC dX1_init_0 rfl ?_
  refine j_obj hC dX1_init_1 lX1_1 i_objectInit c_objectInit rfl (nle rfl) (by decide) ?_
  refine j_aload_n hC dX1_init_4 rfl ?_
  refine j_iload_n hC dX1_init_5 rfl ?_
  refine j_putF (fs' := [_, _]) hC cfX1 dX1_init_6 hR.nm fX1_7 rfl rfl (by decide) ha rfl rfl (nlt rfl) rfl ?_
  refine j_aload_n hC dX1_init_9 rfl ?_
  refine j_iload_n hC dX1_init_10 rfl ?_
  refine j_putF (fs' := [_, _]) hC cfX1 dX1_init_11 hR.nm fX1_13 rfl rfl (by decide) (wst_s _ _ _) rfl rfl (nlt rfl) rfl ?_
  exact j_vret hC hR dX1_init_14 rfl ⟨rfl, by simp only [wst_wst]⟩

set_option maxRecDepth 100000 in
set_option maxHeartbeats 4000000 in
theorem c_Gate (K : Kx) {w : Wd} {a n : Nat} {bo ro : Int32} {fu li ma ov ga : Int64} {sr : Int32} (he ra : Int32) (ha : w a = some (.inr (3, [.null, .long 0, .int 0]))) (hn : w n = some (oNode bo ro fu li ma ov ga sr)) : MT K mX2_init 1 0 0 [.ref a, .ref n, .int he, .int ra] w (PV fun w' => w' = wst w a (oGate n (he.toInt64 * ro.toInt64) ra)) := by
  refine MT.of [some (.ref a), some (.ref n), some (.int he), some (.int ra)] (by decide) rfl (nle rfl) rfl ?_
  intro E hC hR
  refine j_aload_n hC dX2_init_0 rfl ?_
  refine j_obj hC dX2_init_1 lX2_1 i_objectInit c_objectInit rfl (nle rfl) (by decide) ?_
  refine j_aload_n hC dX2_init_4 rfl ?_
  refine j_aload_n hC dX2_init_5 rfl ?_
  refine j_putF (fs' := [_, _, _]) hC cfX2 dX2_init_6 hR.nm fX2_7 rfl rfl (by decide) ha rfl rfl (nlt rfl) rfl ?_
  refine j_aload_n hC dX2_init_9 rfl ?_
  refine j_iload_n hC dX2_init_10 rfl ?_
  refine j_i2l hC dX2_init_11 ?_
  refine j_aload_n hC dX2_init_12 rfl ?_
  refine j_get hC cfX5 dX2_init_13 fX2_13 (by decide) ((wst_n (Ne.symm (ne_cls ha hn (by decide)))).trans hn) rfl ?_
  refine j_i2l hC dX2_init_16 ?_
  refine j_lmul hC dX2_init_17 ?_
  refine j_putF (fs' := [_, _, _]) hC cfX2 dX2_init_18 hR.nm fX2_19 rfl rfl (by decide) (wst_s _ _ _) rfl rfl (nlt rfl) rfl ?_
  refine j_aload_n hC dX2_init_21 rfl ?_
  refine j_iload_n hC dX2_init_22 rfl ?_
  refine j_putF (fs' := [_, _, _]) hC cfX2 dX2_init_23 hR.nm fX2_23 rfl rfl (by decide) (wst_s _ _ _) rfl rfl (nlt rfl) rfl ?_
  exact j_vret hC hR dX2_init_26 rfl ⟨rfl, by simp only [wst_wst]⟩

set_option maxRecDepth 100000 in
set_option maxHeartbeats 4000000 in
theorem c_letOut (K : Kx) {w : Wd} {a n : Nat} {si : Int64} {ra : Int32} {bo ro : Int32} {fu li ma ov ga : Int64} {sr : Int32} (ha : w a = some (oGate n si ra)) (hn : w n = some (oNode bo ro fu li ma ov ga sr)) : MT K mX2_letOut 1 0 0 [.ref a] w (PL fun r w' => r = gOut ra.toInt64 (li - si) ∧ w' = wst w n (oNode bo ro fu (li - gOut ra.toInt64 (li - si)) ma ov (ga + gOut ra.toInt64 (li - si)) sr)) := by
  refine MT.of [some (.ref a), none, none] (by decide) rfl (nle rfl) rfl ?_
  intro E hC hR
  refine j_lconst hC (0) dX2_letOut_0 (by decide) ?_
  refine j_aload_n hC dX2_letOut_1 rfl ?_
  refine j_get hC cfX2 dX2_letOut_2 fX2_23 (by decide) ha rfl ?_
  refine j_i2l hC dX2_letOut_5 ?_
  refine j_aload_n hC dX2_letOut_6 rfl ?_
  refine j_get hC cfX2 dX2_letOut_7 fX2_7 (by decide) ha rfl ?_
  refine j_get hC cfX5 dX2_letOut_10 fX2_26 (by decide) hn rfl ?_
  refine j_aload_n hC dX2_letOut_13 rfl ?_
  refine j_get hC cfX2 dX2_letOut_14 fX2_19 (by decide) ha rfl ?_
  refine j_lsub hC dX2_letOut_17 ?_
  refine j_mminL hC dX2_letOut_18 lX2_29 t_yJ9_min_f86c9 inJ9 wJ9_min_f86c9.1 rfl (nle rfl) (by decide) ?_
  refine j_mmaxL hC dX2_letOut_21 lX2_35 t_yJ9_max_f86c9 inJ9 wJ9_max_f86c9.1 rfl (nle rfl) (by decide) ?_
  refine j_lstore_n (lv' := [some _, some _, none]) hC dX2_letOut_24 (nlt rfl) rfl ?_
  refine j_aload_n hC dX2_letOut_25 rfl ?_
  refine j_get hC cfX2 dX2_letOut_26 fX2_7 (by decide) ha rfl ?_
  refine j_dup hC dX2_letOut_29 rfl ?_
  refine j_get hC cfX5 dX2_letOut_30 fX2_26 (by decide) hn rfl ?_
  refine j_lload_n hC dX2_letOut_33 rfl ?_
  refine j_lsub hC dX2_letOut_34 ?_
  refine j_put (fs' := [_, _, _, _, _, _, _, _]) hC cfX5 dX2_letOut_35 fX2_26 rfl (by decide) hn rfl rfl (nlt rfl) rfl ?_
  refine j_aload_n hC dX2_letOut_38 rfl ?_
  refine j_get hC cfX2 dX2_letOut_39 fX2_7 (by decide) ((wst_n (ne_cls ha hn (by decide))).trans ha) rfl ?_
  refine j_dup hC dX2_letOut_42 rfl ?_
  refine j_get hC cfX5 dX2_letOut_43 fX2_38 (by decide) (wst_s _ _ _) rfl ?_
  refine j_lload_n hC dX2_letOut_46 rfl ?_
  refine j_ladd hC dX2_letOut_47 ?_
  refine j_put (fs' := [_, _, _, _, _, _, _, _]) hC cfX5 dX2_letOut_48 fX2_38 rfl (by decide) (wst_s _ _ _) rfl rfl (nlt rfl) rfl ?_
  refine j_lload_n hC dX2_letOut_51 rfl ?_
  exact j_lret hC hR dX2_letOut_52 rfl ⟨_, rfl, rfl, by rw [wst_wst]; rfl⟩

set_option maxRecDepth 100000 in
set_option maxHeartbeats 4000000 in
theorem c_Gully (K : Kx) {w : Wd} {a n : Nat} (ce ra : Int32) (ha : w a = some (.inr (4, [.int 0, .null, .int 0]))) : MT K mX3_init 1 0 0 [.ref a, .int ce, .ref n, .int ra] w (PV fun w' => w' = wst w a (oGully ce n ra)) := by
  refine MT.of [some (.ref a), some (.int ce), some (.ref n), some (.int ra)] (by decide) rfl (nle rfl) rfl ?_
  intro E hC hR
  refine j_aload_n hC dX3_init_0 rfl ?_
  refine j_obj hC dX3_init_1 lX3_1 i_objectInit c_objectInit rfl (nle rfl) (by decide) ?_
  refine j_aload_n hC dX3_init_4 rfl ?_
  refine j_iload_n hC dX3_init_5 rfl ?_
  refine j_putF (fs' := [_, _, _]) hC cfX3 dX3_init_6 hR.nm fX3_7 rfl rfl (by decide) ha rfl rfl (nlt rfl) rfl ?_
  refine j_aload_n hC dX3_init_9 rfl ?_
  refine j_aload_n hC dX3_init_10 rfl ?_
  refine j_putF (fs' := [_, _, _]) hC cfX3 dX3_init_11 hR.nm fX3_13 rfl rfl (by decide) (wst_s _ _ _) rfl rfl (nlt rfl) rfl ?_
  refine j_aload_n hC dX3_init_14 rfl ?_
  refine j_iload_n hC dX3_init_15 rfl ?_
  refine j_putF (fs' := [_, _, _]) hC cfX3 dX3_init_16 hR.nm fX3_17 rfl rfl (by decide) (wst_s _ _ _) rfl rfl (nlt rfl) rfl ?_
  exact j_vret hC hR dX3_init_19 rfl ⟨rfl, by simp only [wst_wst]⟩

set_option maxRecDepth 100000 in
set_option maxHeartbeats 4000000 in
theorem c_drain (K : Kx) {w : Wd} {a n : Nat} {ce ra : Int32} {bo ro : Int32} {fu li ma ov ga : Int64} {sr : Int32} (hd : Int64) (ha : w a = some (oGully ce n ra)) (hn : w n = some (oNode bo ro fu li ma ov ga sr)) : MT K mX3_drain 1 0 0 [.ref a, .long hd] w (PL fun r w' => r = gTake ra.toInt64 hd (fu - li) ∧ w' = wst w n (oNode bo ro fu (li + gTake ra.toInt64 hd (fu - li)) ma ov ga sr)) := by
  refine MT.of [some (.ref a), some (.long hd), none, none, none, none, none] (by decide) rfl (nle rfl) rfl ?_
  intro E hC hR
  refine j_lconst hC (0) dX3_drain_0 (by decide) ?_
  refine j_aload_n hC dX3_drain_1 rfl ?_
  refine j_get hC cfX3 dX3_drain_2 fX3_13 (by decide) ha rfl ?_
  refine j_get hC cfX5 dX3_drain_5 fX3_20 (by decide) hn rfl ?_
  refine j_aload_n hC dX3_drain_8 rfl ?_
  refine j_get hC cfX3 dX3_drain_9 fX3_13 (by decide) ha rfl ?_
  refine j_get hC cfX5 dX3_drain_12 fX3_26 (by decide) hn rfl ?_
  refine j_lsub hC dX3_drain_15 ?_
  refine j_mmaxL hC dX3_drain_16 lX3_29 t_yJ9_max_f86c9 inJ9 wJ9_max_f86c9.1 rfl (nle rfl) (by decide) ?_
  refine j_lstore_n (lv' := [some _, some _, none, some _, none, none, none]) hC dX3_drain_19 (nlt rfl) rfl ?_
  refine j_aload_n hC dX3_drain_20 rfl ?_
  refine j_get hC cfX3 dX3_drain_21 fX3_17 (by decide) ha rfl ?_
  refine j_i2l hC dX3_drain_24 ?_
  refine j_lload_n hC dX3_drain_25 rfl ?_
  refine j_mminL hC dX3_drain_26 lX3_35 t_yJ9_min_f86c9 inJ9 wJ9_min_f86c9.1 rfl (nle rfl) (by decide) ?_
  refine j_lload_n hC dX3_drain_29 rfl ?_
  refine j_mminL hC dX3_drain_30 lX3_35 t_yJ9_min_f86c9 inJ9 wJ9_min_f86c9.1 rfl (nle rfl) (by decide) ?_
  refine j_lstore (lv' := [some _, some _, none, some _, none, some _, none]) hC dX3_drain_33 (nlt rfl) rfl ?_
  refine j_aload_n hC dX3_drain_35 rfl ?_
  refine j_get hC cfX3 dX3_drain_36 fX3_13 (by decide) ha rfl ?_
  refine j_dup hC dX3_drain_39 rfl ?_
  refine j_get hC cfX5 dX3_drain_40 fX3_26 (by decide) hn rfl ?_
  refine j_lload hC dX3_drain_43 rfl ?_
  refine j_ladd hC dX3_drain_45 ?_
  refine j_put (fs' := [_, _, _, _, _, _, _, _]) hC cfX5 dX3_drain_46 fX3_26 rfl (by decide) hn rfl rfl (nlt rfl) rfl ?_
  refine j_lload hC dX3_drain_49 rfl ?_
  exact j_lret hC hR dX3_drain_51 rfl ⟨_, rfl, rfl, rfl⟩

set_option maxRecDepth 100000 in
set_option maxHeartbeats 4000000 in
theorem c_Pipe (K : Kx) {w : Wd} {a f t : Nat} (ln wi : Int32) (ha : w a = some (.inr (8, [.null, .null, .long 0, .long 0, .long 0, .long 0, .long 0]))) : MT K mX7_init 1 0 0 [.ref a, .ref f, .ref t, .int ln, .int wi] w (PV fun w' => w' = wst w a (oPipe f t (wi.toInt64 * wi.toInt64) (1000 * ln.toInt64) 0 0 0)) := by
  refine MT.of [some (.ref a), some (.ref f), some (.ref t), some (.int ln), some (.int wi)] (by decide) rfl (nle rfl) rfl ?_
  intro E hC hR
  refine j_aload_n hC dX7_init_0 rfl ?_
  refine j_obj hC dX7_init_1 lX7_1 i_objectInit c_objectInit rfl (nle rfl) (by decide) ?_
  refine j_aload_n hC dX7_init_4 rfl ?_
  refine j_aload_n hC dX7_init_5 rfl ?_
  refine j_putF (fs' := [_, _, _, _, _, _, _]) hC cfX7 dX7_init_6 hR.nm fX7_7 rfl rfl (by decide) ha rfl rfl (nlt rfl) rfl ?_
  refine j_aload_n hC dX7_init_9 rfl ?_
  refine j_aload_n hC dX7_init_10 rfl ?_
  refine j_putF (fs' := [_, _, _, _, _, _, _]) hC cfX7 dX7_init_11 hR.nm fX7_13 rfl rfl (by decide) (wst_s _ _ _) rfl rfl (nlt rfl) rfl ?_
  refine j_aload_n hC dX7_init_14 rfl ?_
  refine j_iload hC dX7_init_15 rfl ?_
  refine j_i2l hC dX7_init_17 ?_
  refine j_iload hC dX7_init_18 rfl ?_
  refine j_i2l hC dX7_init_20 ?_
  refine j_lmul hC dX7_init_21 ?_
  refine j_putF (fs' := [_, _, _, _, _, _, _]) hC cfX7 dX7_init_22 hR.nm fX7_16 rfl rfl (by decide) (wst_s _ _ _) rfl rfl (nlt rfl) rfl ?_
  refine j_aload_n hC dX7_init_25 rfl ?_
  refine j_ldc2 hC dX7_init_26 nX7_20 ?_
  refine j_iload_n hC dX7_init_29 rfl ?_
  refine j_i2l hC dX7_init_30 ?_
  refine j_lmul hC dX7_init_31 ?_
  refine j_putF (fs' := [_, _, _, _, _, _, _]) hC cfX7 dX7_init_32 hR.nm fX7_22 rfl rfl (by decide) (wst_s _ _ _) rfl rfl (nlt rfl) rfl ?_
  exact j_vret hC hR dX7_init_35 rfl ⟨rfl, by simp only [wst_wst]⟩

set_option maxRecDepth 100000 in
set_option maxHeartbeats 4000000 in
theorem c_carry (K : Kx) {w : Wd} {a f t : Nat} {sq rs re ml mt : Int64} {bo ro : Int32} {fu li ma ov ga : Int64} {sr : Int32} {bo2 ro2 : Int32} {fu2 li2 ma2 ov2 ga2 : Int64} {sr2 : Int32} (ha : w a = some (oPipe f t sq rs re ml mt)) (hf : w f = some (oNode bo ro fu li ma ov ga sr)) (ht : w t = some (oNode bo2 ro2 fu2 li2 ma2 ov2 ga2 sr2)) (hft : f ≠ t) (hrs : ¬ rs = 0) : MT K mX7_carry 2 0 0 [.ref a] w (PV fun w' => w' = wst (wst (wst w f (oNode bo ro fu (li - (pMv ((re + sq * (ma - ma2)) / rs) li li2)) ma ov ga sr)) t (oNode bo2 ro2 fu2 (li2 + (pMv ((re + sq * (ma - ma2)) / rs) li li2)) ma2 ov2 ga2 sr2)) a (oPipe f t sq rs ((re + sq * (ma - ma2)) - (re + sq * (ma - ma2)) / rs * rs) (pMv ((re + sq * (ma - ma2)) / rs) li li2) (mt + (pMv ((re + sq * (ma - ma2)) / rs) li li2)))) := by
  refine MT.of [some (.ref a), none, none] (by decide) rfl (nle rfl) rfl ?_
  intro E hC hR
  refine j_aload_n hC dX7_carry_0 rfl ?_
  refine j_dup hC dX7_carry_1 rfl ?_
  refine j_get hC cfX7 dX7_carry_2 fX7_25 (by decide) ha rfl ?_
  refine j_aload_n hC dX7_carry_5 rfl ?_
  refine j_get hC cfX7 dX7_carry_6 fX7_16 (by decide) ha rfl ?_
  refine j_aload_n hC dX7_carry_9 rfl ?_
  refine j_get hC cfX7 dX7_carry_10 fX7_7 (by decide) ha rfl ?_
  refine j_get hC cfX5 dX7_carry_13 fX7_28 (by decide) hf rfl ?_
  refine j_aload_n hC dX7_carry_16 rfl ?_
  refine j_get hC cfX7 dX7_carry_17 fX7_13 (by decide) ha rfl ?_
  refine j_get hC cfX5 dX7_carry_20 fX7_28 (by decide) ht rfl ?_
  refine j_lsub hC dX7_carry_23 ?_
  refine j_lmul hC dX7_carry_24 ?_
  refine j_ladd hC dX7_carry_25 ?_
  refine j_put (fs' := [_, _, _, _, _, _, _]) hC cfX7 dX7_carry_26 fX7_25 rfl (by decide) ha rfl rfl (nlt rfl) rfl ?_
  refine j_aload_n hC dX7_carry_29 rfl ?_
  refine j_get hC cfX7 dX7_carry_30 fX7_25 (by decide) (wst_s _ _ _) rfl ?_
  refine j_aload_n hC dX7_carry_33 rfl ?_
  refine j_get hC cfX7 dX7_carry_34 fX7_22 (by decide) (wst_s _ _ _) rfl ?_
  refine j_ldiv hC dX7_carry_37 (hrs) ?_
  refine j_lstore_n (lv' := [some _, some _, none]) hC dX7_carry_38 (nlt rfl) rfl ?_
  refine j_aload_n hC dX7_carry_39 rfl ?_
  refine j_dup hC dX7_carry_40 rfl ?_
  refine j_get hC cfX7 dX7_carry_41 fX7_25 (by decide) (wst_s _ _ _) rfl ?_
  refine j_aload_n hC dX7_carry_44 rfl ?_
  refine j_get hC cfX7 dX7_carry_45 fX7_22 (by decide) (wst_s _ _ _) rfl ?_
  refine j_lrem hC dX7_carry_48 (hrs) ?_
  refine j_put (fs' := [_, _, _, _, _, _, _]) hC cfX7 dX7_carry_49 fX7_25 rfl (by decide) (wst_s _ _ _) rfl rfl (nlt rfl) rfl ?_
  refine j_aload_n hC dX7_carry_52 rfl ?_
  refine j_lload_n hC dX7_carry_53 rfl ?_
  refine j_lconst hC (0) dX7_carry_54 (by decide) ?_
  refine j_lcmp_lt hC 74 dX7_carry_55 dX7_carry_56 (by decide) (fun c_55 => ?_) (fun c_55 => ?_)
  · refine j_aload_n hC dX7_carry_74 rfl ?_
    refine j_get hC cfX7 dX7_carry_75 fX7_13 (by decide) (wst_s _ _ _) rfl ?_
    refine j_aload_n hC dX7_carry_78 rfl ?_
    refine j_get hC cfX7 dX7_carry_79 fX7_7 (by decide) (wst_s _ _ _) rfl ?_
    refine j_lload_n hC dX7_carry_82 rfl ?_
    refine j_lneg hC dX7_carry_83 ?_
    refine j_callv (kc' := 0) (ks' := 0) (r := (RX5, TX5, 8)) hC (c_giveTo K (-((re + sq * (ma - ma2)) / rs)) ((wst_n (Ne.symm (ne_cls ha ht (by decide)))).trans ((wst_n (Ne.symm (ne_cls ha ht (by decide)))).trans ht)) ((wst_n (Ne.symm (ne_cls ha hf (by decide)))).trans ((wst_n (Ne.symm (ne_cls ha hf (by decide)))).trans hf)) (Ne.symm hft)) dX7_carry_84 wX5_giveTo lX7_33 i_yX5_giveTo s_yX5_giveTo ((wst_n (Ne.symm (ne_cls ha ht (by decide)))).trans ((wst_n (Ne.symm (ne_cls ha ht (by decide)))).trans ht)) rfl rfl rfl (nle rfl) rfl (by decide) (by decide) (by decide) (kL fun r w' hp => ?_)
    obtain ⟨rfl, rfl⟩ := hp
    refine j_lneg hC dX7_carry_87 ?_
    refine j_put (fs' := [_, _, _, _, _, _, _]) hC cfX7 dX7_carry_88 fX7_37 rfl (by decide) ((wst_n (ne_cls ha hf (by decide))).trans ((wst_n (ne_cls ha ht (by decide))).trans (wst_s _ _ _))) rfl rfl (nlt rfl) rfl ?_
    refine j_aload_n hC dX7_carry_91 rfl ?_
    refine j_dup hC dX7_carry_92 rfl ?_
    refine j_get hC cfX7 dX7_carry_93 fX7_40 (by decide) (wst_s _ _ _) rfl ?_
    refine j_aload_n hC dX7_carry_96 rfl ?_
    refine j_get hC cfX7 dX7_carry_97 fX7_37 (by decide) (wst_s _ _ _) rfl ?_
    refine j_ladd hC dX7_carry_100 ?_
    refine j_put (fs' := [_, _, _, _, _, _, _]) hC cfX7 dX7_carry_101 fX7_40 rfl (by decide) (wst_s _ _ _) rfl rfl (nlt rfl) rfl ?_
    first
      | exact j_vret hC hR dX7_carry_104 rfl ⟨rfl, by rw [wst_c1 (ne_cls ha hf (by decide)) (ne_cls ha ht (by decide)), show pMv ((re + sq * (ma - ma2)) / rs) li li2 = _ from if_neg c_55]⟩
      | exact j_vret hC hR dX7_carry_104 rfl ⟨rfl, by rw [wst_c2 (ne_cls ha hf (by decide)) (ne_cls ha ht (by decide)) hft, (pMv_neg c_55 li li2).1, (pMv_neg c_55 li li2).2.1, (pMv_neg c_55 li li2).2.2]⟩
  · refine j_aload_n hC dX7_carry_59 rfl ?_
    refine j_get hC cfX7 dX7_carry_60 fX7_7 (by decide) (wst_s _ _ _) rfl ?_
    refine j_aload_n hC dX7_carry_63 rfl ?_
    refine j_get hC cfX7 dX7_carry_64 fX7_13 (by decide) (wst_s _ _ _) rfl ?_
    refine j_lload_n hC dX7_carry_67 rfl ?_
    refine j_callv (kc' := 0) (ks' := 0) (r := (RX5, TX5, 8)) hC (c_giveTo K ((re + sq * (ma - ma2)) / rs) ((wst_n (Ne.symm (ne_cls ha hf (by decide)))).trans ((wst_n (Ne.symm (ne_cls ha hf (by decide)))).trans hf)) ((wst_n (Ne.symm (ne_cls ha ht (by decide)))).trans ((wst_n (Ne.symm (ne_cls ha ht (by decide)))).trans ht)) hft) dX7_carry_68 wX5_giveTo lX7_33 i_yX5_giveTo s_yX5_giveTo ((wst_n (Ne.symm (ne_cls ha hf (by decide)))).trans ((wst_n (Ne.symm (ne_cls ha hf (by decide)))).trans hf)) rfl rfl rfl (nle rfl) rfl (by decide) (by decide) (by decide) (kL fun r w' hp => ?_)
    obtain ⟨rfl, rfl⟩ := hp
    refine j_goto hC 88 dX7_carry_71 (by decide) ?_
    refine j_put (fs' := [_, _, _, _, _, _, _]) hC cfX7 dX7_carry_88 fX7_37 rfl (by decide) ((wst_n (ne_cls ha ht (by decide))).trans ((wst_n (ne_cls ha hf (by decide))).trans (wst_s _ _ _))) rfl rfl (nlt rfl) rfl ?_
    refine j_aload_n hC dX7_carry_91 rfl ?_
    refine j_dup hC dX7_carry_92 rfl ?_
    refine j_get hC cfX7 dX7_carry_93 fX7_40 (by decide) (wst_s _ _ _) rfl ?_
    refine j_aload_n hC dX7_carry_96 rfl ?_
    refine j_get hC cfX7 dX7_carry_97 fX7_37 (by decide) (wst_s _ _ _) rfl ?_
    refine j_ladd hC dX7_carry_100 ?_
    refine j_put (fs' := [_, _, _, _, _, _, _]) hC cfX7 dX7_carry_101 fX7_40 rfl (by decide) (wst_s _ _ _) rfl rfl (nlt rfl) rfl ?_
    first
      | exact j_vret hC hR dX7_carry_104 rfl ⟨rfl, by rw [wst_c1 (ne_cls ha hf (by decide)) (ne_cls ha ht (by decide)), show pMv ((re + sq * (ma - ma2)) / rs) li li2 = _ from if_neg c_55]⟩
      | exact j_vret hC hR dX7_carry_104 rfl ⟨rfl, by rw [wst_c2 (ne_cls ha hf (by decide)) (ne_cls ha ht (by decide)) hft, (pMv_neg c_55 li li2).1, (pMv_neg c_55 li li2).2.1, (pMv_neg c_55 li li2).2.2]⟩

set_option maxRecDepth 100000 in
set_option maxHeartbeats 4000000 in
theorem c_Pump (K : Kx) {w : Wd} {a n t : Nat} (on off ra : Int32) (ha : w a = some (.inr (9, [.null, .null, .int 0, .int 0, .int 0, .int 0]))) : MT K mX8_init 1 0 0 [.ref a, .ref n, .ref t, .int on, .int off, .int ra] w (PV fun w' => w' = wst w a (oPump n t on off ra 0)) := by
  refine MT.of [some (.ref a), some (.ref n), some (.ref t), some (.int on), some (.int off), some (.int ra)] (by decide) rfl (nle rfl) rfl ?_
  intro E hC hR
  refine j_aload_n hC dX8_init_0 rfl ?_
  refine j_obj hC dX8_init_1 lX8_1 i_objectInit c_objectInit rfl (nle rfl) (by decide) ?_
  refine j_aload_n hC dX8_init_4 rfl ?_
  refine j_aload_n hC dX8_init_5 rfl ?_
  refine j_putF (fs' := [_, _, _, _, _, _]) hC cfX8 dX8_init_6 hR.nm fX8_7 rfl rfl (by decide) ha rfl rfl (nlt rfl) rfl ?_
  refine j_aload_n hC dX8_init_9 rfl ?_
  refine j_aload_n hC dX8_init_10 rfl ?_
  refine j_putF (fs' := [_, _, _, _, _, _]) hC cfX8 dX8_init_11 hR.nm fX8_13 rfl rfl (by decide) (wst_s _ _ _) rfl rfl (nlt rfl) rfl ?_
  refine j_aload_n hC dX8_init_14 rfl ?_
  refine j_iload_n hC dX8_init_15 rfl ?_
  refine j_putF (fs' := [_, _, _, _, _, _]) hC cfX8 dX8_init_16 hR.nm fX8_16 rfl rfl (by decide) (wst_s _ _ _) rfl rfl (nlt rfl) rfl ?_
  refine j_aload_n hC dX8_init_19 rfl ?_
  refine j_iload hC dX8_init_20 rfl ?_
  refine j_putF (fs' := [_, _, _, _, _, _]) hC cfX8 dX8_init_22 hR.nm fX8_20 rfl rfl (by decide) (wst_s _ _ _) rfl rfl (nlt rfl) rfl ?_
  refine j_aload_n hC dX8_init_25 rfl ?_
  refine j_iload hC dX8_init_26 rfl ?_
  refine j_putF (fs' := [_, _, _, _, _, _]) hC cfX8 dX8_init_28 hR.nm fX8_23 rfl rfl (by decide) (wst_s _ _ _) rfl rfl (nlt rfl) rfl ?_
  exact j_vret hC hR dX8_init_31 rfl ⟨rfl, by simp only [wst_wst]⟩

theorem lift_0 {w : Wd} {a n t : Nat} {on off ra po : Int32} {bo ro : Int32} {fu li ma ov ga : Int64} {sr : Int32} {bo2 ro2 : Int32} {fu2 li2 ma2 ov2 ga2 : Int64} {sr2 : Int32} (hn : w n = some (oNode bo ro fu li ma ov ga sr)) (ht : w t = some (oNode bo2 ro2 fu2 li2 ma2 ov2 ga2 sr2)) (hpo : po = 0) :
    wst w a (oPump n t on off ra 0) = wst (wst (wst w n (oNode bo ro fu (li - pGv po ra.toInt64 li) ma ov ga sr)) t (oNode bo2 ro2 fu2 (li2 + pGv po ra.toInt64 li) ma2 ov2 ga2 sr2)) a (oPump n t on off ra po) := by
  subst hpo
  rw [show pGv 0 ra.toInt64 li = 0 from if_pos rfl, Int64.sub_zero, Int64.add_zero, wst_id hn, wst_id ht]
theorem lift_1 {w : Wd} {a n t : Nat} {on off ra po io : Int32} {bo ro : Int32} {fu li ma ov ga : Int64} {sr : Int32} {bo2 ro2 : Int32} {fu2 li2 ma2 ov2 ga2 : Int64} {sr2 : Int32} (hpo : po = io) (hio : ¬ io = 0) :
    wst (wst (wst w n (oNode bo ro fu (li - (if li < ra.toInt64 then li else ra.toInt64)) ma ov ga sr)) t (oNode bo2 ro2 fu2 (li2 + (if li < ra.toInt64 then li else ra.toInt64)) ma2 ov2 ga2 sr2)) a (oPump n t on off ra io) = wst (wst (wst w n (oNode bo ro fu (li - pGv po ra.toInt64 li) ma ov ga sr)) t (oNode bo2 ro2 fu2 (li2 + pGv po ra.toInt64 li) ma2 ov2 ga2 sr2)) a (oPump n t on off ra po) := by
  subst hpo
  rw [show pGv po ra.toInt64 li = _ from if_neg hio]

set_option maxRecDepth 100000 in
set_option maxHeartbeats 4000000 in
theorem c_lift (K : Kx) {w : Wd} {a n t : Nat} {on off ra io : Int32} {bo ro : Int32} {fu li ma ov ga : Int64} {sr : Int32} {bo2 ro2 : Int32} {fu2 li2 ma2 ov2 ga2 : Int64} {sr2 : Int32} (ha : w a = some (oPump n t on off ra io)) (hn : w n = some (oNode bo ro fu li ma ov ga sr)) (ht : w t = some (oNode bo2 ro2 fu2 li2 ma2 ov2 ga2 sr2)) (hnt : n ≠ t) (hro : ¬ ro.toInt64 = 0) : MT K mX8_lift 2 0 0 [.ref a] w (PV fun w' => w' = wst (wst (wst w n (oNode bo ro fu (li - (pGv (pOn (bo.toInt64 + li / ro.toInt64) on off io) ra.toInt64 li)) ma ov ga sr)) t (oNode bo2 ro2 fu2 (li2 + (pGv (pOn (bo.toInt64 + li / ro.toInt64) on off io) ra.toInt64 li)) ma2 ov2 ga2 sr2)) a (oPump n t on off ra (pOn (bo.toInt64 + li / ro.toInt64) on off io))) := by
  refine MT.of [some (.ref a), none, none] (by decide) rfl (nle rfl) rfl ?_
  intro E hC hR
  refine j_aload_n hC dX8_lift_0 rfl ?_
  refine j_get hC cfX8 dX8_lift_1 fX8_7 (by decide) ha rfl ?_
  refine j_callv (kc' := 0) (ks' := 0) (r := (RX5, TX5, 8)) hC (c_levelNow K hn hro) dX8_lift_4 wX5_levelNow lX8_26 i_yX5_levelNow s_yX5_levelNow hn rfl rfl rfl (nle rfl) rfl (by decide) (by decide) (by decide) (kL fun r w' hp => ?_)
  obtain ⟨rfl, hw⟩ := hp
  rw [hw]
  clear hw
  refine j_lstore_n (lv' := [some _, some _, none]) hC dX8_lift_7 (nlt rfl) rfl ?_
  refine j_lload_n hC dX8_lift_8 rfl ?_
  refine j_aload_n hC dX8_lift_9 rfl ?_
  refine j_get hC cfX8 dX8_lift_10 fX8_16 (by decide) ha rfl ?_
  refine j_i2l hC dX8_lift_13 ?_
  refine j_lcmp_lt hC 26 dX8_lift_14 dX8_lift_15 (by decide) (fun c_14 => ?_) (fun c_14 => ?_)
  · refine j_lload_n hC dX8_lift_26 rfl ?_
    refine j_aload_n hC dX8_lift_27 rfl ?_
    refine j_get hC cfX8 dX8_lift_28 fX8_20 (by decide) ha rfl ?_
    refine j_i2l hC dX8_lift_31 ?_
    refine j_lcmp_gt hC 41 dX8_lift_32 dX8_lift_33 (by decide) (fun c_32 => ?_) (fun c_32 => ?_)
    · refine j_aload_n hC dX8_lift_41 rfl ?_
      refine j_get hC cfX8 dX8_lift_42 fX8_32 (by decide) ha rfl ?_
      refine j_if_eq hC 65 dX8_lift_45 (by decide) (fun c_45 => ?_) (fun c_45 => ?_)
      · exact j_vret hC hR dX8_lift_65 rfl ⟨rfl, by rw [← lift_0 hn ht ((show pOn _ on off io = io from (if_pos c_14).trans (if_pos c_32)).trans c_45)]; exact (wst_id (by rw [ha, c_45])).symm⟩
      · refine j_aload_n hC dX8_lift_48 rfl ?_
        refine j_get hC cfX8 dX8_lift_49 fX8_7 (by decide) ha rfl ?_
        refine j_aload_n hC dX8_lift_52 rfl ?_
        refine j_get hC cfX8 dX8_lift_53 fX8_13 (by decide) ha rfl ?_
        refine j_aload_n hC dX8_lift_56 rfl ?_
        refine j_get hC cfX8 dX8_lift_57 fX8_23 (by decide) ha rfl ?_
        refine j_i2l hC dX8_lift_60 ?_
        refine j_callv (kc' := 0) (ks' := 0) (r := (RX5, TX5, 8)) hC (c_giveTo K ra.toInt64 hn ht hnt) dX8_lift_61 wX5_giveTo lX8_36 i_yX5_giveTo s_yX5_giveTo hn rfl rfl rfl (nle rfl) rfl (by decide) (by decide) (by decide) (kL fun r w' hp => ?_)
        obtain ⟨rfl, rfl⟩ := hp
        refine j_pop2_2 hC dX8_lift_64 rfl ?_
        exact j_vret hC hR dX8_lift_65 rfl ⟨rfl, by rw [← lift_1 (show pOn _ on off io = io from (if_pos c_14).trans (if_pos c_32)) c_45]; exact (wst_id ((wst_n (ne_cls ha ht (by decide))).trans ((wst_n (ne_cls ha hn (by decide))).trans ha))).symm⟩
    · refine j_aload_n hC dX8_lift_36 rfl ?_
      refine j_iconst hC (0) dX8_lift_37 (by decide) ?_
      refine j_put (fs' := [_, _, _, _, _, _]) hC cfX8 dX8_lift_38 fX8_32 rfl (by decide) ha rfl rfl (nlt rfl) rfl ?_
      refine j_aload_n hC dX8_lift_41 rfl ?_
      refine j_get hC cfX8 dX8_lift_42 fX8_32 (by decide) (wst_s _ _ _) rfl ?_
      refine j_if_eq hC 65 dX8_lift_45 (by decide) (fun c_45 => ?_) (fun c_45 => ?_)
      · exact j_vret hC hR dX8_lift_65 rfl ⟨rfl, lift_0 hn ht (show pOn _ on off io = 0 from (if_pos c_14).trans (if_neg c_32))⟩
      · refine j_aload_n hC dX8_lift_48 rfl ?_
        refine j_get hC cfX8 dX8_lift_49 fX8_7 (by decide) (wst_s _ _ _) rfl ?_
        refine j_aload_n hC dX8_lift_52 rfl ?_
        refine j_get hC cfX8 dX8_lift_53 fX8_13 (by decide) (wst_s _ _ _) rfl ?_
        refine j_aload_n hC dX8_lift_56 rfl ?_
        refine j_get hC cfX8 dX8_lift_57 fX8_23 (by decide) (wst_s _ _ _) rfl ?_
        refine j_i2l hC dX8_lift_60 ?_
        refine j_callv (kc' := 0) (ks' := 0) (r := (RX5, TX5, 8)) hC (c_giveTo K ra.toInt64 ((wst_n (Ne.symm (ne_cls ha hn (by decide)))).trans hn) ((wst_n (Ne.symm (ne_cls ha ht (by decide)))).trans ht) hnt) dX8_lift_61 wX5_giveTo lX8_36 i_yX5_giveTo s_yX5_giveTo ((wst_n (Ne.symm (ne_cls ha hn (by decide)))).trans hn) rfl rfl rfl (nle rfl) rfl (by decide) (by decide) (by decide) (kL fun r w' hp => ?_)
        obtain ⟨rfl, rfl⟩ := hp
        refine j_pop2_2 hC dX8_lift_64 rfl ?_
        exact absurd rfl c_45
  · refine j_aload_n hC dX8_lift_18 rfl ?_
    refine j_iconst hC (1) dX8_lift_19 (by decide) ?_
    refine j_put (fs' := [_, _, _, _, _, _]) hC cfX8 dX8_lift_20 fX8_32 rfl (by decide) ha rfl rfl (nlt rfl) rfl ?_
    refine j_goto hC 41 dX8_lift_23 (by decide) ?_
    refine j_aload_n hC dX8_lift_41 rfl ?_
    refine j_get hC cfX8 dX8_lift_42 fX8_32 (by decide) (wst_s _ _ _) rfl ?_
    refine j_if_eq hC 65 dX8_lift_45 (by decide) (fun c_45 => ?_) (fun c_45 => ?_)
    · exact absurd c_45 (by decide)
    · refine j_aload_n hC dX8_lift_48 rfl ?_
      refine j_get hC cfX8 dX8_lift_49 fX8_7 (by decide) (wst_s _ _ _) rfl ?_
      refine j_aload_n hC dX8_lift_52 rfl ?_
      refine j_get hC cfX8 dX8_lift_53 fX8_13 (by decide) (wst_s _ _ _) rfl ?_
      refine j_aload_n hC dX8_lift_56 rfl ?_
      refine j_get hC cfX8 dX8_lift_57 fX8_23 (by decide) (wst_s _ _ _) rfl ?_
      refine j_i2l hC dX8_lift_60 ?_
      refine j_callv (kc' := 0) (ks' := 0) (r := (RX5, TX5, 8)) hC (c_giveTo K ra.toInt64 ((wst_n (Ne.symm (ne_cls ha hn (by decide)))).trans hn) ((wst_n (Ne.symm (ne_cls ha ht (by decide)))).trans ht) hnt) dX8_lift_61 wX5_giveTo lX8_36 i_yX5_giveTo s_yX5_giveTo ((wst_n (Ne.symm (ne_cls ha hn (by decide)))).trans hn) rfl rfl rfl (nle rfl) rfl (by decide) (by decide) (by decide) (kL fun r w' hp => ?_)
      obtain ⟨rfl, rfl⟩ := hp
      refine j_pop2_2 hC dX8_lift_64 rfl ?_
      exact j_vret hC hR dX8_lift_65 rfl ⟨rfl, by rw [← lift_1 (show pOn _ on off io = 1 from if_neg c_14) (by decide)]; exact wst_c3 (ne_cls ha hn (by decide)) (ne_cls ha ht (by decide))⟩

theorem piece_len {k : Nat} (hk : k < 10) : (nI k * 40 + 1) * 6 = nI ((40 * k + 1) * 6) := by
  rw [show (40 : Int32) = nI 40 by decide, pk_mul, nI_1, show (6 : Int32) = nI 6 by decide, pk_mul, Nat.mul_comm k 40]
set_option maxRecDepth 100000 in
set_option maxHeartbeats 4000000 in
theorem c_Piece (K : Kx) {w : Wd} {a k : Nat} (ha : w a = some (.inr (7, [.null, .int 0, .int 0, .int 0, .int 0, .int 0, .int 0]))) (hk : k < 10) : MT K mX6_init 1 1 2166 [.ref a, .int (nI k)] w (PV fun w' => ∃ q : Nat, w q = none ∧ w' = wst (wst w q (aJ K.2.1 ((40 * k + 1) * 6) (fun _ => 0))) a (oPiece q 0 0 0 0 0 0)) := by
  refine MT.of [some (.ref a), some (.int (nI k))] (by decide) rfl (nle rfl) rfl ?_
  intro E hC hR
  refine j_aload_n hC dX6_init_0 rfl ?_
  refine j_obj hC dX6_init_1 lX6_3 i_objectInit c_objectInit rfl (nle rfl) (by decide) ?_
  refine j_aload_n hC dX6_init_4 rfl ?_
  refine j_iload_n hC dX6_init_5 rfl ?_
  refine j_bipush hC (40) dX6_init_6 (by decide) ?_
  refine j_imul hC dX6_init_8 ?_
  refine j_iconst hC (1) dX6_init_9 (by decide) ?_
  refine j_iadd hC dX6_init_10 ?_
  refine j_bipush hC (6) dX6_init_11 (by decide) ?_
  refine j_imul hC dX6_init_13 ?_
  refine j_newJ (n' := (40 * k + 1) * 6) (kc' := 0) (ks' := 0) hC dX6_init_14 ac_J ?_ ?_ (by omega) (by decide) (by omega) (fun q14 hq14 => ?_)
  · rw [piece_len hk]; exact nI_pos (by omega)
  · rw [piece_len hk]; exact nI_clamp (by omega)
  refine j_putF (fs' := [_, _, _, _, _, _, _]) hC cfX6 dX6_init_16 hR.nm fX6_9 rfl rfl (by decide) ((wst_n (ne_of ha hq14)).trans ha) rfl rfl (nlt rfl) rfl ?_
  exact j_vret hC hR dX6_init_19 rfl ⟨rfl, q14, hq14, rfl⟩

