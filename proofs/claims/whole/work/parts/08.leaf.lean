
theorem nle {a b : Nat} (h : Nat.ble a b = true) : a ≤ b := Nat.le_of_ble_eq_true h
theorem nlt {a b : Nat} (h : Nat.ble (a + 1) b = true) : a < b := Nat.le_of_ble_eq_true h
def PI (P : Int32 → Wd → Prop) : Option Value → Wd → Prop := fun v w' => ∃ r : Int32, v = some (.int r) ∧ P r w'
def PL (P : Int64 → Wd → Prop) : Option Value → Wd → Prop := fun v w' => ∃ r : Int64, v = some (.long r) ∧ P r w'
def PA (P : Nat → Wd → Prop) : Option Value → Wd → Prop := fun v w' => ∃ r : Nat, v = some (.ref r) ∧ P r w'
def PV (P : Wd → Prop) : Option Value → Wd → Prop := fun v w' => v = none ∧ P w'
section KK
variable {K : Kx} {cc : ByteArray} {E : Ex} {kc ks : Nat} {pc : Nat} {lv : List (Option Value)} {rest : List Value}
theorem kI {P : Int32 → Wd → Prop} (kk : ∀ (r : Int32) (w' : Wd), P r w' → J K cc E kc ks w' pc lv (.int r :: rest)) : ∀ (v : Option Value) (w' : Wd), PI P v w' → J K cc E kc ks w' pc lv (v.toList ++ rest) := by
  rintro v w' ⟨r, rfl, hp⟩
  exact kk r w' hp
theorem kL {P : Int64 → Wd → Prop} (kk : ∀ (r : Int64) (w' : Wd), P r w' → J K cc E kc ks w' pc lv (.long r :: rest)) : ∀ (v : Option Value) (w' : Wd), PL P v w' → J K cc E kc ks w' pc lv (v.toList ++ rest) := by
  rintro v w' ⟨r, rfl, hp⟩
  exact kk r w' hp
theorem kA {P : Nat → Wd → Prop} (kk : ∀ (r : Nat) (w' : Wd), P r w' → J K cc E kc ks w' pc lv (.ref r :: rest)) : ∀ (v : Option Value) (w' : Wd), PA P v w' → J K cc E kc ks w' pc lv (v.toList ++ rest) := by
  rintro v w' ⟨r, rfl, hp⟩
  exact kk r w' hp
theorem kV {P : Wd → Prop} (kk : ∀ (w' : Wd), P w' → J K cc E kc ks w' pc lv rest) : ∀ (v : Option Value) (w' : Wd), PV P v w' → J K cc E kc ks w' pc lv (v.toList ++ rest) := by
  rintro v w' ⟨rfl, hp⟩
  exact kk w' hp
end KK
theorem ne_of {w : Wd} {x q : Nat} {e : va_E} (h : w x = some e) (hq : w q = none) : x ≠ q := by
  intro z
  rw [z, hq] at h
  cases h
theorem wst_wst (w : Wd) (a : Nat) (e e' : va_E) : wst (wst w a e) a e' = wst w a e' := by
  funext q
  by_cases h : q = a
  · subst h; rw [wst_s, wst_s]
  · rw [wst_n h, wst_n h, wst_n h]
abbrev oNode (bo ro : Int32) (fu li ma ov ga : Int64) (sr : Int32) : va_E := .inr (6, [.int bo, .int ro, .long fu, .long li, .long ma, .long ov, .long ga, .int sr])


set_option maxRecDepth 100000 in
set_option maxHeartbeats 4000000 in
/-- Node.levelNow() -/
theorem c_levelNow (K : Kx) {w : Wd} {a : Nat} {bo ro : Int32} {fu li ma ov ga : Int64} {sr : Int32} (ha : w a = some (oNode bo ro fu li ma ov ga sr)) (hro : ¬ ro.toInt64 = 0) : MT K mX5_levelNow 0 0 0 [.ref a] w (PL fun r w' => r = bo.toInt64 + li / ro.toInt64 ∧ w' = w) := by
  refine MT.of [some (.ref a)] (by decide) rfl (nle rfl) rfl ?_
  intro E hC hR
  refine j_aload_n hC dX5_levelNow_0 rfl ?_
  refine j_get hC cfX5 dX5_levelNow_1 fX5_15 (by decide) ha rfl ?_
  refine j_i2l hC dX5_levelNow_4 ?_
  refine j_aload_n hC dX5_levelNow_5 rfl ?_
  refine j_get hC cfX5 dX5_levelNow_6 fX5_25 (by decide) ha rfl ?_
  refine j_aload_n hC dX5_levelNow_9 rfl ?_
  refine j_get hC cfX5 dX5_levelNow_10 fX5_18 (by decide) ha rfl ?_
  refine j_i2l hC dX5_levelNow_13 ?_
  refine j_ldiv hC dX5_levelNow_14 (hro) ?_
  refine j_ladd hC dX5_levelNow_15 ?_
  exact j_lret hC hR dX5_levelNow_16 rfl ⟨_, rfl, rfl, rfl⟩

set_option maxRecDepth 100000 in
set_option maxHeartbeats 4000000 in
/-- Node.markLevel() -/
theorem c_markLevel (K : Kx) {w : Wd} {a : Nat} {bo ro : Int32} {fu li ma ov ga : Int64} {sr : Int32} (ha : w a = some (oNode bo ro fu li ma ov ga sr)) (hro : ¬ ro.toInt64 = 0) : MT K mX5_markLevel 1 0 0 [.ref a] w (PV fun w' => w' = wst w a (oNode bo ro fu li (bo.toInt64 + li / ro.toInt64) ov ga sr)) := by
  refine MT.of [some (.ref a)] (by decide) rfl (nle rfl) rfl ?_
  intro E hC hR
  refine j_aload_n hC dX5_markLevel_0 rfl ?_
  refine j_aload_n hC dX5_markLevel_1 rfl ?_
  refine j_callv (kc' := 0) (ks' := 0) (r := (RX5, TX5, 8)) hC (c_levelNow K ha hro) dX5_markLevel_2 wX5_levelNow lX5_28 i_yX5_levelNow s_yX5_levelNow ha rfl rfl rfl (nle rfl) rfl (by decide) (by decide) (by decide) (kL fun r w' hp => ?_)
  obtain ⟨rfl, rfl⟩ := hp
  refine j_put (fs' := [_, _, _, _, _, _, _, _]) hC cfX5 dX5_markLevel_5 fX5_32 rfl (by decide) ha rfl rfl (nlt rfl) rfl ?_
  exact j_vret hC hR dX5_markLevel_8 rfl ⟨rfl, rfl⟩

set_option maxRecDepth 100000 in
set_option maxHeartbeats 4000000 in
/-- Node.giveTo(other, wanted) -/
theorem c_giveTo (K : Kx) {w : Wd} {a b : Nat} {bo ro : Int32} {fu li ma ov ga : Int64} {sr : Int32} {bo2 ro2 : Int32} {fu2 li2 ma2 ov2 ga2 : Int64} {sr2 : Int32} (x : Int64) (ha : w a = some (oNode bo ro fu li ma ov ga sr)) (hb : w b = some (oNode bo2 ro2 fu2 li2 ma2 ov2 ga2 sr2)) (hab : a ≠ b) : MT K mX5_giveTo 1 0 0 [.ref a, .ref b, .long x] w (PL fun r w' => r = (if li < x then li else x) ∧ w' = wst (wst w a (oNode bo ro fu (li - (if li < x then li else x)) ma ov ga sr)) b (oNode bo2 ro2 fu2 (li2 + (if li < x then li else x)) ma2 ov2 ga2 sr2)) := by
  refine MT.of [some (.ref a), some (.ref b), some (.long x), none, none, none] (by decide) rfl (nle rfl) rfl ?_
  intro E hC hR
  refine j_lload_n hC dX5_giveTo_0 rfl ?_
  refine j_aload_n hC dX5_giveTo_1 rfl ?_
  refine j_get hC cfX5 dX5_giveTo_2 fX5_25 (by decide) ha rfl ?_
  refine j_mminL hC dX5_giveTo_5 lX5_35 t_yJ9_min_f86c9 inJ9 wJ9_min_f86c9.1 rfl (nle rfl) (by decide) ?_
  refine j_lstore (lv' := [some _, some _, some _, none, some _, none]) hC dX5_giveTo_8 (nlt rfl) rfl ?_
  refine j_aload_n hC dX5_giveTo_10 rfl ?_
  refine j_dup hC dX5_giveTo_11 rfl ?_
  refine j_get hC cfX5 dX5_giveTo_12 fX5_25 (by decide) ha rfl ?_
  refine j_lload hC dX5_giveTo_15 rfl ?_
  refine j_lsub hC dX5_giveTo_17 ?_
  refine j_put (fs' := [_, _, _, _, _, _, _, _]) hC cfX5 dX5_giveTo_18 fX5_25 rfl (by decide) ha rfl rfl (nlt rfl) rfl ?_
  refine j_aload_n hC dX5_giveTo_21 rfl ?_
  refine j_dup hC dX5_giveTo_22 rfl ?_
  refine j_get hC cfX5 dX5_giveTo_23 fX5_25 (by decide) ((wst_n (Ne.symm hab)).trans hb) rfl ?_
  refine j_lload hC dX5_giveTo_26 rfl ?_
  refine j_ladd hC dX5_giveTo_28 ?_
  refine j_put (fs' := [_, _, _, _, _, _, _, _]) hC cfX5 dX5_giveTo_29 fX5_25 rfl (by decide) ((wst_n (Ne.symm hab)).trans hb) rfl rfl (nlt rfl) rfl ?_
  refine j_lload hC dX5_giveTo_32 rfl ?_
  exact j_lret hC hR dX5_giveTo_34 rfl ⟨_, rfl, rfl, rfl⟩

set_option maxRecDepth 100000 in
set_option maxHeartbeats 4000000 in
/-- Node.spill() -/
theorem c_spill (K : Kx) {w : Wd} {a : Nat} {bo ro : Int32} {fu li ma ov ga : Int64} {sr : Int32} (ha : w a = some (oNode bo ro fu li ma ov ga sr)) : MT K mX5_spill 1 0 0 [.ref a] w (PL fun r w' => r = (if li - fu < 0 then 0 else li - fu) ∧ w' = wst w a (oNode bo ro fu (li - (if li - fu < 0 then 0 else li - fu)) ma (ov + (if li - fu < 0 then 0 else li - fu)) ga sr)) := by
  refine MT.of [some (.ref a), none, none] (by decide) rfl (nle rfl) rfl ?_
  intro E hC hR
  refine j_lconst hC (0) dX5_spill_0 (by decide) ?_
  refine j_aload_n hC dX5_spill_1 rfl ?_
  refine j_get hC cfX5 dX5_spill_2 fX5_25 (by decide) ha rfl ?_
  refine j_aload_n hC dX5_spill_5 rfl ?_
  refine j_get hC cfX5 dX5_spill_6 fX5_21 (by decide) ha rfl ?_
  refine j_lsub hC dX5_spill_9 ?_
  refine j_mmaxL hC dX5_spill_10 lX5_41 t_yJ9_max_f86c9 inJ9 wJ9_max_f86c9.1 rfl (nle rfl) (by decide) ?_
  refine j_lstore_n (lv' := [some _, some _, none]) hC dX5_spill_13 (nlt rfl) rfl ?_
  refine j_aload_n hC dX5_spill_14 rfl ?_
  refine j_dup hC dX5_spill_15 rfl ?_
  refine j_get hC cfX5 dX5_spill_16 fX5_25 (by decide) ha rfl ?_
  refine j_lload_n hC dX5_spill_19 rfl ?_
  refine j_lsub hC dX5_spill_20 ?_
  refine j_put (fs' := [_, _, _, _, _, _, _, _]) hC cfX5 dX5_spill_21 fX5_25 rfl (by decide) ha rfl rfl (nlt rfl) rfl ?_
  refine j_aload_n hC dX5_spill_24 rfl ?_
  refine j_dup hC dX5_spill_25 rfl ?_
  refine j_get hC cfX5 dX5_spill_26 fX5_44 (by decide) (wst_s _ _ _) rfl ?_
  refine j_lload_n hC dX5_spill_29 rfl ?_
  refine j_ladd hC dX5_spill_30 ?_
  refine j_put (fs' := [_, _, _, _, _, _, _, _]) hC cfX5 dX5_spill_31 fX5_44 rfl (by decide) (wst_s _ _ _) rfl rfl (nlt rfl) rfl ?_
  refine j_lload_n hC dX5_spill_34 rfl ?_
  exact j_lret hC hR dX5_spill_35 rfl ⟨_, rfl, rfl, by rw [wst_wst]⟩

set_option maxRecDepth 100000 in
set_option maxHeartbeats 4000000 in
/-- Node(ground, bottom, room) -/
theorem c_Node (K : Kx) {w : Wd} {a : Nat} (gr bo ro : Int32) (ha : w a = some (oNode 0 0 0 0 0 0 0 0)) : MT K mX5_init 1 0 0 [.ref a, .int gr, .int bo, .int ro] w (PV fun w' => w' = wst w a (oNode bo ro (ro.toInt64 * (gr - bo).toInt64) 0 0 0 0 (-1))) := by
  refine MT.of [some (.ref a), some (.int gr), some (.int bo), some (.int ro)] (by decide) rfl (nle rfl) rfl ?_
  intro E hC hR
  refine j_aload_n hC dX5_init_0 rfl ?_
  refine j_obj hC dX5_init_1 lX5_3 i_objectInit c_objectInit rfl (nle rfl) (by decide) ?_
  refine j_aload_n hC dX5_init_4 rfl ?_
  refine j_iconst hC (-1) dX5_init_5 (by decide) ?_
  refine j_put (fs' := [_, _, _, _, _, _, _, _]) hC cfX5 dX5_init_6 fX5_9 rfl (by decide) ha rfl rfl (nlt rfl) rfl ?_
  refine j_aload_n hC dX5_init_9 rfl ?_
  refine j_iload_n hC dX5_init_10 rfl ?_
  refine j_putF (fs' := [_, _, _, _, _, _, _, _]) hC cfX5 dX5_init_11 hR.nm fX5_15 rfl rfl (by decide) (wst_s _ _ _) rfl rfl (nlt rfl) rfl ?_
  refine j_aload_n hC dX5_init_14 rfl ?_
  refine j_iload_n hC dX5_init_15 rfl ?_
  refine j_putF (fs' := [_, _, _, _, _, _, _, _]) hC cfX5 dX5_init_16 hR.nm fX5_18 rfl rfl (by decide) (wst_s _ _ _) rfl rfl (nlt rfl) rfl ?_
  refine j_aload_n hC dX5_init_19 rfl ?_
  refine j_iload_n hC dX5_init_20 rfl ?_
  refine j_i2l hC dX5_init_21 ?_
  refine j_iload_n hC dX5_init_22 rfl ?_
  refine j_iload_n hC dX5_init_23 rfl ?_
  refine j_isub hC dX5_init_24 ?_
  refine j_i2l hC dX5_init_25 ?_
  refine j_lmul hC dX5_init_26 ?_
  refine j_putF (fs' := [_, _, _, _, _, _, _, _]) hC cfX5 dX5_init_27 hR.nm fX5_21 rfl rfl (by decide) (wst_s _ _ _) rfl rfl (nlt rfl) rfl ?_
  exact j_vret hC hR dX5_init_30 rfl ⟨rfl, by simp only [wst_wst]⟩

