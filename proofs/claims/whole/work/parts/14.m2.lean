
theorem uJ_at {S : Ast} {k i : Nat} {v : Int64} : (uJ S k i v).2 k i = v := by rw [uJ_2s, va_up_self]
theorem uJ_i {S : Ast} {k i j : Nat} {v : Int64} (h : j ≠ i) : (uJ S k i v).2 k j = S.2 k j := by rw [uJ_2s, va_up_ne _ _ h]
theorem uJ_1 {S : Ast} {k i : Nat} {v : Int64} : (uJ S k i v).1 = S.1 := rfl
theorem uI_2 {S : Ast} {k i : Nat} {v : Int32} : (uI S k i v).2 = S.2 := rfl
theorem uI_at {S : Ast} {k i : Nat} {v : Int32} : (uI S k i v).1 k i = v := by rw [uI_1s, va_up_self]
theorem uI_i {S : Ast} {k i j : Nat} {v : Int32} (h : j ≠ i) : (uI S k i v).1 k j = S.1 k j := by rw [uI_1s, va_up_ne _ _ h]
theorem up_up {α : Type} (f : Nat → α) (k : Nat) (a b : α) : va_up (va_up f k a) k b = va_up f k b := by
  funext j
  by_cases h : j = k
  · subst h; rw [va_up_self, va_up_self]
  · rw [va_up_ne _ _ h, va_up_ne _ _ h, va_up_ne _ _ h]
theorem up_id {α : Type} (f : Nat → α) (k : Nat) : va_up f k (f k) = f := by
  funext j
  by_cases h : j = k
  · subst h; rw [va_up_self]
  · rw [va_up_ne _ _ h]
theorem uJ_uJ {S : Ast} {k i : Nat} {a b : Int64} : uJ (uJ S k i a) k i b = uJ S k i b := by
  unfold uJ
  simp only [va_up_self, up_up]
theorem uJ_id {S : Ast} {k i : Nat} : uJ S k i (S.2 k i) = S := by
  unfold uJ
  rw [up_id, up_id]
theorem uI_id {S : Ast} {k i : Nat} : uI S k i (S.1 k i) = S := by
  unfold uI
  rw [up_id, up_id]
theorem MB.cast {g : Gx} {w0 w : Wd} {m : Nat} {ad : Nat → Nat} {S T : Ast} (h : MB g w0 w m ad S) (e : S = T) : MB g w0 w m ad T := e ▸ h
theorem ls_eq (a b : Int64) : (if b ≤ a then b else a) = if b < a then b else a := by
  by_cases h : b < a
  · rw [if_pos h, if_pos (Int64.le_of_lt h)]
  · rw [if_neg h]
    by_cases h2 : b ≤ a
    · rw [if_pos h2]; exact Int64.le_antisymm h2 (Int64.not_lt.mp h)
    · rw [if_neg h2]
/-- a node's number, in range -/
def nd (S : Ast) (v : Int32) : Prop := ix v 24 v.toNatClampNeg ∧ v.toNatClampNeg < cn S 1
def lvl (S : Ast) (k : Nat) : Int64 := (S.1 3 k).toInt64 + S.2 6 k / (S.1 4 k).toInt64
def ful (S : Ast) (k : Nat) : Int64 := (S.1 4 k).toInt64 * (S.1 2 k - S.1 3 k).toInt64
def smJ (f : Nat → Int64) : Nat → Int64
  | 0 => 0
  | n + 1 => smJ f n + f n
abbrev okT (S : Ast) (k x : Int32) : Prop := ¬ wI k 0 (S.1 1 0 - 1) = 0 ∧ ¬ wI x 0 3 = 0
def rT (S : Ast) (j : Nat) (x : Int32) : Int64 := if x = 0 then S.2 6 j else if x = 1 then lvl S j else if x = 2 then S.2 7 j else S.2 8 j
abbrev okF (S : Ast) (k x : Int32) : Prop := ¬ wI k 0 (S.1 10 0 - 1) = 0 ∧ ¬ wI x 0 2 = 0
def rF (S : Ast) (j : Nat) (x : Int32) : Int64 := if x = 0 then S.2 16 j else if x = 1 then S.2 17 j else S.2 15 j
/-- the steps of a second -/
def fRain (S : Ast) (k j : Nat) : Ast := uJ (uJ (uJ S 22 k ((S.2 22 k + (S.1 20 k).toInt64 * (S.1 23 j).toInt64 * (1000 - S.1 21 k).toInt64) - (S.2 22 k + (S.1 20 k).toInt64 * (S.1 23 j).toInt64 * (1000 - S.1 21 k).toInt64) / 60000000 * 60000000)) 6 (S.1 19 k).toNatClampNeg (S.2 6 (S.1 19 k).toNatClampNeg + (S.2 22 k + (S.1 20 k).toInt64 * (S.1 23 j).toInt64 * (1000 - S.1 21 k).toInt64) / 60000000)) 41 0 (S.2 41 0 + (S.2 22 k + (S.1 20 k).toInt64 * (S.1 23 j).toInt64 * (1000 - S.1 21 k).toInt64) / 60000000)
def wR (S : Ast) (k : Nat) : Int64 := S.2 15 k + (S.1 14 k).toInt64 * (S.1 14 k).toInt64 * (S.2 9 (S.1 11 k).toNatClampNeg - S.2 9 (S.1 12 k).toNatClampNeg)
def wB (S : Ast) (k : Nat) : Int64 := 1000 * (S.1 13 k).toInt64
def wM (S : Ast) (k : Nat) : Int64 := pMv (wR S k / wB S k) (S.2 6 (S.1 11 k).toNatClampNeg) (S.2 6 (S.1 12 k).toNatClampNeg)
def fFlow (S : Ast) (k : Nat) : Ast := uJ (uJ (uJ (uJ (uJ S 15 k (wR S k - wR S k / wB S k * wB S k)) 6 (S.1 11 k).toNatClampNeg (S.2 6 (S.1 11 k).toNatClampNeg - wM S k)) 6 (S.1 12 k).toNatClampNeg (S.2 6 (S.1 12 k).toNatClampNeg + wM S k)) 16 k (wM S k)) 17 k (S.2 17 k + wM S k)
def uO (S : Ast) (k : Nat) : Int32 := pOn (lvl S (S.1 25 k).toNatClampNeg) (S.1 27 k) (S.1 28 k) (S.1 30 k)
def uG (S : Ast) (k : Nat) : Int64 := pGv (uO S k) (S.1 29 k).toInt64 (S.2 6 (S.1 25 k).toNatClampNeg)
def fPump (S : Ast) (k : Nat) : Ast := uJ (uJ (uI S 30 k (uO S k)) 6 (S.1 25 k).toNatClampNeg (S.2 6 (S.1 25 k).toNatClampNeg - uG S k)) 6 (S.1 26 k).toNatClampNeg (S.2 6 (S.1 26 k).toNatClampNeg + uG S k)
def gG (S : Ast) (k : Nat) : Int64 := gOut (S.1 34 k).toInt64 (S.2 6 (S.1 32 k).toNatClampNeg - (S.1 33 k).toInt64 * (S.1 4 (S.1 32 k).toNatClampNeg).toInt64)
def fGate (S : Ast) (k : Nat) : Ast := uJ (uJ (uJ S 6 (S.1 32 k).toNatClampNeg (S.2 6 (S.1 32 k).toNatClampNeg - gG S k)) 8 (S.1 32 k).toNatClampNeg (S.2 8 (S.1 32 k).toNatClampNeg + gG S k)) 42 0 (S.2 42 0 + gG S k)
def lG (S : Ast) (k : Nat) : Int64 := gTake (S.1 38 k).toInt64 (S.2 39 (S.1 36 k).toNatClampNeg) (ful S (S.1 37 k).toNatClampNeg - S.2 6 (S.1 37 k).toNatClampNeg)
def fGully (S : Ast) (k : Nat) : Ast := uJ (uJ S 39 (S.1 36 k).toNatClampNeg (S.2 39 (S.1 36 k).toNatClampNeg - lG S k)) 6 (S.1 37 k).toNatClampNeg (S.2 6 (S.1 37 k).toNatClampNeg + lG S k)
def nS (S : Ast) (k : Nat) : Int64 := if S.2 6 k - ful S k < 0 then 0 else S.2 6 k - ful S k
def fNode (S : Ast) (k : Nat) : Ast := if S.1 5 k < 0 then uJ (uJ (uJ S 6 k (S.2 6 k - nS S k)) 7 k (S.2 7 k + nS S k)) 43 0 (S.2 43 0 + nS S k) else uJ (uJ (uJ S 6 k (S.2 6 k - nS S k)) 7 k (S.2 7 k + nS S k)) 39 (S.1 5 k).toNatClampNeg (S.2 39 (S.1 5 k).toNatClampNeg + nS S k)
theorem nI_i1 (i : Nat) : nI i + Int32.ofInt 1 = nI (i + 1) := nI_1 i

set_option maxRecDepth 100000 in
set_option maxHeartbeats 4000000 in
theorem m_less (K : Kx) {w : Wd} (a b : Int64)  : MT K mX10_less 0 0 0 [.long a, .long b] w (PL fun r w' => r = (if b < a then b else a) ∧ w' = w) := by
  refine MT.of [some (.long a), none, some (.long b), none] (by decide) rfl (nle rfl) rfl ?_
  intro E hC hR
  refine j_lload_n hC dX10_less_0 rfl ?_
  refine j_lload_n hC dX10_less_1 rfl ?_
  refine j_lcmp_ge hC 10 dX10_less_2 dX10_less_3 (by decide) (fun c_2 => ?_) (fun c_2 => ?_)
  · refine j_lload_n hC dX10_less_10 rfl ?_
    exact j_lret hC hR dX10_less_11 rfl ⟨_, rfl, by rw [← ls_eq]; first | exact (if_pos c_2).symm | exact (if_neg c_2).symm, rfl⟩
  · refine j_lload_n hC dX10_less_6 rfl ?_
    refine j_goto hC 11 dX10_less_7 (by decide) ?_
    exact j_lret hC hR dX10_less_11 rfl ⟨_, rfl, by rw [← ls_eq]; first | exact (if_pos c_2).symm | exact (if_neg c_2).symm, rfl⟩

set_option maxRecDepth 100000 in
set_option maxHeartbeats 4000000 in
theorem m_levelOf (K : Kx) {w : Wd} {m : Nat} {ad : Nat → Nat} {S : Ast} (k : Int32) (hA : MA K.2.1 w m ad S) (hx : ix k 24 k.toNatClampNeg) (hro : ¬ (S.1 4 k.toNatClampNeg).toInt64 = 0) : MT K mX10_levelOf 0 0 0 [.ref m, .int k] w (PL fun r w' => r = lvl S k.toNatClampNeg ∧ w' = w) := by
  refine MT.of [some (.ref m), some (.int k)] (by decide) rfl (nle rfl) rfl ?_
  intro E hC hR
  have hM := MB.rf hA
  refine j_aload_n hC dX10_levelOf_0 rfl ?_
  refine m_get hC hM dX10_levelOf_1 fX10_13 (by decide) (mFg_3 _ _) ?_
  refine j_iload_n hC dX10_levelOf_4 rfl ?_
  refine m_ldI hC hM (by decide) dX10_levelOf_5 (hx) ?_
  refine j_i2l hC dX10_levelOf_6 ?_
  refine j_aload_n hC dX10_levelOf_7 rfl ?_
  refine m_get hC hM dX10_levelOf_8 fX10_22 (by decide) (mFg_6 _ _) ?_
  refine j_iload_n hC dX10_levelOf_11 rfl ?_
  refine m_ldJ hC hM (by decide) dX10_levelOf_12 (hx) ?_
  refine j_aload_n hC dX10_levelOf_13 rfl ?_
  refine m_get hC hM dX10_levelOf_14 fX10_16 (by decide) (mFg_4 _ _) ?_
  refine j_iload_n hC dX10_levelOf_17 rfl ?_
  refine m_ldI hC hM (by decide) dX10_levelOf_18 (hx) ?_
  refine j_i2l hC dX10_levelOf_19 ?_
  refine j_ldiv hC dX10_levelOf_20 (hro) ?_
  refine j_ladd hC dX10_levelOf_21 ?_
  exact j_lret hC hR dX10_levelOf_22 rfl ⟨_, rfl, rfl, rfl⟩

set_option maxRecDepth 100000 in
set_option maxHeartbeats 4000000 in
theorem m_fullOf (K : Kx) {w : Wd} {m : Nat} {ad : Nat → Nat} {S : Ast} (k : Int32) (hA : MA K.2.1 w m ad S) (hx : ix k 24 k.toNatClampNeg) : MT K mX10_fullOf 0 0 0 [.ref m, .int k] w (PL fun r w' => r = ful S k.toNatClampNeg ∧ w' = w) := by
  refine MT.of [some (.ref m), some (.int k)] (by decide) rfl (nle rfl) rfl ?_
  intro E hC hR
  have hM := MB.rf hA
  refine j_aload_n hC dX10_fullOf_0 rfl ?_
  refine m_get hC hM dX10_fullOf_1 fX10_16 (by decide) (mFg_4 _ _) ?_
  refine j_iload_n hC dX10_fullOf_4 rfl ?_
  refine m_ldI hC hM (by decide) dX10_fullOf_5 (hx) ?_
  refine j_i2l hC dX10_fullOf_6 ?_
  refine j_aload_n hC dX10_fullOf_7 rfl ?_
  refine m_get hC hM dX10_fullOf_8 fX10_7 (by decide) (mFg_2 _ _) ?_
  refine j_iload_n hC dX10_fullOf_11 rfl ?_
  refine m_ldI hC hM (by decide) dX10_fullOf_12 (hx) ?_
  refine j_aload_n hC dX10_fullOf_13 rfl ?_
  refine m_get hC hM dX10_fullOf_14 fX10_13 (by decide) (mFg_3 _ _) ?_
  refine j_iload_n hC dX10_fullOf_17 rfl ?_
  refine m_ldI hC hM (by decide) dX10_fullOf_18 (hx) ?_
  refine j_isub hC dX10_fullOf_19 ?_
  refine j_i2l hC dX10_fullOf_20 ?_
  refine j_lmul hC dX10_fullOf_21 ?_
  exact j_lret hC hR dX10_fullOf_22 rfl ⟨_, rfl, rfl, rfl⟩

set_option maxRecDepth 100000 in
set_option maxHeartbeats 4000000 in
theorem m_told (K : Kx) {w : Wd} {m : Nat} {ad : Nat → Nat} {S : Ast} (k x : Int32) (hA : MA K.2.1 w m ad S) (h1 : CN S 1 24) (hro : ∀ j, j < cn S 1 → ¬ (S.1 4 j).toInt64 = 0) : MT K mX10_told 2 0 0 [.ref m, .int k, .int x] w (PL fun r w' => r = (if okT S k x then rT S k.toNatClampNeg x else (-1099511627776)) ∧ w' = w) := by
  refine MT.of [some (.ref m), some (.int k), some (.int x)] (by decide) rfl (nle rfl) rfl ?_
  intro E hC hR
  have hM := MB.rf hA
  refine j_aload_n hC dX10_told_0 rfl ?_
  refine j_iload_n hC dX10_told_1 rfl ?_
  refine j_callv (kc' := 0) (ks' := 0) (r := (RX10, TX10, 59)) hC (m_isNode K k hA) dX10_told_2 wX10_isNode lX10_154 i_yX10_isNode s_yX10_isNode hM.1.1 rfl rfl rfl (nle rfl) rfl (by decide) (by decide) (by decide) (kI fun r w' hp => ?_)
  obtain ⟨rfl, hw⟩ := hp
  rw [hw]
  clear hw w'
  refine j_if_eq hC 17 dX10_told_5 (by decide) (fun c_5 => ?_) (fun c_5 => ?_)
  · refine j_ldc2 hC dX10_told_17 nX10_221 ?_
    have hok : ¬ okT S k x := by simp [okT, c_5]
    exact j_lret hC hR dX10_told_20 rfl ⟨_, rfl, by rw [if_neg hok], rfl⟩
  · refine j_iload_n hC dX10_told_8 rfl ?_
    refine j_iconst hC (0) dX10_told_9 (by decide) ?_
    refine j_iconst hC (3) dX10_told_10 (by decide) ?_
    refine j_calls (kc' := 0) (ks' := 0) hC (m_is K x 0 3) dX10_told_11 wX10_is lX10_145 t_yX10_is rfl rfl (nle rfl) rfl (by decide) (by decide) (by decide) (kI fun r w' hp => ?_)
    obtain ⟨rfl, hw⟩ := hp
    rw [hw]
    clear hw w'
    refine j_if_ne hC 21 dX10_told_14 (by decide) (fun c_14 => ?_) (fun c_14 => ?_)
    · have hok : okT S k x := by simp [okT, c_5, c_14]
      obtain ⟨-, hlt, hx⟩ := isn h1 c_5
      refine j_iload_n hC dX10_told_21 rfl ?_
      refine j_if_ne hC 34 dX10_told_22 (by decide) (fun c_22 => ?_) (fun c_22 => ?_)
      · refine j_iload_n hC dX10_told_34 rfl ?_
        refine j_iconst hC (1) dX10_told_35 (by decide) ?_
        refine j_icmp_ne hC 47 dX10_told_36 (by decide) (fun c_36 => ?_) (fun c_36 => ?_)
        · refine j_iload_n hC dX10_told_47 rfl ?_
          refine j_iconst hC (2) dX10_told_48 (by decide) ?_
          refine j_icmp_ne hC 61 dX10_told_49 (by decide) (fun c_49 => ?_) (fun c_49 => ?_)
          · refine j_aload_n hC dX10_told_61 rfl ?_
            refine m_get hC hM dX10_told_62 fX10_29 (by decide) (mFg_8 _ _) ?_
            refine j_iload_n hC dX10_told_65 rfl ?_
            refine m_ldJ hC hM (by decide) dX10_told_66 (hx) ?_
            exact j_lret hC hR dX10_told_67 rfl ⟨_, rfl, by rw [if_pos hok]; simp [rT, c_22, c_36, c_49], rfl⟩
          · refine j_aload_n hC dX10_told_52 rfl ?_
            refine m_get hC hM dX10_told_53 fX10_26 (by decide) (mFg_7 _ _) ?_
            refine j_iload_n hC dX10_told_56 rfl ?_
            refine m_ldJ hC hM (by decide) dX10_told_57 (hx) ?_
            refine j_goto hC 67 dX10_told_58 (by decide) ?_
            exact j_lret hC hR dX10_told_67 rfl ⟨_, rfl, by rw [if_pos hok]; simp [rT, c_22, c_36, c_49], rfl⟩
        · refine j_aload_n hC dX10_told_39 rfl ?_
          refine j_iload_n hC dX10_told_40 rfl ?_
          refine j_callv (kc' := 0) (ks' := 0) (r := (RX10, TX10, 59)) hC (m_levelOf K k hA hx (hro _ hlt)) dX10_told_41 wX10_levelOf lX10_184 i_yX10_levelOf s_yX10_levelOf hM.1.1 rfl rfl rfl (nle rfl) rfl (by decide) (by decide) (by decide) (kL fun r w' hp => ?_)
          obtain ⟨rfl, hw⟩ := hp
          rw [hw]
          clear hw w'
          refine j_goto hC 67 dX10_told_44 (by decide) ?_
          exact j_lret hC hR dX10_told_67 rfl ⟨_, rfl, by rw [if_pos hok]; simp [rT, c_22, c_36], rfl⟩
      · refine j_aload_n hC dX10_told_25 rfl ?_
        refine m_get hC hM dX10_told_26 fX10_22 (by decide) (mFg_6 _ _) ?_
        refine j_iload_n hC dX10_told_29 rfl ?_
        refine m_ldJ hC hM (by decide) dX10_told_30 (hx) ?_
        refine j_goto hC 67 dX10_told_31 (by decide) ?_
        exact j_lret hC hR dX10_told_67 rfl ⟨_, rfl, by rw [if_pos hok]; simp [rT, c_22], rfl⟩
    · refine j_ldc2 hC dX10_told_17 nX10_221 ?_
      have hok : ¬ okT S k x := by simp [okT, c_5, c_14]
      exact j_lret hC hR dX10_told_20 rfl ⟨_, rfl, by rw [if_neg hok], rfl⟩

set_option maxRecDepth 100000 in
set_option maxHeartbeats 4000000 in
theorem m_flow (K : Kx) {w : Wd} {m : Nat} {ad : Nat → Nat} {S : Ast} (k x : Int32) (hA : MA K.2.1 w m ad S) (h2 : CN S 10 40) : MT K mX10_flow 1 0 0 [.ref m, .int k, .int x] w (PL fun r w' => r = (if okF S k x then rF S k.toNatClampNeg x else (-1152921504606846976)) ∧ w' = w) := by
  refine MT.of [some (.ref m), some (.int k), some (.int x)] (by decide) rfl (nle rfl) rfl ?_
  intro E hC hR
  have hM := MB.rf hA
  refine j_iload_n hC dX10_flow_0 rfl ?_
  refine j_iconst hC (0) dX10_flow_1 (by decide) ?_
  refine j_aload_n hC dX10_flow_2 rfl ?_
  refine m_get hC hM dX10_flow_3 fX10_151 (by decide) (mFg_10 _ _) ?_
  refine j_iconst hC (1) dX10_flow_6 (by decide) ?_
  refine j_isub hC dX10_flow_7 ?_
  refine j_calls (kc' := 0) (ks' := 0) hC (m_is K k 0 (S.1 10 0 - 1)) dX10_flow_8 wX10_is lX10_145 t_yX10_is rfl rfl (nle rfl) rfl (by decide) (by decide) (by decide) (kI fun r w' hp => ?_)
  obtain ⟨rfl, hw⟩ := hp
  rw [hw]
  clear hw w'
  refine j_if_eq hC 23 dX10_flow_11 (by decide) (fun c_11 => ?_) (fun c_11 => ?_)
  · refine j_ldc2 hC dX10_flow_23 nX10_223 ?_
    have hok : ¬ okF S k x := by simp [okF, c_11]
    exact j_lret hC hR dX10_flow_26 rfl ⟨_, rfl, by rw [if_neg hok], rfl⟩
  · refine j_iload_n hC dX10_flow_14 rfl ?_
    refine j_iconst hC (0) dX10_flow_15 (by decide) ?_
    refine j_iconst hC (2) dX10_flow_16 (by decide) ?_
    refine j_calls (kc' := 0) (ks' := 0) hC (m_is K x 0 2) dX10_flow_17 wX10_is lX10_145 t_yX10_is rfl rfl (nle rfl) rfl (by decide) (by decide) (by decide) (kI fun r w' hp => ?_)
    obtain ⟨rfl, hw⟩ := hp
    rw [hw]
    clear hw w'
    refine j_if_ne hC 27 dX10_flow_20 (by decide) (fun c_20 => ?_) (fun c_20 => ?_)
    · have hok : okF S k x := by simp [okF, c_11, c_20]
      obtain ⟨-, hlt, hx⟩ := wI_ix h2.2 (by omega) (show ¬ wI k 0 (nI (cn S 10) - 1) = 0 by rw [← h2.1]; exact c_11)
      refine j_iload_n hC dX10_flow_27 rfl ?_
      refine j_if_ne hC 40 dX10_flow_28 (by decide) (fun c_28 => ?_) (fun c_28 => ?_)
      · refine j_iload_n hC dX10_flow_40 rfl ?_
        refine j_iconst hC (1) dX10_flow_41 (by decide) ?_
        refine j_icmp_ne hC 54 dX10_flow_42 (by decide) (fun c_42 => ?_) (fun c_42 => ?_)
        · refine j_aload_n hC dX10_flow_54 rfl ?_
          refine m_get hC hM dX10_flow_55 fX10_47 (by decide) (mFg_15 _ _) ?_
          refine j_iload_n hC dX10_flow_58 rfl ?_
          refine m_ldJ hC hM (by decide) dX10_flow_59 (hx) ?_
          exact j_lret hC hR dX10_flow_60 rfl ⟨_, rfl, by rw [if_pos hok]; simp [rF, c_28, c_42], rfl⟩
        · refine j_aload_n hC dX10_flow_45 rfl ?_
          refine m_get hC hM dX10_flow_46 fX10_53 (by decide) (mFg_17 _ _) ?_
          refine j_iload_n hC dX10_flow_49 rfl ?_
          refine m_ldJ hC hM (by decide) dX10_flow_50 (hx) ?_
          refine j_goto hC 60 dX10_flow_51 (by decide) ?_
          exact j_lret hC hR dX10_flow_60 rfl ⟨_, rfl, by rw [if_pos hok]; simp [rF, c_28, c_42], rfl⟩
      · refine j_aload_n hC dX10_flow_31 rfl ?_
        refine m_get hC hM dX10_flow_32 fX10_50 (by decide) (mFg_16 _ _) ?_
        refine j_iload_n hC dX10_flow_35 rfl ?_
        refine m_ldJ hC hM (by decide) dX10_flow_36 (hx) ?_
        refine j_goto hC 60 dX10_flow_37 (by decide) ?_
        exact j_lret hC hR dX10_flow_60 rfl ⟨_, rfl, by rw [if_pos hok]; simp [rF, c_28], rfl⟩
    · refine j_ldc2 hC dX10_flow_23 nX10_223 ?_
      have hok : ¬ okF S k x := by simp [okF, c_11, c_20]
      exact j_lret hC hR dX10_flow_26 rfl ⟨_, rfl, by rw [if_neg hok], rfl⟩

set_option maxRecDepth 100000 in
set_option maxHeartbeats 4000000 in
theorem m_cell (K : Kx) {w : Wd} {m : Nat} {ad : Nat → Nat} {S : Ast} (k : Int32) (hA : MA K.2.1 w m ad S)  : MT K mX10_cell 1 0 0 [.ref m, .int k] w (PL fun r w' => r = (if wI k 0 7 = 0 then (-1) else S.2 39 k.toNatClampNeg) ∧ w' = w) := by
  refine MT.of [some (.ref m), some (.int k)] (by decide) rfl (nle rfl) rfl ?_
  intro E hC hR
  have hM := MB.rf hA
  refine j_iload_n hC dX10_cell_0 rfl ?_
  refine j_iconst hC (0) dX10_cell_1 (by decide) ?_
  refine j_bipush hC (7) dX10_cell_2 (by decide) ?_
  refine j_calls (kc' := 0) (ks' := 0) hC (m_is K k 0 7) dX10_cell_4 wX10_is lX10_145 t_yX10_is rfl rfl (nle rfl) rfl (by decide) (by decide) (by decide) (kI fun r w' hp => ?_)
  obtain ⟨rfl, hw⟩ := hp
  rw [hw]
  clear hw w'
  refine j_if_eq hC 19 dX10_cell_7 (by decide) (fun c_7 => ?_) (fun c_7 => ?_)
  · refine j_ldc2 hC dX10_cell_19 nX10_225 ?_
    exact j_lret hC hR dX10_cell_22 rfl ⟨_, rfl, by simp [c_7], rfl⟩
  · have hx := (wI_ix (n := 8) (b := 8) (Nat.le_refl _) (by omega) (show ¬ wI k 0 (nI 8 - 1) = 0 from c_7)).2.2
    refine j_aload_n hC dX10_cell_10 rfl ?_
    refine m_get hC hM dX10_cell_11 fX10_108 (by decide) (mFg_39 _ _) ?_
    refine j_iload_n hC dX10_cell_14 rfl ?_
    refine m_ldJ hC hM (by decide) dX10_cell_15 (hx) ?_
    refine j_goto hC 22 dX10_cell_16 (by decide) ?_
    exact j_lret hC hR dX10_cell_22 rfl ⟨_, rfl, by simp [c_7], rfl⟩

set_option maxRecDepth 100000 in
set_option maxHeartbeats 4000000 in
theorem m_pumps (K : Kx) {w : Wd} {m : Nat} {ad : Nat → Nat} {S : Ast} (k : Int32) (hA : MA K.2.1 w m ad S) (h2 : CN S 24 8) : MT K mX10_pumps 1 0 0 [.ref m, .int k] w (PI fun r w' => r = (if wI k 0 (S.1 24 0 - 1) = 0 then (-1) else if S.1 30 k.toNatClampNeg = 0 then 0 else 1) ∧ w' = w) := by
  refine MT.of [some (.ref m), some (.int k)] (by decide) rfl (nle rfl) rfl ?_
  intro E hC hR
  have hM := MB.rf hA
  refine j_iload_n hC dX10_pumps_0 rfl ?_
  refine j_iconst hC (0) dX10_pumps_1 (by decide) ?_
  refine j_aload_n hC dX10_pumps_2 rfl ?_
  refine m_get hC hM dX10_pumps_3 fX10_162 (by decide) (mFg_24 _ _) ?_
  refine j_iconst hC (1) dX10_pumps_6 (by decide) ?_
  refine j_isub hC dX10_pumps_7 ?_
  refine j_calls (kc' := 0) (ks' := 0) hC (m_is K k 0 (S.1 24 0 - 1)) dX10_pumps_8 wX10_is lX10_145 t_yX10_is rfl rfl (nle rfl) rfl (by decide) (by decide) (by decide) (kI fun r w' hp => ?_)
  obtain ⟨rfl, hw⟩ := hp
  rw [hw]
  clear hw w'
  refine j_if_ne hC 18 dX10_pumps_11 (by decide) (fun c_11 => ?_) (fun c_11 => ?_)
  · have hx := (wI_ix h2.2 (by omega) (show ¬ wI k 0 (nI (cn S 24) - 1) = 0 by rw [← h2.1]; exact c_11)).2.2
    refine j_aload_n hC dX10_pumps_18 rfl ?_
    refine m_get hC hM dX10_pumps_19 fX10_86 (by decide) (mFg_30 _ _) ?_
    refine j_iload_n hC dX10_pumps_22 rfl ?_
    refine m_ldZ hC hM dX10_pumps_23 (hx) ?_
    refine j_if_eq hC 31 dX10_pumps_24 (by decide) (fun c_24 => ?_) (fun c_24 => ?_)
    · refine j_iconst hC (0) dX10_pumps_31 (by decide) ?_
      exact j_iret hC hR dX10_pumps_32 rfl ⟨_, rfl, by simp [c_11, c_24], rfl⟩
    · refine j_iconst hC (1) dX10_pumps_27 (by decide) ?_
      refine j_goto hC 32 dX10_pumps_28 (by decide) ?_
      exact j_iret hC hR dX10_pumps_32 rfl ⟨_, rfl, by simp [c_11, c_24], rfl⟩
  · refine j_iconst hC (-1) dX10_pumps_14 (by decide) ?_
    refine j_goto hC 32 dX10_pumps_15 (by decide) ?_
    exact j_iret hC hR dX10_pumps_32 rfl ⟨_, rfl, by simp [c_11], rfl⟩

set_option maxRecDepth 100000 in
set_option maxHeartbeats 4000000 in
theorem m_inNodes (K : Kx) {w : Wd} {m : Nat} {ad : Nat → Nat} {S : Ast} (hA : MA K.2.1 w m ad S) (h1 : CN S 1 24) : MT K mX10_inNodes 0 0 0 [.ref m] w (PL fun r w' => r = smJ (S.2 6) (cn S 1) ∧ w' = w) := by
  refine MT.of [some (.ref m), none, none, none] (by decide) rfl (nle rfl) rfl ?_
  intro E hC hR
  have hM := MB.rf hA
  have loop : ∀ n i : Nat, i + n = cn S 1 → J K cX10_inNodes E 0 0 w 4 [some (.ref m), some (.long (smJ (S.2 6) i)), none, some (.int (nI i))] [] := by
    intro n
    induction n with
    | zero =>
      intro i hi
      have hi2 : i = cn S 1 := by omega
      subst hi2
      refine j_iload_n hC dX10_inNodes_4 rfl ?_
      refine j_aload_n hC dX10_inNodes_5 rfl ?_
      refine m_get hC hM dX10_inNodes_6 fX10_142 (by decide) (mFg_1 _ _) ?_
      refine j_icmp_ge hC 27 dX10_inNodes_9 (by decide) (fun c_9 => ?_) (fun c_9 => ?_)
      · refine j_lload_n hC dX10_inNodes_27 rfl ?_
        exact j_lret hC hR dX10_inNodes_28 rfl ⟨_, rfl, rfl, rfl⟩
      · exact absurd (by rw [h1.1]; exact (nI_leI (by have := h1.2; omega) (by have := h1.2; omega)).mpr (Nat.le_refl _)) c_9
    | succ n ih =>
      intro i hi
      refine j_iload_n hC dX10_inNodes_4 rfl ?_
      refine j_aload_n hC dX10_inNodes_5 rfl ?_
      refine m_get hC hM dX10_inNodes_6 fX10_142 (by decide) (mFg_1 _ _) ?_
      refine j_icmp_ge hC 27 dX10_inNodes_9 (by decide) (fun c_9 => ?_) (fun c_9 => ?_)
      · exact absurd ((nI_leI (a := cn S 1) (b := i) (by have := h1.2; omega) (by have := h1.2; omega)).mp (h1.1 ▸ c_9)) (by omega)
      · refine j_lload_n hC dX10_inNodes_12 rfl ?_
        refine j_aload_n hC dX10_inNodes_13 rfl ?_
        refine m_get hC hM dX10_inNodes_14 fX10_22 (by decide) (mFg_6 _ _) ?_
        refine j_iload_n hC dX10_inNodes_17 rfl ?_
        refine m_ldJ hC hM (by decide) dX10_inNodes_18 (ix_nI (n := 24) (by have := h1.2; omega) (by omega)) ?_
        refine j_ladd hC dX10_inNodes_19 ?_
        refine j_lstore_n (lv' := [some _, some _, none, some _]) hC dX10_inNodes_20 (nlt rfl) rfl ?_
        refine j_iinc (v := nI (i + 1)) (lv' := [some _, some _, none, some _]) hC dX10_inNodes_21 rfl (nI_i1 i) (nlt rfl) rfl ?_
        refine j_goto hC 4 dX10_inNodes_24 (by decide) ?_
        exact ih (i + 1) (by omega)
  refine j_lconst hC (0) dX10_inNodes_0 (by decide) ?_
  refine j_lstore_n (lv' := [some _, some _, none, none]) hC dX10_inNodes_1 (nlt rfl) rfl ?_
  refine j_iconst hC (0) dX10_inNodes_2 (by decide) ?_
  refine j_istore_n (lv' := [some _, some _, none, some _]) hC dX10_inNodes_3 (nlt rfl) rfl ?_
  exact loop (cn S 1) 0 (by omega)

set_option maxRecDepth 100000 in
set_option maxHeartbeats 4000000 in
theorem m_inCells (K : Kx) {w : Wd} {m : Nat} {ad : Nat → Nat} {S : Ast} (hA : MA K.2.1 w m ad S)  : MT K mX10_inCells 0 0 0 [.ref m] w (PL fun r w' => r = smJ (S.2 39) (8) ∧ w' = w) := by
  refine MT.of [some (.ref m), none, none, none] (by decide) rfl (nle rfl) rfl ?_
  intro E hC hR
  have hM := MB.rf hA
  have loop : ∀ n i : Nat, i + n = 8 → J K cX10_inCells E 0 0 w 4 [some (.ref m), some (.long (smJ (S.2 39) i)), none, some (.int (nI i))] [] := by
    intro n
    induction n with
    | zero =>
      intro i hi
      have hi2 : i = 8 := by omega
      subst hi2
      refine j_iload_n hC dX10_inCells_4 rfl ?_
      refine j_bipush hC (8) dX10_inCells_5 (by decide) ?_
      refine j_icmp_ge hC 25 dX10_inCells_7 (by decide) (fun c_7 => ?_) (fun c_7 => ?_)
      · refine j_lload_n hC dX10_inCells_25 rfl ?_
        exact j_lret hC hR dX10_inCells_26 rfl ⟨_, rfl, rfl, rfl⟩
      · exact absurd (by decide) c_7
    | succ n ih =>
      intro i hi
      refine j_iload_n hC dX10_inCells_4 rfl ?_
      refine j_bipush hC (8) dX10_inCells_5 (by decide) ?_
      refine j_icmp_ge hC 25 dX10_inCells_7 (by decide) (fun c_7 => ?_) (fun c_7 => ?_)
      · exact absurd ((nI_leI (a := 8) (b := i) (by omega) (by omega)).mp c_7) (by omega)
      · refine j_lload_n hC dX10_inCells_10 rfl ?_
        refine j_aload_n hC dX10_inCells_11 rfl ?_
        refine m_get hC hM dX10_inCells_12 fX10_108 (by decide) (mFg_39 _ _) ?_
        refine j_iload_n hC dX10_inCells_15 rfl ?_
        refine m_ldJ hC hM (by decide) dX10_inCells_16 (ix_nI (n := 8) (by omega) (by omega)) ?_
        refine j_ladd hC dX10_inCells_17 ?_
        refine j_lstore_n (lv' := [some _, some _, none, some _]) hC dX10_inCells_18 (nlt rfl) rfl ?_
        refine j_iinc (v := nI (i + 1)) (lv' := [some _, some _, none, some _]) hC dX10_inCells_19 rfl (nI_i1 i) (nlt rfl) rfl ?_
        refine j_goto hC 4 dX10_inCells_22 (by decide) ?_
        exact ih (i + 1) (by omega)
  refine j_lconst hC (0) dX10_inCells_0 (by decide) ?_
  refine j_lstore_n (lv' := [some _, some _, none, none]) hC dX10_inCells_1 (nlt rfl) rfl ?_
  refine j_iconst hC (0) dX10_inCells_2 (by decide) ?_
  refine j_istore_n (lv' := [some _, some _, none, some _]) hC dX10_inCells_3 (nlt rfl) rfl ?_
  exact loop (8) 0 (by omega)

