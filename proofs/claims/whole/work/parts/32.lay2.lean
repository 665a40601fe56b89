
theorem uI_sJ {S : Ast} {F : Nat → Int64} {k i : Nat} {v : Int32} : uI (sJ S F) k i v = sJ (uI S k i v) F := rfl
theorem TL_same (S : Ast) (v : Int32) (co di : Int) (P N p : Nat) : same (TL (uI S 55 0 v) S co di P N p) S := by
  intro k hk
  rw [TL_1 _ _ _ _ _ _ (fun q => hk (by rw [q]; decide)) (fun q => hk (by rw [q]; decide)) (fun q => hk (by rw [q]; decide)), uI_1n (fun q => hk (by rw [q]; decide))]
theorem TL_55 (S : Ast) (v : Int32) (co di : Int) (P N p : Nat) : (TL (uI S 55 0 v) S co di P N p).1 55 0 = v := by
  rw [TL_1 _ _ _ _ _ _ (by decide) (by decide) (by decide), uI_at]

set_option maxRecDepth 100000 in
set_option maxHeartbeats 4000000 in
theorem lay_q (K : Kx) {w0 : Wd} {m : Nat} {ad : Nat → Nat} {E : Ex} {S : Ast} {co di : Int32} (hC : BX K RX10 cX10_lay 13 2 E) (hL : LSt S) (hco : rg co 0 10000) (hdi : rg di 0 1000) {F : Nat → Int64} {al : Int64} (hN : 0 < cn S 44) (hV : VV S co.toInt di.toInt (cn S 50) (cn S 44) (cn S 50) 0 0 < NEV) (hD : RD S co.toInt di.toInt F 0) (kk : ∀ w1 : Wd, MB K.2.1 w0 w1 m ad (sJ (TL (uI S 55 0 1) S co.toInt di.toInt (cn S 50) (cn S 44) (cn S 50)) F) → J K cX10_lay E 0 0 w1 351 [some (.ref m), some (.int co), some (.int di), some (.long al), none, none, none, none, none, none, none, none, none] []) : ∀ (n p : Nat) (w1 : Wd), p + n = cn S 50 → MB K.2.1 w0 w1 m ad (sJ (TL (uI S 55 0 1) S co.toInt di.toInt (cn S 50) (cn S 44) p) F) → J K cX10_lay E 0 0 w1 208 [some (.ref m), some (.int co), some (.int di), some (.long al), none, some (.int (nI (ps S co.toInt di.toInt (cn S 50) (cn S 44) p).1)), some (.int (nI (ps S co.toInt di.toInt (cn S 50) (cn S 44) p).2)), some (.int (nI (p))), none, none, none, none, none] [] := by
  intro n
  induction n with
  | zero =>
    intro p w1 hi hM
    have hi2 : p = cn S 50 := by omega
    subst hi2
    refine j_iload hC dX10_lay_208 rfl ?_
    refine j_aload_n hC dX10_lay_210 rfl ?_
    refine m_get hC hM dX10_lay_211 fX10_250 (by decide) (mFg_50 _ _) ?_
    refine J.toI (y := nI (cn S 50)) ((congrFun (TL_same S 1 co.toInt di.toInt (cn S 50) (cn S 44) _ 50 (by decide)) 0).trans hL.1.1) ?_
    refine j_icmp_ge hC 351 dX10_lay_214 (by decide) (fun c_214 => ?_) (fun c_214 => ?_)
    · refine J.weak (l' := [some (.ref m), some (.int co), some (.int di), some (.long al), none, none, none, none, none, none, none, none, none]) (⟨rfl, rfl, rfl, rfl, trivial⟩) ?_
      exact kk _ hM
    · exact absurd (nI_le (Nat.le_refl _) (by have := hL.1.2; omega)) c_214
  | succ n ih =>
    intro p w1 hi hM
    have hp : p < cn S 50 := by omega
    obtain ⟨h1, h2, h3⟩ := ps_ok S co.toInt di.toInt hN hV p (by omega)
    rw [show cn S 50 - p = (cn S 50 - (p + 1)) + 1 by omega] at h3
    obtain ⟨q1, q2, q3, q4⟩ := ch_spec S co.toInt di.toInt h1 h3
    have e1 : ch S co.toInt di.toInt (cn S 50) (cn S 44) (cn S 50 - (p + 1)) (ps S co.toInt di.toInt (cn S 50) (cn S 44) p).1 (ps S co.toInt di.toInt (cn S 50) (cn S 44) p).2 = pu S co.toInt di.toInt (cn S 50) (cn S 44) p := rfl
    rw [e1] at q1 q2 q3 q4
    have hdue : (F (plc p (ps S co.toInt di.toInt (cn S 50) (cn S 44) p).1 (ps S co.toInt di.toInt (cn S 50) (cn S 44) p).2)).toInt = VV S co.toInt di.toInt (cn S 50) (cn S 44) (cn S 50 - (p + 1) + 1) (ps S co.toInt di.toInt (cn S 50) (cn S 44) p).1 (ps S co.toInt di.toInt (cn S 50) (cn S 44) p).2 := by rw [hD p (Nat.zero_le _) hp _ h2 _ h1, show cn S 50 - (p + 1) + 1 = cn S 50 - p by omega]
    refine j_iload hC dX10_lay_208 rfl ?_
    refine j_aload_n hC dX10_lay_210 rfl ?_
    refine m_get hC hM dX10_lay_211 fX10_250 (by decide) (mFg_50 _ _) ?_
    refine J.toI (y := nI (cn S 50)) ((congrFun (TL_same S 1 co.toInt di.toInt (cn S 50) (cn S 44) _ 50 (by decide)) 0).trans hL.1.1) ?_
    refine j_icmp_ge hC 351 dX10_lay_214 (by decide) (fun c_214 => ?_) (fun c_214 => ?_)
    · exact absurd ((nI_leI (by have := hL.1.2; omega) (by have := hL.1.2; omega)).mp c_214) (by omega)
    · refine j_aload_n hC dX10_lay_217 rfl ?_
      refine m_get hC hM dX10_lay_218 fX10_237 (by decide) (mFg_55 _ _) ?_
      refine J.toI (y := 1) (TL_55 S 1 co.toInt di.toInt (cn S 50) (cn S 44) p) ?_
      refine j_if_eq hC 351 dX10_lay_221 (by decide) (fun c_221 => ?_) (fun c_221 => ?_)
      · exact absurd c_221 (by decide)
      · refine j_aload_n hC dX10_lay_224 rfl ?_
        refine m_get hC hM dX10_lay_225 fX10_126 (by decide) (mFg_54 _ _) ?_
        refine j_aload_n hC dX10_lay_228 rfl ?_
        refine j_iload hC dX10_lay_229 rfl ?_
        refine j_iload hC dX10_lay_231 rfl ?_
        refine j_iload hC dX10_lay_233 rfl ?_
        refine j_callv (kc' := 0) (ks' := 0) (r := (RX10, TX10, 59)) hC (m_place K p (ps S co.toInt di.toInt (cn S 50) (cn S 44) p).1 (ps S co.toInt di.toInt (cn S 50) (cn S 44) p).2 hM.1) dX10_lay_235 wX10_place lX10_255 i_yX10_place s_yX10_place hM.1.1 rfl rfl rfl (nle rfl) rfl (by decide) (by decide) (by decide) (kI fun r w' hp => ?_)
        obtain ⟨rfl, hw⟩ := hp
        rw [hw]
        clear hw w'
        refine m_ldJ hC hM (by decide) dX10_lay_238 (ix_nI (n := 26466) (plc_lt (by have := hL.1.2; omega) (by have := hL.1.2; omega) (by have := hL.2.1.2; omega)) (by omega)) ?_
        refine J.toL (y := F (plc p (ps S co.toInt di.toInt (cn S 50) (cn S 44) p).1 (ps S co.toInt di.toInt (cn S 50) (cn S 44) p).2)) (by rw [sJ_54]) ?_
        refine j_lstore (lv' := [some _, some _, some _, some _, none, some _, some _, some _, some _, none, none, none, none]) hC dX10_lay_239 (nlt rfl) rfl ?_
        refine j_iconst hC (0) dX10_lay_241 (by decide) ?_
        refine j_istore (lv' := [some _, some _, some _, some _, none, some _, some _, some _, some _, none, some _, none, none]) hC dX10_lay_242 (nlt rfl) rfl ?_
        refine j_iload hC dX10_lay_244 rfl ?_
        refine j_istore (lv' := [some _, some _, some _, some _, none, some _, some _, some _, some _, none, some _, some _, none]) hC dX10_lay_246 (nlt rfl) rfl ?_
        refine j_iconst hC (0) dX10_lay_248 (by decide) ?_
        refine j_istore (lv' := [some _, some _, some _, some _, none, some _, some _, some _, some _, none, some _, some _, some _]) hC dX10_lay_249 (nlt rfl) rfl ?_
        refine lay_w K hC hL hco hdi (TL_same S 1 co.toInt di.toInt (cn S 50) (cn S 44) p) hp h2 h1 (hD.mono (Nat.zero_le _)) hdue q2 q3 q1 q4 (fun w2 hM => ?_) (pu S co.toInt di.toInt (cn S 50) (cn S 44) p - 40 * (ps S co.toInt di.toInt (cn S 50) (cn S 44) p).2) (40 * (ps S co.toInt di.toInt (cn S 50) (cn S 44) p).2) (ps S co.toInt di.toInt (cn S 50) (cn S 44) p).2 0 _ (by omega) (Nat.le_refl _) (by omega) (by omega) hM
        refine j_iload hC dX10_lay_302 rfl ?_
        refine j_iload hC dX10_lay_304 rfl ?_
        refine j_iadd hC dX10_lay_306 ?_
        refine J.toI (nI_add (ps S co.toInt di.toInt (cn S 50) (cn S 44) p).1 (pu S co.toInt di.toInt (cn S 50) (cn S 44) p % 40 + 1)) ?_
        refine j_istore (lv' := [some _, some _, some _, some _, none, some _, some _, some _, some _, none, some _, some _, some _]) hC dX10_lay_307 (nlt rfl) rfl ?_
        refine j_iload hC dX10_lay_309 rfl ?_
        refine j_istore (lv' := [some _, some _, some _, some _, none, some _, some _, some _, some _, none, some _, some _, some _]) hC dX10_lay_311 (nlt rfl) rfl ?_
        refine j_aload_n hC dX10_lay_313 rfl ?_
        refine m_get hC hM dX10_lay_314 fX10_129 (by decide) (mFg_56 _ _) ?_
        refine j_iload hC dX10_lay_317 rfl ?_
        refine j_iload hC dX10_lay_319 rfl ?_
        refine m_stI hC hM (by decide) dX10_lay_321 (ix_nI (n := 10) (by have := hL.1.2; omega) (by omega)) (fun w1 hM => ?_)
        refine j_aload_n hC dX10_lay_322 rfl ?_
        refine m_get hC hM dX10_lay_323 fX10_132 (by decide) (mFg_57 _ _) ?_
        refine j_iload hC dX10_lay_326 rfl ?_
        refine j_iload hC dX10_lay_328 rfl ?_
        refine m_stI hC hM (by decide) dX10_lay_330 (ix_nI (n := 10) (by have := hL.1.2; omega) (by omega)) (fun w2 hM => ?_)
        refine j_aload_n hC dX10_lay_331 rfl ?_
        refine m_get hC hM dX10_lay_332 fX10_135 (by decide) (mFg_58 _ _) ?_
        refine j_iload hC dX10_lay_335 rfl ?_
        refine j_aload_n hC dX10_lay_337 rfl ?_
        refine m_get hC hM dX10_lay_338 fX10_247 (by decide) (mFg_49 _ _) ?_
        refine J.toI (y := S.1 49 0) ?_ ?_
        · rw [uI_1n (by decide), uI_1n (by decide)]; exact congrFun (TL_same S 1 co.toInt di.toInt (cn S 50) (cn S 44) p 49 (by decide)) 0
        refine j_iload hC dX10_lay_341 rfl ?_
        refine j_isub hC dX10_lay_343 ?_
        refine m_stI hC hM (by decide) dX10_lay_344 (ix_nI (n := 10) (by have := hL.1.2; omega) (by omega)) (fun w3 hM => ?_)
        refine j_iinc (v := nI (p + 1)) (lv' := [some _, some _, some _, some _, none, some _, some _, some _, some _, none, some _, some _, some _]) hC dX10_lay_345 rfl (nI_i1 p) (nlt rfl) rfl ?_
        refine j_goto hC 208 dX10_lay_348 (by decide) ?_
        refine J.weak (l' := [some (.ref m), some (.int co), some (.int di), some (.long al), none, some (.int (nI (ps S co.toInt di.toInt (cn S 50) (cn S 44) (p + 1)).1)), some (.int (nI (ps S co.toInt di.toInt (cn S 50) (cn S 44) (p + 1)).2)), some (.int (nI ((p + 1)))), none, none, none, none, none]) (⟨rfl, rfl, rfl, rfl, rfl, rfl, rfl, trivial⟩) ?_
        exact ih (p + 1) _ (by omega) hM

theorem wI_rg {v lo hi : Int32} (h : ¬ wI v lo hi = 0) {a b : Int} (ha : lo.toInt = a) (hb : hi.toInt = b) : rg v a b := by
  obtain ⟨h1, h2⟩ := wI_in h
  rw [Int32.lt_iff_toInt_lt] at h1 h2
  exact ⟨by omega, by omega⟩

set_option maxRecDepth 100000 in
set_option maxHeartbeats 4000000 in
theorem m_lay (K : Kx) {w : Wd} {m : Nat} {ad : Nat → Nat} {S : Ast} (co di : Int32) (hA : MA K.2.1 w m ad S) (hL : LSt S) : MT K mX10_lay 2 0 0 [.ref m, .int co, .int di] w (PL fun r w' => r.toInt = rLay S co di ∧ ∃ F : Nat → Int64, MB K.2.1 w w' m ad (sJ (sLay S co di) F)) := by
  refine MT.of [some (.ref m), some (.int co), some (.int di), none, none, none, none, none, none, none, none, none, none] (by decide) rfl (nle rfl) rfl ?_
  intro E hC hR
  have hM := MB.rf hA
  refine j_aload_n hC dX10_lay_0 rfl ?_
  refine m_get hC hM dX10_lay_1 fX10_250 (by decide) (mFg_50 _ _) ?_
  refine j_if_eq hC 29 dX10_lay_4 (by decide) (fun c_4 => ?_) (fun c_4 => ?_)
  · refine j_ldc2 hC dX10_lay_29 nX10_225 ?_
    have hok : ¬ okY S co di := fun q => by first | exact q.1 c_4 | exact q.2.1 c_4 | exact q.2.2 c_4
    exact j_lret hC hR dX10_lay_32 rfl ⟨_, rfl, by unfold rLay; rw [if_neg hok]; decide, S.2 54, by unfold sLay; rw [if_neg hok, sJ_id]; exact hM⟩
  · refine j_iload_n hC dX10_lay_7 rfl ?_
    refine j_iconst hC (0) dX10_lay_8 (by decide) ?_
    refine j_sipush hC (10000) dX10_lay_9 (by decide) ?_
    refine j_calls (kc' := 0) (ks' := 0) hC (m_is K co 0 10000) dX10_lay_12 wX10_is lX10_145 t_yX10_is rfl rfl (nle rfl) rfl (by decide) (by decide) (by decide) (kI fun r w' hp => ?_)
    obtain ⟨rfl, hw⟩ := hp
    rw [hw]
    clear hw w'
    refine j_if_eq hC 29 dX10_lay_15 (by decide) (fun c_15 => ?_) (fun c_15 => ?_)
    · refine j_ldc2 hC dX10_lay_29 nX10_225 ?_
      have hok : ¬ okY S co di := fun q => by first | exact q.1 c_15 | exact q.2.1 c_15 | exact q.2.2 c_15
      exact j_lret hC hR dX10_lay_32 rfl ⟨_, rfl, by unfold rLay; rw [if_neg hok]; decide, S.2 54, by unfold sLay; rw [if_neg hok, sJ_id]; exact hM⟩
    · refine j_iload_n hC dX10_lay_18 rfl ?_
      refine j_iconst hC (0) dX10_lay_19 (by decide) ?_
      refine j_sipush hC (1000) dX10_lay_20 (by decide) ?_
      refine j_calls (kc' := 0) (ks' := 0) hC (m_is K di 0 1000) dX10_lay_23 wX10_is lX10_145 t_yX10_is rfl rfl (nle rfl) rfl (by decide) (by decide) (by decide) (kI fun r w' hp => ?_)
      obtain ⟨rfl, hw⟩ := hp
      rw [hw]
      clear hw w'
      refine j_if_ne hC 33 dX10_lay_26 (by decide) (fun c_26 => ?_) (fun c_26 => ?_)
      · have hok : okY S co di := ⟨c_4, c_15, c_26⟩
        have hco : rg co 0 10000 := wI_rg c_15 (by decide) (by decide)
        have hP : 0 < cn S 50 := Nat.pos_of_ne_zero (fun q => c_4 (by rw [hL.1.1, q]; exact nI_0))
        have hdi : rg di 0 1000 := wI_rg c_26 (by decide) (by decide)
        refine j_aload_n hC dX10_lay_33 rfl ?_
        refine m_get hC hM dX10_lay_34 fX10_250 (by decide) (mFg_50 _ _) ?_
        refine J.toI (y := nI (cn S 50)) hL.1.1 ?_
        refine j_iconst hC (1) dX10_lay_37 (by decide) ?_
        refine j_isub hC dX10_lay_38 ?_
        refine j_istore_n (lv' := [some _, some _, some _, some _, none, none, none, none, none, none, none, none, none]) hC dX10_lay_39 (nlt rfl) rfl ?_
        refine lay_p K (w0 := w) hC hL hco hdi (fun w2 F hM hD => ?_) (cn S 50) _ (S.2 54) (Nat.le_refl _) (by rw [sJ_id]; exact hM) (fun p q1 q2 => by omega)
        refine j_aload_n hC dX10_lay_156 rfl ?_
        refine m_get hC hM dX10_lay_157 fX10_234 (by decide) (mFg_44 _ _) ?_
        refine j_if_ne hC 169 dX10_lay_160 (by decide) (fun c_160 => ?_) (fun c_160 => ?_)
        · refine j_aload_n hC dX10_lay_169 rfl ?_
          refine m_get hC hM dX10_lay_170 fX10_126 (by decide) (mFg_54 _ _) ?_
          refine j_aload_n hC dX10_lay_173 rfl ?_
          refine j_iconst hC (0) dX10_lay_174 (by decide) ?_
          refine j_iconst hC (0) dX10_lay_175 (by decide) ?_
          refine j_iconst hC (0) dX10_lay_176 (by decide) ?_
          have h0 : cn S 44 ≠ 0 := fun q => c_160 (by show S.1 44 0 = 0; rw [hL.2.1.1, q]; exact nI_0)
          refine j_callv (kc' := 0) (ks' := 0) (r := (RX10, TX10, 59)) hC (m_place K 0 0 0 hM.1) dX10_lay_177 wX10_place lX10_255 i_yX10_place s_yX10_place hM.1.1 rfl rfl rfl (nle rfl) rfl (by decide) (by decide) (by decide) (kI fun r w' hp => ?_)
          obtain ⟨rfl, hw⟩ := hp
          rw [hw]
          clear hw w'
          refine m_ldJ hC hM (by decide) dX10_lay_180 (ix_nI (n := 26466) (plc_lt (by omega) (by omega) (by omega)) (by omega)) ?_
          refine j_lstore_n (lv' := [some _, some _, some _, some _, none, none, none, none, none, none, none, none, none]) hC dX10_lay_181 (nlt rfl) rfl ?_
          refine j_aload_n hC dX10_lay_182 rfl ?_
          refine j_lload_n hC dX10_lay_183 rfl ?_
          refine j_ldc2 hC dX10_lay_184 nX10_253 ?_
          refine j_lcmp_ge hC 195 dX10_lay_187 dX10_lay_188 (by decide) (fun c_187 => ?_) (fun c_187 => ?_)
          · refine j_iconst hC (0) dX10_lay_195 (by decide) ?_
            refine m_putI hC hM (by decide) dX10_lay_196 fX10_237 rfl (by decide) rfl rfl (mFs_55 _ _ _) (fun w1 hM => ?_)
            refine j_iconst hC (0) dX10_lay_199 (by decide) ?_
            refine j_istore (lv' := [some _, some _, some _, some _, none, some _, none, none, none, none, none, none, none]) hC dX10_lay_200 (nlt rfl) rfl ?_
            refine j_iconst hC (0) dX10_lay_202 (by decide) ?_
            refine j_istore (lv' := [some _, some _, some _, some _, none, some _, some _, none, none, none, none, none, none]) hC dX10_lay_203 (nlt rfl) rfl ?_
            refine j_iconst hC (0) dX10_lay_205 (by decide) ?_
            refine j_istore (lv' := [some _, some _, some _, some _, none, some _, some _, some _, none, none, none, none, none]) hC dX10_lay_206 (nlt rfl) rfl ?_
            refine j_iload hC dX10_lay_208 rfl ?_
            refine j_aload_n hC dX10_lay_210 rfl ?_
            refine m_get hC hM dX10_lay_211 fX10_250 (by decide) (mFg_50 _ _) ?_
            refine j_icmp_ge hC 351 dX10_lay_214 (by decide) (fun c_214 => ?_) (fun c_214 => ?_)
            · refine j_aload_n hC dX10_lay_351 rfl ?_
              refine m_get hC hM dX10_lay_352 fX10_237 (by decide) (mFg_55 _ _) ?_
              refine j_if_eq hC 362 dX10_lay_355 (by decide) (fun c_355 => ?_) (fun c_355 => ?_)
              · refine j_ldc2 hC dX10_lay_362 nX10_263 ?_
                have hA2 : ¬ allV S co di < NEV := by
                  unfold allV
                  by_cases h0 : cn S 44 = 0
                  · rw [if_pos h0]; omega
                  · rw [if_neg h0, show VV S co.toInt di.toInt (cn S 50) (cn S 44) (cn S 50) 0 0 = (F (plc 0 0 0)).toInt by rw [hD 0 (Nat.le_refl _) (by have := hP; omega) 0 (Nat.zero_le _) 0 (by omega), Nat.sub_zero], ← NEV_i]
                    first | exact fun q => Int.not_le.mpr q (by have := Int64.le_iff_toInt_le.mp c_187; rw [sJ_54] at this; exact this) | (exfalso; apply h0; show (S.1 44 0).toNatClampNeg = 0; rw [show S.1 44 0 = 0 from c_160]; rfl)
                exact j_lret hC hR dX10_lay_365 rfl ⟨_, rfl, by unfold rLay; rw [if_pos hok, if_neg hA2]; decide, F, by unfold sLay; rw [if_pos hok, if_neg hA2]; exact hM⟩
              · exact absurd (uI_at (S := sJ S F) (k := 55) (i := 0) (v := 0)) c_355
            · refine j_aload_n hC dX10_lay_217 rfl ?_
              refine m_get hC hM dX10_lay_218 fX10_237 (by decide) (mFg_55 _ _) ?_
              refine j_if_eq hC 351 dX10_lay_221 (by decide) (fun c_221 => ?_) (fun c_221 => ?_)
              · refine j_aload_n hC dX10_lay_351 rfl ?_
                refine m_get hC hM dX10_lay_352 fX10_237 (by decide) (mFg_55 _ _) ?_
                refine j_if_eq hC 362 dX10_lay_355 (by decide) (fun c_355 => ?_) (fun c_355 => ?_)
                · refine j_ldc2 hC dX10_lay_362 nX10_263 ?_
                  have hA2 : ¬ allV S co di < NEV := by
                    unfold allV
                    by_cases h0 : cn S 44 = 0
                    · rw [if_pos h0]; omega
                    · rw [if_neg h0, show VV S co.toInt di.toInt (cn S 50) (cn S 44) (cn S 50) 0 0 = (F (plc 0 0 0)).toInt by rw [hD 0 (Nat.le_refl _) (by have := hP; omega) 0 (Nat.zero_le _) 0 (by omega), Nat.sub_zero], ← NEV_i]
                      first | exact fun q => Int.not_le.mpr q (by have := Int64.le_iff_toInt_le.mp c_187; rw [sJ_54] at this; exact this) | (exfalso; apply h0; show (S.1 44 0).toNatClampNeg = 0; rw [show S.1 44 0 = 0 from c_160]; rfl)
                  exact j_lret hC hR dX10_lay_365 rfl ⟨_, rfl, by unfold rLay; rw [if_pos hok, if_neg hA2]; decide, F, by unfold sLay; rw [if_pos hok, if_neg hA2]; exact hM⟩
                · exact absurd (uI_at (S := sJ S F) (k := 55) (i := 0) (v := 0)) c_355
              · exact absurd (uI_at (S := sJ S F) (k := 55) (i := 0) (v := 0)) c_221
          · refine j_iconst hC (1) dX10_lay_191 (by decide) ?_
            refine j_goto hC 196 dX10_lay_192 (by decide) ?_
            refine m_putI hC hM (by decide) dX10_lay_196 fX10_237 rfl (by decide) rfl rfl (mFs_55 _ _ _) (fun w2 hM => ?_)
            refine j_iconst hC (0) dX10_lay_199 (by decide) ?_
            refine j_istore (lv' := [some _, some _, some _, some _, none, some _, none, none, none, none, none, none, none]) hC dX10_lay_200 (nlt rfl) rfl ?_
            refine j_iconst hC (0) dX10_lay_202 (by decide) ?_
            refine j_istore (lv' := [some _, some _, some _, some _, none, some _, some _, none, none, none, none, none, none]) hC dX10_lay_203 (nlt rfl) rfl ?_
            refine j_iconst hC (0) dX10_lay_205 (by decide) ?_
            refine j_istore (lv' := [some _, some _, some _, some _, none, some _, some _, some _, none, none, none, none, none]) hC dX10_lay_206 (nlt rfl) rfl ?_
            have hal : (F (plc 0 0 0)).toInt = VV S co.toInt di.toInt (cn S 50) (cn S 44) (cn S 50) 0 0 := by rw [hD 0 (Nat.le_refl _) (by have := hP; omega) 0 (Nat.zero_le _) 0 (by omega), Nat.sub_zero]
            have hV : VV S co.toInt di.toInt (cn S 50) (cn S 44) (cn S 50) 0 0 < NEV := by rw [← hal, ← NEV_i]; exact Int.not_le.mp (fun q => c_187 (Int64.le_iff_toInt_le.mpr (by rw [sJ_54]; exact q)))
            refine J.weak (l' := [some (.ref m), some (.int co), some (.int di), some (.long ((sJ S F).2 54 (plc 0 0 0))), none, some (.int (nI (ps S co.toInt di.toInt (cn S 50) (cn S 44) 0).1)), some (.int (nI (ps S co.toInt di.toInt (cn S 50) (cn S 44) 0).2)), some (.int (nI (0))), none, none, none, none, none]) (⟨rfl, rfl, rfl, rfl, rfl, rfl, rfl, trivial⟩) ?_
            refine lay_q K (w0 := w) (al := (sJ S F).2 54 (plc 0 0 0)) hC hL hco hdi (by omega) hV hD (fun w3 hM => ?_) (cn S 50) 0 _ (by omega) hM
            refine j_aload_n hC dX10_lay_351 rfl ?_
            refine m_get hC hM dX10_lay_352 fX10_237 (by decide) (mFg_55 _ _) ?_
            refine j_if_eq hC 362 dX10_lay_355 (by decide) (fun c_355 => ?_) (fun c_355 => ?_)
            · exact absurd ((TL_55 S 1 co.toInt di.toInt (cn S 50) (cn S 44) (cn S 50)).symm.trans c_355) (by decide)
            · refine j_lload_n hC dX10_lay_358 rfl ?_
              refine j_goto hC 365 dX10_lay_359 (by decide) ?_
              have hA2 : allV S co di = VV S co.toInt di.toInt (cn S 50) (cn S 44) (cn S 50) 0 0 := if_neg h0
              exact j_lret hC hR dX10_lay_365 rfl ⟨_, rfl, by unfold rLay; rw [if_pos hok, hA2, if_pos hV, sJ_54]; exact hal, F, by unfold sLay; rw [if_pos hok, hA2, if_pos hV]; exact hM⟩
        · refine j_ldc2 hC dX10_lay_163 nX10_253 ?_
          refine j_goto hC 181 dX10_lay_166 (by decide) ?_
          refine j_lstore_n (lv' := [some _, some _, some _, some _, none, none, none, none, none, none, none, none, none]) hC dX10_lay_181 (nlt rfl) rfl ?_
          refine j_aload_n hC dX10_lay_182 rfl ?_
          refine j_lload_n hC dX10_lay_183 rfl ?_
          refine j_ldc2 hC dX10_lay_184 nX10_253 ?_
          refine j_lcmp_ge hC 195 dX10_lay_187 dX10_lay_188 (by decide) (fun c_187 => ?_) (fun c_187 => ?_)
          · refine j_iconst hC (0) dX10_lay_195 (by decide) ?_
            refine m_putI hC hM (by decide) dX10_lay_196 fX10_237 rfl (by decide) rfl rfl (mFs_55 _ _ _) (fun w3 hM => ?_)
            refine j_iconst hC (0) dX10_lay_199 (by decide) ?_
            refine j_istore (lv' := [some _, some _, some _, some _, none, some _, none, none, none, none, none, none, none]) hC dX10_lay_200 (nlt rfl) rfl ?_
            refine j_iconst hC (0) dX10_lay_202 (by decide) ?_
            refine j_istore (lv' := [some _, some _, some _, some _, none, some _, some _, none, none, none, none, none, none]) hC dX10_lay_203 (nlt rfl) rfl ?_
            refine j_iconst hC (0) dX10_lay_205 (by decide) ?_
            refine j_istore (lv' := [some _, some _, some _, some _, none, some _, some _, some _, none, none, none, none, none]) hC dX10_lay_206 (nlt rfl) rfl ?_
            refine j_iload hC dX10_lay_208 rfl ?_
            refine j_aload_n hC dX10_lay_210 rfl ?_
            refine m_get hC hM dX10_lay_211 fX10_250 (by decide) (mFg_50 _ _) ?_
            refine j_icmp_ge hC 351 dX10_lay_214 (by decide) (fun c_214 => ?_) (fun c_214 => ?_)
            · refine j_aload_n hC dX10_lay_351 rfl ?_
              refine m_get hC hM dX10_lay_352 fX10_237 (by decide) (mFg_55 _ _) ?_
              refine j_if_eq hC 362 dX10_lay_355 (by decide) (fun c_355 => ?_) (fun c_355 => ?_)
              · refine j_ldc2 hC dX10_lay_362 nX10_263 ?_
                have hA2 : ¬ allV S co di < NEV := by
                  unfold allV
                  by_cases h0 : cn S 44 = 0
                  · rw [if_pos h0]; omega
                  · rw [if_neg h0, show VV S co.toInt di.toInt (cn S 50) (cn S 44) (cn S 50) 0 0 = (F (plc 0 0 0)).toInt by rw [hD 0 (Nat.le_refl _) (by have := hP; omega) 0 (Nat.zero_le _) 0 (by omega), Nat.sub_zero], ← NEV_i]
                    first | exact fun q => Int.not_le.mpr q (by have := Int64.le_iff_toInt_le.mp c_187; rw [sJ_54] at this; exact this) | (exfalso; apply h0; show (S.1 44 0).toNatClampNeg = 0; rw [show S.1 44 0 = 0 from c_160]; rfl)
                exact j_lret hC hR dX10_lay_365 rfl ⟨_, rfl, by unfold rLay; rw [if_pos hok, if_neg hA2]; decide, F, by unfold sLay; rw [if_pos hok, if_neg hA2]; exact hM⟩
              · exact absurd (uI_at (S := sJ S F) (k := 55) (i := 0) (v := 0)) c_355
            · refine j_aload_n hC dX10_lay_217 rfl ?_
              refine m_get hC hM dX10_lay_218 fX10_237 (by decide) (mFg_55 _ _) ?_
              refine j_if_eq hC 351 dX10_lay_221 (by decide) (fun c_221 => ?_) (fun c_221 => ?_)
              · refine j_aload_n hC dX10_lay_351 rfl ?_
                refine m_get hC hM dX10_lay_352 fX10_237 (by decide) (mFg_55 _ _) ?_
                refine j_if_eq hC 362 dX10_lay_355 (by decide) (fun c_355 => ?_) (fun c_355 => ?_)
                · refine j_ldc2 hC dX10_lay_362 nX10_263 ?_
                  have hA2 : ¬ allV S co di < NEV := by
                    unfold allV
                    by_cases h0 : cn S 44 = 0
                    · rw [if_pos h0]; omega
                    · rw [if_neg h0, show VV S co.toInt di.toInt (cn S 50) (cn S 44) (cn S 50) 0 0 = (F (plc 0 0 0)).toInt by rw [hD 0 (Nat.le_refl _) (by have := hP; omega) 0 (Nat.zero_le _) 0 (by omega), Nat.sub_zero], ← NEV_i]
                      first | exact fun q => Int.not_le.mpr q (by have := Int64.le_iff_toInt_le.mp c_187; rw [sJ_54] at this; exact this) | (exfalso; apply h0; show (S.1 44 0).toNatClampNeg = 0; rw [show S.1 44 0 = 0 from c_160]; rfl)
                  exact j_lret hC hR dX10_lay_365 rfl ⟨_, rfl, by unfold rLay; rw [if_pos hok, if_neg hA2]; decide, F, by unfold sLay; rw [if_pos hok, if_neg hA2]; exact hM⟩
                · exact absurd (uI_at (S := sJ S F) (k := 55) (i := 0) (v := 0)) c_355
              · exact absurd (uI_at (S := sJ S F) (k := 55) (i := 0) (v := 0)) c_221
          · exact absurd (Int64.le_refl _) c_187
      · refine j_ldc2 hC dX10_lay_29 nX10_225 ?_
        have hok : ¬ okY S co di := fun q => by first | exact q.1 c_26 | exact q.2.1 c_26 | exact q.2.2 c_26
        exact j_lret hC hR dX10_lay_32 rfl ⟨_, rfl, by unfold rLay; rw [if_neg hok]; decide, S.2 54, by unfold sLay; rw [if_neg hok, sJ_id]; exact hM⟩

