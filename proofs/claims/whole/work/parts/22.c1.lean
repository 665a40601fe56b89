
theorem fRain_c (T : Ast) (i j : Nat) : uJ (uJ (uJ T 6 (T.1 19 i).toNatClampNeg (T.2 6 (T.1 19 i).toNatClampNeg + (T.2 22 i + (T.1 20 i).toInt64 * (1000 - T.1 21 i).toInt64 * (T.1 23 j).toInt64) / 60000000)) 22 i ((T.2 22 i + (T.1 20 i).toInt64 * (1000 - T.1 21 i).toInt64 * (T.1 23 j).toInt64) - (T.2 22 i + (T.1 20 i).toInt64 * (1000 - T.1 21 i).toInt64 * (T.1 23 j).toInt64) / 60000000 * 60000000)) 41 0 (T.2 41 0 + (T.2 22 i + (T.1 20 i).toInt64 * (1000 - T.1 21 i).toInt64 * (T.1 23 j).toInt64) / 60000000) = fRain T i j := by
  unfold fRain
  rw [mul_swap, uJ_comm (k := 6) (k' := 22) (by decide)]
theorem fFlow_c (T : Ast) (i : Nat) : uJ (uJ (uJ (uJ (uJ T 6 (T.1 11 i).toNatClampNeg (T.2 6 (T.1 11 i).toNatClampNeg - wM T i)) 6 (T.1 12 i).toNatClampNeg (T.2 6 (T.1 12 i).toNatClampNeg + wM T i)) 15 i (wR T i - wR T i / wB T i * wB T i)) 16 i (wM T i)) 17 i (T.2 17 i + wM T i) = fFlow T i := by
  unfold fFlow
  rw [uJ_comm (k := 6) (k' := 15) (by decide), uJ_comm (k := 6) (k' := 15) (by decide)]
theorem fGully_c (T : Ast) (i : Nat) : uJ (uJ T 6 (T.1 37 i).toNatClampNeg (T.2 6 (T.1 37 i).toNatClampNeg + lG T i)) 39 (T.1 36 i).toNatClampNeg (T.2 39 (T.1 36 i).toNatClampNeg - lG T i) = fGully T i := by
  unfold fGully
  rw [uJ_comm (k := 6) (k' := 39) (by decide)]


section STQ
variable {g : Gx} {w0 w : Wd} {O : Nat → Prop} {ad : Nat → Nat → Nat} {z : Zx} {np : Nat} {T : Ast}
theorem SB.rainS (hS : SB g w0 w O ad z np T) {i j : Nat} (hi : i < cn T 18) (hn : (T.1 19 i).toNatClampNeg < cn T 1) : SB g w0 (wst (wst (wst w (ad 1 (T.1 19 i).toNatClampNeg) (oNode (T.1 3 (T.1 19 i).toNatClampNeg) (T.1 4 (T.1 19 i).toNatClampNeg) (ful T (T.1 19 i).toNatClampNeg) (T.2 6 (T.1 19 i).toNatClampNeg + (T.2 22 i + (T.1 20 i).toInt64 * (1000 - T.1 21 i).toInt64 * (T.1 23 j).toInt64) / 60000000) (T.2 9 (T.1 19 i).toNatClampNeg) (T.2 7 (T.1 19 i).toNatClampNeg) (T.2 8 (T.1 19 i).toNatClampNeg) (T.1 5 (T.1 19 i).toNatClampNeg))) (ad 3 i) (oArea (ad 1 (T.1 19 i).toNatClampNeg) ((T.1 20 i).toInt64 * (1000 - T.1 21 i).toInt64) ((T.2 22 i + (T.1 20 i).toInt64 * (1000 - T.1 21 i).toInt64 * (T.1 23 j).toInt64) - (T.2 22 i + (T.1 20 i).toInt64 * (1000 - T.1 21 i).toInt64 * (T.1 23 j).toInt64) / 60000000 * 60000000))) (ad 0 0) (.inr (10, [.int (T.1 0 0), .ref (ad 14 1), .ref (ad 14 2), .ref (ad 14 3), .ref (ad 14 4), .ref (ad 14 5), .ref (ad 14 6), .ref (ad 7 0), .ref (ad 8 0), .ref (ad 9 0), .int (T.1 40 0), .long (T.2 41 0 + (T.2 22 i + (T.1 20 i).toInt64 * (1000 - T.1 21 i).toInt64 * (T.1 23 j).toInt64) / 60000000), .long (T.2 42 0), .long (T.2 43 0)]))) O ad z np (fRain T i j) := by
  rw [← fRain_c]
  have h1 := (hS.water hn (T.2 6 (T.1 19 i).toNatClampNeg + (T.2 22 i + (T.1 20 i).toInt64 * (1000 - T.1 21 i).toInt64 * (T.1 23 j).toInt64) / 60000000)).areaR (i := i) hi ((T.2 22 i + (T.1 20 i).toInt64 * (1000 - T.1 21 i).toInt64 * (T.1 23 j).toInt64) - (T.2 22 i + (T.1 20 i).toInt64 * (1000 - T.1 21 i).toInt64 * (T.1 23 j).toInt64) / 60000000 * 60000000)
  generalize (T.2 22 i + (T.1 20 i).toInt64 * (1000 - T.1 21 i).toInt64 * (T.1 23 j).toInt64) / 60000000 = c at h1 ⊢
  generalize (T.2 22 i + (T.1 20 i).toInt64 * (1000 - T.1 21 i).toInt64 * (T.1 23 j).toInt64) - c * 60000000 = r at h1 ⊢
  generalize T.2 6 (T.1 19 i).toNatClampNeg + c = v at h1 ⊢
  refine h1.putX (uJ (uJ (uJ T 6 (T.1 19 i).toNatClampNeg v) 22 i r) 41 0 (T.2 41 0 + c)) (fun _ _ => rfl) (fun k h _ _ => uJ_2n h) ?_
  rw [cel_e0, uJ_at, uJ_2n (by decide), uJ_2n (by decide), uJ_2n (by decide), uJ_2n (by decide), uJ_2n (by decide), uJ_2n (by decide)]
  rfl
theorem SB.flowS (hS : SB g w0 w O ad z np T) {i : Nat} (hi : i < cn T 10) (hf : (T.1 11 i).toNatClampNeg < cn T 1) (ht : (T.1 12 i).toNatClampNeg < cn T 1) : SB g w0 (wst (wst (wst w (ad 1 (T.1 11 i).toNatClampNeg) (oNode (T.1 3 (T.1 11 i).toNatClampNeg) (T.1 4 (T.1 11 i).toNatClampNeg) (ful T (T.1 11 i).toNatClampNeg) (T.2 6 (T.1 11 i).toNatClampNeg - wM T i) (T.2 9 (T.1 11 i).toNatClampNeg) (T.2 7 (T.1 11 i).toNatClampNeg) (T.2 8 (T.1 11 i).toNatClampNeg) (T.1 5 (T.1 11 i).toNatClampNeg))) (ad 1 (T.1 12 i).toNatClampNeg) (oNode (T.1 3 (T.1 12 i).toNatClampNeg) (T.1 4 (T.1 12 i).toNatClampNeg) (ful T (T.1 12 i).toNatClampNeg) (T.2 6 (T.1 12 i).toNatClampNeg + wM T i) (T.2 9 (T.1 12 i).toNatClampNeg) (T.2 7 (T.1 12 i).toNatClampNeg) (T.2 8 (T.1 12 i).toNatClampNeg) (T.1 5 (T.1 12 i).toNatClampNeg))) (ad 2 i) (oPipe (ad 1 (T.1 11 i).toNatClampNeg) (ad 1 (T.1 12 i).toNatClampNeg) ((T.1 14 i).toInt64 * (T.1 14 i).toInt64) (wB T i) (wR T i - wR T i / wB T i * wB T i) (wM T i) (T.2 17 i + wM T i))) O ad z np (fFlow T i) := by
  rw [← fFlow_c]
  generalize wM T i = mv
  generalize wR T i - wR T i / wB T i * wB T i = r
  generalize T.2 6 (T.1 11 i).toNatClampNeg - mv = v1
  generalize T.2 6 (T.1 12 i).toNatClampNeg + mv = v2
  generalize T.2 17 i + mv = c
  exact ((hS.water hf v1).water ht v2).pipeR hi r mv c
theorem SB.pumpS (hS : SB g w0 w O ad z np T) {i : Nat} (hi : i < cn T 24) (hn : (T.1 25 i).toNatClampNeg < cn T 1) (ht : (T.1 26 i).toNatClampNeg < cn T 1) : SB g w0 (wst (wst (wst w (ad 1 (T.1 25 i).toNatClampNeg) (oNode (T.1 3 (T.1 25 i).toNatClampNeg) (T.1 4 (T.1 25 i).toNatClampNeg) (ful T (T.1 25 i).toNatClampNeg) (T.2 6 (T.1 25 i).toNatClampNeg - uG T i) (T.2 9 (T.1 25 i).toNatClampNeg) (T.2 7 (T.1 25 i).toNatClampNeg) (T.2 8 (T.1 25 i).toNatClampNeg) (T.1 5 (T.1 25 i).toNatClampNeg))) (ad 1 (T.1 26 i).toNatClampNeg) (oNode (T.1 3 (T.1 26 i).toNatClampNeg) (T.1 4 (T.1 26 i).toNatClampNeg) (ful T (T.1 26 i).toNatClampNeg) (T.2 6 (T.1 26 i).toNatClampNeg + uG T i) (T.2 9 (T.1 26 i).toNatClampNeg) (T.2 7 (T.1 26 i).toNatClampNeg) (T.2 8 (T.1 26 i).toNatClampNeg) (T.1 5 (T.1 26 i).toNatClampNeg))) (ad 4 i) (oPump (ad 1 (T.1 25 i).toNatClampNeg) (ad 1 (T.1 26 i).toNatClampNeg) (T.1 27 i) (T.1 28 i) (T.1 29 i) (uO T i))) O ad z np (fPump T i) := by
  unfold fPump
  generalize uG T i = gv
  generalize uO T i = o
  generalize T.2 6 (T.1 25 i).toNatClampNeg - gv = v1
  generalize T.2 6 (T.1 26 i).toNatClampNeg + gv = v2
  exact ((hS.water hn v1).water ht v2).pumpO hi o
theorem SB.gateS (hS : SB g w0 w O ad z np T) {i : Nat} (hn : (T.1 32 i).toNatClampNeg < cn T 1) : SB g w0 (wst (wst w (ad 1 (T.1 32 i).toNatClampNeg) (oNode (T.1 3 (T.1 32 i).toNatClampNeg) (T.1 4 (T.1 32 i).toNatClampNeg) (ful T (T.1 32 i).toNatClampNeg) (T.2 6 (T.1 32 i).toNatClampNeg - gG T i) (T.2 9 (T.1 32 i).toNatClampNeg) (T.2 7 (T.1 32 i).toNatClampNeg) (T.2 8 (T.1 32 i).toNatClampNeg + gG T i) (T.1 5 (T.1 32 i).toNatClampNeg))) (ad 0 0) (.inr (10, [.int (T.1 0 0), .ref (ad 14 1), .ref (ad 14 2), .ref (ad 14 3), .ref (ad 14 4), .ref (ad 14 5), .ref (ad 14 6), .ref (ad 7 0), .ref (ad 8 0), .ref (ad 9 0), .int (T.1 40 0), .long (T.2 41 0), .long (T.2 42 0 + gG T i), .long (T.2 43 0)]))) O ad z np (fGate T i) := by
  unfold fGate
  generalize gG T i = c
  have h1 := hS.gone hn (T.2 6 (T.1 32 i).toNatClampNeg - c) (T.2 8 (T.1 32 i).toNatClampNeg + c)
  generalize T.2 6 (T.1 32 i).toNatClampNeg - c = v at h1 ⊢
  generalize T.2 8 (T.1 32 i).toNatClampNeg + c = u at h1 ⊢
  refine h1.putX (uJ (uJ (uJ T 6 (T.1 32 i).toNatClampNeg v) 8 (T.1 32 i).toNatClampNeg u) 42 0 (T.2 42 0 + c)) (fun _ _ => rfl) (fun k _ h _ => uJ_2n h) ?_
  rw [cel_e0, uJ_at, uJ_2n (by decide), uJ_2n (by decide), uJ_2n (by decide), uJ_2n (by decide), uJ_2n (by decide), uJ_2n (by decide)]
  rfl
theorem SB.gullyS (hS : SB g w0 w O ad z np T) {i : Nat} (hn : (T.1 37 i).toNatClampNeg < cn T 1) : SB g w0 (wst (wst w (ad 1 (T.1 37 i).toNatClampNeg) (oNode (T.1 3 (T.1 37 i).toNatClampNeg) (T.1 4 (T.1 37 i).toNatClampNeg) (ful T (T.1 37 i).toNatClampNeg) (T.2 6 (T.1 37 i).toNatClampNeg + lG T i) (T.2 9 (T.1 37 i).toNatClampNeg) (T.2 7 (T.1 37 i).toNatClampNeg) (T.2 8 (T.1 37 i).toNatClampNeg) (T.1 5 (T.1 37 i).toNatClampNeg))) (ad 8 0) (aJ g 8 (va_up (T.2 39) (T.1 36 i).toNatClampNeg (T.2 39 (T.1 36 i).toNatClampNeg - lG T i)))) O ad z np (fGully T i) := by
  rw [← fGully_c]
  generalize lG T i = c
  generalize T.2 6 (T.1 37 i).toNatClampNeg + c = v
  have h1 := (hS.water hn v).putCells (T.1 36 i).toNatClampNeg (T.2 39 (T.1 36 i).toNatClampNeg - c)
  generalize T.2 39 (T.1 36 i).toNatClampNeg - c = u at h1 ⊢
  rw [uJ_2n (by decide)] at h1
  exact h1
theorem SB.nodeS (hS : SB g w0 w O ad z np T) {i : Nat} (hi : i < cn T 1) (h5 : T.1 5 i < 0) : SB g w0 (wst (wst w (ad 1 i) (oNode (T.1 3 i) (T.1 4 i) (ful T i) (T.2 6 i - nS T i) (T.2 9 i) (T.2 7 i + nS T i) (T.2 8 i) (T.1 5 i))) (ad 0 0) (.inr (10, [.int (T.1 0 0), .ref (ad 14 1), .ref (ad 14 2), .ref (ad 14 3), .ref (ad 14 4), .ref (ad 14 5), .ref (ad 14 6), .ref (ad 7 0), .ref (ad 8 0), .ref (ad 9 0), .int (T.1 40 0), .long (T.2 41 0), .long (T.2 42 0), .long (T.2 43 0 + nS T i)]))) O ad z np (fNode T i) := by
  unfold fNode
  rw [if_pos h5]
  generalize nS T i = c
  have h1 := hS.spilt hi (T.2 6 i - c) (T.2 7 i + c)
  generalize T.2 6 i - c = v at h1 ⊢
  generalize T.2 7 i + c = u at h1 ⊢
  refine h1.putX (uJ (uJ (uJ T 6 i v) 7 i u) 43 0 (T.2 43 0 + c)) (fun _ _ => rfl) (fun k _ _ h => uJ_2n h) ?_
  rw [cel_e0, uJ_at, uJ_2n (by decide), uJ_2n (by decide), uJ_2n (by decide), uJ_2n (by decide), uJ_2n (by decide), uJ_2n (by decide)]
  rfl
theorem SB.nodeC (hS : SB g w0 w O ad z np T) {i : Nat} (hi : i < cn T 1) (h5 : ¬ T.1 5 i < 0) : SB g w0 (wst (wst w (ad 1 i) (oNode (T.1 3 i) (T.1 4 i) (ful T i) (T.2 6 i - nS T i) (T.2 9 i) (T.2 7 i + nS T i) (T.2 8 i) (T.1 5 i))) (ad 8 0) (aJ g 8 (va_up (T.2 39) (T.1 5 i).toNatClampNeg (T.2 39 (T.1 5 i).toNatClampNeg + nS T i)))) O ad z np (fNode T i) := by
  unfold fNode
  rw [if_neg h5]
  generalize nS T i = c
  generalize T.2 6 i - c = v
  generalize T.2 7 i + c = u
  have h1 := (hS.spilt hi v u).putCells (T.1 5 i).toNatClampNeg (T.2 39 (T.1 5 i).toNatClampNeg + c)
  generalize T.2 39 (T.1 5 i).toNatClampNeg + c = q at h1 ⊢
  rw [uJ_2n (by decide), uJ_2n (by decide)] at h1
  exact h1
end STQ

set_option maxRecDepth 100000 in
set_option maxHeartbeats 4000000 in
theorem c_litN (K : Kx) {w : Wd} {O : Nat → Prop} {ad : Nat → Nat → Nat} {z : Zx} {np : Nat} {S : Ast} (hA : SA K.2.1 w O ad z np S) (h1 : CN S 1 24) : MT K mX9_litresInNodes 3 0 0 [.ref (ad 0 0)] w (PL fun r w' => r = smJ (S.2 6) (cn S 1) ∧ w' = w) := by
  refine MT.of [some (.ref (ad 0 0)), none, none, none] (by decide) rfl (nle rfl) rfl ?_
  intro E hC hR
  have hS := SB.rf hA
  have loop : ∀ (n i : Nat), i + n = cn S 1 → J K cX9_litresInNodes E 0 0 w 4 [some (.ref (ad 0 0)), some (.long (smJ (S.2 6) i)), none, some (.int (nI i))] [] := by
    intro n
    induction n with
    | zero =>
      intro i hi
      have hi2 : i = cn S 1 := by omega
      subst hi2
      refine j_iload_n hC dX9_litresInNodes_4 rfl ?_
      refine j_aload_n hC dX9_litresInNodes_5 rfl ?_
      refine j_get hC cfX9 dX9_litresInNodes_6 fX9_10 (by decide) hS.1.x rfl ?_
      obtain ⟨mc1, hl1⟩ := (hS.1.lst (j := 1) (by decide)).sz
      refine j_callv (kc' := 0) (ks' := 0) (r := (RJx4a65c, TJx4a65c, 3)) hC (c_lsize K (hS.1.lst (j := 1) (by decide))) dX9_litresInNodes_9 wJx4a65c_size_8abf5 lX9_59 i_yJx4a65c_size_8abf5 s_yJx4a65c_size_8abf5 hl1 rfl rfl rfl (nle rfl) rfl (by decide) (by decide) (by decide) (kI fun r w' hp => ?_)
      obtain ⟨rfl, hw⟩ := hp
      rw [hw]
      clear hw w'
      refine J.toI (congrArg nI (vN_e1 _ np)) ?_
      refine j_icmp_ge hC 38 dX9_litresInNodes_12 (by decide) (fun c_12 => ?_) (fun c_12 => ?_)
      · refine j_lload_n hC dX9_litresInNodes_38 rfl ?_
        exact j_lret hC hR dX9_litresInNodes_39 rfl ⟨_, rfl, rfl, rfl⟩
      · exact absurd (nI_le (Nat.le_refl _) (by have := h1.2; omega)) c_12
    | succ n ih =>
      intro i hi
      have hil : i < cn S 1 := by omega
      refine j_iload_n hC dX9_litresInNodes_4 rfl ?_
      refine j_aload_n hC dX9_litresInNodes_5 rfl ?_
      refine j_get hC cfX9 dX9_litresInNodes_6 fX9_10 (by decide) hS.1.x rfl ?_
      obtain ⟨mc1, hl1⟩ := (hS.1.lst (j := 1) (by decide)).sz
      refine j_callv (kc' := 0) (ks' := 0) (r := (RJx4a65c, TJx4a65c, 3)) hC (c_lsize K (hS.1.lst (j := 1) (by decide))) dX9_litresInNodes_9 wJx4a65c_size_8abf5 lX9_59 i_yJx4a65c_size_8abf5 s_yJx4a65c_size_8abf5 hl1 rfl rfl rfl (nle rfl) rfl (by decide) (by decide) (by decide) (kI fun r w' hp => ?_)
      obtain ⟨rfl, hw⟩ := hp
      rw [hw]
      clear hw w'
      refine J.toI (congrArg nI (vN_e1 _ np)) ?_
      refine j_icmp_ge hC 38 dX9_litresInNodes_12 (by decide) (fun c_12 => ?_) (fun c_12 => ?_)
      · exact absurd ((nI_leI (a := cn S 1) (b := i) (by have := h1.2; omega) (by have := h1.2; omega)).mp c_12) (by omega)
      · refine j_lload_n hC dX9_litresInNodes_15 rfl ?_
        refine j_aload_n hC dX9_litresInNodes_16 rfl ?_
        refine j_get hC cfX9 dX9_litresInNodes_17 fX9_10 (by decide) hS.1.x rfl ?_
        refine j_iload_n hC dX9_litresInNodes_20 rfl ?_
        obtain ⟨mc2, hl2⟩ := (hS.1.lst (j := 1) (by decide)).sz
        refine j_callv (kc' := 0) (ks' := 0) (r := (RJx4a65c, TJx4a65c, 3)) hC (c_get K (hS.1.lst (j := 1) (by decide)) (by rw [vN_e1]; exact hil)) dX9_litresInNodes_21 wJx4a65c_get_915e3 lX9_87 i_yJx4a65c_get_915e3 s_yJx4a65c_get_915e3 hl2 rfl rfl rfl (nle rfl) rfl (by decide) (by decide) (by decide) (kA fun r w' hp => ?_)
        obtain ⟨rfl, hw⟩ := hp
        rw [hw]
        clear hw w'
        refine j_cast (r := (RX5, TX5, 8)) hC dX9_litresInNodes_24 kX9_72 (hS.1.node hil) rfl ?_
        refine j_get hC cfX5 dX9_litresInNodes_27 fX9_132 (by decide) (hS.1.node hil) rfl ?_
        refine j_ladd hC dX9_litresInNodes_30 ?_
        refine j_lstore_n (lv' := [some _, some _, none, some _]) hC dX9_litresInNodes_31 (nlt rfl) rfl ?_
        refine j_iinc (v := nI (i + 1)) (lv' := [some _, some _, none, some _]) hC dX9_litresInNodes_32 rfl (nI_i1 i) (nlt rfl) rfl ?_
        refine j_goto hC 4 dX9_litresInNodes_35 (by decide) ?_
        exact ih (i + 1) (by omega)
  refine j_lconst hC (0) dX9_litresInNodes_0 (by decide) ?_
  refine j_lstore_n (lv' := [some _, some _, none, none]) hC dX9_litresInNodes_1 (nlt rfl) rfl ?_
  refine j_iconst hC (0) dX9_litresInNodes_2 (by decide) ?_
  refine j_istore_n (lv' := [some _, some _, none, some _]) hC dX9_litresInNodes_3 (nlt rfl) rfl ?_
  exact loop (cn S 1) 0 (by omega)

set_option maxRecDepth 100000 in
set_option maxHeartbeats 4000000 in
theorem c_litC (K : Kx) {w : Wd} {O : Nat → Prop} {ad : Nat → Nat → Nat} {z : Zx} {np : Nat} {S : Ast} (hA : SA K.2.1 w O ad z np S)  : MT K mX9_litresInCells 3 0 0 [.ref (ad 0 0)] w (PL fun r w' => r = smJ (S.2 39) (8) ∧ w' = w) := by
  refine MT.of [some (.ref (ad 0 0)), none, none, none] (by decide) rfl (nle rfl) rfl ?_
  intro E hC hR
  have hS := SB.rf hA
  have loop : ∀ (n i : Nat), i + n = 8 → J K cX9_litresInCells E 0 0 w 4 [some (.ref (ad 0 0)), some (.long (smJ (S.2 39) i)), none, some (.int (nI i))] [] := by
    intro n
    induction n with
    | zero =>
      intro i hi
      have hi2 : i = 8 := by omega
      subst hi2
      refine j_iload_n hC dX9_litresInCells_4 rfl ?_
      refine j_bipush hC (8) dX9_litresInCells_5 (by decide) ?_
      refine j_icmp_ge hC 25 dX9_litresInCells_7 (by decide) (fun c_7 => ?_) (fun c_7 => ?_)
      · refine j_lload_n hC dX9_litresInCells_25 rfl ?_
        exact j_lret hC hR dX9_litresInCells_26 rfl ⟨_, rfl, rfl, rfl⟩
      · exact absurd (by decide) c_7
    | succ n ih =>
      intro i hi
      have hil : i < 8 := by omega
      refine j_iload_n hC dX9_litresInCells_4 rfl ?_
      refine j_bipush hC (8) dX9_litresInCells_5 (by decide) ?_
      refine j_icmp_ge hC 25 dX9_litresInCells_7 (by decide) (fun c_7 => ?_) (fun c_7 => ?_)
      · exact absurd ((nI_leI (a := 8) (b := i) (by have := Nat.le_refl 8; omega) (by have := Nat.le_refl 8; omega)).mp c_7) (by omega)
      · refine j_lload_n hC dX9_litresInCells_10 rfl ?_
        refine j_aload_n hC dX9_litresInCells_11 rfl ?_
        refine j_get hC cfX9 dX9_litresInCells_12 fX9_35 (by decide) hS.1.x rfl ?_
        refine j_iload_n hC dX9_litresInCells_15 rfl ?_
        refine j_aldJ hC dX9_litresInCells_16 hS.1.cells (ix_nI (n := 8) hil (by omega)) ?_
        refine j_ladd hC dX9_litresInCells_17 ?_
        refine j_lstore_n (lv' := [some _, some _, none, some _]) hC dX9_litresInCells_18 (nlt rfl) rfl ?_
        refine j_iinc (v := nI (i + 1)) (lv' := [some _, some _, none, some _]) hC dX9_litresInCells_19 rfl (nI_i1 i) (nlt rfl) rfl ?_
        refine j_goto hC 4 dX9_litresInCells_22 (by decide) ?_
        exact ih (i + 1) (by omega)
  refine j_lconst hC (0) dX9_litresInCells_0 (by decide) ?_
  refine j_lstore_n (lv' := [some _, some _, none, none]) hC dX9_litresInCells_1 (nlt rfl) rfl ?_
  refine j_iconst hC (0) dX9_litresInCells_2 (by decide) ?_
  refine j_istore_n (lv' := [some _, some _, none, some _]) hC dX9_litresInCells_3 (nlt rfl) rfl ?_
  exact loop (8) 0 (by omega)

