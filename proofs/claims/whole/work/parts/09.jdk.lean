
/-- all cells of a world below n, as a list -/
def wl (w : Wd) (n : Nat) : va_W := (List.range n).filterMap (fun q => (w q).map (fun e => (q, e)))
theorem wl_mem {w : Wd} {n q : Nat} {e : va_E} : (q, e) ∈ wl w n ↔ q < n ∧ w q = some e := by
  unfold wl
  rw [List.mem_filterMap]
  constructor
  · rintro ⟨x, hx, hy⟩
    rw [List.mem_range] at hx
    cases hw : w x with
    | none => rw [hw] at hy; cases hy
    | some e' =>
      rw [hw] at hy
      simp only [Option.map_some, Option.some.injEq, Prod.mk.injEq] at hy
      obtain ⟨rfl, rfl⟩ := hy
      exact ⟨hx, hw⟩
  · rintro ⟨h1, h2⟩
    exact ⟨q, List.mem_range.mpr h1, by rw [h2]; rfl⟩
theorem wl_P {g : Gx} {w : Wd} {H : Heap} (h : wh g w H) : va_P g.1 vwCl (wl w H.size) H := by
  intro k q hk
  obtain ⟨a, e⟩ := q
  exact h a e (wl_mem.mp (List.mem_of_getElem? hk)).2
theorem wl_nodup (w : Wd) (n : Nat) : ((wl w n).map Prod.fst).Nodup := by
  have hs : ((wl w n).map Prod.fst).Sublist (List.range n) := by
    unfold wl
    induction (List.range n) with
    | nil => exact List.Sublist.slnil
    | cons x t ih =>
      rw [List.filterMap_cons]
      cases hw : w x with
      | none => exact List.Sublist.cons _ ih
      | some e => exact List.Sublist.cons_cons _ ih
  exact hs.nodup List.nodup_range
theorem wl_D {B : Nat} {w : Wd} {n : Nat} (h : wb B w) : va_D (fun q : Nat => B ≤ q) (wl w n) := by
  refine ⟨fun i j p q hi hj hpq => ?_, fun k q hk => ?_⟩
  · have hnd := wl_nodup w n
    have e1 : ((wl w n).map Prod.fst)[i]? = some p.1 := by rw [List.getElem?_map, hi]; rfl
    have e2 : ((wl w n).map Prod.fst)[j]? = some p.1 := by rw [List.getElem?_map, hj, hpq]; rfl
    obtain ⟨li, vi⟩ := List.getElem?_eq_some_iff.mp e1
    obtain ⟨lj, vj⟩ := List.getElem?_eq_some_iff.mp e2
    rcases Nat.lt_trichotomy i j with h1 | h1 | h1
    · exact absurd (vi.trans vj.symm) ((List.pairwise_iff_getElem.mp hnd) i j li lj h1)
    · exact h1
    · exact absurd (vj.trans vi.symm) ((List.pairwise_iff_getElem.mp hnd) j i lj li h1)
  · obtain ⟨a, e⟩ := q
    exact h a e (wl_mem.mp (List.mem_of_getElem? hk)).2
theorem wl_at {g : Gx} {w : Wd} {H : Heap} (h : wh g w H) {a : Nat} {e : va_E} (ha : w a = some e) : ∃ k : Nat, (wl w H.size)[k]? = some (a, e) := List.getElem?_of_mem (wl_mem.mpr ⟨h.lt ha, ha⟩)
theorem wl_back {g : Gx} {w : Wd} {H H1 : Heap} {a k : Nat} {e0 e' : va_E} (h : wh g w H) (hk : (wl w H.size)[k]? = some (a, e0)) (hP : va_P g.1 vwCl ((wl w H.size).set k (a, e')) H1) : wh g (wst w a e') H1 := by
  have hl := (List.getElem?_eq_some_iff.mp hk).1
  intro q e hq
  by_cases hqa : q = a
  · subst hqa
    rw [wst_s] at hq
    cases hq
    exact hP k _ (List.getElem?_set_self hl)
  · rw [wst_n hqa] at hq
    obtain ⟨i, hi⟩ := wl_at h hq
    have hik : k ≠ i := by
      intro z
      subst z
      rw [hk] at hi
      cases hi
      exact hqa rfl
    exact hP i _ (by rw [List.getElem?_set_ne hik]; exact hi)

theorem gc_l : Cond.methodLink "java/util/Arrays" 86 ⟨"java/lang/Object", "getClass", "()Ljava/lang/Class;"⟩ ∈ gtbl := gt (i := 231) (by decide +kernel) rfl
theorem gc_i : Cond.instanceMethod ⟨"java/lang/Object", "getClass", "()Ljava/lang/Class;"⟩ ∈ gtbl := gt (i := 232) (by decide +kernel) rfl
theorem gc_s : Cond.selects "[Ljava/lang/Object;" ⟨"java/lang/Object", "getClass", "()Ljava/lang/Class;"⟩ ⟨"java/lang/Object", "getClass", "()Ljava/lang/Class;"⟩ ∈ gtbl := gt (i := 1024) (by decide +kernel) rfl
theorem gc_n : Cond.native ⟨"java/lang/Object", "getClass", "()Ljava/lang/Class;"⟩ ∈ gtbl := gt (i := 246) (by decide +kernel) rfl
theorem ay_l : Cond.methodLink "java/util/Arrays" 150 arraycopyName ∈ gtbl := gt (i := 254) (by decide +kernel) rfl
theorem ay_t : Cond.static arraycopyName ∈ gtbl := gt (i := 255) (by decide +kernel) rfl
theorem ay_n : Cond.native arraycopyName ∈ gtbl := gt (i := 256) (by decide +kernel) rfl
theorem st_l : Cond.fieldLink "java/util/ArrayList" 39 "java/util/ArrayList" "DEFAULTCAPACITY_EMPTY_ELEMENTDATA" "[Ljava/lang/Object;" ∈ gtbl := gt (i := 41) (by decide +kernel) rfl

section JJ
variable {K : Kx} {own : String} {cc : ByteArray} {nL d : Nat} {E : Ex} {kc ks : Nat} {w : Wd} {pc : Nat} {lv : List (Option Value)} {st : List Value} {a : Nat}
theorem j_gets (hC : BX K "java/util/ArrayList" cc nL d E) (hd : decode cc pc = .ok (.getstatic 39, 3)) (k : J K cc E kc ks w (pc + 3) lv (.ref K.2.1.2.2.2.2.2.1 :: st)) : J K cc E kc ks w pc lv st := by
  obtain ⟨p, e, R, s, m, args, below, meth, c, Q⟩ := E
  obtain ⟨hx, hb, hml, hown, hts, hK, hSt, hlk, hfr, hlo, hBs⟩ := hC
  intro H locs cells slots ls h1 h2 h3 h4 h5 h6
  exact va_gets hx hb hSt.2.1 h5 hown (hts _ st_l) (fun _ h => h) hd (k H locs cells slots ls h1 h2 h3 h4 h5 h6)
theorem j_alenE (hC : BX K own cc nL d E) (hd : decode cc pc = .ok (.arraylength, 1)) (k : J K cc E kc ks w (pc + 1) lv (.int 0 :: st)) : J K cc E kc ks w pc lv (.ref K.2.1.2.2.2.2.2.1 :: st) := by
  obtain ⟨p, e, R, s, m, args, below, meth, c, Q⟩ := E
  obtain ⟨hx, hb, hml, hown, hts, hK, hSt, hlk, hfr, hlo, hBs⟩ := hC
  intro H locs cells slots ls h1 h2 h3 h4 h5 h6
  exact va_tlen hx hb hSt.2.2.1 h5 (by decide) hd (k H locs cells slots ls h1 h2 h3 h4 h5 h6)
theorem j_acmp_eq (hC : BX K own cc nL d E) {a b : Nat} {off : Int} (tgt : Nat) (hd : decode cc pc = .ok (.if_acmp .eq off, 3)) (ht : (pc : Int) + off = (tgt : Int)) (kt : a = b → J K cc E kc ks w tgt lv st) (kf : ¬ a = b → J K cc E kc ks w (pc + 3) lv st) : J K cc E kc ks w pc lv (.ref b :: .ref a :: st) := by
  obtain ⟨p, e, R, s, m, args, below, meth, c, Q⟩ := E
  obtain ⟨hx, hb, hml, hown, hts, hK, hSt, hlk, hfr, hlo, hBs⟩ := hC
  intro H locs cells slots ls h1 h2 h3 h4 h5 h6
  exact lv_acmp_eq (rx := some a) (ry := some b) hx hb hd ht (fun z => kt (Option.some.inj z) H locs cells slots ls h1 h2 h3 h4 h5 h6) (fun z => kf (fun q => z (by rw [q])) H locs cells slots ls h1 h2 h3 h4 h5 h6)
theorem j_acmp_ne (hC : BX K own cc nL d E) {a b : Nat} {off : Int} (tgt : Nat) (hd : decode cc pc = .ok (.if_acmp .ne off, 3)) (ht : (pc : Int) + off = (tgt : Int)) (kt : ¬ a = b → J K cc E kc ks w tgt lv st) (kf : a = b → J K cc E kc ks w (pc + 3) lv st) : J K cc E kc ks w pc lv (.ref b :: .ref a :: st) := by
  obtain ⟨p, e, R, s, m, args, below, meth, c, Q⟩ := E
  obtain ⟨hx, hb, hml, hown, hts, hK, hSt, hlk, hfr, hlo, hBs⟩ := hC
  intro H locs cells slots ls h1 h2 h3 h4 h5 h6
  exact lv_acmp_ne (rx := some a) (ry := some b) hx hb hd ht (fun z => kt (fun q => z (by rw [q])) H locs cells slots ls h1 h2 h3 h4 h5 h6) (fun z => kf (Option.some.inj z) H locs cells slots ls h1 h2 h3 h4 h5 h6)
theorem j_getC (hC : BX K "java/util/Arrays" cc nL d E) {n : Nat} {f : Nat → Option Nat} (hd : decode cc pc = .ok (.invokevirtual 86, 3)) (hw : w a = some (aO K.2.1 n f)) (hlen : lv.length = nL) (hrm : (st.map fun v => v.category).sum ≤ 8) (hd1 : 1 ≤ d) (k : J K cc E kc ks w (pc + 3) lv (.ref K.2.1.2.2.2.2.2.2 :: st)) : J K cc E kc ks w pc lv (.ref a :: st) := by
  obtain ⟨p, e, R, s, m, args, below, meth, c, Q⟩ := E
  obtain ⟨hx, hb, hml, hown, hts, hK, hSt, hlk, hfr, hlo, hBs⟩ := hC
  intro H locs cells slots ls h1 h2 h3 h4 h5 h6
  have hcl : s.vm.findClass "[Ljava/lang/Object;" = some K.2.1.2.2.2.2.1 := va_nmO (hK.2 3 _ rfl).2 (by decide +kernel)
  exact va_getC hx hb (by rw [hml, ← hlen]; exact h6.1.symm) hown (hts _ gc_l) (va_Dc.use hSt.1.2.2.2.1) (hts _ gc_s) (hts _ gc_i) (hts _ gc_n) hSt.2.2.2 ⟨_, h3 a _ hw, rfl, hcl⟩ (by omega) (by omega) hd (k H locs cells slots ls h1 h2 h3 h4 h5 h6)
theorem j_ldcC (hC : BX K "java/util/Arrays" cc nL d E) (hd : decode cc pc = .ok (.ldc 110, 2)) (hcl : Cond.classLink "java/util/Arrays" 110 "[Ljava/lang/Object;" ∈ gtbl) (k : J K cc E kc ks w (pc + 2) lv (.ref K.2.1.2.2.2.2.2.2 :: st)) : J K cc E kc ks w pc lv st := by
  obtain ⟨p, e, R, s, m, args, below, meth, c, Q⟩ := E
  obtain ⟨hx, hb, hml, hown, hts, hK, hSt, hlk, hfr, hlo, hBs⟩ := hC
  intro H locs cells slots ls h1 h2 h3 h4 h5 h6
  exact va_ldcM hx hb hown (hts _ hcl) hSt.2.2.2 hd (k H locs cells slots ls h1 h2 h3 h4 h5 h6)
theorem j_copy (hC : BX K "java/util/Arrays" cc nL d E) {a0 n0 n1 N : Nat} {f g : Nat → Option Nat} (hd : decode cc pc = .ok (.invokestatic 150, 3)) (hw0 : w a0 = some (aO K.2.1 n0 f)) (hw : w a = some (aO K.2.1 n1 g)) (hlen : lv.length = nL) (hrm : (st.map fun v => v.category).sum ≤ 8) (hd1 : 1 ≤ d) (hN : N < 2 ^ 31) (hN0 : N ≤ n0) (hN1 : N ≤ n1) (hel : ∀ i : Nat, i < N → ∀ y : Nat, f i = some y → ∃ (ci : Nat) (fs : List Value) (r : vw_C), w y = some (.inr (ci, fs)) ∧ vwCl[ci]? = some r ∧ r.1 ∈ ([RX0, RX1, RX2, RX3, RX5, RX6, RX7, RX8] : List String)) (k : J K cc E kc ks (wst w a (aO K.2.1 n1 (va_cpy f g 0 0 N))) (pc + 3) lv st) : J K cc E kc ks w pc lv (.int (nI N) :: .int 0 :: .ref a :: .int 0 :: .ref a0 :: st) := by
  obtain ⟨p, e, R, s, m, args, below, meth, c, Q⟩ := E
  obtain ⟨hx, hb, hml, hown, hts, hK, hSt, hlk, hfr, hlo, hBs⟩ := hC
  intro H locs cells slots ls h1 h2 h3 h4 h5 h6
  obtain ⟨k0, hk0⟩ := wl_at h3 hw0
  obtain ⟨k1, hk1⟩ := wl_at h3 hw
  have ec : (nI N).toNatClampNeg = N := nI_clamp hN
  have e0 : (0 : Int32).toNatClampNeg = 0 := by decide
  refine va_copyM (D := K.2.1.1) (E0 := "java/lang/Object") (E1 := "java/lang/Object") hx hb (by rw [hml, ← hlen]; exact h6.1.symm) hown (hts _ ay_l) (hts _ ay_n) (hts _ ay_t) (hts _ inJ10) hK (wl_P h3) (wl_D h4) h5 k0 k1 3 3 hk0 hk1 rfl rfl (by decide) (by decide) (nI_pos hN) (by rw [ec, e0]; omega) (by rw [ec, e0]; omega) ?_ (by omega) (by have hz : nativeFrameWords "java/lang/System" "arraycopy" 5 ≤ 20 := (by decide); omega) hd (fun H1 locs1 hP1 hD1 hS1 => ?_)
  · rw [ec, e0]
    intro i hi y hy
    rw [Nat.zero_add] at hy
    obtain ⟨ci, fs, r, q1, q2, q3⟩ := hel i hi y hy
    exact h3.any hK hSt.1 q1 q2 q3
  · rw [ec, e0] at hP1
    exact k H1 locs1 cells slots ls h1 h2 (wl_back h3 hk1 hP1) (h4.set (h4 a _ hw)) hS1 h6
end JJ
abbrev oList (mc : Int32) (e : Nat) (sz : Int32) : va_E := .inr (0, [.int mc, .ref e, .int sz])

set_option maxRecDepth 100000 in
set_option maxHeartbeats 4000000 in
theorem c_chk0 (K : Kx) {w : Wd} (i n : Int32) (h0 : ¬ i < 0) (h1 : i < n) : MT K mJ3_checkIndex_8e157 0 0 0 [.int i, .int n, .null] w (PI fun r w' => r = i ∧ w' = w) := by
  refine MT.of [some (.int i), some (.int n), some (.null)] (by decide) rfl (nle rfl) rfl ?_
  intro E hC hR
  refine j_iload_n hC dJ3_checkIndex_8e157_0 rfl ?_
  refine j_if_lt hC 9 dJ3_checkIndex_8e157_1 (by decide) (fun c_1 => ?_) (fun c_1 => ?_)
  · exact absurd c_1 h0
  · refine j_iload_n hC dJ3_checkIndex_8e157_4 rfl ?_
    refine j_iload_n hC dJ3_checkIndex_8e157_5 rfl ?_
    refine j_icmp_lt hC 16 dJ3_checkIndex_8e157_6 (by decide) (fun c_6 => ?_) (fun c_6 => ?_)
    · refine j_iload_n hC dJ3_checkIndex_8e157_16 rfl ?_
      exact j_iret hC hR dJ3_checkIndex_8e157_17 rfl ⟨_, rfl, rfl, rfl⟩
    · exact absurd h1 c_6

set_option maxRecDepth 100000 in
set_option maxHeartbeats 4000000 in
theorem c_chk (K : Kx) {w : Wd} (i n : Int32) (h0 : ¬ i < 0) (h1 : i < n) : MT K mJ15_checkIndex_7cf53 1 0 0 [.int i, .int n] w (PI fun r w' => r = i ∧ w' = w) := by
  refine MT.of [some (.int i), some (.int n)] (by decide) rfl (nle rfl) rfl ?_
  intro E hC hR
  refine j_iload_n hC dJ15_checkIndex_7cf53_0 rfl ?_
  refine j_iload_n hC dJ15_checkIndex_7cf53_1 rfl ?_
  refine j_null hC dJ15_checkIndex_7cf53_2 ?_
  refine j_calls (kc' := 0) (ks' := 0) hC (c_chk0 K i n h0 h1) dJ15_checkIndex_7cf53_3 wJ3_checkIndex_8e157 lJ15_105 t_yJ3_checkIndex_8e157 rfl rfl (nle rfl) rfl (by decide) (by decide) (by decide) (kI fun r w' hp => ?_)
  obtain ⟨rfl, rfl⟩ := hp
  exact j_iret hC hR dJ15_checkIndex_7cf53_6 rfl ⟨_, rfl, rfl, rfl⟩

set_option maxRecDepth 100000 in
set_option maxHeartbeats 4000000 in
theorem c_size (K : Kx) {w : Wd} {l : Nat} {mc sz : Int32} {e : Nat} (hl : w l = some (oList mc e sz)) : MT K mJx4a65c_size_8abf5 0 0 0 [.ref l] w (PI fun r w' => r = sz ∧ w' = w) := by
  refine MT.of [some (.ref l)] (by decide) rfl (nle rfl) rfl ?_
  intro E hC hR
  refine j_aload_n hC dJx4a65c_size_8abf5_0 rfl ?_
  refine j_get hC cfJx4a65c dJx4a65c_size_8abf5_1 fJx4a65c_48 (by decide) hl rfl ?_
  exact j_iret hC hR dJx4a65c_size_8abf5_4 rfl ⟨_, rfl, rfl, rfl⟩

set_option maxRecDepth 100000 in
set_option maxHeartbeats 4000000 in
theorem c_isEmpty (K : Kx) {w : Wd} {l : Nat} {mc sz : Int32} {e : Nat} (hl : w l = some (oList mc e sz)) : MT K mJx4a65c_isEmpty_aae02 0 0 0 [.ref l] w (PI fun r w' => r = (if sz = 0 then 1 else 0) ∧ w' = w) := by
  refine MT.of [some (.ref l)] (by decide) rfl (nle rfl) rfl ?_
  intro E hC hR
  refine j_aload_n hC dJx4a65c_isEmpty_aae02_0 rfl ?_
  refine j_get hC cfJx4a65c dJx4a65c_isEmpty_aae02_1 fJx4a65c_48 (by decide) hl rfl ?_
  refine j_if_ne hC 11 dJx4a65c_isEmpty_aae02_4 (by decide) (fun c_4 => ?_) (fun c_4 => ?_)
  · refine j_iconst hC (0) dJx4a65c_isEmpty_aae02_11 (by decide) ?_
    exact j_zret hC hR dJx4a65c_isEmpty_aae02_12 rfl (by decide) ⟨_, rfl, by simp [c_4], rfl⟩
  · refine j_iconst hC (1) dJx4a65c_isEmpty_aae02_7 (by decide) ?_
    refine j_goto hC 12 dJx4a65c_isEmpty_aae02_8 (by decide) ?_
    exact j_zret hC hR dJx4a65c_isEmpty_aae02_12 rfl (by decide) ⟨_, rfl, by simp [c_4], rfl⟩

set_option maxRecDepth 100000 in
set_option maxHeartbeats 4000000 in
theorem c_elem (K : Kx) {w : Wd} {l n k b : Nat} {f : Nat → Option Nat} {mc sz : Int32} {e : Nat} (hl : w l = some (oList mc e sz)) (he : w e = some (aO K.2.1 n f)) (hk : k < n) (hN : n < 2 ^ 31) (hf : f k = some b) : MT K mJx4a65c_elementData_915e3 0 0 0 [.ref l, .int (nI k)] w (PA fun r w' => r = b ∧ w' = w) := by
  refine MT.of [some (.ref l), some (.int (nI k))] (by decide) rfl (nle rfl) rfl ?_
  intro E hC hR
  refine j_aload_n hC dJx4a65c_elementData_915e3_0 rfl ?_
  refine j_get hC cfJx4a65c dJx4a65c_elementData_915e3_1 fJx4a65c_9 (by decide) hl rfl ?_
  refine j_iload_n hC dJx4a65c_elementData_915e3_4 rfl ?_
  refine j_aldO hC dJx4a65c_elementData_915e3_5 he (ix_nI hk hN) hf ?_
  exact j_aret hC hR dJx4a65c_elementData_915e3_6 rfl (Or.inl ⟨_, rfl⟩) ⟨_, rfl, rfl, rfl⟩

set_option maxRecDepth 100000 in
set_option maxHeartbeats 4000000 in
theorem c_lget (K : Kx) {w : Wd} {l n k b sz : Nat} {f : Nat → Option Nat} {mc : Int32} {e : Nat} (hl : w l = some (oList mc e (nI sz))) (he : w e = some (aO K.2.1 n f)) (hks : k < sz) (hsn : sz ≤ n) (hN : n < 2 ^ 31) (hf : f k = some b) : MT K mJx4a65c_get_915e3 2 0 0 [.ref l, .int (nI k)] w (PA fun r w' => r = b ∧ w' = w) := by
  refine MT.of [some (.ref l), some (.int (nI k))] (by decide) rfl (nle rfl) rfl ?_
  intro E hC hR
  refine j_iload_n hC dJx4a65c_get_915e3_0 rfl ?_
  refine j_aload_n hC dJx4a65c_get_915e3_1 rfl ?_
  refine j_get hC cfJx4a65c dJx4a65c_get_915e3_2 fJx4a65c_48 (by decide) hl rfl ?_
  refine j_calls (kc' := 0) (ks' := 0) hC (c_chk K (nI k) (nI sz) (nI_pos (by omega)) ((nI_ltI (by omega) (by omega)).mpr hks)) dJx4a65c_get_915e3_5 wJ15_checkIndex_7cf53 lJx4a65c_118 t_yJ15_checkIndex_7cf53 rfl rfl (nle rfl) rfl (by decide) (by decide) (by decide) (kI fun r w' hp => ?_)
  obtain ⟨rfl, rfl⟩ := hp
  refine j_pop hC dJx4a65c_get_915e3_8 rfl ?_
  refine j_aload_n hC dJx4a65c_get_915e3_9 rfl ?_
  refine j_iload_n hC dJx4a65c_get_915e3_10 rfl ?_
  refine j_callv (kc' := 0) (ks' := 0) (r := (RJx4a65c, TJx4a65c, 3)) hC (c_elem K hl he (Nat.lt_of_lt_of_le hks hsn) hN hf) dJx4a65c_get_915e3_11 wJx4a65c_elementData_915e3 lJx4a65c_123 i_yJx4a65c_elementData_915e3 s_yJx4a65c_elementData_915e3 hl rfl rfl rfl (nle rfl) rfl (by decide) (by decide) (by decide) (kA fun r w' hp => ?_)
  obtain ⟨rfl, rfl⟩ := hp
  exact j_aret hC hR dJx4a65c_get_915e3_14 rfl (Or.inl ⟨_, rfl⟩) ⟨_, rfl, rfl, rfl⟩

