
def SX (K : Kx) (E : Ex) (b L : Nat) (xs : Nat → Int32) : Prop := match E with
  | (_, _, _, s, _, _, _, _, _, _) => va_X b L xs s s.heap ∧ b < s.heap.size ∧ ¬ K.2.2 ≤ b
section SC
variable {K : Kx} {own : String} {cc : ByteArray} {nL d : Nat} {E : Ex} {kc ks kc' ks' : Nat} {w : Wd} {pc : Nat} {lv : List (Option Value)} {st st0 rest As : List Value} {M : Mx} {d' mc ms n idx b L : Nat} {xs : Nat → Int32} {Post : Option Value → Wd → Prop}
theorem j_scr (hC : BX K own cc nL d E) (hX : SX K E b L xs) {i : Int32} {k : Nat} (hd : decode cc pc = .ok (.iaload, 1)) (hi : ix i L k) (kk : J K cc E kc ks w (pc + 1) lv (.int (xs k) :: st)) : J K cc E kc ks w pc lv (.int i :: .ref b :: st) := by
  obtain ⟨p, e, R, s, m, args, below, meth, c, Q⟩ := E
  obtain ⟨hx, hb, hml, hown, hts, hK, hSt, hlk, hfr, hlo, hBs⟩ := hC
  obtain ⟨x1, x2, x3⟩ := hX
  intro H locs cells slots ls h1 h2 h3 h4 h5 h6
  refine va_sld (A := fun q : Nat => K.2.2 ≤ q) hx hb x1 x2 x3 h5 hi.1 hd ?_
  rw [hi.2]
  exact kk H locs cells slots ls h1 h2 h3 h4 h5 h6
theorem j_slen (hC : BX K own cc nL d E) (hX : SX K E b L xs) (hd : decode cc pc = .ok (.arraylength, 1)) (kk : J K cc E kc ks w (pc + 1) lv (.int (nI L) :: st)) : J K cc E kc ks w pc lv (.ref b :: st) := by
  obtain ⟨p, e, R, s, m, args, below, meth, c, Q⟩ := E
  obtain ⟨hx, hb, hml, hown, hts, hK, hSt, hlk, hfr, hlo, hBs⟩ := hC
  obtain ⟨x1, x2, x3⟩ := hX
  intro H locs cells slots ls h1 h2 h3 h4 h5 h6
  exact va_slen (A := fun q : Nat => K.2.2 ≤ q) hx hb x1 x2 x3 h5 hd (kk H locs cells slots ls h1 h2 h3 h4 h5 h6)
def PcS (K : Kx) (av : List Value) (w : Wd) (b L : Nat) (xs : Nat → Int32) : Array Value → State → Prop := fun v U => PcF K.2.1 K.2.2 av w v U ∧ va_X b L xs U U.heap ∧ b < U.heap.size ∧ ¬ K.2.2 ≤ b
/-- a contract that may read the script -/
def MTs (K : Kx) (M : Mx) (d mc ms : Nat) (av : List Value) (w : Wd) (b L : Nat) (xs : Nat → Int32) (Post : Option Value → Wd → Prop) : Prop :=
  Met K.1 M.1 (Cond.code M.1 M.2.1 M.2.2.1 M.2.2.2 :: gtbl) { frames := d, cells := mc, slots := ms, locals := 40 * d } (PcS K av w b L xs) (QmF K.2.1 K.2.2 Post) mc ms (fun q : Nat => K.2.2 ≤ q)
theorem MTs.of {av : List Value} (lv : List (Option Value)) (hy : plainName M.1.cls = true) (hlen : lv.length = M.2.2.1) (hav : (lg_sl av).length ≤ M.2.2.1) (hlv : prs 0 lv = lv_args 0 av)
    (body : ∀ E : Ex, BX K M.1.cls M.2.1 M.2.2.1 d E → RX K M mc ms Post E → SX K E b L xs → J K M.2.1 E mc ms w 0 lv []) : MTs K M d mc ms av w b L xs Post := by
  refine Met.ofW (cc := M.2.1) (maxL := M.2.2.1) (ret := M.2.2.2) hy rfl ?_
  intro p e s m args below meth c s₁ B hml hv
  obtain ⟨⟨rfl, hsz, hwh, hwb, hK, hSt⟩, hX⟩ := hv
  have hts := atoms_spec (ws := Cond.code M.1 M.2.1 M.2.2.1 M.2.2.2 :: gtbl) B.pre
  have hown : s.vm.findClass M.1.cls = some m.cls := findClass_of_methodNamed B.named
  have hl := lv_entry av (n := M.2.2.1) hav
  rw [lg_entry_eq]
  refine body (p, e, (headSpec (Cond.code M.1 M.2.1 M.2.2.1 M.2.2.2 :: gtbl) { frames := d, cells := mc, slots := ms, locals := 40 * d }).room, s, m, av.toArray, below, meth, c, _) ⟨B.exec, B.bytes, hml, hown, fun w hw => hts w (List.mem_cons_of_mem _ hw), hK, hSt, B.notSynchronized, Nat.le_refl _, Nat.le_refl _, hsz⟩ ⟨rfl, rfl, rfl, B.returns, (name_of_methodNamed B.named B.method).1⟩ hX s.heap [] 0 0 _ (by show 0 + mc ≤ mc; omega) (by show 0 + ms ≤ ms; omega) hwh hwb va_S.rf ?_
  unfold lok
  rw [hlv, hlen]
  exact hl
theorem j_callsS (hC : BX K own cc nL d E) (hX : SX K E b L xs) (hM : MTs K M d' mc ms As w b L xs Post) (hd : decode cc pc = .ok (.invokestatic idx, 3)) (hW : CWd M n) (hl : Cond.methodLink own idx M.1 ∈ gtbl) (hs : Cond.static M.1 ∈ gtbl) (hn : As.length = n) (hst : st0 = As.reverse ++ rest) (hrm : (rest.map fun v => v.category).sum ≤ 8) (hlen : lv.length = nL) (hd1 : d' + 1 ≤ d) (hkc : kc' + mc ≤ kc) (hks : ks' + ms ≤ ks) (kk : ∀ (v : Option Value) (w' : Wd), Post v w' → J K cc E kc' ks' w' (pc + 3) lv (v.toList ++ rest)) : J K cc E kc ks w pc lv st0 := by
  obtain ⟨p, e, R, s, m, args, below, meth, c, Q⟩ := E
  have cb := call_B (mc := mc) (ms := ms) (M := M) hC hW hd1 hl
  intro H locs cells slots ls h1 h2 h3 h4 h5 h6
  have cp := call_pre (av := As) (locs := locs) hC h3 h4 h5
  obtain ⟨hx, hb, hml, hown, hts, hK, hSt, hlk, hfr, hlo, hBs⟩ := hC
  obtain ⟨x1, x2, x3⟩ := hX
  have cp2 : PreS s H (PcS K As w b L xs) As := by
    refine ⟨fun a U gg mk h => ?_, fun U hU hW => ⟨cp.2 U hU hW, ?_, ?_, x3⟩⟩
    · exact ⟨cp.1 a U gg mk h.1, va_X.moved (u := U) (U := U.calling gg mk a) (Vm.Alike.refl U.vm) h.2.1, h.2.2⟩
    · rw [hU]
      exact (x1.kept (h5.2.1 b x2 x3)).moved hW.alike
    · rw [hU]
      exact Nat.lt_of_lt_of_le x2 h5.1
  refine call_on (E := (p, e, R, s, m, args, below, meth, c, Q)) (g := F0 m pc ls st0) (a := As.toArray) rfl hkc hks kk rfl h1 h2 h5 h6 ?_
  exact va_runS (As := As) (rest := rest) ⟨hx, hb, hml, hown, hts⟩ hM ⟨cb, hts _ hs⟩ cp2 rfl hn (by rw [← hlen]; exact h6.1) hst (lv_room hrm) hd ⟨by omega, by omega⟩
end SC
/-- the script's first number -/
def x0 (L : Nat) (xs : Nat → Int32) : Int32 := if 0 < L then xs 0 else 0
theorem c_Lcell (K : Kx) {w : Wd} {b L : Nat} {xs : Nat → Int32} (hL : L < 2 ^ 31) : MTs K mL_cell 0 0 0 [.ref b, .int 0] w b L xs (PI fun r w' => r = x0 L xs ∧ w' = w) := by
  refine MTs.of [some (.ref b), some (.int 0)] (by decide) rfl (nle rfl) rfl ?_
  intro E hC hR hX
  refine j_iload_n hC dL_cell_0 rfl ?_
  refine j_aload_n hC dL_cell_1 rfl ?_
  refine j_slen hC hX dL_cell_2 ?_
  refine j_icmp_ge hC 12 dL_cell_3 (by decide) (fun c_3 => ?_) (fun c_3 => ?_)
  · refine j_iconst hC (0) dL_cell_12 (by decide) ?_
    refine j_iret hC hR dL_cell_13 rfl ⟨_, rfl, ?_, rfl⟩
    rw [← nI_0, nI_leI hL (by omega)] at c_3
    unfold x0
    rw [if_neg (by omega)]
  · have h0 : 0 < L := by
      rw [← nI_0, nI_leI hL (by omega)] at c_3
      omega
    refine j_aload_n hC dL_cell_6 rfl ?_
    refine j_iload_n hC dL_cell_7 rfl ?_
    refine j_scr (k := 0) hC hX dL_cell_8 (by rw [← nI_0]; exact ix_nI h0 hL) ?_
    refine j_goto hC 13 dL_cell_9 (by decide) ?_
    refine j_iret hC hR dL_cell_13 rfl ⟨_, rfl, ?_, rfl⟩
    unfold x0
    rw [if_pos h0]
theorem ixa {i L : Nat} {c : Int32} (j : Nat) (hc : c = nI j) (h : i + j < L) (hL : L < 2 ^ 31) : ix (nI i + c) L (i + j) := by
  rw [hc, nI_add]
  exact ix_nI h hL
/-- the class's object x and the reference's m hold the same S -/
def JS (g : Gx) (w : Wd) (x m : Nat) (S : Ast) : Prop := ∃ (s : Nat) (O : Nat → Prop) (ad : Nat → Nat → Nat) (z : Zx) (np : Nat) (adm : Nat → Nat), SA g w O ad z np S ∧ ad 0 0 = x ∧ NP S np ∧ MA g w m adm S ∧ INV S s ∧ ∀ a, O a → a ≠ m ∧ ∀ k ∈ mA, a ≠ adm k
theorem some_ne {α : Type} {y : Option α} {v : α} (h : y = some v) : y ≠ none := by rw [h]; exact fun q => by cases q
theorem MA.occ {g : Gx} {w : Wd} {m : Nat} {adm : Nat → Nat} {S : Ast} (h : MA g w m adm S) : w m ≠ none ∧ ∀ k ∈ mA, w (adm k) ≠ none := by
  refine ⟨some_ne h.1, fun k hk => ?_⟩
  rcases mA_c k hk with q | q | q
  · exact some_ne (h.2.1 k q)
  · exact some_ne (h.2.2.1 k q)
  · rw [q]; exact some_ne h.2.2.2.1
theorem MA.kept {g : Gx} {w w' : Wd} {m : Nat} {adm : Nat → Nat} {S : Ast} (h : MA g w m adm S) (hm : w' m = w m) (hk : ∀ k ∈ mA, w' (adm k) = w (adm k)) : MA g w' m adm S :=
  ⟨hm.trans h.1, fun k q => (hk k (mI_A k q)).trans (h.2.1 k q), fun k q => (hk k (mJ_A k q)).trans (h.2.2.1 k q), (hk 30 (by decide)).trans h.2.2.2.1, h.2.2.2.2⟩
theorem mid {g : Gx} {w w' : Wd} {O : Nat → Prop} {x m : Nat} {adm : Nat → Nat} {S T : Ast} (hM : MA g w m adm S) (hdj : ∀ a, O a → a ≠ m ∧ ∀ k ∈ mA, a ≠ adm k) (hq : CQ g w O x w' T) : ∃ (O' : Nat → Prop) (ad' : Nat → Nat → Nat) (z' : Zx) (np' : Nat), SA g w' O' ad' z' np' T ∧ ad' 0 0 = x ∧ NP T np' ∧ MA g w' m adm S ∧ ∀ a, O' a → a ≠ m ∧ ∀ k ∈ mA, a ≠ adm k := by
  obtain ⟨O', ad', z', np', h1, ⟨f1, f2⟩, h3, h4⟩ := hq
  obtain ⟨o1, o2⟩ := hM.occ
  refine ⟨O', ad', z', np', h1, h3, h4, hM.kept (f2 m (fun q => (hdj m q).1 rfl) o1) (fun k hk => f2 _ (fun q => (hdj _ q).2 k hk rfl) (o2 k hk)), fun a ha => ?_⟩
  rcases f1 a ha with q | q
  · exact hdj a q
  · exact ⟨fun e => o1 (by rw [← e]; exact q), fun k hk e => o2 k hk (by rw [← e]; exact q)⟩
theorem fin {g : Gx} {w w' : Wd} {O : Nat → Prop} {ad : Nat → Nat → Nat} {z : Zx} {np x m s : Nat} {adm : Nat → Nat} {T : Ast} (hA : SA g w O ad z np T) (hx : ad 0 0 = x) (hnp : NP T np) (hdj : ∀ a, O a → a ≠ m ∧ ∀ k ∈ mA, a ≠ adm k) (hB : MB g w w' m adm T) (hI : INV T s) : JS g w' x m T :=
  ⟨s, O, ad, z, np, adm, hA.kept (fun a ha => hB.2 a (hdj a ha).1 (hdj a ha).2), hx, hnp, hB.1, hI, hdj⟩
theorem SA.j54 {g : Gx} {w : Wd} {O : Nat → Prop} {ad : Nat → Nat → Nat} {z : Zx} {np : Nat} {T : Ast} (h : SA g w O ad z np T) (hW : WSt T) (F : Nat → Int64) : SA g w O ad z np (sJ T F) :=
  h.cong (sJ T F) (vN_same np (fun _ _ => rfl)) (cel_T g ad z (fun k hk => va_up_ne _ _ hk) rfl (fun _ _ _ _ _ => rfl) (fun i hi => (hW.2.2.2.2.2.1 i hi).1.2))
theorem CQ.rd {g : Gx} {w : Wd} {O : Nat → Prop} {ad : Nat → Nat → Nat} {z : Zx} {np : Nat} {S : Ast} (hA : SA g w O ad z np S) (hnp : NP S np) : CQ g w O (ad 0 0) w S := ⟨O, ad, z, np, hA, Fr.rf, rfl, hnp⟩
theorem CQ.sb {g : Gx} {w w' : Wd} {O : Nat → Prop} {ad : Nat → Nat → Nat} {z : Zx} {np : Nat} {T : Ast} (hB : SB g w w' O ad z np T) (hnp : NP T np) : CQ g w O (ad 0 0) w' T := ⟨O, ad, z, np, hB.1, hB.2, rfl, hnp⟩
theorem SA.shrink {g : Gx} {w : Wd} {O : Nat → Prop} {ad : Nat → Nat → Nat} {z : Zx} {np : Nat} {S : Ast} (h : SA g w O ad z np S) : SA g w (fun a => O a ∧ w a ≠ none) ad z np S := by
  obtain ⟨h1, h2, h3, h4, h5⟩ := h
  refine ⟨fun k i hi => ⟨(h1 k i hi).1, (h1 k i hi).2, some_ne (h1 k i hi).1⟩, h2, fun j hj => ⟨(h3 j hj).1, ⟨(h3 j hj).2.1, ?_⟩, fun q => ⟨(h3 j hj).2.2 q, ?_⟩⟩, h4, h5⟩
  · obtain ⟨mc, hm⟩ := (h3 j hj).1.sz
    exact some_ne hm
  · obtain ⟨N, f, q3, -⟩ := (h3 j hj).1.row q
    exact some_ne q3

