
section JN
variable {K : Kx} {own : String} {cc : ByteArray} {nL d : Nat} {E : Ex} {kc ks kc' ks' : Nat} {w : Wd} {pc : Nat} {lv : List (Option Value)} {st0 rest As : List Value} {M : Mx} {d' mc ms n idx b ci : Nat} {C : String} {Post : Option Value → Wd → Prop} {fs : List Value} {r : vw_C}
theorem call_N (hC : BX K own cc nL d E) (hW : CWd M n) (hd1 : d' + 1 ≤ d) {host : String} (hl : ∀ U : State, XW U → va_Nw (.methodLinkNest own idx M.1 host) U) : match E with
  | (_, _, R, s, _, args, _, _, _, _) => va_CN R s args own idx M.1 host M.2.1 M.2.2.1 M.2.2.2 (Cond.code M.1 M.2.1 M.2.2.1 M.2.2.2 :: gtbl) { frames := d', cells := mc, slots := ms, locals := 40 * d' } mc ms n := by
  obtain ⟨p, e, R, s, m, args, below, meth, c, Q⟩ := E
  obtain ⟨hx, hb, hml, hown, hts, hK, hSt, hlk, hfr, hlo, hBs⟩ := hC
  refine va_cnB n hts ?_ rfl rfl rfl (hl s hSt.1) (hts _ hW.2.1) hW.2.2.1 ⟨by show d' + 1 ≤ _; omega, by show 8 + (_ + 11) + 40 * d' ≤ _; have := hW.2.2.2; omega⟩
  intro x hx2
  rcases List.mem_cons.mp hx2 with rfl | h
  · exact gtbl_good _ hW.1
  · exact gtbl_good _ h
theorem j_callsN (hC : BX K own cc nL d E) (hM : MT K M d' mc ms As w Post) (hd : decode cc pc = .ok (.invokestatic idx, 3)) (hW : CWd M n) {host : String} (hl : ∀ U : State, XW U → va_Nw (.methodLinkNest own idx M.1 host) U) (hs : Cond.static M.1 ∈ gtbl) (hn : As.length = n) (hst : st0 = As.reverse ++ rest) (hrm : (rest.map fun v => v.category).sum ≤ 8) (hlen : lv.length = nL) (hd1 : d' + 1 ≤ d) (hkc : kc' + mc ≤ kc) (hks : ks' + ms ≤ ks) (kk : ∀ (v : Option Value) (w' : Wd), Post v w' → J K cc E kc' ks' w' (pc + 3) lv (v.toList ++ rest)) : J K cc E kc ks w pc lv st0 := by
  obtain ⟨p, e, R, s, m, args, below, meth, c, Q⟩ := E
  have cb := call_N (mc := mc) (ms := ms) (M := M) hC hW hd1 hl
  intro H locs cells slots ls h1 h2 h3 h4 h5 h6
  have cp := call_pre (av := As) (locs := locs) hC h3 h4 h5
  obtain ⟨hx, hb, hml, hown, hts, hK, hSt, hlk, hfr, hlo, hBs⟩ := hC
  refine call_on (E := (p, e, R, s, m, args, below, meth, c, Q)) (g := F0 m pc ls st0) (a := As.toArray) rfl hkc hks kk rfl h1 h2 h5 h6 ?_
  exact va_runSN (As := As) (rest := rest) ⟨hx, hb, hml, hown, hts⟩ hM ⟨cb, hts _ hs, trivial⟩ cp rfl hn (by rw [← hlen]; exact h6.1) hst (lv_room hrm) hd ⟨by omega, by omega⟩
theorem j_calliN (hC : BX K own cc nL d E) {y : MethodName} {bytes : ByteArray} {mL : Nat} (hM : MT K (y, bytes, mL, none) d' mc ms (.ref b :: As) w Post) (hd : decode cc pc = .ok (.invokespecial idx, 3)) (hW : CWd (y, bytes, mL, none) n) {host : String} (hl : ∀ U : State, XW U → va_Nw (.methodLinkNest own idx y host) U) (hi : Cond.instanceMethod y ∈ gtbl) (hnm : y.name = "<init>") (hn : As.length = n) (hst : st0 = As.reverse ++ .ref b :: rest) (hrm : (rest.map fun v => v.category).sum ≤ 8) (hlen : lv.length = nL) (hd1 : d' + 1 ≤ d) (hkc : kc' + mc ≤ kc) (hks : ks' + ms ≤ ks) (kk : ∀ (v : Option Value) (w' : Wd), Post v w' → J K cc E kc' ks' w' (pc + 3) lv (v.toList ++ rest)) : J K cc E kc ks w pc lv st0 := by
  obtain ⟨p, e, R, s, m, args, below, meth, c, Q⟩ := E
  have cb := call_N (mc := mc) (ms := ms) (M := (y, bytes, mL, none)) hC hW hd1 hl
  intro H locs cells slots ls h1 h2 h3 h4 h5 h6
  have cp := call_pre (av := .ref b :: As) (locs := locs) hC h3 h4 h5
  obtain ⟨hx, hb, hml, hown, hts, hK, hSt, hlk, hfr, hlo, hBs⟩ := hC
  refine call_on (E := (p, e, R, s, m, args, below, meth, c, Q)) (g := F0 m pc ls st0) (a := (.ref b :: As : List Value).toArray) rfl hkc hks kk rfl h1 h2 h5 h6 ?_
  exact va_runIN (As := As) (rest := rest) ⟨hx, hb, hml, hown, hts⟩ hM ⟨cb, hnm, hts _ hi⟩ cp rfl hn (by rw [← hlen]; exact h6.1) hst (lv_room hrm) hd ⟨by omega, by omega⟩
end JN
abbrev oLine (e p c : Nat) (pc hb il gr bo co di : Int32) : va_E := .inr (5, [.ref e, .ref p, .ref c, .int pc, .int hb, .int il, .int gr, .int bo, .int co, .int di])

set_option maxRecDepth 100000 in
set_option maxHeartbeats 4000000 in
theorem c_beginAnew (K : Kx) {w : Wd} {a e p c : Nat} {pc hb il gr bo co di : Int32} (g b : Int32) (ha : w a = some (oLine e p c pc hb il gr bo co di)) : MT K mX4_beginAnew 1 0 0 [.ref a, .int g, .int b] w (PV fun w' => w' = wst w a (oLine e p c 0 1 0 g b co di)) := by
  refine MT.of [some (.ref a), some (.int g), some (.int b)] (by decide) rfl (nle rfl) rfl ?_
  intro E hC hR
  refine j_aload_n hC dX4_beginAnew_0 rfl ?_
  refine j_iload_n hC dX4_beginAnew_1 rfl ?_
  refine j_put (fs' := [_, _, _, _, _, _, _, _, _, _]) hC cfX4 dX4_beginAnew_2 fX4_50 rfl (by decide) ha rfl rfl (nlt rfl) rfl ?_
  refine j_aload_n hC dX4_beginAnew_5 rfl ?_
  refine j_iload_n hC dX4_beginAnew_6 rfl ?_
  refine j_put (fs' := [_, _, _, _, _, _, _, _, _, _]) hC cfX4 dX4_beginAnew_7 fX4_53 rfl (by decide) (wst_s _ _ _) rfl rfl (nlt rfl) rfl ?_
  refine j_aload_n hC dX4_beginAnew_10 rfl ?_
  refine j_iconst hC (0) dX4_beginAnew_11 (by decide) ?_
  refine j_put (fs' := [_, _, _, _, _, _, _, _, _, _]) hC cfX4 dX4_beginAnew_12 fX4_56 rfl (by decide) (wst_s _ _ _) rfl rfl (nlt rfl) rfl ?_
  refine j_aload_n hC dX4_beginAnew_15 rfl ?_
  refine j_iconst hC (1) dX4_beginAnew_16 (by decide) ?_
  refine j_put (fs' := [_, _, _, _, _, _, _, _, _, _]) hC cfX4 dX4_beginAnew_17 fX4_59 rfl (by decide) (wst_s _ _ _) rfl rfl (nlt rfl) rfl ?_
  refine j_aload_n hC dX4_beginAnew_20 rfl ?_
  refine j_iconst hC (0) dX4_beginAnew_21 (by decide) ?_
  refine j_put (fs' := [_, _, _, _, _, _, _, _, _, _]) hC cfX4 dX4_beginAnew_22 fX4_46 rfl (by decide) (wst_s _ _ _) rfl rfl (nlt rfl) rfl ?_
  exact j_vret hC hR dX4_beginAnew_25 rfl ⟨rfl, by simp only [wst_wst]⟩

/-- one cell changes -/
theorem cel_U (g : Gx) (ad : Nat → Nat → Nat) {z y : Zx} {S T : Ast} {np k0 i0 : Nat} (hJ : ∀ k, k ≠ 54 → T.2 k = S.2 k) (h23 : T.1 23 = S.1 23) (h4 : T.1 4 = S.1 4) (hf : ∀ k, ∀ f ∈ flds k, ∀ i, i < vN S np k → ¬ (k = k0 ∧ i = i0) → T.1 f i = S.1 f i) (hz : ¬ (9 = k0 ∧ 0 = i0) → y.1 = z.1 ∧ y.2.1 = z.2.1) (hce : ¬ (12 = k0 ∧ 0 = i0) → y.2.2.1 = z.2.2.1) (hle : ∀ i, i < np → ¬ (13 = k0 ∧ i = i0) → y.2.2.2 i = z.2.2.2 i) : ∀ k i, i < vN S np k → ¬ (k = k0 ∧ i = i0) → cel g ad y T k i = cel g ad z S k i := by
  intro k i hi hne
  match k, hi, hne with
  | 0, hi, hne =>
    have i0 : i = 0 := by rw [vN_e0] at hi; omega
    subst i0
    rw [cel_e0, cel_e0, hf 0 0 (by decide) 0 Nat.one_pos hne, hf 0 40 (by decide) 0 Nat.one_pos hne, hJ 41 (by decide), hJ 42 (by decide), hJ 43 (by decide)]
  | 1, hi, hne => rw [cel_e1, cel_e1]; unfold ful; rw [hf 1 2 (by decide) i hi hne, hf 1 3 (by decide) i hi hne, hf 1 4 (by decide) i hi hne, hf 1 5 (by decide) i hi hne, hJ 6 (by decide), hJ 9 (by decide), hJ 7 (by decide), hJ 8 (by decide)]
  | 2, hi, hne => rw [cel_e2, cel_e2]; unfold wB; rw [hf 2 11 (by decide) i hi hne, hf 2 12 (by decide) i hi hne, hf 2 13 (by decide) i hi hne, hf 2 14 (by decide) i hi hne, hJ 15 (by decide), hJ 16 (by decide), hJ 17 (by decide)]
  | 3, hi, hne => rw [cel_e3, cel_e3]; rw [hf 3 19 (by decide) i hi hne, hf 3 20 (by decide) i hi hne, hf 3 21 (by decide) i hi hne, hJ 22 (by decide)]
  | 4, hi, hne => rw [cel_e4, cel_e4]; rw [hf 4 25 (by decide) i hi hne, hf 4 26 (by decide) i hi hne, hf 4 27 (by decide) i hi hne, hf 4 28 (by decide) i hi hne, hf 4 29 (by decide) i hi hne, hf 4 30 (by decide) i hi hne]
  | 5, hi, hne => rw [cel_e5, cel_e5, h4, hf 5 32 (by decide) i hi hne, hf 5 33 (by decide) i hi hne, hf 5 34 (by decide) i hi hne]
  | 6, hi, hne => rw [cel_e6, cel_e6]; rw [hf 6 36 (by decide) i hi hne, hf 6 37 (by decide) i hi hne, hf 6 38 (by decide) i hi hne]
  | 7, hi, hne => rw [cel_e7, cel_e7, h23]
  | 8, hi, hne => rw [cel_e8, cel_e8, hJ 39 (by decide)]
  | 9, hi, hne =>
    have i0 : i = 0 := by rw [vN_e9] at hi; omega
    subst i0
    rw [cel_e9, cel_e9, (hz hne).1, (hz hne).2, hf 9 50 (by decide) 0 Nat.one_pos hne, hf 9 47 (by decide) 0 Nat.one_pos hne, hf 9 55 (by decide) 0 Nat.one_pos hne, hf 9 48 (by decide) 0 Nat.one_pos hne, hf 9 49 (by decide) 0 Nat.one_pos hne]
  | 10, hi, hne => rw [cel_e10, cel_e10]; rw [hf 10 45 (by decide) i hi hne, hf 10 46 (by decide) i hi hne]
  | 11, hi, hne => rw [cel_e11, cel_e11]; rw [hf 11 51 (by decide) i hi hne, hf 11 52 (by decide) i hi hne, hf 11 53 (by decide) i hi hne, hf 11 56 (by decide) i hi hne, hf 11 57 (by decide) i hi hne, hf 11 58 (by decide) i hi hne]
  | 12, hi, hne =>
    have i0 : i = 0 := by rw [vN_e12] at hi; omega
    subst i0
    rw [cel_e12, cel_e12, hce hne]
  | 13, hi, hne => rw [cel_e13, cel_e13, hle i hi hne]
  | n + 14, hi, hne => rw [cel_eX, cel_eX]

theorem vN_same {S T : Ast} (np : Nat) (ho : ∀ k ∈ ([1, 10, 18, 24, 31, 35, 44] : List Nat), T.1 k = S.1 k) : ∀ k, vN T np k = vN S np k := by
  intro k
  have e : ∀ k ∈ ([1, 10, 18, 24, 31, 35, 44] : List Nat), cn T k = cn S k := fun k q1 => by unfold cn; rw [ho k q1]
  match k with
  | 0 => rw [vN_e0, vN_e0]
  | 7 => rw [vN_e7, vN_e7]
  | 8 => rw [vN_e8, vN_e8]
  | 9 => rw [vN_e9, vN_e9]
  | 11 => rw [vN_e11, vN_e11]
  | 12 => rw [vN_e12, vN_e12]
  | 13 => rw [vN_e13, vN_e13]
  | 1 => rw [vN_e1, vN_e1]; exact e 1 (by decide)
  | 2 => rw [vN_e2, vN_e2]; exact e 10 (by decide)
  | 3 => rw [vN_e3, vN_e3]; exact e 18 (by decide)
  | 4 => rw [vN_e4, vN_e4]; exact e 24 (by decide)
  | 5 => rw [vN_e5, vN_e5]; exact e 31 (by decide)
  | 6 => rw [vN_e6, vN_e6]; exact e 35 (by decide)
  | 10 => rw [vN_e10, vN_e10]; exact e 44 (by decide)
  | n + 14 => rw [vN_eX, vN_eX]
section LU
variable {g : Gx} {w0 w : Wd} {O : Nat → Prop} {ad : Nat → Nat → Nat} {z : Zx} {np : Nat} {S : Ast}
theorem flds_o {j : Nat} (hj : j ∈ [9, 11]) {f : Nat} (hf : f ∈ ([1, 10, 18, 24, 31, 35, 44, 23, 4] : List Nat)) : f ∉ flds j := by
  revert f
  rcases (show j = 9 ∨ j = 11 by simpa using hj) with rfl | rfl <;> decide
theorem flds_d9 : ∀ j ∈ [9, 11], ∀ k, k ≠ j → ∀ f ∈ flds k, f ∉ flds j := by
  intro j hj k
  match k with
  | 0 => revert j; decide
  | 1 => revert j; decide
  | 2 => revert j; decide
  | 3 => revert j; decide
  | 4 => revert j; decide
  | 5 => revert j; decide
  | 6 => revert j; decide
  | 7 => revert j; decide
  | 8 => revert j; decide
  | 9 => revert j; decide
  | 10 => revert j; decide
  | 11 => revert j; decide
  | n + 12 => intro _ f hf; cases hf
/-- the line's own object -/
theorem SB.putLine (hS : SB g w0 w O ad z np S) {e : va_E} (T : Ast) (co di : Int32) (hI : ∀ k, k ∉ flds 9 → T.1 k = S.1 k) (hJ : T.2 = S.2) (he : e = oLine (ad 14 10) (ad 14 11) (ad 12 0) (T.1 50 0) (T.1 47 0) (T.1 55 0) (T.1 48 0) (T.1 49 0) co di) : SB g w0 (wst w (ad 9 0) e) O ad (co, di, z.2.2) np T := by
  refine ⟨hS.1.up (k := 9) (i := 0) Nat.one_pos T (co, di, z.2.2) (vN_same np (fun k hk => hI k (flds_o (by decide) (by revert k; decide)))) (by rw [he, cel_e9]) (cel_U g ad (fun k _ => by rw [hJ]) (hI 23 (by decide)) (hI 4 (by decide)) (fun k f hf i hi hne => ?_) (fun q => absurd ⟨rfl, rfl⟩ q) (fun _ => rfl) (fun _ _ _ => rfl)), hS.2.tr (Fr.put (hS.1.own (k := 9) (i := 0) Nat.one_pos))⟩
  by_cases hk : k = 9
  · subst hk
    rw [vN_e9] at hi
    exact absurd ⟨rfl, by omega⟩ hne
  · rw [hI f (flds_d9 9 (by decide) k hk f hf)]
/-- a piece's object -/
theorem SB.putPiece (hS : SB g w0 w O ad z np S) {e : va_E} {i : Nat} (hi : i < np) (T : Ast) (hI : ∀ k, k ∉ flds 11 → T.1 k = S.1 k) (hi2 : ∀ k j, j ≠ i → T.1 k j = S.1 k j) (hJ : T.2 = S.2) (he : e = oPiece (ad 13 i) (T.1 51 i) (T.1 52 i) (T.1 53 i) (T.1 56 i) (T.1 57 i) (T.1 58 i)) : SB g w0 (wst w (ad 11 i) e) O ad z np T := by
  refine ⟨hS.1.up (k := 11) (i := i) hi T z (vN_same np (fun k hk => hI k (flds_o (by decide) (by revert k; decide)))) (by rw [he, cel_e11]) (cel_U g ad (fun k _ => by rw [hJ]) (hI 23 (by decide)) (hI 4 (by decide)) (fun k f hf j hj hne => ?_) (fun _ => ⟨rfl, rfl⟩) (fun _ => rfl) (fun _ _ _ => rfl)), hS.2.tr (Fr.put (hS.1.own (k := 11) hi))⟩
  by_cases hk : k = 11
  · subst hk
    exact hi2 f j (fun q => hne ⟨rfl, q⟩)
  · rw [hI f (flds_d9 11 (by decide) k hk f hf)]
/-- a place of a piece's row -/
theorem SB.putLe (hS : SB g w0 w O ad z np S) {i : Nat} (hi : i < np) (p : Nat) (v : Int64) : SB g w0 (wst w (ad 13 i) (aJ g ((40 * i + 1) * 6) (va_up (z.2.2.2 i) p v))) O ad (z.1, z.2.1, z.2.2.1, va_up z.2.2.2 i (va_up (z.2.2.2 i) p v)) np S :=
  ⟨hS.1.up (k := 13) (i := i) hi S _ (fun _ => rfl) (by rw [cel_e13]; exact congrArg (aJ g _) (va_up_self _ _ _).symm) (cel_U g ad (fun k _ => rfl) rfl rfl (fun _ _ _ _ _ _ => rfl) (fun _ => ⟨rfl, rfl⟩) (fun _ => rfl) (fun j _ hne => va_up_ne _ _ (fun q => hne ⟨rfl, q⟩))), hS.2.tr (Fr.put (hS.1.own (k := 13) hi))⟩
/-- a place of costAtEnd -/
theorem SB.putCe (hS : SB g w0 w O ad z np S) (p : Nat) (v : Int64) : SB g w0 (wst w (ad 12 0) (aJ g 401 (va_up z.2.2.1 p v))) O ad (z.1, z.2.1, va_up z.2.2.1 p v, z.2.2.2) np S :=
  ⟨hS.1.up (k := 12) (i := 0) Nat.one_pos S _ (fun _ => rfl) (by rw [cel_e12]) (cel_U g ad (fun k _ => rfl) rfl rfl (fun _ _ _ _ _ _ => rfl) (fun _ => ⟨rfl, rfl⟩) (fun q => absurd ⟨rfl, rfl⟩ q) (fun j _ hne => rfl)), hS.2.tr (Fr.put (hS.1.own (k := 12) (i := 0) Nat.one_pos))⟩
end LU

def sE (S : Ast) (w0 p0 : Int32) : Ast := uI (uI (uI S 45 (cn S 44) w0) 46 (cn S 44) p0) 44 0 (S.1 44 0 + 1)
theorem sE_o {S : Ast} (w0 p0 : Int32) (k : Nat) (h45 : k ≠ 45) (h46 : k ≠ 46) (h44 : k ≠ 44) : (sE S w0 p0).1 k = S.1 k := by
  unfold sE
  rw [uI_1n h44, uI_1n h46, uI_1n h45]
theorem sE_c {S : Ast} (w0 p0 : Int32) : (sE S w0 p0).1 44 0 = S.1 44 0 + 1 := uI_at
theorem sE_i {S : Ast} (w0 p0 : Int32) (k i : Nat) (hk : k ≠ 44) (hi : i ≠ cn S 44) : (sE S w0 p0).1 k i = S.1 k i := by
  unfold sE
  rw [uI_1n hk, uI_off k i hi, uI_off k i hi]
theorem sE_j {S : Ast} (w0 p0 : Int32) : (sE S w0 p0).2 = S.2 := rfl
theorem sE_45 {S : Ast} (w0 p0 : Int32) : (sE S w0 p0).1 45 (cn S 44) = w0 := by
  unfold sE
  rw [uI_1n (by decide), uI_1n (by decide), uI_at]
theorem sE_46 {S : Ast} (w0 p0 : Int32) : (sE S w0 p0).1 46 (cn S 44) = p0 := by
  unfold sE
  rw [uI_1n (by decide), uI_at]
theorem SA.gsE {g : Gx} {w w2 : Wd} {O : Nat → Prop} {ad : Nat → Nat → Nat} {z : Zx} {np : Nat} {S : Ast} (h : SA g w O ad z np S) (hW : WSt S) (hc : CN S 44 6) (w0 p0 : Int32)  {q e' : Nat} (hq : w q = none) (hl : Lst g w2 (ad 14 10) e' (vN S np 10 + 1) (va_up (ad 10) (vN S np 10) q)) (he' : (e' = ad 15 10 ∧ 0 < vN S np 10) ∨ wst w q (oEntry w0 p0) e' = none) (hf : ∀ a, a ≠ ad 14 10 → a ≠ e' → w2 a = wst w q (oEntry w0 p0) a) :
    SA g w2 (fun a => O a ∨ a = q ∨ a = e') (adg ad 10 (vN S np 10) q e') z np (sE S w0 p0) ∧ Fr w O w2 (fun a => O a ∨ a = q ∨ a = e') := by
  refine h.grow (j := 10) (by decide) rfl hq hl he' hf (sE S w0 p0) (fun k => ?_) ?_ (fun k i hi => ?_)
  · have := vN_T (S := S) (T := sE S w0 p0) (np := np) (j := 10) (c := 44) (fun X => vN_e10 X np) (by decide) (cn_inc hc (by omega) (sE_c w0 p0)).1 (fun k hk hne => sE_o w0 p0 k (fun q => by subst q; revert hk; decide) (fun q => by subst q; revert hk; decide) hne) k
    rw [vN_e10]
    exact this
  · rw [vN_e10, cel_e10]
    simp only [adg_n (k := 1) (j := 10) (by decide) (by decide), sE_j w0 p0, sE_45 w0 p0, sE_46 w0 p0]
  · rw [cel_T g _ z (S := S) (np := np) (fun k _ => congrFun (sE_j w0 p0) k) (sE_o w0 p0 23 (by decide) (by decide) (by decide)) (fun k f hf i hi => ?_) hW.nds.2.2.2.1 k i hi]
    · exact cel_ad g z hW (fun i _ => congrFun (adg_n (by decide) (by decide)) i) (adg_n (by decide) (by decide)) (adg_n (by decide) (by decide)) (adg_n (by decide) (by decide)) (adg_n (by decide) (by decide)) (fun i _ => congrFun (adg_n (by decide) (by decide)) i) (adg_n (by decide) (by decide)) k i hi
    · have hcn := flds_c k f hf
      by_cases hk : k = 10
      · subst hk
        exact sE_i w0 p0 f i (by obtain ⟨p1, p2, p3, p4, p5, p6, p7⟩ := hcn; assumption) (by rw [vN_e10] at hi; omega)
      · have hd := flds_d 10 (by decide) k hk f hf
        rw [sE_o w0 p0 f (fun q => hd (by rw [q]; decide)) (fun q => hd (by rw [q]; decide)) (by obtain ⟨p1, p2, p3, p4, p5, p6, p7⟩ := hcn; assumption)]

abbrev okE (S : Ast) (w0 : Int32) : Prop := ¬ S.1 44 0 = 6 ∧ (S.1 44 0 ≤ 0 ∨ S.1 45 (cn S 44 - 1) < w0)
theorem prev44 {S : Ast} (hc : CN S 44 6) (hp : ¬ S.1 44 0 ≤ 0) : S.1 44 0 - 1 = nI (cn S 44 - 1) ∧ cn S 44 - 1 < cn S 44 := by
  have h1 := hc.1
  cases hn : cn S 44 with
  | zero => rw [hn] at h1; rw [h1] at hp; exact absurd (by decide) hp
  | succ n =>
    rw [h1, hn, nI_pred]
    exact ⟨rfl, by omega⟩

set_option maxRecDepth 100000 in
set_option maxHeartbeats 4000000 in
theorem c_addEntry (K : Kx) {w : Wd} {O : Nat → Prop} {ad : Nat → Nat → Nat} {z : Zx} {np : Nat} {S : Ast} (w0 p0 : Int32) (hA : SA K.2.1 w O ad z np S) (hW : WSt S) (hnp : NP S np) (hc : CN S 44 6) : MT K mX4_addEntry 7 2 62 [.ref (ad 9 0), .int w0, .int p0] w (PI fun r w' => r = (if okE S w0 then S.1 44 0 else (-1)) ∧ CQ K.2.1 w O (ad 0 0) w' (if okE S w0 then sLi S w0 p0 else S)) := by
  refine MT.of [some (.ref (ad 9 0)), some (.int w0), some (.int p0), none] (by decide) rfl (nle rfl) rfl ?_
  intro E hC hR
  have hS := SB.rf hA
  refine j_aload_n hC dX4_addEntry_0 rfl ?_
  refine j_get hC cfX4 dX4_addEntry_1 fX4_12 (by decide) hS.1.line rfl ?_
  obtain ⟨mc1, hl1⟩ := (hS.1.lst (j := 10) (by decide)).sz
  refine j_callv (kc' := 2) (ks' := 62) (r := (RJx4a65c, TJx4a65c, 3)) hC (c_lsize K (hS.1.lst (j := 10) (by decide))) dX4_addEntry_4 wJx4a65c_size_8abf5 lX4_25 i_yJx4a65c_size_8abf5 s_yJx4a65c_size_8abf5 hl1 rfl rfl rfl (nle rfl) rfl (by decide) (by decide) (by decide) (kI fun r w' hp => ?_)
  obtain ⟨rfl, hw⟩ := hp
  rw [hw]
  clear hw w'
  refine J.toI (y := S.1 44 0) (((congrArg nI (vN_e10 S np))).trans hc.1.symm) ?_
  refine j_istore_n (lv' := [some _, some _, some _, some _]) hC dX4_addEntry_7 (nlt rfl) rfl ?_
  refine j_iload_n hC dX4_addEntry_8 rfl ?_
  refine j_bipush hC (6) dX4_addEntry_9 (by decide) ?_
  refine j_icmp_ge hC 38 dX4_addEntry_11 (by decide) (fun c_11 => ?_) (fun c_11 => ?_)
  · refine j_iconst hC (-1) dX4_addEntry_38 (by decide) ?_
    have hok : ¬ okE S w0 := fun q => q.1 ((CN.full hc (by decide) 6 (by decide)).mp c_11)
    exact j_iret hC hR dX4_addEntry_39 rfl ⟨_, rfl, by rw [if_neg hok], by rw [if_neg hok]; exact ⟨_, _, _, _, hS.1, hS.2, rfl, hnp⟩⟩
  · refine j_iload_n hC dX4_addEntry_14 rfl ?_
    refine j_if_le hC 40 dX4_addEntry_15 (by decide) (fun c_15 => ?_) (fun c_15 => ?_)
    · have hok : okE S w0 := ⟨fun q => c_11 ((CN.full hc (by decide) 6 (by decide)).mpr q), Or.inl c_15⟩
      refine j_aload_n hC dX4_addEntry_40 rfl ?_
      refine j_get hC cfX4 dX4_addEntry_41 fX4_12 (by decide) hS.1.line rfl ?_
      refine j_new (kc' := 1) (ks' := 60) (fs := [.int 0, .int 0]) hC cfX1 dX4_addEntry_44 kX4_33 ibX1 inX1 (fun j hj => by rcases (show j = 0 ∨ j = 1 by omega) with rfl | rfl <;> rfl) (by decide) (by decide) (fun q44 hq44 => ?_)
      refine j_dup hC dX4_addEntry_47 rfl ?_
      refine j_iload_n hC dX4_addEntry_48 rfl ?_
      refine j_iload_n hC dX4_addEntry_49 rfl ?_
      refine j_calli (kc' := 1) (ks' := 60) hC (c_Entry K w0 p0 (wst_s _ _ _)) dX4_addEntry_50 wX1_init lX4_39 i_yX1_init rfl rfl rfl (nle rfl) rfl (by decide) (by decide) (by decide) (kV fun w' hp => ?_)
      rw [hp, wst_wst]
      clear hp w'
      obtain ⟨mc2, hl2⟩ := (hS.1.lst (j := 10) (by decide)).sz
      refine j_callv (kc' := 0) (ks' := 0) (r := (RJx4a65c, TJx4a65c, 3)) hC (c_add K ((hS.1.fresh hq44 _).lst (j := 10) (by decide)) (by rw [vN_e10]; have := hc.2; omega) (hS.1.lq (by decide) hq44) ((hS.1.fresh hq44 _).hel (by decide)) (wst_s _ _ _) rfl (by decide)) dX4_addEntry_53 wJx4a65c_add_9ea2d lX4_42 i_yJx4a65c_add_9ea2d s_yJx4a65c_add_9ea2d (fresh_none hq44 hl2) rfl rfl rfl (nle rfl) rfl (by decide) (by decide) (by decide) (kI fun r w' hp => ?_)
      obtain ⟨rfl, e', hl', he', hf'⟩ := hp
      obtain ⟨hA2, hF2⟩ := hS.1.gsE hW hc w0 p0 hq44 hl' he' hf'
      have hS2 := SB.rf hA2
      have e9 : adg ad 10 (vN S np 10) q44 e' 9 0 = ad 9 0 := congrFun (adg_n (by decide) (by decide)) 0
      have hx := hA2.line
      rw [e9] at hx
      refine j_pop hC dX4_addEntry_56 rfl ?_
      refine j_aload_n hC dX4_addEntry_57 rfl ?_
      refine j_iconst hC (0) dX4_addEntry_58 (by decide) ?_
      refine j_put (fs' := [_, _, _, _, _, _, _, _, _, _]) hC cfX4 dX4_addEntry_59 fX4_46 rfl (by decide) hx rfl rfl (nlt rfl) rfl ?_
      rw [← e9]
      refine J.gen (P := fun w3 => SB K.2.1 w' w3 (fun a => O a ∨ a = q44 ∨ a = e') (adg ad 10 (vN S np 10) q44 e') (z.1, z.2.1, z.2.2) np (sLi S w0 p0)) (hS2.putLine (sLi S w0 p0) z.1 z.2.1 (fun k hk => uI_1n (fun q => hk (by rw [q]; decide))) rfl ?_) (fun w3 hS3 => ?_)
      · unfold sLi; rw [uI_at, uI_1n (by decide), uI_1n (by decide), uI_1n (by decide), uI_1n (by decide)]; rfl
      refine j_iload_n hC dX4_addEntry_62 rfl ?_
      exact j_iret hC hR dX4_addEntry_63 rfl ⟨_, rfl, by rw [if_pos hok], by rw [if_pos hok]; exact ⟨_, _, _, _, hS3.1, hF2.tr hS3.2, congrFun (adg_n (by decide) (by decide)) 0, hnp.cong (fun k hk => by unfold sLi; rw [uI_1n (fun q => by subst q; revert hk; decide), uI_1n (fun q => by subst q; revert hk; decide), uI_1n (fun q => by subst q; revert hk; decide), uI_1n (fun q => by subst q; revert hk; decide)])⟩⟩
    · refine j_iload_n hC dX4_addEntry_18 rfl ?_
      refine j_aload_n hC dX4_addEntry_19 rfl ?_
      refine j_get hC cfX4 dX4_addEntry_20 fX4_12 (by decide) hS.1.line rfl ?_
      refine j_iload_n hC dX4_addEntry_23 rfl ?_
      refine j_iconst hC (1) dX4_addEntry_24 (by decide) ?_
      refine j_isub hC dX4_addEntry_25 ?_
      obtain ⟨hp1, hp2⟩ := prev44 hc c_15
      refine J.toI hp1 ?_
      obtain ⟨mc3, hl3⟩ := (hS.1.lst (j := 10) (by decide)).sz
      refine j_callv (kc' := 2) (ks' := 62) (r := (RJx4a65c, TJx4a65c, 3)) hC (c_get K (hS.1.lst (j := 10) (by decide)) (by rw [vN_e10]; exact hp2)) dX4_addEntry_26 wJx4a65c_get_915e3 lX4_29 i_yJx4a65c_get_915e3 s_yJx4a65c_get_915e3 hl3 rfl rfl rfl (nle rfl) rfl (by decide) (by decide) (by decide) (kA fun r w' hp => ?_)
      obtain ⟨rfl, hw⟩ := hp
      rw [hw]
      clear hw w'
      refine j_cast (r := (RX1, TX1, 2)) hC dX4_addEntry_29 kX4_33 (hS.1.entry hp2) rfl ?_
      refine j_get hC cfX1 dX4_addEntry_32 fX4_35 (by decide) (hS.1.entry hp2) rfl ?_
      refine j_icmp_gt hC 40 dX4_addEntry_35 (by decide) (fun c_35 => ?_) (fun c_35 => ?_)
      · have hok : okE S w0 := ⟨fun q => c_11 ((CN.full hc (by decide) 6 (by decide)).mpr q), Or.inr c_35⟩
        refine j_aload_n hC dX4_addEntry_40 rfl ?_
        refine j_get hC cfX4 dX4_addEntry_41 fX4_12 (by decide) hS.1.line rfl ?_
        refine j_new (kc' := 1) (ks' := 60) (fs := [.int 0, .int 0]) hC cfX1 dX4_addEntry_44 kX4_33 ibX1 inX1 (fun j hj => by rcases (show j = 0 ∨ j = 1 by omega) with rfl | rfl <;> rfl) (by decide) (by decide) (fun q44 hq44 => ?_)
        refine j_dup hC dX4_addEntry_47 rfl ?_
        refine j_iload_n hC dX4_addEntry_48 rfl ?_
        refine j_iload_n hC dX4_addEntry_49 rfl ?_
        refine j_calli (kc' := 1) (ks' := 60) hC (c_Entry K w0 p0 (wst_s _ _ _)) dX4_addEntry_50 wX1_init lX4_39 i_yX1_init rfl rfl rfl (nle rfl) rfl (by decide) (by decide) (by decide) (kV fun w' hp => ?_)
        rw [hp, wst_wst]
        clear hp w'
        obtain ⟨mc4, hl4⟩ := (hS.1.lst (j := 10) (by decide)).sz
        refine j_callv (kc' := 0) (ks' := 0) (r := (RJx4a65c, TJx4a65c, 3)) hC (c_add K ((hS.1.fresh hq44 _).lst (j := 10) (by decide)) (by rw [vN_e10]; have := hc.2; omega) (hS.1.lq (by decide) hq44) ((hS.1.fresh hq44 _).hel (by decide)) (wst_s _ _ _) rfl (by decide)) dX4_addEntry_53 wJx4a65c_add_9ea2d lX4_42 i_yJx4a65c_add_9ea2d s_yJx4a65c_add_9ea2d (fresh_none hq44 hl4) rfl rfl rfl (nle rfl) rfl (by decide) (by decide) (by decide) (kI fun r w' hp => ?_)
        obtain ⟨rfl, e', hl', he', hf'⟩ := hp
        obtain ⟨hA2, hF2⟩ := hS.1.gsE hW hc w0 p0 hq44 hl' he' hf'
        have hS2 := SB.rf hA2
        have e9 : adg ad 10 (vN S np 10) q44 e' 9 0 = ad 9 0 := congrFun (adg_n (by decide) (by decide)) 0
        have hx := hA2.line
        rw [e9] at hx
        refine j_pop hC dX4_addEntry_56 rfl ?_
        refine j_aload_n hC dX4_addEntry_57 rfl ?_
        refine j_iconst hC (0) dX4_addEntry_58 (by decide) ?_
        refine j_put (fs' := [_, _, _, _, _, _, _, _, _, _]) hC cfX4 dX4_addEntry_59 fX4_46 rfl (by decide) hx rfl rfl (nlt rfl) rfl ?_
        rw [← e9]
        refine J.gen (P := fun w3 => SB K.2.1 w' w3 (fun a => O a ∨ a = q44 ∨ a = e') (adg ad 10 (vN S np 10) q44 e') (z.1, z.2.1, z.2.2) np (sLi S w0 p0)) (hS2.putLine (sLi S w0 p0) z.1 z.2.1 (fun k hk => uI_1n (fun q => hk (by rw [q]; decide))) rfl ?_) (fun w3 hS3 => ?_)
        · unfold sLi; rw [uI_at, uI_1n (by decide), uI_1n (by decide), uI_1n (by decide), uI_1n (by decide)]; rfl
        refine j_iload_n hC dX4_addEntry_62 rfl ?_
        exact j_iret hC hR dX4_addEntry_63 rfl ⟨_, rfl, by rw [if_pos hok], by rw [if_pos hok]; exact ⟨_, _, _, _, hS3.1, hF2.tr hS3.2, congrFun (adg_n (by decide) (by decide)) 0, hnp.cong (fun k hk => by unfold sLi; rw [uI_1n (fun q => by subst q; revert hk; decide), uI_1n (fun q => by subst q; revert hk; decide), uI_1n (fun q => by subst q; revert hk; decide), uI_1n (fun q => by subst q; revert hk; decide)])⟩⟩
      · refine j_iconst hC (-1) dX4_addEntry_38 (by decide) ?_
        have hok : ¬ okE S w0 := fun q => q.2.elim c_15 c_35
        exact j_iret hC hR dX4_addEntry_39 rfl ⟨_, rfl, by rw [if_neg hok], by rw [if_neg hok]; exact ⟨_, _, _, _, hS.1, hS.2, rfl, hnp⟩⟩

set_option maxRecDepth 100000 in
set_option maxHeartbeats 4000000 in
theorem c_list (K : Kx) {w : Wd} {O : Nat → Prop} {ad : Nat → Nat → Nat} {z : Zx} {np : Nat} {S : Ast} (w0 p0 : Int32) (hA : SA K.2.1 w O ad z np S) (hW : WSt S) (hnp : NP S np) (hc : CN S 44 6) : MT K mX9_list 8 2 62 [.ref (ad 0 0), .int w0, .int p0] w (PI fun r w' => r = (if okLi S w0 p0 then S.1 44 0 else (-1)) ∧ CQ K.2.1 w O (ad 0 0) w' (if okLi S w0 p0 then sLi S w0 p0 else S)) := by
  refine MT.of [some (.ref (ad 0 0)), some (.int w0), some (.int p0)] (by decide) rfl (nle rfl) rfl ?_
  intro E hC hR
  have hS := SB.rf hA
  refine j_iload_n hC dX9_list_0 rfl ?_
  refine j_bipush hC (10) dX9_list_1 (by decide) ?_
  refine j_sipush hC (3000) dX9_list_3 (by decide) ?_
  refine j_calls (kc' := 2) (ks' := 62) hC (c_isWithin K w0 10 3000) dX9_list_6 wX9_isWithin lX9_68 t_yX9_isWithin rfl rfl (nle rfl) rfl (by decide) (by decide) (by decide) (kI fun r w' hp => ?_)
  obtain ⟨rfl, hw⟩ := hp
  rw [hw]
  clear hw w'
  refine j_if_eq hC 22 dX9_list_9 (by decide) (fun c_9 => ?_) (fun c_9 => ?_)
  · refine j_iconst hC (-1) dX9_list_22 (by decide) ?_
    have hok : ¬ okLi S w0 p0 := fun q => by first | exact q.1 c_9 | exact q.2.1 c_9 | exact q.2.2.1 c_9 | exact q.2.2.2.1 c_9 | exact q.2.2.2.2.1 c_9 | exact q.2.2.2.2.2 c_9 | exact q.2.2 c_9 | exact q.2.2.2 c_9 | exact q.2.2.2.2 c_9 | exact q.2 c_9
    exact j_iret hC hR dX9_list_23 rfl ⟨_, rfl, by rw [if_neg hok], by rw [if_neg hok]; exact ⟨_, _, _, _, hS.1, hS.2, rfl, hnp⟩⟩
  · refine j_iload_n hC dX9_list_12 rfl ?_
    refine j_iconst hC (0) dX9_list_13 (by decide) ?_
    refine j_ldc hC dX9_list_14 nX9_67 ?_
    refine j_calls (kc' := 2) (ks' := 62) hC (c_isWithin K p0 0 100000) dX9_list_16 wX9_isWithin lX9_68 t_yX9_isWithin rfl rfl (nle rfl) rfl (by decide) (by decide) (by decide) (kI fun r w' hp => ?_)
    obtain ⟨rfl, hw⟩ := hp
    rw [hw]
    clear hw w'
    refine j_if_ne hC 24 dX9_list_19 (by decide) (fun c_19 => ?_) (fun c_19 => ?_)
    · refine j_aload_n hC dX9_list_24 rfl ?_
      refine j_get hC cfX9 dX9_list_25 fX9_42 (by decide) hS.1.x rfl ?_
      refine j_iload_n hC dX9_list_28 rfl ?_
      refine j_iload_n hC dX9_list_29 rfl ?_
      refine j_callv (kc' := 0) (ks' := 0) (r := (RX4, TX4, 10)) hC (c_addEntry K w0 p0 hS.1 hW hnp hc) dX9_list_30 wX4_addEntry lX9_178 i_yX4_addEntry s_yX4_addEntry hS.1.line rfl rfl rfl (nle rfl) rfl (by decide) (by decide) (by decide) (kI fun r w' hp => ?_)
      obtain ⟨hr, hq⟩ := hp
      exact j_iret hC hR dX9_list_33 rfl ⟨_, rfl, hr.trans (by by_cases q : okE S w0 <;> by_cases q2 : okLi S w0 p0 <;> first | rw [if_pos q, if_pos q2] | rw [if_neg q, if_neg q2] | exact absurd ⟨q.1, c_9, c_19, q.2⟩ q2 | exact absurd ⟨q2.1, q2.2.2.2⟩ q), if q2 : okLi S w0 p0 then (by rw [if_pos q2]; rw [if_pos ⟨q2.1, q2.2.2.2⟩] at hq; exact hq) else (by rw [if_neg q2]; rw [if_neg (fun q => q2 ⟨q.1, c_9, c_19, q.2⟩)] at hq; exact hq)⟩
    · refine j_iconst hC (-1) dX9_list_22 (by decide) ?_
      have hok : ¬ okLi S w0 p0 := fun q => by first | exact q.1 c_19 | exact q.2.1 c_19 | exact q.2.2.1 c_19 | exact q.2.2.2.1 c_19 | exact q.2.2.2.2.1 c_19 | exact q.2.2.2.2.2 c_19 | exact q.2.2 c_19 | exact q.2.2.2 c_19 | exact q.2.2.2.2 c_19 | exact q.2 c_19
      exact j_iret hC hR dX9_list_23 rfl ⟨_, rfl, by rw [if_neg hok], by rw [if_neg hok]; exact ⟨_, _, _, _, hS.1, hS.2, rfl, hnp⟩⟩

theorem NP.beg {S : Ast} {np : Nat} (h : NP S np) (g b : Int32) : NP (sB S g b) np := by
  refine ⟨by unfold cn sB; rw [uI_1n (by decide), uI_at]; exact Nat.zero_le _, h.2.1, fun f hf i hi => ?_⟩
  unfold sB
  rw [uI_1n (fun q => by subst q; revert hf; decide), uI_1n (fun q => by subst q; revert hf; decide), uI_1n (fun q => by subst q; revert hf; decide), uI_1n (fun q => by subst q; revert hf; decide), uI_1n (fun q => by subst q; revert hf; decide)]
  exact h.2.2 f hf i hi
set_option maxRecDepth 100000 in
set_option maxHeartbeats 4000000 in
theorem c_begin (K : Kx) {w : Wd} {O : Nat → Prop} {ad : Nat → Nat → Nat} {z : Zx} {np : Nat} {S : Ast} (g b : Int32) (hA : SA K.2.1 w O ad z np S) (hnp : NP S np) : MT K mX9_begin 2 0 0 [.ref (ad 0 0), .int g, .int b] w (PI fun r w' => r = (if okB g b then 1 else 0) ∧ CQ K.2.1 w O (ad 0 0) w' (if okB g b then sB S g b else S)) := by
  refine MT.of [some (.ref (ad 0 0)), some (.int g), some (.int b)] (by decide) rfl (nle rfl) rfl ?_
  intro E hC hR
  have hS := SB.rf hA
  refine j_iload_n hC dX9_begin_0 rfl ?_
  refine j_calls (kc' := 0) (ks' := 0) hC (c_isHeight K g) dX9_begin_1 wX9_isHeight lX9_63 t_yX9_isHeight rfl rfl (nle rfl) rfl (by decide) (by decide) (by decide) (kI fun r w' hp => ?_)
  obtain ⟨rfl, hw⟩ := hp
  rw [hw]
  clear hw w'
  refine j_if_eq hC 14 dX9_begin_4 (by decide) (fun c_4 => ?_) (fun c_4 => ?_)
  · refine j_iconst hC (0) dX9_begin_14 (by decide) ?_
    have hok : ¬ okB g b := fun q => by first | exact q.1 c_4 | exact q.2.1 c_4 | exact q.2.2.1 c_4 | exact q.2.2.2.1 c_4 | exact q.2.2.2.2.1 c_4 | exact q.2.2.2.2.2 c_4 | exact q.2.2 c_4 | exact q.2.2.2 c_4 | exact q.2.2.2.2 c_4 | exact q.2 c_4
    exact j_zret hC hR dX9_begin_15 rfl (by decide) ⟨_, rfl, by rw [if_neg hok], by rw [if_neg hok]; exact ⟨_, _, _, _, hS.1, hS.2, rfl, hnp⟩⟩
  · refine j_iload_n hC dX9_begin_7 rfl ?_
    refine j_calls (kc' := 0) (ks' := 0) hC (c_isHeight K b) dX9_begin_8 wX9_isHeight lX9_63 t_yX9_isHeight rfl rfl (nle rfl) rfl (by decide) (by decide) (by decide) (kI fun r w' hp => ?_)
    obtain ⟨rfl, hw⟩ := hp
    rw [hw]
    clear hw w'
    refine j_if_ne hC 16 dX9_begin_11 (by decide) (fun c_11 => ?_) (fun c_11 => ?_)
    · refine j_aload_n hC dX9_begin_16 rfl ?_
      refine j_get hC cfX9 dX9_begin_17 fX9_42 (by decide) hS.1.x rfl ?_
      refine j_iload_n hC dX9_begin_20 rfl ?_
      refine j_iload_n hC dX9_begin_21 rfl ?_
      refine j_callv (kc' := 0) (ks' := 0) (r := (RX4, TX4, 10)) hC (c_beginAnew K g b hS.1.line) dX9_begin_22 wX4_beginAnew lX9_181 i_yX4_beginAnew s_yX4_beginAnew hS.1.line rfl rfl rfl (nle rfl) rfl (by decide) (by decide) (by decide) (kV fun w' hp => ?_)
      rw [hp]
      clear hp w'
      refine J.gen (P := fun w3 => SB K.2.1 w w3 O ad (z.1, z.2.1, z.2.2) np (sB S g b)) (hS.putLine (sB S g b) z.1 z.2.1 (fun k hk => ?_) rfl ?_) (fun w3 hS3 => ?_)
      · unfold sB; rw [uI_1n (fun q => hk (by rw [q]; decide)), uI_1n (fun q => hk (by rw [q]; decide)), uI_1n (fun q => hk (by rw [q]; decide)), uI_1n (fun q => hk (by rw [q]; decide)), uI_1n (fun q => hk (by rw [q]; decide))]
      · unfold sB; rw [uI_at, uI_1n (by decide), uI_at, uI_1n (by decide), uI_1n (by decide), uI_1n (by decide), uI_1n (by decide), uI_at, uI_1n (by decide), uI_1n (by decide), uI_1n (by decide), uI_at, uI_1n (by decide), uI_1n (by decide), uI_at]
      refine j_iconst hC (1) dX9_begin_25 (by decide) ?_
      have hok : okB g b := ⟨c_4, c_11⟩
      exact j_zret hC hR dX9_begin_26 rfl (by decide) ⟨_, rfl, by rw [if_pos hok], by rw [if_pos hok]; exact ⟨_, _, _, _, hS3.1, hS3.2, rfl, hnp.beg g b⟩⟩
    · refine j_iconst hC (0) dX9_begin_14 (by decide) ?_
      have hok : ¬ okB g b := fun q => by first | exact q.1 c_11 | exact q.2.1 c_11 | exact q.2.2.1 c_11 | exact q.2.2.2.1 c_11 | exact q.2.2.2.2.1 c_11 | exact q.2.2.2.2.2 c_11 | exact q.2.2 c_11 | exact q.2.2.2 c_11 | exact q.2.2.2.2 c_11 | exact q.2 c_11
      exact j_zret hC hR dX9_begin_15 rfl (by decide) ⟨_, rfl, by rw [if_neg hok], by rw [if_neg hok]; exact ⟨_, _, _, _, hS.1, hS.2, rfl, hnp⟩⟩

theorem cel_adS (g : Gx) (z : Zx) {ad ad' : Nat → Nat → Nat} {S : Ast} (h : ∀ k, k ≠ 11 → k ≠ 15 → ad' k = ad k) : ∀ k i, cel g ad' z S k i = cel g ad z S k i := by
  intro k i
  have h1 := h 1 (by decide) (by decide)
  have h7 := h 7 (by decide) (by decide)
  have h8 := h 8 (by decide) (by decide)
  have h9 := h 9 (by decide) (by decide)
  have h12 := h 12 (by decide) (by decide)
  have h13 := h 13 (by decide) (by decide)
  have h14 := h 14 (by decide) (by decide)
  match k with
  | 0 => rw [cel_e0, cel_e0, h7, h8, h9, h14]
  | 1 => rw [cel_e1, cel_e1]
  | 2 => rw [cel_e2, cel_e2, h1]
  | 3 => rw [cel_e3, cel_e3, h1]
  | 4 => rw [cel_e4, cel_e4, h1]
  | 5 => rw [cel_e5, cel_e5, h1]
  | 6 => rw [cel_e6, cel_e6, h1]
  | 7 => rw [cel_e7, cel_e7]
  | 8 => rw [cel_e8, cel_e8]
  | 9 => rw [cel_e9, cel_e9, h12, h14]
  | 10 => rw [cel_e10, cel_e10]
  | 11 => rw [cel_e11, cel_e11, h13]
  | 12 => rw [cel_e12, cel_e12]
  | 13 => rw [cel_e13, cel_e13]
  | n + 14 => rw [cel_eX, cel_eX]
theorem SA.gPc {g : Gx} {w w2 : Wd} {O : Nat → Prop} {ad : Nat → Nat → Nat} {z : Zx} {np : Nat} {S : Ast} (h : SA g w O ad z np S) (hW : WSt S) (hz : ∀ f ∈ flds 11, S.1 f np = 0) {q r e' : Nat} (hr : w r = none) (hq : w q = none) (hqr : q ≠ r) (hl : Lst g w2 (ad 14 11) e' (np + 1) (va_up (ad 11) np q)) (he' : (e' = ad 15 11 ∧ 0 < np) ∨ wst (wst w r (aJ g ((40 * np + 1) * 6) (fun _ => 0))) q (oPiece r 0 0 0 0 0 0) e' = none) (hf : ∀ a, a ≠ ad 14 11 → a ≠ e' → w2 a = wst (wst w r (aJ g ((40 * np + 1) * 6) (fun _ => 0))) q (oPiece r 0 0 0 0 0 0) a) :
    ∃ (O' : Nat → Prop) (ad' : Nat → Nat → Nat) (z' : Zx), SA g w2 O' ad' z' (np + 1) S ∧ Fr w O w2 O' ∧ ad' 0 0 = ad 0 0 ∧ ad' 9 0 = ad 9 0 := by
  let ad1 := va_up ad 13 (va_up (ad 13) np r)
  let z1 : Zx := (z.1, z.2.1, z.2.2.1, va_up z.2.2.2 np (fun _ => 0))
  have a1 : ∀ k, k ≠ 13 → ad1 k = ad k := fun k hk => va_up_ne _ _ hk
  have a2 : ∀ i, i < np → ad1 13 i = ad 13 i := fun i hi => by show va_up ad 13 _ 13 i = _; rw [va_up_self, va_up_ne _ _ (by omega)]
  have a3 : ad1 13 np = r := by show va_up ad 13 _ 13 np = _; rw [va_up_self, va_up_self]
  have z3 : z1.2.2.2 np = fun _ => 0 := va_up_self _ _ _
  have z2 : ∀ i, i < np → z1.2.2.2 i = z.2.2.2 i := fun i hi => va_up_ne _ _ (by omega)
  have czz : ∀ k i, i < vN S np k → cel g ad1 z1 S k i = cel g ad z S k i := by
    intro k i hi
    rw [cel_U (k0 := 99) (i0 := 0) (np := np) (z := z) (y := z1) (T := S) (S := S) g ad1 (fun _ _ => rfl) rfl rfl (fun _ _ _ _ _ _ => rfl) (fun _ => ⟨rfl, rfl⟩) (fun _ => rfl) (fun i hi _ => z2 i hi) k i hi (by
      intro q
      rw [q.1] at hi
      rw [show (99 : Nat) = 85 + 14 from rfl, vN_eX] at hi
      omega)]
    exact cel_ad g z hW (fun i _ => congrFun (a1 1 (by decide)) i) (a1 7 (by decide)) (a1 8 (by decide)) (a1 9 (by decide)) (a1 12 (by decide)) a2 (a1 14 (by decide)) k i hi
  have s1 := SAc.add13 (ad' := ad1) (z' := z1) (N2 := fun k => if k = 13 then np + 1 else vN S np k) h.toC hr (vN_e13 S np) rfl (e := aJ g ((40 * np + 1) * 6) (fun _ => 0)) (by rw [cel_e13, z3]) (fun k => rfl) czz
  have s2 := SAc.grow (j := 11) (n := np) (q := q) (e' := e') (N2 := vN S (np + 1)) (w2 := w2) s1.1 (by rw [if_neg (by decide)]; exact vN_15 S np) (by decide) (by rw [if_neg (by decide)]; exact vN_e11 S np) (e := oPiece r 0 0 0 0 0 0) (by rw [wst_n hqr]; exact hq) (by rw [a1 14 (by decide), a1 11 (by decide)]; exact hl) (by rw [a1 15 (by decide)]; exact he') (by rw [a1 14 (by decide)]; exact hf) S (fun k => ?_) ?_ (fun k i hi => ?_)
  · refine ⟨_, _, z1, s2.1.toA, s1.2.tr s2.2, ?_, ?_⟩
    · rw [adg_n (by decide) (by decide)]; exact congrFun (a1 0 (by decide)) 0
    · rw [adg_n (by decide) (by decide)]; exact congrFun (a1 9 (by decide)) 0
  · by_cases hk : k = 11
    · rw [if_pos hk, hk]; exact vN_e11 S (np + 1)
    · rw [if_neg hk]
      by_cases hk2 : k = 13
      · rw [if_pos hk2, hk2]; exact vN_e13 S (np + 1)
      · rw [if_neg hk2]
        match k, hk, hk2 with
        | 0, _, _ => rw [vN_e0, vN_e0]
        | 1, _, _ => rw [vN_e1, vN_e1]
        | 2, _, _ => rw [vN_e2, vN_e2]
        | 3, _, _ => rw [vN_e3, vN_e3]
        | 4, _, _ => rw [vN_e4, vN_e4]
        | 5, _, _ => rw [vN_e5, vN_e5]
        | 6, _, _ => rw [vN_e6, vN_e6]
        | 7, _, _ => rw [vN_e7, vN_e7]
        | 8, _, _ => rw [vN_e8, vN_e8]
        | 9, _, _ => rw [vN_e9, vN_e9]
        | 10, _, _ => rw [vN_e10, vN_e10]
        | 12, _, _ => rw [vN_e12, vN_e12]
        | n + 14, _, _ => rw [vN_eX, vN_eX]
  · rw [cel_e11, adg_n (by decide) (by decide), a3, hz 51 (by decide), hz 52 (by decide), hz 53 (by decide), hz 56 (by decide), hz 57 (by decide), hz 58 (by decide)]
  · exact cel_adS g z1 (fun k hk => adg_n (ad := ad1) (j := 11) (n := np) (q := q) (e := e') hk) k i

theorem c_Piece0 (K : Kx) {w : Wd} {a k : Nat} {e : va_E} (he : e = .inr (7, [.null, .int 0, .int 0, .int 0, .int 0, .int 0, .int 0])) (hk : k < 10) (ha : w a = none) : MT K mX6_init 1 1 2166 [.ref a, .int (nI k)] (wst w a e) (PV fun w' => ∃ q : Nat, w q = none ∧ a ≠ q ∧ w' = wst (wst w q (aJ K.2.1 ((40 * k + 1) * 6) (fun _ => 0))) a (oPiece q 0 0 0 0 0 0)) := by
  subst he
  refine (c_Piece K (wst_s _ _ _) hk).mono ?_
  rintro v w' ⟨rfl, q, hq, rfl⟩
  have haq : a ≠ q := fun z => by rw [z, wst_s] at hq; cases hq
  refine ⟨rfl, q, by rw [wst_n (Ne.symm haq)] at hq; exact hq, haq, ?_⟩
  rw [wst_comm (w := w) haq, wst_wst]

abbrev okP2 (S : Ast) : Prop := ¬ S.1 47 0 = 0 ∧ ¬ S.1 50 0 = 10
theorem sPc_n {S : Ast} (g l e : Int32) {np : Nat} (hc : CN S 50 10) (hlt : cn S 50 < np) (hle : np ≤ 10) (hz : ∀ f ∈ flds 11, ∀ i, np ≤ i → S.1 f i = 0) : NP (sPc S g l e) np := by
  refine ⟨?_, hle, fun f hf i hi => ?_⟩
  · have e1 : (sPc S g l e).1 50 0 = S.1 50 0 + 1 := by unfold sPc; rw [uI_1n (by decide), uI_at]
    rw [(cn_inc hc (by omega) e1).1]
    exact hlt
  · unfold sPc
    rw [uI_1n (fun q => by subst q; revert hf; decide), uI_1n (fun q => by subst q; revert hf; decide), uI_off f i (by omega), uI_off f i (by omega), uI_off f i (by omega)]
    exact hz f hf i hi
theorem lt_of50 {S : Ast} (hc : CN S 50 10) {np : Nat} (hnp : np ≤ 10) : S.1 50 0 < nI np ↔ cn S 50 < np := by
  have := hc.2
  rw [hc.1]
  rw [Int32.lt_iff_toInt_lt, nI_toInt (by omega), nI_toInt (by omega)]
  omega
theorem full50 {S : Ast} (hc : CN S 50 10) : S.1 50 0 < 10 ↔ ¬ S.1 50 0 = 10 := by
  have h1 := lt_of50 hc (np := 10) (by omega)
  have h2 := hc.2
  rw [show (10 : Int32) = nI 10 from by decide, h1, hc.1, nI_eq (by omega) (by omega)]
  omega

set_option maxRecDepth 100000 in
set_option maxHeartbeats 4000000 in
theorem c_addPiece (K : Kx) {w : Wd} {O : Nat → Prop} {ad : Nat → Nat → Nat} {z : Zx} {np : Nat} {S : Ast} (g l e : Int32) (hA : SA K.2.1 w O ad z np S) (hW : WSt S) (hnp : NP S np) (hc : CN S 50 10) : MT K mX4_addPiece 7 3 2233 [.ref (ad 9 0), .int g, .int l, .int e] w (PI fun r w' => r = (if okP2 S then S.1 50 0 else (-1)) ∧ CQ K.2.1 w O (ad 0 0) w' (if okP2 S then sPc S g l e else S)) := by
  refine MT.of [some (.ref (ad 9 0)), some (.int g), some (.int l), some (.int e), none] (by decide) rfl (nle rfl) rfl ?_
  intro E hC hR
  have hS := SB.rf hA
  have tail : ∀ (kc ks : Nat) (w1 : Wd) (O1 : Nat → Prop) (ad1 : Nat → Nat → Nat) (z1 : Zx) (np1 : Nat), SA K.2.1 w1 O1 ad1 z1 np1 S → Fr w O w1 O1 → ad1 0 0 = ad 0 0 → cn S 50 < np1 → np1 ≤ 10 → (∀ f ∈ flds 11, ∀ i, np1 ≤ i → S.1 f i = 0) → okP2 S → J K cX4_addPiece E kc ks w1 51 [some (.ref (ad1 9 0)), some (.int g), some (.int l), some (.int e), none] [] := by
    intro kc ks w1 O1 ad1 z1 np1 hA1 hF1 e0 hlt hle hzz hok
    have hS := SB.rf hA1
    refine j_aload_n hC dX4_addPiece_51 rfl ?_
    refine j_get hC cfX4 dX4_addPiece_52 fX4_18 (by decide) hS.1.line rfl ?_
    refine j_aload_n hC dX4_addPiece_55 rfl ?_
    refine j_get hC cfX4 dX4_addPiece_56 fX4_56 (by decide) hS.1.line rfl ?_
    refine J.toI hc.1 ?_
    obtain ⟨mc1, hl1⟩ := (hS.1.lst (j := 11) (by decide)).sz
    refine j_callv (kc' := kc) (ks' := ks) (r := (RJx4a65c, TJx4a65c, 3)) hC (c_get K (hS.1.lst (j := 11) (by decide)) (by rw [vN_e11]; exact hlt)) dX4_addPiece_59 wJx4a65c_get_915e3 lX4_29 i_yJx4a65c_get_915e3 s_yJx4a65c_get_915e3 hl1 rfl rfl rfl (nle rfl) rfl (by decide) (Nat.le_refl _) (Nat.le_refl _) (kA fun r w' hp => ?_)
    obtain ⟨rfl, hw⟩ := hp
    rw [hw]
    clear hw w'
    refine j_cast (r := (RX6, TX6, 7)) hC dX4_addPiece_62 kX4_62 (hS.1.piece hlt) rfl ?_
    refine j_astore (lv' := [some _, some _, some _, some _, some _]) hC dX4_addPiece_65 (nlt rfl) rfl ?_
    refine j_aload hC dX4_addPiece_67 rfl ?_
    refine j_iload_n hC dX4_addPiece_69 rfl ?_
    refine j_put (fs' := [_, _, _, _, _, _, _]) hC cfX6 dX4_addPiece_70 fX4_67 rfl (by decide) (hS.1.piece hlt) rfl rfl (nlt rfl) rfl ?_
    refine j_aload hC dX4_addPiece_73 rfl ?_
    refine j_iload_n hC dX4_addPiece_75 rfl ?_
    refine j_put (fs' := [_, _, _, _, _, _, _]) hC cfX6 dX4_addPiece_76 fX4_68 rfl (by decide) (wst_s _ _ _) rfl rfl (nlt rfl) rfl ?_
    refine j_aload hC dX4_addPiece_79 rfl ?_
    refine j_iload_n hC dX4_addPiece_81 rfl ?_
    refine j_put (fs' := [_, _, _, _, _, _, _]) hC cfX6 dX4_addPiece_82 fX4_71 rfl (by decide) (wst_s _ _ _) rfl rfl (nlt rfl) rfl ?_
    rw [wst_wst, wst_wst]
    refine J.gen (P := fun w3 => SB K.2.1 w1 w3 O1 ad1 z1 np1 (uI (uI (uI S 51 (cn S 50) g) 52 (cn S 50) l) 53 (cn S 50) e)) (hS.putPiece hlt _ (fun k hk => ?_) (fun k j hj => ?_) rfl ?_) (fun w3 hS => ?_)
    · rw [uI_1n (fun q => hk (by rw [q]; decide)), uI_1n (fun q => hk (by rw [q]; decide)), uI_1n (fun q => hk (by rw [q]; decide))]
    · rw [uI_off k j hj, uI_off k j hj, uI_off k j hj]
    · rw [uI_at, uI_1n (by decide), uI_1n (by decide), uI_at, uI_1n (by decide), uI_at, uI_1n (by decide), uI_1n (by decide), uI_1n (by decide), uI_1n (by decide), uI_1n (by decide), uI_1n (by decide), uI_1n (by decide), uI_1n (by decide), uI_1n (by decide)]
    refine j_aload_n hC dX4_addPiece_85 rfl ?_
    refine j_iconst hC (0) dX4_addPiece_86 (by decide) ?_
    refine j_put (fs' := [_, _, _, _, _, _, _, _, _, _]) hC cfX4 dX4_addPiece_87 fX4_46 rfl (by decide) hS.1.line rfl rfl (nlt rfl) rfl ?_
    refine j_aload_n hC dX4_addPiece_90 rfl ?_
    refine j_dup hC dX4_addPiece_91 rfl ?_
    refine j_get hC cfX4 dX4_addPiece_92 fX4_56 (by decide) (wst_s _ _ _) rfl ?_
    refine j_dup_x1 hC dX4_addPiece_95 rfl rfl ?_
    refine j_iconst hC (1) dX4_addPiece_96 (by decide) ?_
    refine j_iadd hC dX4_addPiece_97 ?_
    refine j_put (fs' := [_, _, _, _, _, _, _, _, _, _]) hC cfX4 dX4_addPiece_98 fX4_56 rfl (by decide) (wst_s _ _ _) rfl rfl (nlt rfl) rfl ?_
    rw [wst_wst]
    refine J.gen (P := fun w4 => SB K.2.1 w1 w4 O1 ad1 (z1.1, z1.2.1, z1.2.2) np1 (sPc S g l e)) (hS.putLine (sPc S g l e) z1.1 z1.2.1 (fun k hk => ?_) rfl ?_) (fun w4 hS4 => ?_)
    · unfold sPc; rw [uI_1n (fun q => hk (by rw [q]; decide)), uI_1n (fun q => hk (by rw [q]; decide))]
    · simp [sPc, uI_at, uI_1n]
    exact j_iret hC hR dX4_addPiece_101 rfl ⟨_, rfl, by rw [if_pos hok]; rfl, by rw [if_pos hok]; exact ⟨_, _, _, _, hS4.1, hF1.tr hS4.2, e0, sPc_n g l e hc hlt hle hzz⟩⟩
  refine j_aload_n hC dX4_addPiece_0 rfl ?_
  refine j_get hC cfX4 dX4_addPiece_1 fX4_59 (by decide) hS.1.line rfl ?_
  refine j_if_eq hC 16 dX4_addPiece_4 (by decide) (fun c_4 => ?_) (fun c_4 => ?_)
  · refine j_iconst hC (-1) dX4_addPiece_16 (by decide) ?_
    have hok : ¬ okP2 S := fun q => q.1 c_4
    exact j_iret hC hR dX4_addPiece_17 rfl ⟨_, rfl, by rw [if_neg hok], by rw [if_neg hok]; exact ⟨_, _, _, _, hS.1, hS.2, rfl, hnp⟩⟩
  · refine j_aload_n hC dX4_addPiece_7 rfl ?_
    refine j_get hC cfX4 dX4_addPiece_8 fX4_56 (by decide) hS.1.line rfl ?_
    refine j_bipush hC (10) dX4_addPiece_11 (by decide) ?_
    refine j_icmp_lt hC 18 dX4_addPiece_13 (by decide) (fun c_13 => ?_) (fun c_13 => ?_)
    · have hok : okP2 S := ⟨c_4, (full50 hc).mp c_13⟩
      refine j_aload_n hC dX4_addPiece_18 rfl ?_
      refine j_get hC cfX4 dX4_addPiece_19 fX4_56 (by decide) hS.1.line rfl ?_
      refine j_aload_n hC dX4_addPiece_22 rfl ?_
      refine j_get hC cfX4 dX4_addPiece_23 fX4_18 (by decide) hS.1.line rfl ?_
      obtain ⟨mc1, hl1⟩ := (hS.1.lst (j := 11) (by decide)).sz
      refine j_callv (kc' := 3) (ks' := 2233) (r := (RJx4a65c, TJx4a65c, 3)) hC (c_lsize K (hS.1.lst (j := 11) (by decide))) dX4_addPiece_26 wJx4a65c_size_8abf5 lX4_25 i_yJx4a65c_size_8abf5 s_yJx4a65c_size_8abf5 hl1 rfl rfl rfl (nle rfl) rfl (by decide) (by decide) (by decide) (kI fun r w' hp => ?_)
      obtain ⟨rfl, hw⟩ := hp
      rw [hw]
      clear hw w'
      refine J.toI (congrArg nI (vN_e11 _ np)) ?_
      refine j_icmp_lt hC 51 dX4_addPiece_29 (by decide) (fun c_29 => ?_) (fun c_29 => ?_)
      · exact tail _ _ _ _ _ _ _ hS.1 hS.2 rfl ((lt_of50 hc hnp.2.1).mp c_29) hnp.2.1 hnp.2.2 hok
      · have hnn : cn S 50 = np := by have q1 := hnp.1; have q2 := (not_congr (lt_of50 hc hnp.2.1)).mp c_29; omega
        have hn10 : np < 10 := by have := (lt_of50 hc (np := 10) (by omega)).mp c_13; omega
        refine j_aload_n hC dX4_addPiece_32 rfl ?_
        refine j_get hC cfX4 dX4_addPiece_33 fX4_18 (by decide) hS.1.line rfl ?_
        refine j_new (kc' := 2) (ks' := 2226) (fs := [.null, .int 0, .int 0, .int 0, .int 0, .int 0, .int 0]) hC cfX6 dX4_addPiece_36 kX4_62 ibX6 inX6 (fun j hj => by rcases (show j = 0 ∨ j = 1 ∨ j = 2 ∨ j = 3 ∨ j = 4 ∨ j = 5 ∨ j = 6 by omega) with rfl | rfl | rfl | rfl | rfl | rfl | rfl <;> rfl) (by decide) (by decide) (fun q36 hq36 => ?_)
        refine j_dup hC dX4_addPiece_39 rfl ?_
        refine j_aload_n hC dX4_addPiece_40 rfl ?_
        refine j_get hC cfX4 dX4_addPiece_41 fX4_56 (by decide) ((wst_n (ne_of hS.1.line hq36)).trans hS.1.line) rfl ?_
        refine J.toI (y := nI np) (by rw [← hnn]; exact hc.1) ?_
        refine j_calli (kc' := 1) (ks' := 60) hC (c_Piece0 K rfl hn10 hq36) dX4_addPiece_44 wX6_init lX4_64 i_yX6_init rfl rfl rfl (nle rfl) rfl (by decide) (by decide) (by decide) (kV fun w' hp => ?_)
        obtain ⟨rq, hr0, hqr, hw⟩ := hp
        rw [hw]
        clear hw w'
        have hq' : wst w rq (aJ K.2.1 ((40 * np + 1) * 6) (fun _ => 0)) q36 = none := (wst_n hqr).trans hq36
        obtain ⟨mc2, hl2⟩ := (hS.1.lst (j := 11) (by decide)).sz
        refine j_callv (kc' := 0) (ks' := 0) (r := (RJx4a65c, TJx4a65c, 3)) hC (c_add K (((hS.1.fresh hr0 _).fresh hq' _).lst (j := 11) (by decide)) (by rw [vN_e11]; omega) (hS.1.lq (by decide) hq36) (((hS.1.fresh hr0 _).fresh hq' _).hel (by decide)) (wst_s _ _ _) rfl (by decide)) dX4_addPiece_47 wJx4a65c_add_9ea2d lX4_42 i_yJx4a65c_add_9ea2d s_yJx4a65c_add_9ea2d (fresh_none hq' (fresh_none hr0 hl2)) rfl rfl rfl (nle rfl) rfl (by decide) (by decide) (by decide) (kI fun r w' hp => ?_)
        obtain ⟨rfl, e', hl', he', hf'⟩ := hp
        rw [vN_e11] at hl' he'
        obtain ⟨O2, ad2, z2, hA2, hF2, e0, e9⟩ := hS.1.gPc hW (fun f hf => hnp.2.2 f hf np (Nat.le_refl _)) hr0 hq36 hqr hl' he' hf'
        refine j_pop hC dX4_addPiece_50 rfl ?_
        rw [← e9]
        exact tail _ _ _ _ _ _ _ hA2 hF2 e0 (by omega) (by omega) (fun f hf i hi => hnp.2.2 f hf i (by omega)) hok
    · refine j_iconst hC (-1) dX4_addPiece_16 (by decide) ?_
      have hok : ¬ okP2 S := fun q => c_13 ((full50 hc).mpr q.2)
      exact j_iret hC hR dX4_addPiece_17 rfl ⟨_, rfl, by rw [if_neg hok], by rw [if_neg hok]; exact ⟨_, _, _, _, hS.1, hS.2, rfl, hnp⟩⟩

set_option maxRecDepth 100000 in
set_option maxHeartbeats 4000000 in
theorem c_piece (K : Kx) {w : Wd} {O : Nat → Prop} {ad : Nat → Nat → Nat} {z : Zx} {np : Nat} {S : Ast} (g l e : Int32) (hA : SA K.2.1 w O ad z np S) (hW : WSt S) (hnp : NP S np) (hc : CN S 50 10) : MT K mX9_piece 8 3 2233 [.ref (ad 0 0), .int g, .int l, .int e] w (PI fun r w' => r = (if okPc S g l e then S.1 50 0 else (-1)) ∧ CQ K.2.1 w O (ad 0 0) w' (if okPc S g l e then sPc S g l e else S)) := by
  refine MT.of [some (.ref (ad 0 0)), some (.int g), some (.int l), some (.int e)] (by decide) rfl (nle rfl) rfl ?_
  intro E hC hR
  have hS := SB.rf hA
  refine j_iload_n hC dX9_piece_0 rfl ?_
  refine j_calls (kc' := 3) (ks' := 2233) hC (c_isHeight K g) dX9_piece_1 wX9_isHeight lX9_63 t_yX9_isHeight rfl rfl (nle rfl) rfl (by decide) (by decide) (by decide) (kI fun r w' hp => ?_)
  obtain ⟨rfl, hw⟩ := hp
  rw [hw]
  clear hw w'
  refine j_if_eq hC 29 dX9_piece_4 (by decide) (fun c_4 => ?_) (fun c_4 => ?_)
  · refine j_iconst hC (-1) dX9_piece_29 (by decide) ?_
    have hok : ¬ okPc S g l e := fun q => by first | exact q.1 c_4 | exact q.2.1 c_4 | exact q.2.2.1 c_4 | exact q.2.2.2.1 c_4 | exact q.2.2.2.2.1 c_4 | exact q.2.2.2.2.2 c_4 | exact q.2.2 c_4 | exact q.2.2.2 c_4 | exact q.2.2.2.2 c_4 | exact q.2 c_4
    exact j_iret hC hR dX9_piece_30 rfl ⟨_, rfl, by rw [if_neg hok], by rw [if_neg hok]; exact ⟨_, _, _, _, hS.1, hS.2, rfl, hnp⟩⟩
  · refine j_iload_n hC dX9_piece_7 rfl ?_
    refine j_iconst hC (1) dX9_piece_8 (by decide) ?_
    refine j_sipush hC (10000) dX9_piece_9 (by decide) ?_
    refine j_calls (kc' := 3) (ks' := 2233) hC (c_isWithin K l 1 10000) dX9_piece_12 wX9_isWithin lX9_68 t_yX9_isWithin rfl rfl (nle rfl) rfl (by decide) (by decide) (by decide) (kI fun r w' hp => ?_)
    obtain ⟨rfl, hw⟩ := hp
    rw [hw]
    clear hw w'
    refine j_if_eq hC 29 dX9_piece_15 (by decide) (fun c_15 => ?_) (fun c_15 => ?_)
    · refine j_iconst hC (-1) dX9_piece_29 (by decide) ?_
      have hok : ¬ okPc S g l e := fun q => by first | exact q.1 c_15 | exact q.2.1 c_15 | exact q.2.2.1 c_15 | exact q.2.2.2.1 c_15 | exact q.2.2.2.2.1 c_15 | exact q.2.2.2.2.2 c_15 | exact q.2.2 c_15 | exact q.2.2.2 c_15 | exact q.2.2.2.2 c_15 | exact q.2 c_15
      exact j_iret hC hR dX9_piece_30 rfl ⟨_, rfl, by rw [if_neg hok], by rw [if_neg hok]; exact ⟨_, _, _, _, hS.1, hS.2, rfl, hnp⟩⟩
    · refine j_iload_n hC dX9_piece_18 rfl ?_
      refine j_iconst hC (0) dX9_piece_19 (by decide) ?_
      refine j_sipush hC (10000) dX9_piece_20 (by decide) ?_
      refine j_calls (kc' := 3) (ks' := 2233) hC (c_isWithin K e 0 10000) dX9_piece_23 wX9_isWithin lX9_68 t_yX9_isWithin rfl rfl (nle rfl) rfl (by decide) (by decide) (by decide) (kI fun r w' hp => ?_)
      obtain ⟨rfl, hw⟩ := hp
      rw [hw]
      clear hw w'
      refine j_if_ne hC 31 dX9_piece_26 (by decide) (fun c_26 => ?_) (fun c_26 => ?_)
      · refine j_aload_n hC dX9_piece_31 rfl ?_
        refine j_get hC cfX9 dX9_piece_32 fX9_42 (by decide) hS.1.x rfl ?_
        refine j_iload_n hC dX9_piece_35 rfl ?_
        refine j_iload_n hC dX9_piece_36 rfl ?_
        refine j_iload_n hC dX9_piece_37 rfl ?_
        refine j_callv (kc' := 0) (ks' := 0) (r := (RX4, TX4, 10)) hC (c_addPiece K g l e hS.1 hW hnp hc) dX9_piece_38 wX4_addPiece lX9_185 i_yX4_addPiece s_yX4_addPiece hS.1.line rfl rfl rfl (nle rfl) rfl (by decide) (by decide) (by decide) (kI fun r w' hp => ?_)
        obtain ⟨hr, hq⟩ := hp
        exact j_iret hC hR dX9_piece_41 rfl ⟨_, rfl, hr.trans (by by_cases q : okP2 S <;> by_cases q2 : okPc S g l e <;> first | rw [if_pos q, if_pos q2] | rw [if_neg q, if_neg q2] | exact absurd ⟨q.1, q.2, c_4, c_15, c_26⟩ q2 | exact absurd ⟨q2.1, q2.2.1⟩ q), if q2 : okPc S g l e then (by rw [if_pos q2]; rw [if_pos ⟨q2.1, q2.2.1⟩] at hq; exact hq) else (by rw [if_neg q2]; rw [if_neg (fun q => q2 ⟨q.1, q.2, c_4, c_15, c_26⟩)] at hq; exact hq)⟩
      · refine j_iconst hC (-1) dX9_piece_29 (by decide) ?_
        have hok : ¬ okPc S g l e := fun q => by first | exact q.1 c_26 | exact q.2.1 c_26 | exact q.2.2.1 c_26 | exact q.2.2.2.1 c_26 | exact q.2.2.2.2.1 c_26 | exact q.2.2.2.2.2 c_26 | exact q.2.2 c_26 | exact q.2.2.2 c_26 | exact q.2.2.2.2 c_26 | exact q.2 c_26
        exact j_iret hC hR dX9_piece_30 rfl ⟨_, rfl, by rw [if_neg hok], by rw [if_neg hok]; exact ⟨_, _, _, _, hS.1, hS.2, rfl, hnp⟩⟩

set_option maxRecDepth 100000 in
set_option maxHeartbeats 4000000 in
theorem c_tellLaid (K : Kx) {w : Wd} {O : Nat → Prop} {ad : Nat → Nat → Nat} {z : Zx} {np : Nat} {S : Ast} (k x : Int32) (hA : SA K.2.1 w O ad z np S) (hnp : NP S np) (hc : CN S 50 10) : MT K mX4_tellLaid 3 0 0 [.ref (ad 9 0), .int k, .int x] w (PI fun r w' => r = (if okLd S k x then rLd S k.toNatClampNeg x else (-1073741824)) ∧ w' = w) := by
  refine MT.of [some (.ref (ad 9 0)), some (.int k), some (.int x), none] (by decide) rfl (nle rfl) rfl ?_
  intro E hC hR
  have hS := SB.rf hA
  refine j_aload_n hC dX4_tellLaid_0 rfl ?_
  refine j_get hC cfX4 dX4_tellLaid_1 fX4_46 (by decide) hS.1.line rfl ?_
  refine j_if_eq hC 21 dX4_tellLaid_4 (by decide) (fun c_4 => ?_) (fun c_4 => ?_)
  · refine j_ldc hC dX4_tellLaid_21 nX4_103 ?_
    have hok : ¬ okLd S k x := fun q => q.1 c_4
    exact j_iret hC hR dX4_tellLaid_23 rfl ⟨_, rfl, by rw [if_neg hok], rfl⟩
  · refine j_iload_n hC dX4_tellLaid_7 rfl ?_
    refine j_iconst hC (0) dX4_tellLaid_8 (by decide) ?_
    refine j_aload_n hC dX4_tellLaid_9 rfl ?_
    refine j_get hC cfX4 dX4_tellLaid_10 fX4_56 (by decide) hS.1.line rfl ?_
    refine j_iconst hC (1) dX4_tellLaid_13 (by decide) ?_
    refine j_isub hC dX4_tellLaid_14 ?_
    refine j_callsN (kc' := 0) (ks' := 0) hC (c_isWithin K k 0 (S.1 50 0 - 1)) dX4_tellLaid_15 wX9_isWithin (fun U h => h.2.2.1) t_yX9_isWithin rfl rfl (nle rfl) rfl (by decide) (by decide) (by decide) (kI fun r w' hp => ?_)
    obtain ⟨rfl, hw⟩ := hp
    rw [hw]
    clear hw w'
    refine j_if_ne hC 24 dX4_tellLaid_18 (by decide) (fun c_18 => ?_) (fun c_18 => ?_)
    · obtain ⟨hk, hlt, hx⟩ := wI_ix hc.2 (by omega) (show ¬ wI k 0 (nI (cn S 50) - 1) = 0 by rw [← hc.1]; exact c_18)
      refine j_aload_n hC dX4_tellLaid_24 rfl ?_
      refine j_get hC cfX4 dX4_tellLaid_25 fX4_18 (by decide) hS.1.line rfl ?_
      refine j_iload_n hC dX4_tellLaid_28 rfl ?_
      refine J.toI hk ?_
      obtain ⟨mc1, hl1⟩ := (hS.1.lst (j := 11) (by decide)).sz
      refine j_callv (kc' := 0) (ks' := 0) (r := (RJx4a65c, TJx4a65c, 3)) hC (c_get K (hS.1.lst (j := 11) (by decide)) (by rw [vN_e11]; exact Nat.lt_of_lt_of_le hlt hnp.1)) dX4_tellLaid_29 wJx4a65c_get_915e3 lX4_29 i_yJx4a65c_get_915e3 s_yJx4a65c_get_915e3 hl1 rfl rfl rfl (nle rfl) rfl (by decide) (by decide) (by decide) (kA fun r w' hp => ?_)
      obtain ⟨rfl, hw⟩ := hp
      rw [hw]
      clear hw w'
      refine j_cast (r := (RX6, TX6, 7)) hC dX4_tellLaid_32 kX4_62 (hS.1.piece (Nat.lt_of_lt_of_le hlt hnp.1)) rfl ?_
      refine j_astore_n (lv' := [some _, some _, some _, some _]) hC dX4_tellLaid_35 (nlt rfl) rfl ?_
      refine j_iload_n hC dX4_tellLaid_36 rfl ?_
      rcases tab_cases x 3 (by omega) 2 (by decide) with h | ⟨j, hj, rfl⟩
      · refine j_tableOut hC 79 dX4_tellLaid_37 h (by decide) ?_
        refine j_ldc hC dX4_tellLaid_79 nX4_103 ?_
        exact j_iret hC hR dX4_tellLaid_81 rfl ⟨_, rfl, by rw [if_neg (fun q => q.2.2 (wI_out (by decide) h))], rfl⟩
      · rcases (show j = 0 ∨ j = 1 ∨ j = 2 by omega) with rfl | rfl | rfl
        · refine j_tableIn (off := 27) hC 64 dX4_tellLaid_37 (by decide) (by decide) (by decide) (by decide) ?_
          refine j_aload_n hC dX4_tellLaid_64 rfl ?_
          refine j_get hC cfX6 dX4_tellLaid_65 fX4_104 (by decide) (hS.1.piece (Nat.lt_of_lt_of_le hlt hnp.1)) rfl ?_
          exact j_iret hC hR dX4_tellLaid_68 rfl ⟨_, rfl, by rw [if_pos ⟨c_4, c_18, by decide⟩]; rfl, rfl⟩
        · refine j_tableIn (off := 32) hC 69 dX4_tellLaid_37 (by decide) (by decide) (by decide) (by decide) ?_
          refine j_aload_n hC dX4_tellLaid_69 rfl ?_
          refine j_get hC cfX6 dX4_tellLaid_70 fX4_107 (by decide) (hS.1.piece (Nat.lt_of_lt_of_le hlt hnp.1)) rfl ?_
          exact j_iret hC hR dX4_tellLaid_73 rfl ⟨_, rfl, by rw [if_pos ⟨c_4, c_18, by decide⟩]; rfl, rfl⟩
        · refine j_tableIn (off := 37) hC 74 dX4_tellLaid_37 (by decide) (by decide) (by decide) (by decide) ?_
          refine j_aload_n hC dX4_tellLaid_74 rfl ?_
          refine j_get hC cfX6 dX4_tellLaid_75 fX4_110 (by decide) (hS.1.piece (Nat.lt_of_lt_of_le hlt hnp.1)) rfl ?_
          exact j_iret hC hR dX4_tellLaid_78 rfl ⟨_, rfl, by rw [if_pos ⟨c_4, c_18, by decide⟩]; rfl, rfl⟩
    · refine j_ldc hC dX4_tellLaid_21 nX4_103 ?_
      have hok : ¬ okLd S k x := fun q => q.2.1 c_18
      exact j_iret hC hR dX4_tellLaid_23 rfl ⟨_, rfl, by rw [if_neg hok], rfl⟩

set_option maxRecDepth 100000 in
set_option maxHeartbeats 4000000 in
theorem c_laid (K : Kx) {w : Wd} {O : Nat → Prop} {ad : Nat → Nat → Nat} {z : Zx} {np : Nat} {S : Ast} (k x : Int32) (hA : SA K.2.1 w O ad z np S) (hnp : NP S np) (hc : CN S 50 10) : MT K mX9_laid 4 0 0 [.ref (ad 0 0), .int k, .int x] w (PI fun r w' => r = (if okLd S k x then rLd S k.toNatClampNeg x else (-1073741824)) ∧ w' = w) := by
  refine MT.of [some (.ref (ad 0 0)), some (.int k), some (.int x)] (by decide) rfl (nle rfl) rfl ?_
  intro E hC hR
  have hS := SB.rf hA
  refine j_aload_n hC dX9_laid_0 rfl ?_
  refine j_get hC cfX9 dX9_laid_1 fX9_42 (by decide) hS.1.x rfl ?_
  refine j_iload_n hC dX9_laid_4 rfl ?_
  refine j_iload_n hC dX9_laid_5 rfl ?_
  refine j_callv (kc' := 0) (ks' := 0) (r := (RX4, TX4, 10)) hC (c_tellLaid K k x hS.1 hnp hc) dX9_laid_6 wX4_tellLaid lX9_193 i_yX4_tellLaid s_yX4_tellLaid hS.1.line rfl rfl rfl (nle rfl) rfl (by decide) (by decide) (by decide) (kI fun r w' hp => ?_)
  obtain ⟨rfl, hw⟩ := hp
  rw [hw]
  clear hw w'
  exact j_iret hC hR dX9_laid_9 rfl ⟨_, rfl, rfl, rfl⟩

