
theorem wh.one {g : Gx} {w : Wd} {H : Heap} (h : wh g w H) {a : Nat} {e : va_E} (ha : w a = some e) : va_P g.1 vwCl [(a, e)] H := by
  intro k q hk
  match k, hk with
  | 0, hk => cases hk; exact h a e ha
  | k + 1, hk => simp at hk
/-- a class of the worlds: its place, its table, its words -/
def CF (ci : Nat) (C : String) (T : u_T) (N : Nat) (ty : Nat → FieldType) : Prop := vwCl[ci]? = some (C, T, N) ∧ (∀ w ∈ u_ws C T N, w ∈ gtbl) ∧ (∀ k, k < N → parseFieldDescriptor (T k).2.2.1 = some (ty k)) ∧ (∀ a, a < N → ∀ b, b < N → a ≠ b → (T a).2.1 ≠ (T b).2.1)
def NM (nm : String) (E : Ex) : Prop := match E with
  | (_, _, _, _, _, _, _, meth, _, _) => meth.name = nm
theorem RX.nm {K : Kx} {M : Mx} {mc ms : Nat} {Post : Option Value → Wd → Prop} {E : Ex} (h : RX K M mc ms Post E) : NM M.1.name E := by
  obtain ⟨p, e, R, s, m, args, below, meth, c, Q⟩ := E
  exact h.2.2.2.2
/-- an index that is the number k, in range -/
def ix (i : Int32) (n k : Nat) : Prop := vp_in i n ∧ i.toNatClampNeg = k
theorem ix_nI {n k : Nat} (h : k < n) (hn : n < 2 ^ 31) : ix (nI k) n k := ⟨vp_in_nI h hn, nI_clamp (by omega)⟩
theorem va_S.newer {B : Nat} {H0 H H1 : Heap} {locs : List Loc} (h : va_S (fun q : Nat => B ≤ q) H0 H locs) (z : H.size ≤ H1.size) (oq : ∀ q : Nat, q < H.size → H1[q]? = H[q]?) : va_S (fun q : Nat => B ≤ q) H0 H1 locs :=
  ⟨Nat.le_trans h.1 z, fun q h1 h2 => (oq q (Nat.lt_of_lt_of_le h1 h.1)).trans (h.2.1 q h1 h2), h.2.2⟩
section JH
variable {K : Kx} {own : String} {cc : ByteArray} {nL d : Nat} {E : Ex} {kc ks : Nat} {w : Wd} {pc : Nat} {lv : List (Option Value)} {st : List Value} {ci k idx a : Nat} {C : String} {T : u_T} {N : Nat} {ty : Nat → FieldType} {fs fs' : List Value} {v : Value}

theorem j_get (hC : BX K own cc nL d E) (hcf : CF ci C T N ty) (hd : decode cc pc = .ok (.getfield idx, 3)) (hfl : Cond.fieldLink own idx (T k).1 (T k).2.1 (T k).2.2.1 ∈ gtbl) (hk : k < N) (hw : w a = some (.inr (ci, fs))) (hv : fs[k]? = some v) (kk : J K cc E kc ks w (pc + 3) lv (v :: st)) : J K cc E kc ks w pc lv (.ref a :: st) := by
  obtain ⟨p, e, R, s, m, args, below, meth, c, Q⟩ := E
  obtain ⟨hx, hb, hml, hown, hts, hK, hSt, hlk, hfr, hlo, hBs⟩ := hC
  intro H locs cells slots ls h1 h2 h3 h4 h5 h6
  exact va_get (D := K.2.1.1) (ws := [(a, .inr (ci, fs))]) hx hb hts hcf.2.1 hown hK (h3.one hw) 0 rfl hcf.1 k hk (hts _ hfl) (fun _ h9 => h9) hv hd (kk H locs cells slots ls h1 h2 h3 h4 h5 h6)
theorem j_getR (hC : BX K own cc nL d E) (hcf : CF ci C T N ty) (hd : decode cc pc = .ok (.getfield idx, 3)) {ref : String} (hfl : Cond.fieldLink own idx ref (T k).2.1 (T k).2.2.1 ∈ gtbl) (hsm : Cond.sameField ref (T k).1 (T k).2.1 (T k).2.2.1 ∈ gtbl) (hk : k < N) (hw : w a = some (.inr (ci, fs))) (hv : fs[k]? = some v) (kk : J K cc E kc ks w (pc + 3) lv (v :: st)) : J K cc E kc ks w pc lv (.ref a :: st) := by
  obtain ⟨p, e, R, s, m, args, below, meth, c, Q⟩ := E
  obtain ⟨hx, hb, hml, hown, hts, hK, hSt, hlk, hfr, hlo, hBs⟩ := hC
  intro H locs cells slots ls h1 h2 h3 h4 h5 h6
  exact va_get (D := K.2.1.1) (ws := [(a, .inr (ci, fs))]) hx hb hts hcf.2.1 hown hK (h3.one hw) 0 rfl hcf.1 k hk (hts _ hfl) (u_same (hts _ hsm)) hv hd (kk H locs cells slots ls h1 h2 h3 h4 h5 h6)
theorem j_put (hC : BX K own cc nL d E) (hcf : CF ci C T N ty) (hd : decode cc pc = .ok (.putfield idx, 3)) (hfl : Cond.fieldLink own idx (T k).1 (T k).2.1 (T k).2.2.1 ∈ gtbl) (hfin : (T k).2.2.2 = false) (hk : k < N) (hw : w a = some (.inr (ci, fs))) (hn : narrow (ty k) v = v) (hfit : fits (ty k) v = true) (hlt : k < fs.length) (hl : fs.set k v = fs') (kk : J K cc E kc ks (wst w a (.inr (ci, fs'))) (pc + 3) lv st) : J K cc E kc ks w pc lv (v :: .ref a :: st) := by
  subst hl
  obtain ⟨p, e, R, s, m, args, below, meth, c, Q⟩ := E
  obtain ⟨hx, hb, hml, hown, hts, hK, hSt, hlk, hfr, hlo, hBs⟩ := hC
  intro H locs cells slots ls h1 h2 h3 h4 h5 h6
  have hap := va_apart (own := own) hts hcf.2.1 ty hcf.2.2.1 hcf.2.2.2 hK hcf.1
  obtain ⟨r, g1, cell, q1, q2, q3, q4⟩ := h3 a _ hw
  have hr : r = (C, T, N) := Option.some.inj (g1.symm.trans hcf.1)
  subst hr
  obtain ⟨hS, hfc, kC, hkC, hkind⟩ := hK.1 ci _ hcf.1
  obtain ⟨cf, kf, fi, f, hi, hsl⟩ := hS k hk
  have hlay := hts _ (hcf.2.1 _ (u_in_lay hk))
  unfold u_lay at hlay
  rw [if_neg (by rw [hfin]; decide)] at hlay
  have hst := (u_facts hfc hkC (u_lays hts hcf.2.1 hk) hi).1
  have h6x := u_store hfc hkC hkind hlay hi (hcf.2.2.1 k hk) hn hfit
  refine W.putK hx hb (f := f) ⟨hown, hts _ hfl, ⟨_, _, _, hi⟩, hst⟩ (by rw [q2]; exact h6x) q1 q3 (by rw [hsl]; exact k2_hasslot (q4 k hk)) rfl rfl hd fun H' e1 e2 e3 => ?_
  rw [hsl] at e1 ⊢
  refine kk H' _ cells slots ls h1 h2 (h3.set ⟨_, hcf.1, t_OB.to (V := updV (vp_V fs) k v) ⟨_, e1, q2, q3, t_set q4 hap hk v⟩ (fun j _ => vp_updV_set hlt v j)⟩ e3) (h4.set (h4 a _ hw)) (h5.put e2 e3 (h4 a _ hw)) h6
theorem j_putR (hC : BX K own cc nL d E) (hcf : CF ci C T N ty) (hd : decode cc pc = .ok (.putfield idx, 3)) {ref : String} (hfl : Cond.fieldLink own idx ref (T k).2.1 (T k).2.2.1 ∈ gtbl) (hsm : Cond.sameField ref (T k).1 (T k).2.1 (T k).2.2.1 ∈ gtbl) (hfin : (T k).2.2.2 = false) (hk : k < N) (hw : w a = some (.inr (ci, fs))) (hn : narrow (ty k) v = v) (hfit : fits (ty k) v = true) (hlt : k < fs.length) (hl : fs.set k v = fs') (kk : J K cc E kc ks (wst w a (.inr (ci, fs'))) (pc + 3) lv st) : J K cc E kc ks w pc lv (v :: .ref a :: st) := by
  subst hl
  obtain ⟨p, e, R, s, m, args, below, meth, c, Q⟩ := E
  obtain ⟨hx, hb, hml, hown, hts, hK, hSt, hlk, hfr, hlo, hBs⟩ := hC
  intro H locs cells slots ls h1 h2 h3 h4 h5 h6
  have hap := va_apart (own := own) hts hcf.2.1 ty hcf.2.2.1 hcf.2.2.2 hK hcf.1
  obtain ⟨r, g1, cell, q1, q2, q3, q4⟩ := h3 a _ hw
  have hr : r = (C, T, N) := Option.some.inj (g1.symm.trans hcf.1)
  subst hr
  obtain ⟨hS, hfc, kC, hkC, hkind⟩ := hK.1 ci _ hcf.1
  obtain ⟨cf, kf, fi, f, hi, hsl⟩ := hS k hk
  have hlay := hts _ (hcf.2.1 _ (u_in_lay hk))
  unfold u_lay at hlay
  rw [if_neg (by rw [hfin]; decide)] at hlay
  have hst := (u_facts hfc hkC (u_lays hts hcf.2.1 hk) hi).1
  have h6x := u_store hfc hkC hkind hlay hi (hcf.2.2.1 k hk) hn hfit
  refine W.putK hx hb (f := f) ⟨hown, hts _ hfl, ⟨_, _, _, u_same (hts _ hsm) _ hi⟩, hst⟩ (by rw [q2]; exact h6x) q1 q3 (by rw [hsl]; exact k2_hasslot (q4 k hk)) rfl rfl hd fun H' e1 e2 e3 => ?_
  rw [hsl] at e1 ⊢
  refine kk H' _ cells slots ls h1 h2 (h3.set ⟨_, hcf.1, t_OB.to (V := updV (vp_V fs) k v) ⟨_, e1, q2, q3, t_set q4 hap hk v⟩ (fun j _ => vp_updV_set hlt v j)⟩ e3) (h4.set (h4 a _ hw)) (h5.put e2 e3 (h4 a _ hw)) h6
theorem j_putF (hC : BX K own cc nL d E) (hcf : CF ci C T N ty) (hd : decode cc pc = .ok (.putfield idx, 3)) (hnm : NM "<init>" E) (hfl : Cond.fieldLink own idx (T k).1 (T k).2.1 (T k).2.2.1 ∈ gtbl) (hfin : (T k).2.2.2 = true) (hdecl : (T k).1 = own) (hk : k < N) (hw : w a = some (.inr (ci, fs))) (hn : narrow (ty k) v = v) (hfit : fits (ty k) v = true) (hlt : k < fs.length) (hl : fs.set k v = fs') (kk : J K cc E kc ks (wst w a (.inr (ci, fs'))) (pc + 3) lv st) : J K cc E kc ks w pc lv (v :: .ref a :: st) := by
  subst hl
  obtain ⟨p, e, R, s, m, args, below, meth, c, Q⟩ := E
  obtain ⟨hx, hb, hml, hown, hts, hK, hSt, hlk, hfr, hlo, hBs⟩ := hC
  intro H locs cells slots ls h1 h2 h3 h4 h5 h6
  have hap := va_apart (own := own) hts hcf.2.1 ty hcf.2.2.1 hcf.2.2.2 hK hcf.1
  obtain ⟨r, g1, cell, q1, q2, q3, q4⟩ := h3 a _ hw
  have hr : r = (C, T, N) := Option.some.inj (g1.symm.trans hcf.1)
  subst hr
  obtain ⟨hS, hfc, kC, hkC, hkind⟩ := hK.1 ci _ hcf.1
  obtain ⟨cf, kf, fi, f, hi, hsl⟩ := hS k hk
  have hlay := hts _ (hcf.2.1 _ (u_in_lay hk))
  unfold u_lay at hlay
  rw [if_pos hfin] at hlay
  have hst := (u_facts hfc hkC (u_lays hts hcf.2.1 hk) hi).1
  have hcf2 : m.cls = cf := by
    obtain ⟨_, _, c', _, _, _, -, -, hf', -, -, -, hown2, -⟩ := Cond.laysFinal_spec hlay
    have e1 : c' = cf := by have := hi.symm.trans hf'; simp at this; exact this.1.symm
    rw [hdecl] at hown2
    rw [← e1]; exact Option.some.inj (hown.symm.trans hown2)
  have h6x := u_fits hfc hkC hkind (Or.inr hlay) hi (hcf.2.2.1 k hk) hn hfit
  refine W.putFinK hx hb hown (hts _ hfl) hi hst hcf2 hnm (by rw [q2]; exact h6x) q1 q3 (by rw [hsl]; exact k2_hasslot (q4 k hk)) rfl rfl hd fun H' e1 e2 e3 => ?_
  rw [hsl] at e1 ⊢
  refine kk H' _ cells slots ls h1 h2 (h3.set ⟨_, hcf.1, t_OB.to (V := updV (vp_V fs) k v) ⟨_, e1, q2, q3, t_set q4 hap hk v⟩ (fun j _ => vp_updV_set hlt v j)⟩ e3) (h4.set (h4 a _ hw)) (h5.put e2 e3 (h4 a _ hw)) h6
theorem j_aldI (hC : BX K own cc nL d E) {n : Nat} {f : Nat → Int32} {i : Int32} (hd : decode cc pc = .ok (.iaload, 1)) (hw : w a = some (aI K.2.1 n f)) (hi : ix i n k) (kk : J K cc E kc ks w (pc + 1) lv (.int (f k) :: st)) : J K cc E kc ks w pc lv (.int i :: .ref a :: st) := by
  obtain ⟨p, e, R, s, m, args, below, meth, c, Q⟩ := E
  obtain ⟨hx, hb, hml, hown, hts, hK, hSt, hlk, hfr, hlo, hBs⟩ := hC
  intro H locs cells slots ls h1 h2 h3 h4 h5 h6
  obtain ⟨hin, rfl⟩ := hi
  exact va_iald (D := K.2.1.1) (ws := [(a, aI K.2.1 n f)]) hx hb hK (h3.one hw) 0 0 rfl rfl hin hd (kk H locs cells slots ls h1 h2 h3 h4 h5 h6)
theorem j_aldJ (hC : BX K own cc nL d E) {n : Nat} {f : Nat → Int64} {i : Int32} (hd : decode cc pc = .ok (.laload, 1)) (hw : w a = some (aJ K.2.1 n f)) (hi : ix i n k) (kk : J K cc E kc ks w (pc + 1) lv (.long (f k) :: st)) : J K cc E kc ks w pc lv (.int i :: .ref a :: st) := by
  obtain ⟨p, e, R, s, m, args, below, meth, c, Q⟩ := E
  obtain ⟨hx, hb, hml, hown, hts, hK, hSt, hlk, hfr, hlo, hBs⟩ := hC
  intro H locs cells slots ls h1 h2 h3 h4 h5 h6
  obtain ⟨hin, rfl⟩ := hi
  exact va_lald (D := K.2.1.1) (ws := [(a, aJ K.2.1 n f)]) hx hb hK (h3.one hw) 0 1 rfl rfl hin hd (kk H locs cells slots ls h1 h2 h3 h4 h5 h6)
theorem j_aldZ (hC : BX K own cc nL d E) {n : Nat} {f : Nat → Int32} {i : Int32} (hd : decode cc pc = .ok (.baload, 1)) (hw : w a = some (aZ K.2.1 n f)) (hi : ix i n k) (kk : J K cc E kc ks w (pc + 1) lv (.int (f k) :: st)) : J K cc E kc ks w pc lv (.int i :: .ref a :: st) := by
  obtain ⟨p, e, R, s, m, args, below, meth, c, Q⟩ := E
  obtain ⟨hx, hb, hml, hown, hts, hK, hSt, hlk, hfr, hlo, hBs⟩ := hC
  intro H locs cells slots ls h1 h2 h3 h4 h5 h6
  obtain ⟨hin, rfl⟩ := hi
  exact va_zald (D := K.2.1.1) (ws := [(a, aZ K.2.1 n f)]) hx hb hK (h3.one hw) 0 2 rfl rfl hin hd (kk H locs cells slots ls h1 h2 h3 h4 h5 h6)
theorem j_astI (hC : BX K own cc nL d E) {n : Nat} {f : Nat → Int32} {i : Int32} {x : Int32} (hd : decode cc pc = .ok (.iastore, 1)) (hw : w a = some (aI K.2.1 n f)) (hi : ix i n k) (kk : J K cc E kc ks (wst w a (aI K.2.1 n (va_up f k x))) (pc + 1) lv st) : J K cc E kc ks w pc lv (.int x :: .int i :: .ref a :: st) := by
  obtain ⟨p, e, R, s, m, args, below, meth, c, Q⟩ := E
  obtain ⟨hx, hb, hml, hown, hts, hK, hSt, hlk, hfr, hlo, hBs⟩ := hC
  intro H locs cells slots ls h1 h2 h3 h4 h5 h6
  obtain ⟨hin, rfl⟩ := hi
  refine W.iast hx hb (h3 a _ hw) ((hK.2 0 _ rfl).1 n (fun j => .int (f j))) (fun q => by cases q) (by show ¬ (i < 0 ∨ (arrV _ _ _).slots.size ≤ _); rw [arrV_size]; exact hin) rfl rfl hd fun H' e z oq => ?_
  refine kk H' _ cells slots ls h1 h2 (h3.set ?_ oq) (h4.set (h4 a _ hw)) (h5.put z oq (h4 a _ hw)) h6
  show H'[a]? = some (vp_cell _ _)
  rw [e]
  rw [vp_cell_i, vp_cell_i, arrV_store]
  congr 2
  funext q
  by_cases hq : q = i.toNatClampNeg
  · subst hq
    simp [updV, va_up]
  · simp [updV, va_up, hq]
theorem j_astJ (hC : BX K own cc nL d E) {n : Nat} {f : Nat → Int64} {i : Int32} {x : Int64} (hd : decode cc pc = .ok (.lastore, 1)) (hw : w a = some (aJ K.2.1 n f)) (hi : ix i n k) (kk : J K cc E kc ks (wst w a (aJ K.2.1 n (va_up f k x))) (pc + 1) lv st) : J K cc E kc ks w pc lv (.long x :: .int i :: .ref a :: st) := by
  obtain ⟨p, e, R, s, m, args, below, meth, c, Q⟩ := E
  obtain ⟨hx, hb, hml, hown, hts, hK, hSt, hlk, hfr, hlo, hBs⟩ := hC
  intro H locs cells slots ls h1 h2 h3 h4 h5 h6
  obtain ⟨hin, rfl⟩ := hi
  refine W.last hx hb (h3 a _ hw) ((hK.2 1 _ rfl).1 n (fun j => .long (f j))) (fun q => by cases q) (by show ¬ (i < 0 ∨ (arrV _ _ _).slots.size ≤ _); rw [arrV_size]; exact hin) rfl rfl hd fun H' e z oq => ?_
  refine kk H' _ cells slots ls h1 h2 (h3.set ?_ oq) (h4.set (h4 a _ hw)) (h5.put z oq (h4 a _ hw)) h6
  show H'[a]? = some (vp_cell _ _)
  rw [e]
  rw [vp_cell_l, vp_cell_l, arrV_store]
  congr 2
  funext q
  by_cases hq : q = i.toNatClampNeg
  · subst hq
    simp [updV, va_up]
  · simp [updV, va_up, hq]
theorem j_astZ (hC : BX K own cc nL d E) {n : Nat} {f : Nat → Int32} {i : Int32} {x : Int32} (hd : decode cc pc = .ok (.bastore, 1)) (hw : w a = some (aZ K.2.1 n f)) (hi : ix i n k) (hnz : narrow .boolean (.int x) = .int x) (kk : J K cc E kc ks (wst w a (aZ K.2.1 n (va_up f k x))) (pc + 1) lv st) : J K cc E kc ks w pc lv (.int x :: .int i :: .ref a :: st) := by
  obtain ⟨p, e, R, s, m, args, below, meth, c, Q⟩ := E
  obtain ⟨hx, hb, hml, hown, hts, hK, hSt, hlk, hfr, hlo, hBs⟩ := hC
  intro H locs cells slots ls h1 h2 h3 h4 h5 h6
  obtain ⟨hin, rfl⟩ := hi
  refine W.zast hx hb (h3 a _ hw) ((hK.2 2 _ rfl).1 n (fun j => .int (f j))) (fun q => by cases q) (by show ¬ (i < 0 ∨ (arrV _ _ _).slots.size ≤ _); rw [arrV_size]; exact hin) rfl rfl hd fun H' e z oq => ?_
  rw [hnz] at e
  refine kk H' _ cells slots ls h1 h2 (h3.set ?_ oq) (h4.set (h4 a _ hw)) (h5.put z oq (h4 a _ hw)) h6
  show H'[a]? = some (vp_cell _ _)
  rw [e]
  rw [vp_cell_i, vp_cell_i, arrV_store]
  congr 2
  funext q
  by_cases hq : q = i.toNatClampNeg
  · subst hq
    simp [updV, va_up]
  · simp [updV, va_up, hq]
theorem j_aldO (hC : BX K own cc nL d E) {n : Nat} {f : Nat → Option Nat} {i : Int32} {b : Nat} (hd : decode cc pc = .ok (.aaload, 1)) (hw : w a = some (aO K.2.1 n f)) (hi : ix i n k) (hf : f k = some b) (kk : J K cc E kc ks w (pc + 1) lv (.ref b :: st)) : J K cc E kc ks w pc lv (.int i :: .ref a :: st) := by
  obtain ⟨p, e, R, s, m, args, below, meth, c, Q⟩ := E
  obtain ⟨hx, hb, hml, hown, hts, hK, hSt, hlk, hfr, hlo, hBs⟩ := hC
  intro H locs cells slots ls h1 h2 h3 h4 h5 h6
  obtain ⟨hin, rfl⟩ := hi
  refine va_aldq (D := K.2.1.1) (ws := [(a, aO K.2.1 n f)]) (C := "java/lang/Object") hx hb hK (h3.one hw) 0 3 rfl rfl hin hd ?_
  rw [hf]
  exact kk H locs cells slots ls h1 h2 h3 h4 h5 h6
theorem wh.any {g : Gx} {s : State} {H : Heap} {w : Wd} {b : Nat} {r : vw_C} (hK : va_K g.1 vwCl (tysG g) s) (hX : XW s) (h3 : wh g w H) (hw : w b = some (.inr (ci, fs))) (hc : vwCl[ci]? = some r) (hcast : r.1 ∈ ([RX0, RX1, RX2, RX3, RX5, RX6, RX7, RX8] : List String)) : va_Any "java/lang/Object" s H b := by
  refine va_rAny (D := g.1) (ws := [(b, .inr (ci, fs))]) (q0 := 0) hK (h3.one hw) rfl hc ?_
  intro comp c0 f1 f2
  obtain ⟨c1, t1, g1, g2, g3⟩ := Cond.castable_spec (va_Nw.use (A := #[]) rfl (hX.1 _ hcast))
  cases f2.symm.trans g1
  cases f1.symm.trans g2
  exact g3
theorem j_astO (hC : BX K own cc nL d E) {n : Nat} {f : Nat → Option Nat} {i : Int32} {b : Nat} {r : vw_C} (hd : decode cc pc = .ok (.aastore, 1)) (hw : w a = some (aO K.2.1 n f)) (hi : ix i n k) (hwb : w b = some (.inr (ci, fs))) (hc : vwCl[ci]? = some r) (hcast : r.1 ∈ ([RX0, RX1, RX2, RX3, RX5, RX6, RX7, RX8] : List String)) (kk : J K cc E kc ks (wst w a (aO K.2.1 n (va_up f k (some b)))) (pc + 1) lv st) : J K cc E kc ks w pc lv (.ref b :: .int i :: .ref a :: st) := by
  obtain ⟨p, e, R, s, m, args, below, meth, c, Q⟩ := E
  obtain ⟨hx, hb, hml, hown, hts, hK, hSt, hlk, hfr, hlo, hBs⟩ := hC
  intro H locs cells slots ls h1 h2 h3 h4 h5 h6
  obtain ⟨hin, rfl⟩ := hi
  have hlt : i.toNatClampNeg < n := Nat.not_le.mp fun q => hin (Or.inr q)
  have h0 : ¬ i < 0 := fun q => hin (Or.inl q)
  obtain ⟨cellV, g1, g3, ⟨kC, hkC⟩, hasg⟩ := h3.any hK hSt.1 hwb hc hcast
  obtain ⟨kA, comp, k1, k2, k3, -⟩ := (hK.2 3 _ rfl).2
  obtain ⟨kE, hkE, -⟩ := Vm.findClass_spec k3
  refine W.aast hx hb (h3 a _ hw) (fun q h => by cases h) (fun h => by cases h) k1 k2 rfl hkE ⟨h0, by show _ < (arrV _ _ _).slots.size; rw [arrV_size]; exact hlt⟩ g1 (fun q h => by rw [h] at g3; cases g3) hkC (hasg _ k3) rfl rfl hd fun H' e z oq => ?_
  refine kk H' _ cells slots ls h1 h2 (h3.set ?_ oq) (h4.set (h4 a _ hw)) (h5.put z oq (h4 a _ hw)) h6
  show H'[a]? = some (vp_cell _ _)
  rw [e]
  rw [vp_cell_q, vp_cell_q, arrV_store]
  congr 2
  funext q
  by_cases hq : q = i.toNatClampNeg
  · subst hq
    simp [updV, va_up, va_rf]
  · simp [updV, va_up, hq]
theorem j_alenO (hC : BX K own cc nL d E) {n : Nat} {f : Nat → Option Nat} (hd : decode cc pc = .ok (.arraylength, 1)) (hw : w a = some (aO K.2.1 n f)) (kk : J K cc E kc ks w (pc + 1) lv (.int (nI n) :: st)) : J K cc E kc ks w pc lv (.ref a :: st) := by
  obtain ⟨p, e, R, s, m, args, below, meth, c, Q⟩ := E
  obtain ⟨hx, hb, hml, hown, hts, hK, hSt, hlk, hfr, hlo, hBs⟩ := hC
  intro H locs cells slots ls h1 h2 h3 h4 h5 h6
  exact va_alen (D := K.2.1.1) (ws := [(a, aO K.2.1 n f)]) hx hb hK (h3.one hw) 0 3 rfl rfl rfl hd (kk H locs cells slots ls h1 h2 h3 h4 h5 h6)
theorem j_new (hC : BX K own cc nL d E) (hcf : CF ci C T N ty) {kc' ks' : Nat} (hd : decode cc pc = .ok (.new idx, 3)) (hcl : Cond.classLink own idx C ∈ gtbl) (hin : Cond.instantiable C N ∈ gtbl) (hini : Cond.initialized C ∈ gtbl) (hfs : ∀ j, j < N → defaultValue (ty j) = vp_V fs j) (hkc : kc' + 1 ≤ kc) (hks : ks' + N ≤ ks) (kk : ∀ q : Nat, w q = none → J K cc E kc' ks' (wst w q (.inr (ci, fs))) (pc + 3) lv (.ref q :: st)) : J K cc E kc ks w pc lv st := by
  obtain ⟨p, e, R, s, m, args, below, meth, c, Q⟩ := E
  obtain ⟨hx, hb, hml, hown, hts, hK, hSt, hlk, hfr, hlo, hBs⟩ := hC
  intro H locs cells slots ls h1 h2 h3 h4 h5 h6
  have hKn := hK.1 ci _ hcf.1
  refine W.newcK hx hb hown (hts _ hcl) (hts _ hin) (hts _ hini) rfl hd (by omega) (by omega) hKn.2.1 rfl fun H1 kC hkC e1 z1 o1 => ?_
  have hsz : K.2.2 ≤ H.size := Nat.le_trans hBs h5.1
  refine kk H.size (h3.fresh (Nat.le_refl _)) H1 locs (cells + 1) (slots + N) ls (by omega) (by omega) (h3.push rfl ⟨_, hcf.1, (u_born ty hts hcf.2.1 hKn hkC e1 hcf.2.2.1).to hfs⟩ o1) (h4.set hsz) (h5.newer (by omega) o1) h6
theorem j_newI (hC : BX K own cc nL d E) {n : Int32} {n' : Nat} {kc' ks' : Nat} (hd : decode cc pc = .ok (.newarray .int, 2)) (hcl : Cond.arrayClass .int ∈ gtbl) (hn : ¬ n < 0) (hN : n.toNatClampNeg = n') (hby : n' ≤ 67108864) (hkc : kc' + 1 ≤ kc) (hks : ks' + n' ≤ ks) (kk : ∀ q : Nat, w q = none → J K cc E kc' ks' (wst w q (aI K.2.1 n' (fun _ => 0))) (pc + 2) lv (.ref q :: st)) : J K cc E kc ks w pc lv (.int n :: st) := by
  obtain ⟨p, e, R, s, m, args, below, meth, c, Q⟩ := E
  obtain ⟨hx, hb, hml, hown, hts, hK, hSt, hlk, hfr, hlo, hBs⟩ := hC
  intro H locs cells slots ls h1 h2 h3 h4 h5 h6
  have hA : s.vm.findClass ("[" ++ (.int : FieldType).toString) = some K.2.1.2.1 := (hK.2 0 _ rfl).2
  refine va_newaK hx hb (atype := .int) (hts _ hcl) rfl hd rfl hn hN (by show n' * 4 ≤ _; omega) (by omega) (by omega) rfl fun H1 cA e1 z1 o1 hAr hNm => ?_
  have hcA : cA = K.2.1.2.1 := Option.some.inj (hNm.symm.trans hA)
  subst hcA
  have hsz : K.2.2 ≤ H.size := Nat.le_trans hBs h5.1
  refine kk H.size (h3.fresh (Nat.le_refl _)) H1 locs (cells + 1) (slots + n') ls (by omega) (by omega) (h3.push rfl ?_ o1) (h4.set hsz) (h5.newer (by omega) o1) h6
  show H1[H.size]? = some (vp_cell _ _)
  rw [vp_cell_i]
  exact e1
theorem j_newJ (hC : BX K own cc nL d E) {n : Int32} {n' : Nat} {kc' ks' : Nat} (hd : decode cc pc = .ok (.newarray .long, 2)) (hcl : Cond.arrayClass .long ∈ gtbl) (hn : ¬ n < 0) (hN : n.toNatClampNeg = n') (hby : n' ≤ 67108864) (hkc : kc' + 1 ≤ kc) (hks : ks' + n' ≤ ks) (kk : ∀ q : Nat, w q = none → J K cc E kc' ks' (wst w q (aJ K.2.1 n' (fun _ => 0))) (pc + 2) lv (.ref q :: st)) : J K cc E kc ks w pc lv (.int n :: st) := by
  obtain ⟨p, e, R, s, m, args, below, meth, c, Q⟩ := E
  obtain ⟨hx, hb, hml, hown, hts, hK, hSt, hlk, hfr, hlo, hBs⟩ := hC
  intro H locs cells slots ls h1 h2 h3 h4 h5 h6
  have hA : s.vm.findClass ("[" ++ (.long : FieldType).toString) = some K.2.1.2.2.1 := (hK.2 1 _ rfl).2
  refine va_newaK hx hb (atype := .long) (hts _ hcl) rfl hd rfl hn hN (by show n' * 8 ≤ _; omega) (by omega) (by omega) rfl fun H1 cA e1 z1 o1 hAr hNm => ?_
  have hcA : cA = K.2.1.2.2.1 := Option.some.inj (hNm.symm.trans hA)
  subst hcA
  have hsz : K.2.2 ≤ H.size := Nat.le_trans hBs h5.1
  refine kk H.size (h3.fresh (Nat.le_refl _)) H1 locs (cells + 1) (slots + n') ls (by omega) (by omega) (h3.push rfl ?_ o1) (h4.set hsz) (h5.newer (by omega) o1) h6
  show H1[H.size]? = some (vp_cell _ _)
  rw [vp_cell_l]
  exact e1
theorem j_newZ (hC : BX K own cc nL d E) {n : Int32} {n' : Nat} {kc' ks' : Nat} (hd : decode cc pc = .ok (.newarray .boolean, 2)) (hcl : Cond.arrayClass .boolean ∈ gtbl) (hn : ¬ n < 0) (hN : n.toNatClampNeg = n') (hby : n' ≤ 67108864) (hkc : kc' + 1 ≤ kc) (hks : ks' + n' ≤ ks) (kk : ∀ q : Nat, w q = none → J K cc E kc' ks' (wst w q (aZ K.2.1 n' (fun _ => 0))) (pc + 2) lv (.ref q :: st)) : J K cc E kc ks w pc lv (.int n :: st) := by
  obtain ⟨p, e, R, s, m, args, below, meth, c, Q⟩ := E
  obtain ⟨hx, hb, hml, hown, hts, hK, hSt, hlk, hfr, hlo, hBs⟩ := hC
  intro H locs cells slots ls h1 h2 h3 h4 h5 h6
  have hA : s.vm.findClass ("[" ++ (.boolean : FieldType).toString) = some K.2.1.2.2.2.1 := (hK.2 2 _ rfl).2
  refine va_newaK hx hb (atype := .boolean) (hts _ hcl) rfl hd rfl hn hN (by show n' * 1 ≤ _; omega) (by omega) (by omega) rfl fun H1 cA e1 z1 o1 hAr hNm => ?_
  have hcA : cA = K.2.1.2.2.2.1 := Option.some.inj (hNm.symm.trans hA)
  subst hcA
  have hsz : K.2.2 ≤ H.size := Nat.le_trans hBs h5.1
  refine kk H.size (h3.fresh (Nat.le_refl _)) H1 locs (cells + 1) (slots + n') ls (by omega) (by omega) (h3.push rfl ?_ o1) (h4.set hsz) (h5.newer (by omega) o1) h6
  show H1[H.size]? = some (vp_cell _ _)
  rw [vp_cell_i]
  exact e1
theorem j_newO (hC : BX K own cc nL d E) {n : Int32} {n' : Nat} {kc' ks' : Nat} (hd : decode cc pc = .ok (.anewarray idx, 3)) (hcl : Cond.classLink own idx "java/lang/Object" ∈ gtbl) (hn : ¬ n < 0) (hN : n.toNatClampNeg = n') (hby : n' ≤ 67108864) (hkc : kc' + 1 ≤ kc) (hks : ks' + n' ≤ ks) (kk : ∀ q : Nat, w q = none → J K cc E kc' ks' (wst w q (aO K.2.1 n' (fun _ => none))) (pc + 3) lv (.ref q :: st)) : J K cc E kc ks w pc lv (.int n :: st) := by
  obtain ⟨p, e, R, s, m, args, below, meth, c, Q⟩ := E
  obtain ⟨hx, hb, hml, hown, hts, hK, hSt, hlk, hfr, hlo, hBs⟩ := hC
  intro H locs cells slots ls h1 h2 h3 h4 h5 h6
  subst hN
  refine W.anew hx hb hown (hts _ hcl) (va_AO.use hSt.1.2.2.2.2) rfl hd rfl hn (by omega) (by omega) (by omega) fun cA kA comp f1 f2 f3 f4 => ?_
  have hcA : cA = K.2.1.2.2.2.2.1 := by
    have hA : s.vm.findClass ("[" ++ (FieldType.object "java/lang/Object").toString) = some K.2.1.2.2.2.2.1 := by
      obtain ⟨-, -, -, -, -, g4⟩ := (hK.2 3 _ rfl).2
      exact g4
    exact Option.some.inj (f1.symm.trans hA)
  subst hcA
  generalize hH1 : H.push ({ cls := K.2.1.2.2.2.2.1, slots := Array.replicate n.toNatClampNeg .null, vm := .none } : Cell) = H1
  have z1 : H1.size = H.size + 1 := by rw [← hH1, Array.size_push]
  have e1 : H1[H.size]? = some (arrV K.2.1.2.2.2.2.1 n.toNatClampNeg (fun _ => .null)) := by rw [← hH1, Array.getElem?_push_size, ← arrV_new]
  have o1 : ∀ q : Nat, q < H.size → H1[q]? = H[q]? := fun q hq => by rw [← hH1, Array.getElem?_push, if_neg (Nat.ne_of_lt hq)]
  have hsz : K.2.2 ≤ H.size := Nat.le_trans hBs h5.1
  refine kk H.size (h3.fresh (Nat.le_refl _)) H1 locs (cells + 1) (slots + n.toNatClampNeg) ls (by omega) (by omega) (h3.push rfl ?_ o1) (h4.set hsz) (h5.newer (by omega) o1) h6
  show H1[H.size]? = some (vp_cell _ _)
  rw [vp_cell_q]
  exact e1
theorem j_cast (hC : BX K own cc nL d E) {r : vw_C} (hd : decode cc pc = .ok (.checkcast idx, 3)) (hcl : Cond.classLink own idx r.1 ∈ gtbl) (hw : w a = some (.inr (ci, fs))) (hc : vwCl[ci]? = some r) (kk : J K cc E kc ks w (pc + 3) lv (.ref a :: st)) : J K cc E kc ks w pc lv (.ref a :: st) := by
  obtain ⟨p, e, R, s, m, args, below, meth, c, Q⟩ := E
  obtain ⟨hx, hb, hml, hown, hts, hK, hSt, hlk, hfr, hlo, hBs⟩ := hC
  intro H locs cells slots ls h1 h2 h3 h4 h5 h6
  exact va_castS hx hb hown (hts _ hcl) (hK.1 ci _ hc).2 (va_recv hK (h3.one hw) (q0 := 0) hc rfl) hd (kk H locs cells slots ls h1 h2 h3 h4 h5 h6)
theorem j_obj (hC : BX K own cc nL d E) (hd : decode cc pc = .ok (.invokespecial idx, 3)) (hl : Cond.methodLink own idx objectInit ∈ gtbl) (hin : Cond.instanceMethod objectInit ∈ gtbl) (hcd : Cond.code objectInit ⟨#[0xb1]⟩ 1 none ∈ gtbl) (hnl : lv.length = nL) (hst : (st.map fun v => v.category).sum ≤ 8) (hd1 : 1 ≤ d) (kk : J K cc E kc ks w (pc + 3) lv st) : J K cc E kc ks w pc lv (.ref a :: st) := by
  obtain ⟨p, e, R, s, m, args, below, meth, c, Q⟩ := E
  obtain ⟨hx, hb, hml, hown, hts, hK, hSt, hlk, hfr, hlo, hBs⟩ := hC
  intro H locs cells slots ls h1 h2 h3 h4 h5 h6
  refine W.objInit hx hb hown (hts _ hl) (hts _ hin) (hts _ hcd) rfl (by rw [hml, ← hnl]; exact h6.1) rfl hd (by omega) (by have := lv_room (m := m) (pc := pc) (ls := ls) (rest := .ref a :: st) hst; omega) ?_
  exact kk H locs cells slots ls h1 h2 h3 h4 h5 h6
end JH
/-- the words of a call -/
def CWd (M : Mx) (n : Nat) : Prop := Cond.code M.1 M.2.1 M.2.2.1 M.2.2.2 ∈ gtbl ∧ Cond.initialized M.1.cls ∈ gtbl ∧ (M.1.cls ≠ "java/lang/invoke/MethodHandle" ∧ M.1.cls ≠ "java/lang/invoke/VarHandle" ∧ (parseMethodDescriptor M.1.desc).map (fun d => d.parameters.length) = some n) ∧ M.2.2.1 ≤ 21
section JC
variable {K : Kx} {own : String} {cc : ByteArray} {nL d : Nat} {E : Ex} {kc ks kc' ks' : Nat} {w : Wd} {pc : Nat} {lv : List (Option Value)} {st0 rest As : List Value} {M : Mx} {d' mc ms n idx b ci : Nat} {C : String} {Post : Option Value → Wd → Prop} {fs : List Value} {r : vw_C}
theorem call_B (hC : BX K own cc nL d E) (hW : CWd M n) (hd1 : d' + 1 ≤ d) (hl : Cond.methodLink own idx M.1 ∈ gtbl) : match E with
  | (_, _, R, s, _, args, _, _, _, _) => CallB R s args own idx M.1 M.2.1 M.2.2.1 M.2.2.2 (Cond.code M.1 M.2.1 M.2.2.1 M.2.2.2 :: gtbl) { frames := d', cells := mc, slots := ms, locals := 40 * d' } mc ms n := by
  obtain ⟨p, e, R, s, m, args, below, meth, c, Q⟩ := E
  obtain ⟨hx, hb, hml, hown, hts, hK, hSt, hlk, hfr, hlo, hBs⟩ := hC
  refine callB_of n hts ?_ rfl rfl rfl (hts _ hW.2.1) (hts _ hl) hW.2.2.1 ⟨by show d' + 1 ≤ _; omega, by show 8 + (_ + 11) + 40 * d' ≤ _; have := hW.2.2.2; omega⟩
  intro x hx2
  rcases List.mem_cons.mp hx2 with rfl | h
  · exact gtbl_good _ hW.1
  · exact gtbl_good _ h
theorem call_pre (hC : BX K own cc nL d E) {av : List Value} {H : Heap} {locs : List Loc} (h3 : wh K.2.1 w H) (h4 : wb K.2.2 w) : match E with
  | (_, _, _, s, _, _, _, _, _, _) => va_S (fun q : Nat => K.2.2 ≤ q) s.heap H locs → PreS s H (PcF K.2.1 K.2.2 av w) av := by
  obtain ⟨p, e, R, s, m, args, below, meth, c, Q⟩ := E
  obtain ⟨hx, hb, hml, hown, hts, hK, hSt, hlk, hfr, hlo, hBs⟩ := hC
  intro h5
  exact ⟨PcF.blind, fun U hU hW => ⟨rfl, by rw [hU]; exact Nat.le_trans hBs h5.1, by rw [hU]; exact h3, h4, va_K.moved hW.alike hK, hSt.go hW (by rw [hU]; exact h5.2.1)⟩⟩
/-- behind any call -/
theorem call_on {g : JFrame} {a : Array Value} (hg : g = F0 g.method pc g.locals st0) (hkc : kc' + mc ≤ kc) (hks : ks' + ms ≤ ks) (kk : ∀ (v : Option Value) (w' : Wd), Post v w' → J K cc E kc' ks' w' (pc + 3) lv (v.toList ++ rest)) {H : Heap} {locs : List Loc} {cells slots : Nat} : match E with
  | (p, e, R, s, m, args, below, meth, c, Q) => g.method = m → cells + kc ≤ R.cells → slots + ks ≤ R.slots → va_S (fun q : Nat => K.2.2 ≤ q) s.heap H locs → lok g.locals lv → va_Run p K.1 e R s m args below meth c H locs cells slots mc ms g rest (QmF K.2.1 K.2.2 Post a) (fun q : Nat => K.2.2 ≤ q) → W p K.1 e R s m args below meth c H locs cells slots Q g := by
  obtain ⟨p, e, R, s, m, args, below, meth, c, Q⟩ := E
  intro hm h1 h2 h5 h6 hr T hT X
  obtain ⟨v, st₀, t, T', L, h0, X', hL, e1, e2, ⟨v', w', hv, hp, hwh, hwb, hz, hk⟩, stp⟩ := hr T hT X
  cases hv
  rw [h0] at hz hk
  obtain ⟨t2, a1, b1⟩ := kk v w' hp T'.heap (locs ++ L) (cells + mc) (slots + ms) g.locals (by omega) (by omega) (by rw [e1]; exact hwh) hwb
    ⟨Nat.le_trans h5.1 (by rw [e1]; exact hz), fun q q1 q2 => by rw [e1, hk q (Nat.lt_of_lt_of_le q1 h5.1) q2]; exact h5.2.1 q q1 q2, fun q hq => by
      rcases List.mem_append.mp hq with h | h
      · exact h5.2.2 q h
      · exact hL q h⟩ h6 T' rfl X'
  refine ⟨t2, stp t2 ?_, b1⟩
  subst hm
  rw [hg]
  exact a1
theorem j_calls (hC : BX K own cc nL d E) (hM : MT K M d' mc ms As w Post) (hd : decode cc pc = .ok (.invokestatic idx, 3)) (hW : CWd M n) (hl : Cond.methodLink own idx M.1 ∈ gtbl) (hs : Cond.static M.1 ∈ gtbl) (hn : As.length = n) (hst : st0 = As.reverse ++ rest) (hrm : (rest.map fun v => v.category).sum ≤ 8) (hlen : lv.length = nL) (hd1 : d' + 1 ≤ d) (hkc : kc' + mc ≤ kc) (hks : ks' + ms ≤ ks) (kk : ∀ (v : Option Value) (w' : Wd), Post v w' → J K cc E kc' ks' w' (pc + 3) lv (v.toList ++ rest)) : J K cc E kc ks w pc lv st0 := by
  obtain ⟨p, e, R, s, m, args, below, meth, c, Q⟩ := E
  have cb := call_B (mc := mc) (ms := ms) (M := M) hC hW hd1 hl
  intro H locs cells slots ls h1 h2 h3 h4 h5 h6
  have cp := call_pre (av := As) (locs := locs) hC h3 h4 h5
  obtain ⟨hx, hb, hml, hown, hts, hK, hSt, hlk, hfr, hlo, hBs⟩ := hC
  refine call_on (E := (p, e, R, s, m, args, below, meth, c, Q)) (g := F0 m pc ls st0) (a := As.toArray) rfl hkc hks kk rfl h1 h2 h5 h6 ?_
  exact va_runS (As := As) (rest := rest) ⟨hx, hb, hml, hown, hts⟩ hM ⟨cb, hts _ hs⟩ cp rfl hn (by rw [← hlen]; exact h6.1) hst (lv_room hrm) hd ⟨by omega, by omega⟩
theorem j_callv (hC : BX K own cc nL d E) (hM : MT K M d' mc ms (.ref b :: As) w Post) (hd : decode cc pc = .ok (.invokevirtual idx, 3)) (hW : CWd M n) (hl : Cond.methodLink own idx M.1 ∈ gtbl) (hi : Cond.instanceMethod M.1 ∈ gtbl) (hse : Cond.selects r.1 M.1 M.1 ∈ gtbl) (hw : w b = some (.inr (ci, fs))) (hc : vwCl[ci]? = some r) (hn : As.length = n) (hst : st0 = As.reverse ++ .ref b :: rest) (hrm : (rest.map fun v => v.category).sum ≤ 8) (hlen : lv.length = nL) (hd1 : d' + 1 ≤ d) (hkc : kc' + mc ≤ kc) (hks : ks' + ms ≤ ks) (kk : ∀ (v : Option Value) (w' : Wd), Post v w' → J K cc E kc' ks' w' (pc + 3) lv (v.toList ++ rest)) : J K cc E kc ks w pc lv st0 := by
  obtain ⟨p, e, R, s, m, args, below, meth, c, Q⟩ := E
  have cb := call_B (mc := mc) (ms := ms) (M := M) hC hW hd1 hl
  intro H locs cells slots ls h1 h2 h3 h4 h5 h6
  have cp := call_pre (av := .ref b :: As) (locs := locs) hC h3 h4 h5
  obtain ⟨hx, hb, hml, hown, hts, hK, hSt, hlk, hfr, hlo, hBs⟩ := hC
  refine call_on (E := (p, e, R, s, m, args, below, meth, c, Q)) (g := F0 m pc ls st0) (a := (.ref b :: As : List Value).toArray) rfl hkc hks kk rfl h1 h2 h5 h6 ?_
  exact va_runV (As := As) (rest := rest) (C := r.1) ⟨hx, hb, hml, hown, hts⟩ hM ⟨cb, hts _ hi, hts _ hse⟩ ⟨cp.1, va_recv hK (h3.one hw) (q0 := 0) hc rfl, cp.2⟩ rfl hn (by rw [← hlen]; exact h6.1) hst (lv_room hrm) hd ⟨by omega, by omega⟩
theorem j_calli (hC : BX K own cc nL d E) {y : MethodName} {bytes : ByteArray} {mL : Nat} (hM : MT K (y, bytes, mL, none) d' mc ms (.ref b :: As) w Post) (hd : decode cc pc = .ok (.invokespecial idx, 3)) (hW : CWd (y, bytes, mL, none) n) (hl : Cond.methodLink own idx y ∈ gtbl) (hi : Cond.instanceMethod y ∈ gtbl) (hnm : y.name = "<init>") (hn : As.length = n) (hst : st0 = As.reverse ++ .ref b :: rest) (hrm : (rest.map fun v => v.category).sum ≤ 8) (hlen : lv.length = nL) (hd1 : d' + 1 ≤ d) (hkc : kc' + mc ≤ kc) (hks : ks' + ms ≤ ks) (kk : ∀ (v : Option Value) (w' : Wd), Post v w' → J K cc E kc' ks' w' (pc + 3) lv (v.toList ++ rest)) : J K cc E kc ks w pc lv st0 := by
  obtain ⟨p, e, R, s, m, args, below, meth, c, Q⟩ := E
  have cb := call_B (mc := mc) (ms := ms) (M := (y, bytes, mL, none)) hC hW hd1 hl
  intro H locs cells slots ls h1 h2 h3 h4 h5 h6
  have cp := call_pre (av := .ref b :: As) (locs := locs) hC h3 h4 h5
  obtain ⟨hx, hb, hml, hown, hts, hK, hSt, hlk, hfr, hlo, hBs⟩ := hC
  refine call_on (E := (p, e, R, s, m, args, below, meth, c, Q)) (g := F0 m pc ls st0) (a := (.ref b :: As : List Value).toArray) rfl hkc hks kk rfl h1 h2 h5 h6 ?_
  exact va_runI (As := As) (rest := rest) ⟨hx, hb, hml, hown, hts⟩ hM ⟨cb, hnm, hts _ hi⟩ cp rfl hn (by rw [← hlen]; exact h6.1) hst (lv_room hrm) hd ⟨by omega, by omega⟩
/-- Math's four -/
theorem j_mmin (hC : BX K own cc nL d E) {x y : Int32} {st : List Value} (hd : decode cc pc = .ok (.invokestatic idx, 3)) (hl : Cond.methodLink own idx Lib.Math.min.name ∈ gtbl) (hs : Cond.static Lib.Math.min.name ∈ gtbl) (hi : Cond.initialized "java/lang/Math" ∈ gtbl) (hc : Cond.code Lib.Math.min.name Lib.Math.min.code 2 (some .int) ∈ gtbl) (hlen : lv.length = nL) (hrm : (st.map fun v => v.category).sum ≤ 8) (hd1 : 1 ≤ d) (k : J K cc E kc ks w (pc + 3) lv (.int (if y < x then y else x) :: st)) : J K cc E kc ks w pc lv (.int y :: .int x :: st) := by
  obtain ⟨p, e, R, s, m, args, below, meth, c, Q⟩ := E
  obtain ⟨hx, hb, hml, hown, hts, hK, hSt, hlk, hfr, hlo, hBs⟩ := hC
  intro H locs cells slots ls h1 h2 h3 h4 h5 h6
  exact va_mmin hx hb (by rw [hml, ← hlen]; exact h6.1.symm) hown (hts _ hl) (hts _ hs) (hts _ hi) (hts _ hc) (by omega) (by omega) (by omega) (by omega) hd (k H locs cells slots ls h1 h2 h3 h4 h5 h6)
theorem j_mmax (hC : BX K own cc nL d E) {x y : Int32} {st : List Value} (hd : decode cc pc = .ok (.invokestatic idx, 3)) (hl : Cond.methodLink own idx Lib.Math.max.name ∈ gtbl) (hs : Cond.static Lib.Math.max.name ∈ gtbl) (hi : Cond.initialized "java/lang/Math" ∈ gtbl) (hc : Cond.code Lib.Math.max.name Lib.Math.max.code 2 (some .int) ∈ gtbl) (hlen : lv.length = nL) (hrm : (st.map fun v => v.category).sum ≤ 8) (hd1 : 1 ≤ d) (k : J K cc E kc ks w (pc + 3) lv (.int (if x < y then y else x) :: st)) : J K cc E kc ks w pc lv (.int y :: .int x :: st) := by
  obtain ⟨p, e, R, s, m, args, below, meth, c, Q⟩ := E
  obtain ⟨hx, hb, hml, hown, hts, hK, hSt, hlk, hfr, hlo, hBs⟩ := hC
  intro H locs cells slots ls h1 h2 h3 h4 h5 h6
  exact va_mmax hx hb (by rw [hml, ← hlen]; exact h6.1.symm) hown (hts _ hl) (hts _ hs) (hts _ hi) (hts _ hc) (by omega) (by omega) (by omega) (by omega) hd (k H locs cells slots ls h1 h2 h3 h4 h5 h6)
theorem j_mminL (hC : BX K own cc nL d E) {x y : Int64} {st : List Value} (hd : decode cc pc = .ok (.invokestatic idx, 3)) (hl : Cond.methodLink own idx Lib.MathLoose.min_long.x ∈ gtbl) (hs : Cond.static Lib.MathLoose.min_long.x ∈ gtbl) (hi : Cond.initialized "java/lang/Math" ∈ gtbl) (hc : Cond.code Lib.MathLoose.min_long.x Lib.MathLoose.min_long.code 4 (some .long) ∈ gtbl) (hlen : lv.length = nL) (hrm : (st.map fun v => v.category).sum ≤ 8) (hd1 : 1 ≤ d) (k : J K cc E kc ks w (pc + 3) lv (.long (if y < x then y else x) :: st)) : J K cc E kc ks w pc lv (.long y :: .long x :: st) := by
  obtain ⟨p, e, R, s, m, args, below, meth, c, Q⟩ := E
  obtain ⟨hx, hb, hml, hown, hts, hK, hSt, hlk, hfr, hlo, hBs⟩ := hC
  intro H locs cells slots ls h1 h2 h3 h4 h5 h6
  exact va_mmin_long hx hb (by rw [hml, ← hlen]; exact h6.1.symm) hown (hts _ hl) (hts _ hs) (hts _ hi) (hts _ hc) (by omega) (by omega) (by omega) (by omega) hd (k H locs cells slots ls h1 h2 h3 h4 h5 h6)
theorem j_mmaxL (hC : BX K own cc nL d E) {x y : Int64} {st : List Value} (hd : decode cc pc = .ok (.invokestatic idx, 3)) (hl : Cond.methodLink own idx Lib.MathLoose.max_long.x ∈ gtbl) (hs : Cond.static Lib.MathLoose.max_long.x ∈ gtbl) (hi : Cond.initialized "java/lang/Math" ∈ gtbl) (hc : Cond.code Lib.MathLoose.max_long.x Lib.MathLoose.max_long.code 4 (some .long) ∈ gtbl) (hlen : lv.length = nL) (hrm : (st.map fun v => v.category).sum ≤ 8) (hd1 : 1 ≤ d) (k : J K cc E kc ks w (pc + 3) lv (.long (if y < x then x else y) :: st)) : J K cc E kc ks w pc lv (.long y :: .long x :: st) := by
  obtain ⟨p, e, R, s, m, args, below, meth, c, Q⟩ := E
  obtain ⟨hx, hb, hml, hown, hts, hK, hSt, hlk, hfr, hlo, hBs⟩ := hC
  intro H locs cells slots ls h1 h2 h3 h4 h5 h6
  exact va_mmax_long hx hb (by rw [hml, ← hlen]; exact h6.1.symm) hown (hts _ hl) (hts _ hs) (hts _ hi) (hts _ hc) (by omega) (by omega) (by omega) (by omega) hd (k H locs cells slots ls h1 h2 h3 h4 h5 h6)
theorem j_iret (hC : BX K own cc nL d E) (hR : RX K M mc ms Post E) {v : Int32} (hd : decode cc pc = .ok (.ireturn, 1)) (hr : M.2.2.2 = some .int) (hp : Post (some (.int v)) w) : J K cc E kc ks w pc lv [.int v] := by
  obtain ⟨p, e, R, s, m, args, below, meth, c, Q⟩ := E
  obtain ⟨hx, hb, hml, hown, hts, hK, hSt, hlk, hfr, hlo, hBs⟩ := hC
  obtain ⟨r1, r2, rfl, r4, r5⟩ := hR
  intro H locs cells slots ls h1 h2 h3 h4 h5 h6
  refine W.widen (k := mc) (n := ms) (by omega) (by omega) ?_
  exact W.iret (v := v) hx hb (r4.trans hr) (fun t ht hW => ⟨_, w, rfl, hp, by rw [ht]; exact h3, h4, h5.F ht⟩) h5.2.2 hd hlk
theorem j_zret (hC : BX K own cc nL d E) (hR : RX K M mc ms Post E) {v : Int32} (hd : decode cc pc = .ok (.ireturn, 1)) (hr : M.2.2.2 = some .boolean) (hv : narrow .boolean (.int v) = .int v) (hp : Post (some (.int v)) w) : J K cc E kc ks w pc lv [.int v] := by
  obtain ⟨p, e, R, s, m, args, below, meth, c, Q⟩ := E
  obtain ⟨hx, hb, hml, hown, hts, hK, hSt, hlk, hfr, hlo, hBs⟩ := hC
  obtain ⟨r1, r2, rfl, r4, r5⟩ := hR
  intro H locs cells slots ls h1 h2 h3 h4 h5 h6
  refine W.widen (k := mc) (n := ms) (by omega) (by omega) ?_
  exact W.zret (v := v) hx hb (r4.trans hr) hv (fun t ht hW => ⟨_, w, rfl, hp, by rw [ht]; exact h3, h4, h5.F ht⟩) h5.2.2 hd hlk
theorem j_lret (hC : BX K own cc nL d E) (hR : RX K M mc ms Post E) {v : Int64} (hd : decode cc pc = .ok (.lreturn, 1)) (hr : M.2.2.2 = some .long) (hp : Post (some (.long v)) w) : J K cc E kc ks w pc lv [.long v] := by
  obtain ⟨p, e, R, s, m, args, below, meth, c, Q⟩ := E
  obtain ⟨hx, hb, hml, hown, hts, hK, hSt, hlk, hfr, hlo, hBs⟩ := hC
  obtain ⟨r1, r2, rfl, r4, r5⟩ := hR
  intro H locs cells slots ls h1 h2 h3 h4 h5 h6
  refine W.widen (k := mc) (n := ms) (by omega) (by omega) ?_
  exact W.lret (v := v) hx hb (r4.trans hr) (fun t ht hW => ⟨_, w, rfl, hp, by rw [ht]; exact h3, h4, h5.F ht⟩) h5.2.2 hd hlk
theorem j_vret (hC : BX K own cc nL d E) (hR : RX K M mc ms Post E) (hd : decode cc pc = .ok (.return_, 1)) (hr : M.2.2.2 = none) (hp : Post none w) : J K cc E kc ks w pc lv [] := by
  obtain ⟨p, e, R, s, m, args, below, meth, c, Q⟩ := E
  obtain ⟨hx, hb, hml, hown, hts, hK, hSt, hlk, hfr, hlo, hBs⟩ := hC
  obtain ⟨r1, r2, rfl, r4, r5⟩ := hR
  intro H locs cells slots ls h1 h2 h3 h4 h5 h6
  refine W.widen (k := mc) (n := ms) (by omega) (by omega) ?_
  exact W.vret hx hb (r4.trans hr) (fun t ht hW => ⟨_, w, rfl, hp, by rw [ht]; exact h3, h4, h5.F ht⟩) h5.2.2 hd hlk
theorem j_aret (hC : BX K own cc nL d E) (hR : RX K M mc ms Post E) {a : Nat} {rt : FieldType} (hd : decode cc pc = .ok (.areturn, 1)) (hr : M.2.2.2 = some rt) (hrt : (∃ n, rt = .object n) ∨ ∃ t, rt = .array t) (hp : Post (some (.ref a)) w) : J K cc E kc ks w pc lv [.ref a] := by
  obtain ⟨p, e, R, s, m, args, below, meth, c, Q⟩ := E
  obtain ⟨hx, hb, hml, hown, hts, hK, hSt, hlk, hfr, hlo, hBs⟩ := hC
  obtain ⟨r1, r2, rfl, r4, r5⟩ := hR
  intro H locs cells slots ls h1 h2 h3 h4 h5 h6
  refine W.widen (k := mc) (n := ms) (by omega) (by omega) ?_
  exact W.aret (v := .ref a) hx hb (r4.trans hr) hrt (Or.inr ⟨a, rfl⟩) (fun t ht hW => ⟨_, w, rfl, hp, by rw [ht]; exact h3, h4, h5.F ht⟩) h5.2.2 hd hlk
/-- a row may be put under another name -/
theorem J.toI {x y : Int32} {st : List Value} (h : x = y) (k : J K cc E kc ks w pc lv (.int y :: st)) : J K cc E kc ks w pc lv (.int x :: st) := h ▸ k
theorem J.toL {x y : Int64} {st : List Value} (h : x = y) (k : J K cc E kc ks w pc lv (.long y :: st)) : J K cc E kc ks w pc lv (.long x :: st) := h ▸ k
theorem J.nmI {x : Int32} {st : List Value} (k : ∀ y : Int32, y = x → J K cc E kc ks w pc lv (.int y :: st)) : J K cc E kc ks w pc lv (.int x :: st) := k x rfl
theorem J.nmL {x : Int64} {st : List Value} (k : ∀ y : Int64, y = x → J K cc E kc ks w pc lv (.long y :: st)) : J K cc E kc ks w pc lv (.long x :: st) := k x rfl
theorem J.nmW {st : List Value} (k : ∀ w' : Wd, w' = w → J K cc E kc ks w' pc lv st) : J K cc E kc ks w pc lv st := k w rfl
theorem J.less (hkc : kc' ≤ kc) (hks : ks' ≤ ks) (k : J K cc E kc' ks' w pc lv rest) : J K cc E kc ks w pc lv rest := by
  obtain ⟨p, e, R, s, m, args, below, meth, c, Q⟩ := E
  intro H locs cells slots ls h1 h2 h3 h4 h5 h6
  exact k H locs cells slots ls (by omega) (by omega) h3 h4 h5 h6
end JC
