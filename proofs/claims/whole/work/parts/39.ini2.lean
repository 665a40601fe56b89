set_option maxRecDepth 100000 in
set_option maxHeartbeats 4000000 in
theorem MA.init {g : Gx} {w w' : Wd} {a q7 q15 q23 q31 q39 q47 q55 q63 q71 q79 q87 q95 q103 q111 q119 q127 q135 q143 q151 q160 q168 q176 q184 q192 q200 q208 q216 q224 q232 q240 q248 q256 q264 q272 q280 q288 q296 q304 q313 q321 q329 q337 : Nat} {m0 : Int32} (h : HC w w' a (.inr (11, [.int m0, .int 0, .ref q7, .ref q15, .ref q23, .ref q31, .ref q39, .ref q47, .ref q55, .ref q63, .int 0, .ref q71, .ref q79, .ref q87, .ref q95, .ref q103, .ref q111, .ref q119, .int 0, .ref q127, .ref q135, .ref q143, .ref q151, .ref q160, .int 0, .ref q168, .ref q176, .ref q184, .ref q192, .ref q200, .ref q208, .int 0, .ref q216, .ref q224, .ref q232, .int 0, .ref q240, .ref q248, .ref q256, .ref q264, .int 0, .long 0, .long 0, .long 0, .int 0, .ref q272, .ref q280, .int 0, .int 0, .int 0, .int 0, .ref q288, .ref q296, .ref q304, .ref q313, .int 0, .ref q321, .ref q329, .ref q337])) [(q337, aI g 10 (fun _ => 0)), (q329, aI g 10 (fun _ => 0)), (q321, aI g 10 (fun _ => 0)), (q313, aJ g 26466 (fun _ => 0)), (q304, aI g 10 (fun _ => 0)), (q296, aI g 10 (fun _ => 0)), (q288, aI g 10 (fun _ => 0)), (q280, aI g 6 (fun _ => 0)), (q272, aI g 6 (fun _ => 0)), (q264, aJ g 8 (fun _ => 0)), (q256, aI g 8 (fun _ => 0)), (q248, aI g 8 (fun _ => 0)), (q240, aI g 8 (fun _ => 0)), (q232, aI g 8 (fun _ => 0)), (q224, aI g 8 (fun _ => 0)), (q216, aI g 8 (fun _ => 0)), (q208, aZ g 8 (fun _ => 0)), (q200, aI g 8 (fun _ => 0)), (q192, aI g 8 (fun _ => 0)), (q184, aI g 8 (fun _ => 0)), (q176, aI g 8 (fun _ => 0)), (q168, aI g 8 (fun _ => 0)), (q160, aI g 1440 (fun _ => 0)), (q151, aJ g 24 (fun _ => 0)), (q143, aI g 24 (fun _ => 0)), (q135, aI g 24 (fun _ => 0)), (q127, aI g 24 (fun _ => 0)), (q119, aJ g 40 (fun _ => 0)), (q111, aJ g 40 (fun _ => 0)), (q103, aJ g 40 (fun _ => 0)), (q95, aI g 40 (fun _ => 0)), (q87, aI g 40 (fun _ => 0)), (q79, aI g 40 (fun _ => 0)), (q71, aI g 40 (fun _ => 0)), (q63, aJ g 24 (fun _ => 0)), (q55, aJ g 24 (fun _ => 0)), (q47, aJ g 24 (fun _ => 0)), (q39, aJ g 24 (fun _ => 0)), (q31, aI g 24 (fun _ => 0)), (q23, aI g 24 (fun _ => 0)), (q15, aI g 24 (fun _ => 0)), (q7, aI g 24 (fun _ => 0))]) :
    ∃ ad : Nat → Nat, MA g w' a ad (S0 m0) ∧ (∀ k ∈ mA, w (ad k) = none) ∧ ∀ x, x ≠ a → w x ≠ none → w' x = w x := by
  obtain ⟨h1, h2, h3, h4, h5⟩ := h
  have f_q7 := h2 (q7, _) (by apply List.mem_cons_of_mem; apply List.mem_cons_of_mem; apply List.mem_cons_of_mem; apply List.mem_cons_of_mem; apply List.mem_cons_of_mem; apply List.mem_cons_of_mem; apply List.mem_cons_of_mem; apply List.mem_cons_of_mem; apply List.mem_cons_of_mem; apply List.mem_cons_of_mem; apply List.mem_cons_of_mem; apply List.mem_cons_of_mem; apply List.mem_cons_of_mem; apply List.mem_cons_of_mem; apply List.mem_cons_of_mem; apply List.mem_cons_of_mem; apply List.mem_cons_of_mem; apply List.mem_cons_of_mem; apply List.mem_cons_of_mem; apply List.mem_cons_of_mem; apply List.mem_cons_of_mem; apply List.mem_cons_of_mem; apply List.mem_cons_of_mem; apply List.mem_cons_of_mem; apply List.mem_cons_of_mem; apply List.mem_cons_of_mem; apply List.mem_cons_of_mem; apply List.mem_cons_of_mem; apply List.mem_cons_of_mem; apply List.mem_cons_of_mem; apply List.mem_cons_of_mem; apply List.mem_cons_of_mem; apply List.mem_cons_of_mem; apply List.mem_cons_of_mem; apply List.mem_cons_of_mem; apply List.mem_cons_of_mem; apply List.mem_cons_of_mem; apply List.mem_cons_of_mem; apply List.mem_cons_of_mem; apply List.mem_cons_of_mem; apply List.mem_cons_of_mem; exact List.mem_cons_self)
  have f_q15 := h2 (q15, _) (by apply List.mem_cons_of_mem; apply List.mem_cons_of_mem; apply List.mem_cons_of_mem; apply List.mem_cons_of_mem; apply List.mem_cons_of_mem; apply List.mem_cons_of_mem; apply List.mem_cons_of_mem; apply List.mem_cons_of_mem; apply List.mem_cons_of_mem; apply List.mem_cons_of_mem; apply List.mem_cons_of_mem; apply List.mem_cons_of_mem; apply List.mem_cons_of_mem; apply List.mem_cons_of_mem; apply List.mem_cons_of_mem; apply List.mem_cons_of_mem; apply List.mem_cons_of_mem; apply List.mem_cons_of_mem; apply List.mem_cons_of_mem; apply List.mem_cons_of_mem; apply List.mem_cons_of_mem; apply List.mem_cons_of_mem; apply List.mem_cons_of_mem; apply List.mem_cons_of_mem; apply List.mem_cons_of_mem; apply List.mem_cons_of_mem; apply List.mem_cons_of_mem; apply List.mem_cons_of_mem; apply List.mem_cons_of_mem; apply List.mem_cons_of_mem; apply List.mem_cons_of_mem; apply List.mem_cons_of_mem; apply List.mem_cons_of_mem; apply List.mem_cons_of_mem; apply List.mem_cons_of_mem; apply List.mem_cons_of_mem; apply List.mem_cons_of_mem; apply List.mem_cons_of_mem; apply List.mem_cons_of_mem; apply List.mem_cons_of_mem; exact List.mem_cons_self)
  have f_q23 := h2 (q23, _) (by apply List.mem_cons_of_mem; apply List.mem_cons_of_mem; apply List.mem_cons_of_mem; apply List.mem_cons_of_mem; apply List.mem_cons_of_mem; apply List.mem_cons_of_mem; apply List.mem_cons_of_mem; apply List.mem_cons_of_mem; apply List.mem_cons_of_mem; apply List.mem_cons_of_mem; apply List.mem_cons_of_mem; apply List.mem_cons_of_mem; apply List.mem_cons_of_mem; apply List.mem_cons_of_mem; apply List.mem_cons_of_mem; apply List.mem_cons_of_mem; apply List.mem_cons_of_mem; apply List.mem_cons_of_mem; apply List.mem_cons_of_mem; apply List.mem_cons_of_mem; apply List.mem_cons_of_mem; apply List.mem_cons_of_mem; apply List.mem_cons_of_mem; apply List.mem_cons_of_mem; apply List.mem_cons_of_mem; apply List.mem_cons_of_mem; apply List.mem_cons_of_mem; apply List.mem_cons_of_mem; apply List.mem_cons_of_mem; apply List.mem_cons_of_mem; apply List.mem_cons_of_mem; apply List.mem_cons_of_mem; apply List.mem_cons_of_mem; apply List.mem_cons_of_mem; apply List.mem_cons_of_mem; apply List.mem_cons_of_mem; apply List.mem_cons_of_mem; apply List.mem_cons_of_mem; apply List.mem_cons_of_mem; exact List.mem_cons_self)
  have f_q31 := h2 (q31, _) (by apply List.mem_cons_of_mem; apply List.mem_cons_of_mem; apply List.mem_cons_of_mem; apply List.mem_cons_of_mem; apply List.mem_cons_of_mem; apply List.mem_cons_of_mem; apply List.mem_cons_of_mem; apply List.mem_cons_of_mem; apply List.mem_cons_of_mem; apply List.mem_cons_of_mem; apply List.mem_cons_of_mem; apply List.mem_cons_of_mem; apply List.mem_cons_of_mem; apply List.mem_cons_of_mem; apply List.mem_cons_of_mem; apply List.mem_cons_of_mem; apply List.mem_cons_of_mem; apply List.mem_cons_of_mem; apply List.mem_cons_of_mem; apply List.mem_cons_of_mem; apply List.mem_cons_of_mem; apply List.mem_cons_of_mem; apply List.mem_cons_of_mem; apply List.mem_cons_of_mem; apply List.mem_cons_of_mem; apply List.mem_cons_of_mem; apply List.mem_cons_of_mem; apply List.mem_cons_of_mem; apply List.mem_cons_of_mem; apply List.mem_cons_of_mem; apply List.mem_cons_of_mem; apply List.mem_cons_of_mem; apply List.mem_cons_of_mem; apply List.mem_cons_of_mem; apply List.mem_cons_of_mem; apply List.mem_cons_of_mem; apply List.mem_cons_of_mem; apply List.mem_cons_of_mem; exact List.mem_cons_self)
  have f_q39 := h2 (q39, _) (by apply List.mem_cons_of_mem; apply List.mem_cons_of_mem; apply List.mem_cons_of_mem; apply List.mem_cons_of_mem; apply List.mem_cons_of_mem; apply List.mem_cons_of_mem; apply List.mem_cons_of_mem; apply List.mem_cons_of_mem; apply List.mem_cons_of_mem; apply List.mem_cons_of_mem; apply List.mem_cons_of_mem; apply List.mem_cons_of_mem; apply List.mem_cons_of_mem; apply List.mem_cons_of_mem; apply List.mem_cons_of_mem; apply List.mem_cons_of_mem; apply List.mem_cons_of_mem; apply List.mem_cons_of_mem; apply List.mem_cons_of_mem; apply List.mem_cons_of_mem; apply List.mem_cons_of_mem; apply List.mem_cons_of_mem; apply List.mem_cons_of_mem; apply List.mem_cons_of_mem; apply List.mem_cons_of_mem; apply List.mem_cons_of_mem; apply List.mem_cons_of_mem; apply List.mem_cons_of_mem; apply List.mem_cons_of_mem; apply List.mem_cons_of_mem; apply List.mem_cons_of_mem; apply List.mem_cons_of_mem; apply List.mem_cons_of_mem; apply List.mem_cons_of_mem; apply List.mem_cons_of_mem; apply List.mem_cons_of_mem; apply List.mem_cons_of_mem; exact List.mem_cons_self)
  have f_q47 := h2 (q47, _) (by apply List.mem_cons_of_mem; apply List.mem_cons_of_mem; apply List.mem_cons_of_mem; apply List.mem_cons_of_mem; apply List.mem_cons_of_mem; apply List.mem_cons_of_mem; apply List.mem_cons_of_mem; apply List.mem_cons_of_mem; apply List.mem_cons_of_mem; apply List.mem_cons_of_mem; apply List.mem_cons_of_mem; apply List.mem_cons_of_mem; apply List.mem_cons_of_mem; apply List.mem_cons_of_mem; apply List.mem_cons_of_mem; apply List.mem_cons_of_mem; apply List.mem_cons_of_mem; apply List.mem_cons_of_mem; apply List.mem_cons_of_mem; apply List.mem_cons_of_mem; apply List.mem_cons_of_mem; apply List.mem_cons_of_mem; apply List.mem_cons_of_mem; apply List.mem_cons_of_mem; apply List.mem_cons_of_mem; apply List.mem_cons_of_mem; apply List.mem_cons_of_mem; apply List.mem_cons_of_mem; apply List.mem_cons_of_mem; apply List.mem_cons_of_mem; apply List.mem_cons_of_mem; apply List.mem_cons_of_mem; apply List.mem_cons_of_mem; apply List.mem_cons_of_mem; apply List.mem_cons_of_mem; apply List.mem_cons_of_mem; exact List.mem_cons_self)
  have f_q55 := h2 (q55, _) (by apply List.mem_cons_of_mem; apply List.mem_cons_of_mem; apply List.mem_cons_of_mem; apply List.mem_cons_of_mem; apply List.mem_cons_of_mem; apply List.mem_cons_of_mem; apply List.mem_cons_of_mem; apply List.mem_cons_of_mem; apply List.mem_cons_of_mem; apply List.mem_cons_of_mem; apply List.mem_cons_of_mem; apply List.mem_cons_of_mem; apply List.mem_cons_of_mem; apply List.mem_cons_of_mem; apply List.mem_cons_of_mem; apply List.mem_cons_of_mem; apply List.mem_cons_of_mem; apply List.mem_cons_of_mem; apply List.mem_cons_of_mem; apply List.mem_cons_of_mem; apply List.mem_cons_of_mem; apply List.mem_cons_of_mem; apply List.mem_cons_of_mem; apply List.mem_cons_of_mem; apply List.mem_cons_of_mem; apply List.mem_cons_of_mem; apply List.mem_cons_of_mem; apply List.mem_cons_of_mem; apply List.mem_cons_of_mem; apply List.mem_cons_of_mem; apply List.mem_cons_of_mem; apply List.mem_cons_of_mem; apply List.mem_cons_of_mem; apply List.mem_cons_of_mem; apply List.mem_cons_of_mem; exact List.mem_cons_self)
  have f_q63 := h2 (q63, _) (by apply List.mem_cons_of_mem; apply List.mem_cons_of_mem; apply List.mem_cons_of_mem; apply List.mem_cons_of_mem; apply List.mem_cons_of_mem; apply List.mem_cons_of_mem; apply List.mem_cons_of_mem; apply List.mem_cons_of_mem; apply List.mem_cons_of_mem; apply List.mem_cons_of_mem; apply List.mem_cons_of_mem; apply List.mem_cons_of_mem; apply List.mem_cons_of_mem; apply List.mem_cons_of_mem; apply List.mem_cons_of_mem; apply List.mem_cons_of_mem; apply List.mem_cons_of_mem; apply List.mem_cons_of_mem; apply List.mem_cons_of_mem; apply List.mem_cons_of_mem; apply List.mem_cons_of_mem; apply List.mem_cons_of_mem; apply List.mem_cons_of_mem; apply List.mem_cons_of_mem; apply List.mem_cons_of_mem; apply List.mem_cons_of_mem; apply List.mem_cons_of_mem; apply List.mem_cons_of_mem; apply List.mem_cons_of_mem; apply List.mem_cons_of_mem; apply List.mem_cons_of_mem; apply List.mem_cons_of_mem; apply List.mem_cons_of_mem; apply List.mem_cons_of_mem; exact List.mem_cons_self)
  have f_q71 := h2 (q71, _) (by apply List.mem_cons_of_mem; apply List.mem_cons_of_mem; apply List.mem_cons_of_mem; apply List.mem_cons_of_mem; apply List.mem_cons_of_mem; apply List.mem_cons_of_mem; apply List.mem_cons_of_mem; apply List.mem_cons_of_mem; apply List.mem_cons_of_mem; apply List.mem_cons_of_mem; apply List.mem_cons_of_mem; apply List.mem_cons_of_mem; apply List.mem_cons_of_mem; apply List.mem_cons_of_mem; apply List.mem_cons_of_mem; apply List.mem_cons_of_mem; apply List.mem_cons_of_mem; apply List.mem_cons_of_mem; apply List.mem_cons_of_mem; apply List.mem_cons_of_mem; apply List.mem_cons_of_mem; apply List.mem_cons_of_mem; apply List.mem_cons_of_mem; apply List.mem_cons_of_mem; apply List.mem_cons_of_mem; apply List.mem_cons_of_mem; apply List.mem_cons_of_mem; apply List.mem_cons_of_mem; apply List.mem_cons_of_mem; apply List.mem_cons_of_mem; apply List.mem_cons_of_mem; apply List.mem_cons_of_mem; apply List.mem_cons_of_mem; exact List.mem_cons_self)
  have f_q79 := h2 (q79, _) (by apply List.mem_cons_of_mem; apply List.mem_cons_of_mem; apply List.mem_cons_of_mem; apply List.mem_cons_of_mem; apply List.mem_cons_of_mem; apply List.mem_cons_of_mem; apply List.mem_cons_of_mem; apply List.mem_cons_of_mem; apply List.mem_cons_of_mem; apply List.mem_cons_of_mem; apply List.mem_cons_of_mem; apply List.mem_cons_of_mem; apply List.mem_cons_of_mem; apply List.mem_cons_of_mem; apply List.mem_cons_of_mem; apply List.mem_cons_of_mem; apply List.mem_cons_of_mem; apply List.mem_cons_of_mem; apply List.mem_cons_of_mem; apply List.mem_cons_of_mem; apply List.mem_cons_of_mem; apply List.mem_cons_of_mem; apply List.mem_cons_of_mem; apply List.mem_cons_of_mem; apply List.mem_cons_of_mem; apply List.mem_cons_of_mem; apply List.mem_cons_of_mem; apply List.mem_cons_of_mem; apply List.mem_cons_of_mem; apply List.mem_cons_of_mem; apply List.mem_cons_of_mem; apply List.mem_cons_of_mem; exact List.mem_cons_self)
  have f_q87 := h2 (q87, _) (by apply List.mem_cons_of_mem; apply List.mem_cons_of_mem; apply List.mem_cons_of_mem; apply List.mem_cons_of_mem; apply List.mem_cons_of_mem; apply List.mem_cons_of_mem; apply List.mem_cons_of_mem; apply List.mem_cons_of_mem; apply List.mem_cons_of_mem; apply List.mem_cons_of_mem; apply List.mem_cons_of_mem; apply List.mem_cons_of_mem; apply List.mem_cons_of_mem; apply List.mem_cons_of_mem; apply List.mem_cons_of_mem; apply List.mem_cons_of_mem; apply List.mem_cons_of_mem; apply List.mem_cons_of_mem; apply List.mem_cons_of_mem; apply List.mem_cons_of_mem; apply List.mem_cons_of_mem; apply List.mem_cons_of_mem; apply List.mem_cons_of_mem; apply List.mem_cons_of_mem; apply List.mem_cons_of_mem; apply List.mem_cons_of_mem; apply List.mem_cons_of_mem; apply List.mem_cons_of_mem; apply List.mem_cons_of_mem; apply List.mem_cons_of_mem; apply List.mem_cons_of_mem; exact List.mem_cons_self)
  have f_q95 := h2 (q95, _) (by apply List.mem_cons_of_mem; apply List.mem_cons_of_mem; apply List.mem_cons_of_mem; apply List.mem_cons_of_mem; apply List.mem_cons_of_mem; apply List.mem_cons_of_mem; apply List.mem_cons_of_mem; apply List.mem_cons_of_mem; apply List.mem_cons_of_mem; apply List.mem_cons_of_mem; apply List.mem_cons_of_mem; apply List.mem_cons_of_mem; apply List.mem_cons_of_mem; apply List.mem_cons_of_mem; apply List.mem_cons_of_mem; apply List.mem_cons_of_mem; apply List.mem_cons_of_mem; apply List.mem_cons_of_mem; apply List.mem_cons_of_mem; apply List.mem_cons_of_mem; apply List.mem_cons_of_mem; apply List.mem_cons_of_mem; apply List.mem_cons_of_mem; apply List.mem_cons_of_mem; apply List.mem_cons_of_mem; apply List.mem_cons_of_mem; apply List.mem_cons_of_mem; apply List.mem_cons_of_mem; apply List.mem_cons_of_mem; apply List.mem_cons_of_mem; exact List.mem_cons_self)
  have f_q103 := h2 (q103, _) (by apply List.mem_cons_of_mem; apply List.mem_cons_of_mem; apply List.mem_cons_of_mem; apply List.mem_cons_of_mem; apply List.mem_cons_of_mem; apply List.mem_cons_of_mem; apply List.mem_cons_of_mem; apply List.mem_cons_of_mem; apply List.mem_cons_of_mem; apply List.mem_cons_of_mem; apply List.mem_cons_of_mem; apply List.mem_cons_of_mem; apply List.mem_cons_of_mem; apply List.mem_cons_of_mem; apply List.mem_cons_of_mem; apply List.mem_cons_of_mem; apply List.mem_cons_of_mem; apply List.mem_cons_of_mem; apply List.mem_cons_of_mem; apply List.mem_cons_of_mem; apply List.mem_cons_of_mem; apply List.mem_cons_of_mem; apply List.mem_cons_of_mem; apply List.mem_cons_of_mem; apply List.mem_cons_of_mem; apply List.mem_cons_of_mem; apply List.mem_cons_of_mem; apply List.mem_cons_of_mem; apply List.mem_cons_of_mem; exact List.mem_cons_self)
  have f_q111 := h2 (q111, _) (by apply List.mem_cons_of_mem; apply List.mem_cons_of_mem; apply List.mem_cons_of_mem; apply List.mem_cons_of_mem; apply List.mem_cons_of_mem; apply List.mem_cons_of_mem; apply List.mem_cons_of_mem; apply List.mem_cons_of_mem; apply List.mem_cons_of_mem; apply List.mem_cons_of_mem; apply List.mem_cons_of_mem; apply List.mem_cons_of_mem; apply List.mem_cons_of_mem; apply List.mem_cons_of_mem; apply List.mem_cons_of_mem; apply List.mem_cons_of_mem; apply List.mem_cons_of_mem; apply List.mem_cons_of_mem; apply List.mem_cons_of_mem; apply List.mem_cons_of_mem; apply List.mem_cons_of_mem; apply List.mem_cons_of_mem; apply List.mem_cons_of_mem; apply List.mem_cons_of_mem; apply List.mem_cons_of_mem; apply List.mem_cons_of_mem; apply List.mem_cons_of_mem; apply List.mem_cons_of_mem; exact List.mem_cons_self)
  have f_q119 := h2 (q119, _) (by apply List.mem_cons_of_mem; apply List.mem_cons_of_mem; apply List.mem_cons_of_mem; apply List.mem_cons_of_mem; apply List.mem_cons_of_mem; apply List.mem_cons_of_mem; apply List.mem_cons_of_mem; apply List.mem_cons_of_mem; apply List.mem_cons_of_mem; apply List.mem_cons_of_mem; apply List.mem_cons_of_mem; apply List.mem_cons_of_mem; apply List.mem_cons_of_mem; apply List.mem_cons_of_mem; apply List.mem_cons_of_mem; apply List.mem_cons_of_mem; apply List.mem_cons_of_mem; apply List.mem_cons_of_mem; apply List.mem_cons_of_mem; apply List.mem_cons_of_mem; apply List.mem_cons_of_mem; apply List.mem_cons_of_mem; apply List.mem_cons_of_mem; apply List.mem_cons_of_mem; apply List.mem_cons_of_mem; apply List.mem_cons_of_mem; apply List.mem_cons_of_mem; exact List.mem_cons_self)
  have f_q127 := h2 (q127, _) (by apply List.mem_cons_of_mem; apply List.mem_cons_of_mem; apply List.mem_cons_of_mem; apply List.mem_cons_of_mem; apply List.mem_cons_of_mem; apply List.mem_cons_of_mem; apply List.mem_cons_of_mem; apply List.mem_cons_of_mem; apply List.mem_cons_of_mem; apply List.mem_cons_of_mem; apply List.mem_cons_of_mem; apply List.mem_cons_of_mem; apply List.mem_cons_of_mem; apply List.mem_cons_of_mem; apply List.mem_cons_of_mem; apply List.mem_cons_of_mem; apply List.mem_cons_of_mem; apply List.mem_cons_of_mem; apply List.mem_cons_of_mem; apply List.mem_cons_of_mem; apply List.mem_cons_of_mem; apply List.mem_cons_of_mem; apply List.mem_cons_of_mem; apply List.mem_cons_of_mem; apply List.mem_cons_of_mem; apply List.mem_cons_of_mem; exact List.mem_cons_self)
  have f_q135 := h2 (q135, _) (by apply List.mem_cons_of_mem; apply List.mem_cons_of_mem; apply List.mem_cons_of_mem; apply List.mem_cons_of_mem; apply List.mem_cons_of_mem; apply List.mem_cons_of_mem; apply List.mem_cons_of_mem; apply List.mem_cons_of_mem; apply List.mem_cons_of_mem; apply List.mem_cons_of_mem; apply List.mem_cons_of_mem; apply List.mem_cons_of_mem; apply List.mem_cons_of_mem; apply List.mem_cons_of_mem; apply List.mem_cons_of_mem; apply List.mem_cons_of_mem; apply List.mem_cons_of_mem; apply List.mem_cons_of_mem; apply List.mem_cons_of_mem; apply List.mem_cons_of_mem; apply List.mem_cons_of_mem; apply List.mem_cons_of_mem; apply List.mem_cons_of_mem; apply List.mem_cons_of_mem; apply List.mem_cons_of_mem; exact List.mem_cons_self)
  have f_q143 := h2 (q143, _) (by apply List.mem_cons_of_mem; apply List.mem_cons_of_mem; apply List.mem_cons_of_mem; apply List.mem_cons_of_mem; apply List.mem_cons_of_mem; apply List.mem_cons_of_mem; apply List.mem_cons_of_mem; apply List.mem_cons_of_mem; apply List.mem_cons_of_mem; apply List.mem_cons_of_mem; apply List.mem_cons_of_mem; apply List.mem_cons_of_mem; apply List.mem_cons_of_mem; apply List.mem_cons_of_mem; apply List.mem_cons_of_mem; apply List.mem_cons_of_mem; apply List.mem_cons_of_mem; apply List.mem_cons_of_mem; apply List.mem_cons_of_mem; apply List.mem_cons_of_mem; apply List.mem_cons_of_mem; apply List.mem_cons_of_mem; apply List.mem_cons_of_mem; apply List.mem_cons_of_mem; exact List.mem_cons_self)
  have f_q151 := h2 (q151, _) (by apply List.mem_cons_of_mem; apply List.mem_cons_of_mem; apply List.mem_cons_of_mem; apply List.mem_cons_of_mem; apply List.mem_cons_of_mem; apply List.mem_cons_of_mem; apply List.mem_cons_of_mem; apply List.mem_cons_of_mem; apply List.mem_cons_of_mem; apply List.mem_cons_of_mem; apply List.mem_cons_of_mem; apply List.mem_cons_of_mem; apply List.mem_cons_of_mem; apply List.mem_cons_of_mem; apply List.mem_cons_of_mem; apply List.mem_cons_of_mem; apply List.mem_cons_of_mem; apply List.mem_cons_of_mem; apply List.mem_cons_of_mem; apply List.mem_cons_of_mem; apply List.mem_cons_of_mem; apply List.mem_cons_of_mem; apply List.mem_cons_of_mem; exact List.mem_cons_self)
  have f_q160 := h2 (q160, _) (by apply List.mem_cons_of_mem; apply List.mem_cons_of_mem; apply List.mem_cons_of_mem; apply List.mem_cons_of_mem; apply List.mem_cons_of_mem; apply List.mem_cons_of_mem; apply List.mem_cons_of_mem; apply List.mem_cons_of_mem; apply List.mem_cons_of_mem; apply List.mem_cons_of_mem; apply List.mem_cons_of_mem; apply List.mem_cons_of_mem; apply List.mem_cons_of_mem; apply List.mem_cons_of_mem; apply List.mem_cons_of_mem; apply List.mem_cons_of_mem; apply List.mem_cons_of_mem; apply List.mem_cons_of_mem; apply List.mem_cons_of_mem; apply List.mem_cons_of_mem; apply List.mem_cons_of_mem; apply List.mem_cons_of_mem; exact List.mem_cons_self)
  have f_q168 := h2 (q168, _) (by apply List.mem_cons_of_mem; apply List.mem_cons_of_mem; apply List.mem_cons_of_mem; apply List.mem_cons_of_mem; apply List.mem_cons_of_mem; apply List.mem_cons_of_mem; apply List.mem_cons_of_mem; apply List.mem_cons_of_mem; apply List.mem_cons_of_mem; apply List.mem_cons_of_mem; apply List.mem_cons_of_mem; apply List.mem_cons_of_mem; apply List.mem_cons_of_mem; apply List.mem_cons_of_mem; apply List.mem_cons_of_mem; apply List.mem_cons_of_mem; apply List.mem_cons_of_mem; apply List.mem_cons_of_mem; apply List.mem_cons_of_mem; apply List.mem_cons_of_mem; apply List.mem_cons_of_mem; exact List.mem_cons_self)
  have f_q176 := h2 (q176, _) (by apply List.mem_cons_of_mem; apply List.mem_cons_of_mem; apply List.mem_cons_of_mem; apply List.mem_cons_of_mem; apply List.mem_cons_of_mem; apply List.mem_cons_of_mem; apply List.mem_cons_of_mem; apply List.mem_cons_of_mem; apply List.mem_cons_of_mem; apply List.mem_cons_of_mem; apply List.mem_cons_of_mem; apply List.mem_cons_of_mem; apply List.mem_cons_of_mem; apply List.mem_cons_of_mem; apply List.mem_cons_of_mem; apply List.mem_cons_of_mem; apply List.mem_cons_of_mem; apply List.mem_cons_of_mem; apply List.mem_cons_of_mem; apply List.mem_cons_of_mem; exact List.mem_cons_self)
  have f_q184 := h2 (q184, _) (by apply List.mem_cons_of_mem; apply List.mem_cons_of_mem; apply List.mem_cons_of_mem; apply List.mem_cons_of_mem; apply List.mem_cons_of_mem; apply List.mem_cons_of_mem; apply List.mem_cons_of_mem; apply List.mem_cons_of_mem; apply List.mem_cons_of_mem; apply List.mem_cons_of_mem; apply List.mem_cons_of_mem; apply List.mem_cons_of_mem; apply List.mem_cons_of_mem; apply List.mem_cons_of_mem; apply List.mem_cons_of_mem; apply List.mem_cons_of_mem; apply List.mem_cons_of_mem; apply List.mem_cons_of_mem; apply List.mem_cons_of_mem; exact List.mem_cons_self)
  have f_q192 := h2 (q192, _) (by apply List.mem_cons_of_mem; apply List.mem_cons_of_mem; apply List.mem_cons_of_mem; apply List.mem_cons_of_mem; apply List.mem_cons_of_mem; apply List.mem_cons_of_mem; apply List.mem_cons_of_mem; apply List.mem_cons_of_mem; apply List.mem_cons_of_mem; apply List.mem_cons_of_mem; apply List.mem_cons_of_mem; apply List.mem_cons_of_mem; apply List.mem_cons_of_mem; apply List.mem_cons_of_mem; apply List.mem_cons_of_mem; apply List.mem_cons_of_mem; apply List.mem_cons_of_mem; apply List.mem_cons_of_mem; exact List.mem_cons_self)
  have f_q200 := h2 (q200, _) (by apply List.mem_cons_of_mem; apply List.mem_cons_of_mem; apply List.mem_cons_of_mem; apply List.mem_cons_of_mem; apply List.mem_cons_of_mem; apply List.mem_cons_of_mem; apply List.mem_cons_of_mem; apply List.mem_cons_of_mem; apply List.mem_cons_of_mem; apply List.mem_cons_of_mem; apply List.mem_cons_of_mem; apply List.mem_cons_of_mem; apply List.mem_cons_of_mem; apply List.mem_cons_of_mem; apply List.mem_cons_of_mem; apply List.mem_cons_of_mem; apply List.mem_cons_of_mem; exact List.mem_cons_self)
  have f_q208 := h2 (q208, _) (by apply List.mem_cons_of_mem; apply List.mem_cons_of_mem; apply List.mem_cons_of_mem; apply List.mem_cons_of_mem; apply List.mem_cons_of_mem; apply List.mem_cons_of_mem; apply List.mem_cons_of_mem; apply List.mem_cons_of_mem; apply List.mem_cons_of_mem; apply List.mem_cons_of_mem; apply List.mem_cons_of_mem; apply List.mem_cons_of_mem; apply List.mem_cons_of_mem; apply List.mem_cons_of_mem; apply List.mem_cons_of_mem; apply List.mem_cons_of_mem; exact List.mem_cons_self)
  have f_q216 := h2 (q216, _) (by apply List.mem_cons_of_mem; apply List.mem_cons_of_mem; apply List.mem_cons_of_mem; apply List.mem_cons_of_mem; apply List.mem_cons_of_mem; apply List.mem_cons_of_mem; apply List.mem_cons_of_mem; apply List.mem_cons_of_mem; apply List.mem_cons_of_mem; apply List.mem_cons_of_mem; apply List.mem_cons_of_mem; apply List.mem_cons_of_mem; apply List.mem_cons_of_mem; apply List.mem_cons_of_mem; apply List.mem_cons_of_mem; exact List.mem_cons_self)
  have f_q224 := h2 (q224, _) (by apply List.mem_cons_of_mem; apply List.mem_cons_of_mem; apply List.mem_cons_of_mem; apply List.mem_cons_of_mem; apply List.mem_cons_of_mem; apply List.mem_cons_of_mem; apply List.mem_cons_of_mem; apply List.mem_cons_of_mem; apply List.mem_cons_of_mem; apply List.mem_cons_of_mem; apply List.mem_cons_of_mem; apply List.mem_cons_of_mem; apply List.mem_cons_of_mem; apply List.mem_cons_of_mem; exact List.mem_cons_self)
  have f_q232 := h2 (q232, _) (by apply List.mem_cons_of_mem; apply List.mem_cons_of_mem; apply List.mem_cons_of_mem; apply List.mem_cons_of_mem; apply List.mem_cons_of_mem; apply List.mem_cons_of_mem; apply List.mem_cons_of_mem; apply List.mem_cons_of_mem; apply List.mem_cons_of_mem; apply List.mem_cons_of_mem; apply List.mem_cons_of_mem; apply List.mem_cons_of_mem; apply List.mem_cons_of_mem; exact List.mem_cons_self)
  have f_q240 := h2 (q240, _) (by apply List.mem_cons_of_mem; apply List.mem_cons_of_mem; apply List.mem_cons_of_mem; apply List.mem_cons_of_mem; apply List.mem_cons_of_mem; apply List.mem_cons_of_mem; apply List.mem_cons_of_mem; apply List.mem_cons_of_mem; apply List.mem_cons_of_mem; apply List.mem_cons_of_mem; apply List.mem_cons_of_mem; apply List.mem_cons_of_mem; exact List.mem_cons_self)
  have f_q248 := h2 (q248, _) (by apply List.mem_cons_of_mem; apply List.mem_cons_of_mem; apply List.mem_cons_of_mem; apply List.mem_cons_of_mem; apply List.mem_cons_of_mem; apply List.mem_cons_of_mem; apply List.mem_cons_of_mem; apply List.mem_cons_of_mem; apply List.mem_cons_of_mem; apply List.mem_cons_of_mem; apply List.mem_cons_of_mem; exact List.mem_cons_self)
  have f_q256 := h2 (q256, _) (by apply List.mem_cons_of_mem; apply List.mem_cons_of_mem; apply List.mem_cons_of_mem; apply List.mem_cons_of_mem; apply List.mem_cons_of_mem; apply List.mem_cons_of_mem; apply List.mem_cons_of_mem; apply List.mem_cons_of_mem; apply List.mem_cons_of_mem; apply List.mem_cons_of_mem; exact List.mem_cons_self)
  have f_q264 := h2 (q264, _) (by apply List.mem_cons_of_mem; apply List.mem_cons_of_mem; apply List.mem_cons_of_mem; apply List.mem_cons_of_mem; apply List.mem_cons_of_mem; apply List.mem_cons_of_mem; apply List.mem_cons_of_mem; apply List.mem_cons_of_mem; apply List.mem_cons_of_mem; exact List.mem_cons_self)
  have f_q272 := h2 (q272, _) (by apply List.mem_cons_of_mem; apply List.mem_cons_of_mem; apply List.mem_cons_of_mem; apply List.mem_cons_of_mem; apply List.mem_cons_of_mem; apply List.mem_cons_of_mem; apply List.mem_cons_of_mem; apply List.mem_cons_of_mem; exact List.mem_cons_self)
  have f_q280 := h2 (q280, _) (by apply List.mem_cons_of_mem; apply List.mem_cons_of_mem; apply List.mem_cons_of_mem; apply List.mem_cons_of_mem; apply List.mem_cons_of_mem; apply List.mem_cons_of_mem; apply List.mem_cons_of_mem; exact List.mem_cons_self)
  have f_q288 := h2 (q288, _) (by apply List.mem_cons_of_mem; apply List.mem_cons_of_mem; apply List.mem_cons_of_mem; apply List.mem_cons_of_mem; apply List.mem_cons_of_mem; apply List.mem_cons_of_mem; exact List.mem_cons_self)
  have f_q296 := h2 (q296, _) (by apply List.mem_cons_of_mem; apply List.mem_cons_of_mem; apply List.mem_cons_of_mem; apply List.mem_cons_of_mem; apply List.mem_cons_of_mem; exact List.mem_cons_self)
  have f_q304 := h2 (q304, _) (by apply List.mem_cons_of_mem; apply List.mem_cons_of_mem; apply List.mem_cons_of_mem; apply List.mem_cons_of_mem; exact List.mem_cons_self)
  have f_q313 := h2 (q313, _) (by apply List.mem_cons_of_mem; apply List.mem_cons_of_mem; apply List.mem_cons_of_mem; exact List.mem_cons_self)
  have f_q321 := h2 (q321, _) (by apply List.mem_cons_of_mem; apply List.mem_cons_of_mem; exact List.mem_cons_self)
  have f_q329 := h2 (q329, _) (by apply List.mem_cons_of_mem; exact List.mem_cons_self)
  have f_q337 := h2 (q337, _) (by  exact List.mem_cons_self)
  have nd : [q7, q15, q23, q31, q39, q47, q55, q63, q71, q79, q87, q95, q103, q111, q119, q127, q135, q143, q151, q160, q168, q176, q184, q192, q200, q208, q216, q224, q232, q240, q248, q256, q264, q272, q280, q288, q296, q304, q313, q321, q329, q337].Nodup := (List.pairwise_reverse (l := [q337, q329, q321, q313, q304, q296, q288, q280, q272, q264, q256, q248, q240, q232, q224, q216, q208, q200, q192, q184, q176, q168, q160, q151, q143, q135, q127, q119, q111, q103, q95, q87, q79, q71, q63, q55, q47, q39, q31, q23, q15, q7]) (R := (· ≠ ·))).mpr (List.Pairwise.imp (fun h => Ne.symm h) h3)
  refine ⟨(fun k => if k = 2 then q7 else if k = 3 then q15 else if k = 4 then q23 else if k = 5 then q31 else if k = 6 then q39 else if k = 7 then q47 else if k = 8 then q55 else if k = 9 then q63 else if k = 11 then q71 else if k = 12 then q79 else if k = 13 then q87 else if k = 14 then q95 else if k = 15 then q103 else if k = 16 then q111 else if k = 17 then q119 else if k = 19 then q127 else if k = 20 then q135 else if k = 21 then q143 else if k = 22 then q151 else if k = 23 then q160 else if k = 25 then q168 else if k = 26 then q176 else if k = 27 then q184 else if k = 28 then q192 else if k = 29 then q200 else if k = 30 then q208 else if k = 32 then q216 else if k = 33 then q224 else if k = 34 then q232 else if k = 36 then q240 else if k = 37 then q248 else if k = 38 then q256 else if k = 39 then q264 else if k = 45 then q272 else if k = 46 then q280 else if k = 51 then q288 else if k = 52 then q296 else if k = 53 then q304 else if k = 54 then q313 else if k = 56 then q321 else if k = 57 then q329 else if k = 58 then q337 else 0), ⟨h1, ?_, ?_, f_q208.1, map_inj mA nd⟩, ?_, h4⟩
  · intro k hk
    rcases (show k = 2 ∨ k = 3 ∨ k = 4 ∨ k = 5 ∨ k = 11 ∨ k = 12 ∨ k = 13 ∨ k = 14 ∨ k = 19 ∨ k = 20 ∨ k = 21 ∨ k = 23 ∨ k = 25 ∨ k = 26 ∨ k = 27 ∨ k = 28 ∨ k = 29 ∨ k = 32 ∨ k = 33 ∨ k = 34 ∨ k = 36 ∨ k = 37 ∨ k = 38 ∨ k = 45 ∨ k = 46 ∨ k = 51 ∨ k = 52 ∨ k = 53 ∨ k = 56 ∨ k = 57 ∨ k = 58 by simpa [mI] using hk) with rfl | rfl | rfl | rfl | rfl | rfl | rfl | rfl | rfl | rfl | rfl | rfl | rfl | rfl | rfl | rfl | rfl | rfl | rfl | rfl | rfl | rfl | rfl | rfl | rfl | rfl | rfl | rfl | rfl | rfl | rfl
    · exact f_q7.1
    · exact f_q15.1
    · exact f_q23.1
    · exact f_q31.1
    · exact f_q71.1
    · exact f_q79.1
    · exact f_q87.1
    · exact f_q95.1
    · exact f_q127.1
    · exact f_q135.1
    · exact f_q143.1
    · exact f_q160.1
    · exact f_q168.1
    · exact f_q176.1
    · exact f_q184.1
    · exact f_q192.1
    · exact f_q200.1
    · exact f_q216.1
    · exact f_q224.1
    · exact f_q232.1
    · exact f_q240.1
    · exact f_q248.1
    · exact f_q256.1
    · exact f_q272.1
    · exact f_q280.1
    · exact f_q288.1
    · exact f_q296.1
    · exact f_q304.1
    · exact f_q321.1
    · exact f_q329.1
    · exact f_q337.1
  · intro k hk
    rcases (show k = 6 ∨ k = 7 ∨ k = 8 ∨ k = 9 ∨ k = 15 ∨ k = 16 ∨ k = 17 ∨ k = 22 ∨ k = 39 ∨ k = 54 by simpa [mJ] using hk) with rfl | rfl | rfl | rfl | rfl | rfl | rfl | rfl | rfl | rfl
    · exact f_q39.1
    · exact f_q47.1
    · exact f_q55.1
    · exact f_q63.1
    · exact f_q103.1
    · exact f_q111.1
    · exact f_q119.1
    · exact f_q151.1
    · exact f_q264.1
    · exact f_q313.1
  · intro k hk
    rcases (show k = 2 ∨ k = 3 ∨ k = 4 ∨ k = 5 ∨ k = 6 ∨ k = 7 ∨ k = 8 ∨ k = 9 ∨ k = 11 ∨ k = 12 ∨ k = 13 ∨ k = 14 ∨ k = 15 ∨ k = 16 ∨ k = 17 ∨ k = 19 ∨ k = 20 ∨ k = 21 ∨ k = 22 ∨ k = 23 ∨ k = 25 ∨ k = 26 ∨ k = 27 ∨ k = 28 ∨ k = 29 ∨ k = 30 ∨ k = 32 ∨ k = 33 ∨ k = 34 ∨ k = 36 ∨ k = 37 ∨ k = 38 ∨ k = 39 ∨ k = 45 ∨ k = 46 ∨ k = 51 ∨ k = 52 ∨ k = 53 ∨ k = 54 ∨ k = 56 ∨ k = 57 ∨ k = 58 by simpa [mA] using hk) with rfl | rfl | rfl | rfl | rfl | rfl | rfl | rfl | rfl | rfl | rfl | rfl | rfl | rfl | rfl | rfl | rfl | rfl | rfl | rfl | rfl | rfl | rfl | rfl | rfl | rfl | rfl | rfl | rfl | rfl | rfl | rfl | rfl | rfl | rfl | rfl | rfl | rfl | rfl | rfl | rfl | rfl
    · exact f_q7.2.1
    · exact f_q15.2.1
    · exact f_q23.2.1
    · exact f_q31.2.1
    · exact f_q39.2.1
    · exact f_q47.2.1
    · exact f_q55.2.1
    · exact f_q63.2.1
    · exact f_q71.2.1
    · exact f_q79.2.1
    · exact f_q87.2.1
    · exact f_q95.2.1
    · exact f_q103.2.1
    · exact f_q111.2.1
    · exact f_q119.2.1
    · exact f_q127.2.1
    · exact f_q135.2.1
    · exact f_q143.2.1
    · exact f_q151.2.1
    · exact f_q160.2.1
    · exact f_q168.2.1
    · exact f_q176.2.1
    · exact f_q184.2.1
    · exact f_q192.2.1
    · exact f_q200.2.1
    · exact f_q208.2.1
    · exact f_q216.2.1
    · exact f_q224.2.1
    · exact f_q232.2.1
    · exact f_q240.2.1
    · exact f_q248.2.1
    · exact f_q256.2.1
    · exact f_q264.2.1
    · exact f_q272.2.1
    · exact f_q280.2.1
    · exact f_q288.2.1
    · exact f_q296.2.1
    · exact f_q304.2.1
    · exact f_q313.2.1
    · exact f_q321.2.1
    · exact f_q329.2.1
    · exact f_q337.2.1

set_option maxRecDepth 100000 in
set_option maxHeartbeats 4000000 in
theorem m_Model (K : Kx) {w : Wd} {a : Nat} (n : Int32) (ha : w a = some (.inr (11, [.int 0, .int 0, .null, .null, .null, .null, .null, .null, .null, .null, .int 0, .null, .null, .null, .null, .null, .null, .null, .int 0, .null, .null, .null, .null, .null, .int 0, .null, .null, .null, .null, .null, .null, .int 0, .null, .null, .null, .int 0, .null, .null, .null, .null, .int 0, .long 0, .long 0, .long 0, .int 0, .null, .null, .int 0, .int 0, .int 0, .int 0, .null, .null, .null, .null, .int 0, .null, .null, .null]))) : MT K mX10_init 1 42 28650 [.ref a, .int n] w (PV fun w' => ∃ ad : Nat → Nat, MA K.2.1 w' a ad (S0 (mo n)) ∧ (∀ k ∈ mA, w (ad k) = none) ∧ ∀ x, x ≠ a → w x ≠ none → w' x = w x) := by
  refine MT.of [some (.ref a), some (.int n)] (by decide) rfl (nle rfl) rfl ?_
  intro E hC hR
  have hH := HC.start ha
  refine j_aload_n hC dX10_init_0 rfl ?_
  refine j_obj hC dX10_init_1 lX10_1 i_objectInit c_objectInit rfl (nle rfl) (by decide) ?_
  refine j_aload_n hC dX10_init_4 rfl ?_
  refine j_bipush hC (24) dX10_init_5 (by decide) ?_
  refine j_newI (n' := 24) (kc' := 41) (ks' := 28626) hC dX10_init_7 ac_I (by decide) (by decide) (by decide) (by decide) (by decide) (fun q7 hq7 => ?_)
  refine J.gen (P := fun w' => HC w w' a _ _) (hH.new hq7 _) (fun v1 hH => ?_)
  refine j_putF (fs' := [_, _, _, _, _, _, _, _, _, _, _, _, _, _, _, _, _, _, _, _, _, _, _, _, _, _, _, _, _, _, _, _, _, _, _, _, _, _, _, _, _, _, _, _, _, _, _, _, _, _, _, _, _, _, _, _, _, _, _]) hC cfX10 dX10_init_9 hR.nm fX10_7 rfl rfl (by decide) hH.1 rfl rfl (nlt rfl) rfl ?_
  refine J.gen (P := fun w' => HC w w' a _ _) (hH.put _) (fun v2 hH => ?_)
  refine j_aload_n hC dX10_init_12 rfl ?_
  refine j_bipush hC (24) dX10_init_13 (by decide) ?_
  refine j_newI (n' := 24) (kc' := 40) (ks' := 28602) hC dX10_init_15 ac_I (by decide) (by decide) (by decide) (by decide) (by decide) (fun q15 hq15 => ?_)
  refine J.gen (P := fun w' => HC w w' a _ _) (hH.new hq15 _) (fun v3 hH => ?_)
  refine j_putF (fs' := [_, _, _, _, _, _, _, _, _, _, _, _, _, _, _, _, _, _, _, _, _, _, _, _, _, _, _, _, _, _, _, _, _, _, _, _, _, _, _, _, _, _, _, _, _, _, _, _, _, _, _, _, _, _, _, _, _, _, _]) hC cfX10 dX10_init_17 hR.nm fX10_13 rfl rfl (by decide) hH.1 rfl rfl (nlt rfl) rfl ?_
  refine J.gen (P := fun w' => HC w w' a _ _) (hH.put _) (fun v4 hH => ?_)
  refine j_aload_n hC dX10_init_20 rfl ?_
  refine j_bipush hC (24) dX10_init_21 (by decide) ?_
  refine j_newI (n' := 24) (kc' := 39) (ks' := 28578) hC dX10_init_23 ac_I (by decide) (by decide) (by decide) (by decide) (by decide) (fun q23 hq23 => ?_)
  refine J.gen (P := fun w' => HC w w' a _ _) (hH.new hq23 _) (fun v5 hH => ?_)
  refine j_putF (fs' := [_, _, _, _, _, _, _, _, _, _, _, _, _, _, _, _, _, _, _, _, _, _, _, _, _, _, _, _, _, _, _, _, _, _, _, _, _, _, _, _, _, _, _, _, _, _, _, _, _, _, _, _, _, _, _, _, _, _, _]) hC cfX10 dX10_init_25 hR.nm fX10_16 rfl rfl (by decide) hH.1 rfl rfl (nlt rfl) rfl ?_
  refine J.gen (P := fun w' => HC w w' a _ _) (hH.put _) (fun v6 hH => ?_)
  refine j_aload_n hC dX10_init_28 rfl ?_
  refine j_bipush hC (24) dX10_init_29 (by decide) ?_
  refine j_newI (n' := 24) (kc' := 38) (ks' := 28554) hC dX10_init_31 ac_I (by decide) (by decide) (by decide) (by decide) (by decide) (fun q31 hq31 => ?_)
  refine J.gen (P := fun w' => HC w w' a _ _) (hH.new hq31 _) (fun v7 hH => ?_)
  refine j_putF (fs' := [_, _, _, _, _, _, _, _, _, _, _, _, _, _, _, _, _, _, _, _, _, _, _, _, _, _, _, _, _, _, _, _, _, _, _, _, _, _, _, _, _, _, _, _, _, _, _, _, _, _, _, _, _, _, _, _, _, _, _]) hC cfX10 dX10_init_33 hR.nm fX10_19 rfl rfl (by decide) hH.1 rfl rfl (nlt rfl) rfl ?_
  refine J.gen (P := fun w' => HC w w' a _ _) (hH.put _) (fun v8 hH => ?_)
  refine j_aload_n hC dX10_init_36 rfl ?_
  refine j_bipush hC (24) dX10_init_37 (by decide) ?_
  refine j_newJ (n' := 24) (kc' := 37) (ks' := 28530) hC dX10_init_39 ac_J (by decide) (by decide) (by decide) (by decide) (by decide) (fun q39 hq39 => ?_)
  refine J.gen (P := fun w' => HC w w' a _ _) (hH.new hq39 _) (fun v9 hH => ?_)
  refine j_putF (fs' := [_, _, _, _, _, _, _, _, _, _, _, _, _, _, _, _, _, _, _, _, _, _, _, _, _, _, _, _, _, _, _, _, _, _, _, _, _, _, _, _, _, _, _, _, _, _, _, _, _, _, _, _, _, _, _, _, _, _, _]) hC cfX10 dX10_init_41 hR.nm fX10_22 rfl rfl (by decide) hH.1 rfl rfl (nlt rfl) rfl ?_
  refine J.gen (P := fun w' => HC w w' a _ _) (hH.put _) (fun v10 hH => ?_)
  refine j_aload_n hC dX10_init_44 rfl ?_
  refine j_bipush hC (24) dX10_init_45 (by decide) ?_
  refine j_newJ (n' := 24) (kc' := 36) (ks' := 28506) hC dX10_init_47 ac_J (by decide) (by decide) (by decide) (by decide) (by decide) (fun q47 hq47 => ?_)
  refine J.gen (P := fun w' => HC w w' a _ _) (hH.new hq47 _) (fun v11 hH => ?_)
  refine j_putF (fs' := [_, _, _, _, _, _, _, _, _, _, _, _, _, _, _, _, _, _, _, _, _, _, _, _, _, _, _, _, _, _, _, _, _, _, _, _, _, _, _, _, _, _, _, _, _, _, _, _, _, _, _, _, _, _, _, _, _, _, _]) hC cfX10 dX10_init_49 hR.nm fX10_26 rfl rfl (by decide) hH.1 rfl rfl (nlt rfl) rfl ?_
  refine J.gen (P := fun w' => HC w w' a _ _) (hH.put _) (fun v12 hH => ?_)
  refine j_aload_n hC dX10_init_52 rfl ?_
  refine j_bipush hC (24) dX10_init_53 (by decide) ?_
  refine j_newJ (n' := 24) (kc' := 35) (ks' := 28482) hC dX10_init_55 ac_J (by decide) (by decide) (by decide) (by decide) (by decide) (fun q55 hq55 => ?_)
  refine J.gen (P := fun w' => HC w w' a _ _) (hH.new hq55 _) (fun v13 hH => ?_)
  refine j_putF (fs' := [_, _, _, _, _, _, _, _, _, _, _, _, _, _, _, _, _, _, _, _, _, _, _, _, _, _, _, _, _, _, _, _, _, _, _, _, _, _, _, _, _, _, _, _, _, _, _, _, _, _, _, _, _, _, _, _, _, _, _]) hC cfX10 dX10_init_57 hR.nm fX10_29 rfl rfl (by decide) hH.1 rfl rfl (nlt rfl) rfl ?_
  refine J.gen (P := fun w' => HC w w' a _ _) (hH.put _) (fun v14 hH => ?_)
  refine j_aload_n hC dX10_init_60 rfl ?_
  refine j_bipush hC (24) dX10_init_61 (by decide) ?_
  refine j_newJ (n' := 24) (kc' := 34) (ks' := 28458) hC dX10_init_63 ac_J (by decide) (by decide) (by decide) (by decide) (by decide) (fun q63 hq63 => ?_)
  refine J.gen (P := fun w' => HC w w' a _ _) (hH.new hq63 _) (fun v15 hH => ?_)
  refine j_putF (fs' := [_, _, _, _, _, _, _, _, _, _, _, _, _, _, _, _, _, _, _, _, _, _, _, _, _, _, _, _, _, _, _, _, _, _, _, _, _, _, _, _, _, _, _, _, _, _, _, _, _, _, _, _, _, _, _, _, _, _, _]) hC cfX10 dX10_init_65 hR.nm fX10_32 rfl rfl (by decide) hH.1 rfl rfl (nlt rfl) rfl ?_
  refine J.gen (P := fun w' => HC w w' a _ _) (hH.put _) (fun v16 hH => ?_)
  refine j_aload_n hC dX10_init_68 rfl ?_
  refine j_bipush hC (40) dX10_init_69 (by decide) ?_
  refine j_newI (n' := 40) (kc' := 33) (ks' := 28418) hC dX10_init_71 ac_I (by decide) (by decide) (by decide) (by decide) (by decide) (fun q71 hq71 => ?_)
  refine J.gen (P := fun w' => HC w w' a _ _) (hH.new hq71 _) (fun v17 hH => ?_)
  refine j_putF (fs' := [_, _, _, _, _, _, _, _, _, _, _, _, _, _, _, _, _, _, _, _, _, _, _, _, _, _, _, _, _, _, _, _, _, _, _, _, _, _, _, _, _, _, _, _, _, _, _, _, _, _, _, _, _, _, _, _, _, _, _]) hC cfX10 dX10_init_73 hR.nm fX10_35 rfl rfl (by decide) hH.1 rfl rfl (nlt rfl) rfl ?_
  refine J.gen (P := fun w' => HC w w' a _ _) (hH.put _) (fun v18 hH => ?_)
  refine j_aload_n hC dX10_init_76 rfl ?_
  refine j_bipush hC (40) dX10_init_77 (by decide) ?_
  refine j_newI (n' := 40) (kc' := 32) (ks' := 28378) hC dX10_init_79 ac_I (by decide) (by decide) (by decide) (by decide) (by decide) (fun q79 hq79 => ?_)
  refine J.gen (P := fun w' => HC w w' a _ _) (hH.new hq79 _) (fun v19 hH => ?_)
  refine j_putF (fs' := [_, _, _, _, _, _, _, _, _, _, _, _, _, _, _, _, _, _, _, _, _, _, _, _, _, _, _, _, _, _, _, _, _, _, _, _, _, _, _, _, _, _, _, _, _, _, _, _, _, _, _, _, _, _, _, _, _, _, _]) hC cfX10 dX10_init_81 hR.nm fX10_38 rfl rfl (by decide) hH.1 rfl rfl (nlt rfl) rfl ?_
  refine J.gen (P := fun w' => HC w w' a _ _) (hH.put _) (fun v20 hH => ?_)
  refine j_aload_n hC dX10_init_84 rfl ?_
  refine j_bipush hC (40) dX10_init_85 (by decide) ?_
  refine j_newI (n' := 40) (kc' := 31) (ks' := 28338) hC dX10_init_87 ac_I (by decide) (by decide) (by decide) (by decide) (by decide) (fun q87 hq87 => ?_)
  refine J.gen (P := fun w' => HC w w' a _ _) (hH.new hq87 _) (fun v21 hH => ?_)
  refine j_putF (fs' := [_, _, _, _, _, _, _, _, _, _, _, _, _, _, _, _, _, _, _, _, _, _, _, _, _, _, _, _, _, _, _, _, _, _, _, _, _, _, _, _, _, _, _, _, _, _, _, _, _, _, _, _, _, _, _, _, _, _, _]) hC cfX10 dX10_init_89 hR.nm fX10_41 rfl rfl (by decide) hH.1 rfl rfl (nlt rfl) rfl ?_
  refine J.gen (P := fun w' => HC w w' a _ _) (hH.put _) (fun v22 hH => ?_)
  refine j_aload_n hC dX10_init_92 rfl ?_
  refine j_bipush hC (40) dX10_init_93 (by decide) ?_
  refine j_newI (n' := 40) (kc' := 30) (ks' := 28298) hC dX10_init_95 ac_I (by decide) (by decide) (by decide) (by decide) (by decide) (fun q95 hq95 => ?_)
  refine J.gen (P := fun w' => HC w w' a _ _) (hH.new hq95 _) (fun v23 hH => ?_)
  refine j_putF (fs' := [_, _, _, _, _, _, _, _, _, _, _, _, _, _, _, _, _, _, _, _, _, _, _, _, _, _, _, _, _, _, _, _, _, _, _, _, _, _, _, _, _, _, _, _, _, _, _, _, _, _, _, _, _, _, _, _, _, _, _]) hC cfX10 dX10_init_97 hR.nm fX10_44 rfl rfl (by decide) hH.1 rfl rfl (nlt rfl) rfl ?_
  refine J.gen (P := fun w' => HC w w' a _ _) (hH.put _) (fun v24 hH => ?_)
  refine j_aload_n hC dX10_init_100 rfl ?_
  refine j_bipush hC (40) dX10_init_101 (by decide) ?_
  refine j_newJ (n' := 40) (kc' := 29) (ks' := 28258) hC dX10_init_103 ac_J (by decide) (by decide) (by decide) (by decide) (by decide) (fun q103 hq103 => ?_)
  refine J.gen (P := fun w' => HC w w' a _ _) (hH.new hq103 _) (fun v25 hH => ?_)
  refine j_putF (fs' := [_, _, _, _, _, _, _, _, _, _, _, _, _, _, _, _, _, _, _, _, _, _, _, _, _, _, _, _, _, _, _, _, _, _, _, _, _, _, _, _, _, _, _, _, _, _, _, _, _, _, _, _, _, _, _, _, _, _, _]) hC cfX10 dX10_init_105 hR.nm fX10_47 rfl rfl (by decide) hH.1 rfl rfl (nlt rfl) rfl ?_
  refine J.gen (P := fun w' => HC w w' a _ _) (hH.put _) (fun v26 hH => ?_)
  refine j_aload_n hC dX10_init_108 rfl ?_
  refine j_bipush hC (40) dX10_init_109 (by decide) ?_
  refine j_newJ (n' := 40) (kc' := 28) (ks' := 28218) hC dX10_init_111 ac_J (by decide) (by decide) (by decide) (by decide) (by decide) (fun q111 hq111 => ?_)
  refine J.gen (P := fun w' => HC w w' a _ _) (hH.new hq111 _) (fun v27 hH => ?_)
  refine j_putF (fs' := [_, _, _, _, _, _, _, _, _, _, _, _, _, _, _, _, _, _, _, _, _, _, _, _, _, _, _, _, _, _, _, _, _, _, _, _, _, _, _, _, _, _, _, _, _, _, _, _, _, _, _, _, _, _, _, _, _, _, _]) hC cfX10 dX10_init_113 hR.nm fX10_50 rfl rfl (by decide) hH.1 rfl rfl (nlt rfl) rfl ?_
  refine J.gen (P := fun w' => HC w w' a _ _) (hH.put _) (fun v28 hH => ?_)
  refine j_aload_n hC dX10_init_116 rfl ?_
  refine j_bipush hC (40) dX10_init_117 (by decide) ?_
  refine j_newJ (n' := 40) (kc' := 27) (ks' := 28178) hC dX10_init_119 ac_J (by decide) (by decide) (by decide) (by decide) (by decide) (fun q119 hq119 => ?_)
  refine J.gen (P := fun w' => HC w w' a _ _) (hH.new hq119 _) (fun v29 hH => ?_)
  refine j_putF (fs' := [_, _, _, _, _, _, _, _, _, _, _, _, _, _, _, _, _, _, _, _, _, _, _, _, _, _, _, _, _, _, _, _, _, _, _, _, _, _, _, _, _, _, _, _, _, _, _, _, _, _, _, _, _, _, _, _, _, _, _]) hC cfX10 dX10_init_121 hR.nm fX10_53 rfl rfl (by decide) hH.1 rfl rfl (nlt rfl) rfl ?_
  refine J.gen (P := fun w' => HC w w' a _ _) (hH.put _) (fun v30 hH => ?_)
  refine j_aload_n hC dX10_init_124 rfl ?_
  refine j_bipush hC (24) dX10_init_125 (by decide) ?_
  refine j_newI (n' := 24) (kc' := 26) (ks' := 28154) hC dX10_init_127 ac_I (by decide) (by decide) (by decide) (by decide) (by decide) (fun q127 hq127 => ?_)
  refine J.gen (P := fun w' => HC w w' a _ _) (hH.new hq127 _) (fun v31 hH => ?_)
  refine j_putF (fs' := [_, _, _, _, _, _, _, _, _, _, _, _, _, _, _, _, _, _, _, _, _, _, _, _, _, _, _, _, _, _, _, _, _, _, _, _, _, _, _, _, _, _, _, _, _, _, _, _, _, _, _, _, _, _, _, _, _, _, _]) hC cfX10 dX10_init_129 hR.nm fX10_56 rfl rfl (by decide) hH.1 rfl rfl (nlt rfl) rfl ?_
  refine J.gen (P := fun w' => HC w w' a _ _) (hH.put _) (fun v32 hH => ?_)
  refine j_aload_n hC dX10_init_132 rfl ?_
  refine j_bipush hC (24) dX10_init_133 (by decide) ?_
  refine j_newI (n' := 24) (kc' := 25) (ks' := 28130) hC dX10_init_135 ac_I (by decide) (by decide) (by decide) (by decide) (by decide) (fun q135 hq135 => ?_)
  refine J.gen (P := fun w' => HC w w' a _ _) (hH.new hq135 _) (fun v33 hH => ?_)
  refine j_putF (fs' := [_, _, _, _, _, _, _, _, _, _, _, _, _, _, _, _, _, _, _, _, _, _, _, _, _, _, _, _, _, _, _, _, _, _, _, _, _, _, _, _, _, _, _, _, _, _, _, _, _, _, _, _, _, _, _, _, _, _, _]) hC cfX10 dX10_init_137 hR.nm fX10_59 rfl rfl (by decide) hH.1 rfl rfl (nlt rfl) rfl ?_
  refine J.gen (P := fun w' => HC w w' a _ _) (hH.put _) (fun v34 hH => ?_)
  refine j_aload_n hC dX10_init_140 rfl ?_
  refine j_bipush hC (24) dX10_init_141 (by decide) ?_
  refine j_newI (n' := 24) (kc' := 24) (ks' := 28106) hC dX10_init_143 ac_I (by decide) (by decide) (by decide) (by decide) (by decide) (fun q143 hq143 => ?_)
  refine J.gen (P := fun w' => HC w w' a _ _) (hH.new hq143 _) (fun v35 hH => ?_)
  refine j_putF (fs' := [_, _, _, _, _, _, _, _, _, _, _, _, _, _, _, _, _, _, _, _, _, _, _, _, _, _, _, _, _, _, _, _, _, _, _, _, _, _, _, _, _, _, _, _, _, _, _, _, _, _, _, _, _, _, _, _, _, _, _]) hC cfX10 dX10_init_145 hR.nm fX10_62 rfl rfl (by decide) hH.1 rfl rfl (nlt rfl) rfl ?_
  refine J.gen (P := fun w' => HC w w' a _ _) (hH.put _) (fun v36 hH => ?_)
  refine j_aload_n hC dX10_init_148 rfl ?_
  refine j_bipush hC (24) dX10_init_149 (by decide) ?_
  refine j_newJ (n' := 24) (kc' := 23) (ks' := 28082) hC dX10_init_151 ac_J (by decide) (by decide) (by decide) (by decide) (by decide) (fun q151 hq151 => ?_)
  refine J.gen (P := fun w' => HC w w' a _ _) (hH.new hq151 _) (fun v37 hH => ?_)
  refine j_putF (fs' := [_, _, _, _, _, _, _, _, _, _, _, _, _, _, _, _, _, _, _, _, _, _, _, _, _, _, _, _, _, _, _, _, _, _, _, _, _, _, _, _, _, _, _, _, _, _, _, _, _, _, _, _, _, _, _, _, _, _, _]) hC cfX10 dX10_init_153 hR.nm fX10_65 rfl rfl (by decide) hH.1 rfl rfl (nlt rfl) rfl ?_
  refine J.gen (P := fun w' => HC w w' a _ _) (hH.put _) (fun v38 hH => ?_)
  refine j_aload_n hC dX10_init_156 rfl ?_
  refine j_sipush hC (1440) dX10_init_157 (by decide) ?_
  refine j_newI (n' := 1440) (kc' := 22) (ks' := 26642) hC dX10_init_160 ac_I (by decide) (by decide) (by decide) (by decide) (by decide) (fun q160 hq160 => ?_)
  refine J.gen (P := fun w' => HC w w' a _ _) (hH.new hq160 _) (fun v39 hH => ?_)
  refine j_putF (fs' := [_, _, _, _, _, _, _, _, _, _, _, _, _, _, _, _, _, _, _, _, _, _, _, _, _, _, _, _, _, _, _, _, _, _, _, _, _, _, _, _, _, _, _, _, _, _, _, _, _, _, _, _, _, _, _, _, _, _, _]) hC cfX10 dX10_init_162 hR.nm fX10_68 rfl rfl (by decide) hH.1 rfl rfl (nlt rfl) rfl ?_
  refine J.gen (P := fun w' => HC w w' a _ _) (hH.put _) (fun v40 hH => ?_)
  refine j_aload_n hC dX10_init_165 rfl ?_
  refine j_bipush hC (8) dX10_init_166 (by decide) ?_
  refine j_newI (n' := 8) (kc' := 21) (ks' := 26634) hC dX10_init_168 ac_I (by decide) (by decide) (by decide) (by decide) (by decide) (fun q168 hq168 => ?_)
  refine J.gen (P := fun w' => HC w w' a _ _) (hH.new hq168 _) (fun v41 hH => ?_)
  refine j_putF (fs' := [_, _, _, _, _, _, _, _, _, _, _, _, _, _, _, _, _, _, _, _, _, _, _, _, _, _, _, _, _, _, _, _, _, _, _, _, _, _, _, _, _, _, _, _, _, _, _, _, _, _, _, _, _, _, _, _, _, _, _]) hC cfX10 dX10_init_170 hR.nm fX10_71 rfl rfl (by decide) hH.1 rfl rfl (nlt rfl) rfl ?_
  refine J.gen (P := fun w' => HC w w' a _ _) (hH.put _) (fun v42 hH => ?_)
  refine j_aload_n hC dX10_init_173 rfl ?_
  refine j_bipush hC (8) dX10_init_174 (by decide) ?_
  refine j_newI (n' := 8) (kc' := 20) (ks' := 26626) hC dX10_init_176 ac_I (by decide) (by decide) (by decide) (by decide) (by decide) (fun q176 hq176 => ?_)
  refine J.gen (P := fun w' => HC w w' a _ _) (hH.new hq176 _) (fun v43 hH => ?_)
  refine j_putF (fs' := [_, _, _, _, _, _, _, _, _, _, _, _, _, _, _, _, _, _, _, _, _, _, _, _, _, _, _, _, _, _, _, _, _, _, _, _, _, _, _, _, _, _, _, _, _, _, _, _, _, _, _, _, _, _, _, _, _, _, _]) hC cfX10 dX10_init_178 hR.nm fX10_74 rfl rfl (by decide) hH.1 rfl rfl (nlt rfl) rfl ?_
  refine J.gen (P := fun w' => HC w w' a _ _) (hH.put _) (fun v44 hH => ?_)
  refine j_aload_n hC dX10_init_181 rfl ?_
  refine j_bipush hC (8) dX10_init_182 (by decide) ?_
  refine j_newI (n' := 8) (kc' := 19) (ks' := 26618) hC dX10_init_184 ac_I (by decide) (by decide) (by decide) (by decide) (by decide) (fun q184 hq184 => ?_)
  refine J.gen (P := fun w' => HC w w' a _ _) (hH.new hq184 _) (fun v45 hH => ?_)
  refine j_putF (fs' := [_, _, _, _, _, _, _, _, _, _, _, _, _, _, _, _, _, _, _, _, _, _, _, _, _, _, _, _, _, _, _, _, _, _, _, _, _, _, _, _, _, _, _, _, _, _, _, _, _, _, _, _, _, _, _, _, _, _, _]) hC cfX10 dX10_init_186 hR.nm fX10_77 rfl rfl (by decide) hH.1 rfl rfl (nlt rfl) rfl ?_
  refine J.gen (P := fun w' => HC w w' a _ _) (hH.put _) (fun v46 hH => ?_)
  refine j_aload_n hC dX10_init_189 rfl ?_
  refine j_bipush hC (8) dX10_init_190 (by decide) ?_
  refine j_newI (n' := 8) (kc' := 18) (ks' := 26610) hC dX10_init_192 ac_I (by decide) (by decide) (by decide) (by decide) (by decide) (fun q192 hq192 => ?_)
  refine J.gen (P := fun w' => HC w w' a _ _) (hH.new hq192 _) (fun v47 hH => ?_)
  refine j_putF (fs' := [_, _, _, _, _, _, _, _, _, _, _, _, _, _, _, _, _, _, _, _, _, _, _, _, _, _, _, _, _, _, _, _, _, _, _, _, _, _, _, _, _, _, _, _, _, _, _, _, _, _, _, _, _, _, _, _, _, _, _]) hC cfX10 dX10_init_194 hR.nm fX10_80 rfl rfl (by decide) hH.1 rfl rfl (nlt rfl) rfl ?_
  refine J.gen (P := fun w' => HC w w' a _ _) (hH.put _) (fun v48 hH => ?_)
  refine j_aload_n hC dX10_init_197 rfl ?_
  refine j_bipush hC (8) dX10_init_198 (by decide) ?_
  refine j_newI (n' := 8) (kc' := 17) (ks' := 26602) hC dX10_init_200 ac_I (by decide) (by decide) (by decide) (by decide) (by decide) (fun q200 hq200 => ?_)
  refine J.gen (P := fun w' => HC w w' a _ _) (hH.new hq200 _) (fun v49 hH => ?_)
  refine j_putF (fs' := [_, _, _, _, _, _, _, _, _, _, _, _, _, _, _, _, _, _, _, _, _, _, _, _, _, _, _, _, _, _, _, _, _, _, _, _, _, _, _, _, _, _, _, _, _, _, _, _, _, _, _, _, _, _, _, _, _, _, _]) hC cfX10 dX10_init_202 hR.nm fX10_83 rfl rfl (by decide) hH.1 rfl rfl (nlt rfl) rfl ?_
  refine J.gen (P := fun w' => HC w w' a _ _) (hH.put _) (fun v50 hH => ?_)
  refine j_aload_n hC dX10_init_205 rfl ?_
  refine j_bipush hC (8) dX10_init_206 (by decide) ?_
  refine j_newZ (n' := 8) (kc' := 16) (ks' := 26594) hC dX10_init_208 ac_Z (by decide) (by decide) (by decide) (by decide) (by decide) (fun q208 hq208 => ?_)
  refine J.gen (P := fun w' => HC w w' a _ _) (hH.new hq208 _) (fun v51 hH => ?_)
  refine j_putF (fs' := [_, _, _, _, _, _, _, _, _, _, _, _, _, _, _, _, _, _, _, _, _, _, _, _, _, _, _, _, _, _, _, _, _, _, _, _, _, _, _, _, _, _, _, _, _, _, _, _, _, _, _, _, _, _, _, _, _, _, _]) hC cfX10 dX10_init_210 hR.nm fX10_86 rfl rfl (by decide) hH.1 rfl rfl (nlt rfl) rfl ?_
  refine J.gen (P := fun w' => HC w w' a _ _) (hH.put _) (fun v52 hH => ?_)
  refine j_aload_n hC dX10_init_213 rfl ?_
  refine j_bipush hC (8) dX10_init_214 (by decide) ?_
  refine j_newI (n' := 8) (kc' := 15) (ks' := 26586) hC dX10_init_216 ac_I (by decide) (by decide) (by decide) (by decide) (by decide) (fun q216 hq216 => ?_)
  refine J.gen (P := fun w' => HC w w' a _ _) (hH.new hq216 _) (fun v53 hH => ?_)
  refine j_putF (fs' := [_, _, _, _, _, _, _, _, _, _, _, _, _, _, _, _, _, _, _, _, _, _, _, _, _, _, _, _, _, _, _, _, _, _, _, _, _, _, _, _, _, _, _, _, _, _, _, _, _, _, _, _, _, _, _, _, _, _, _]) hC cfX10 dX10_init_218 hR.nm fX10_90 rfl rfl (by decide) hH.1 rfl rfl (nlt rfl) rfl ?_
  refine J.gen (P := fun w' => HC w w' a _ _) (hH.put _) (fun v54 hH => ?_)
  refine j_aload_n hC dX10_init_221 rfl ?_
  refine j_bipush hC (8) dX10_init_222 (by decide) ?_
  refine j_newI (n' := 8) (kc' := 14) (ks' := 26578) hC dX10_init_224 ac_I (by decide) (by decide) (by decide) (by decide) (by decide) (fun q224 hq224 => ?_)
  refine J.gen (P := fun w' => HC w w' a _ _) (hH.new hq224 _) (fun v55 hH => ?_)
  refine j_putF (fs' := [_, _, _, _, _, _, _, _, _, _, _, _, _, _, _, _, _, _, _, _, _, _, _, _, _, _, _, _, _, _, _, _, _, _, _, _, _, _, _, _, _, _, _, _, _, _, _, _, _, _, _, _, _, _, _, _, _, _, _]) hC cfX10 dX10_init_226 hR.nm fX10_93 rfl rfl (by decide) hH.1 rfl rfl (nlt rfl) rfl ?_
  refine J.gen (P := fun w' => HC w w' a _ _) (hH.put _) (fun v56 hH => ?_)
  refine j_aload_n hC dX10_init_229 rfl ?_
  refine j_bipush hC (8) dX10_init_230 (by decide) ?_
  refine j_newI (n' := 8) (kc' := 13) (ks' := 26570) hC dX10_init_232 ac_I (by decide) (by decide) (by decide) (by decide) (by decide) (fun q232 hq232 => ?_)
  refine J.gen (P := fun w' => HC w w' a _ _) (hH.new hq232 _) (fun v57 hH => ?_)
  refine j_putF (fs' := [_, _, _, _, _, _, _, _, _, _, _, _, _, _, _, _, _, _, _, _, _, _, _, _, _, _, _, _, _, _, _, _, _, _, _, _, _, _, _, _, _, _, _, _, _, _, _, _, _, _, _, _, _, _, _, _, _, _, _]) hC cfX10 dX10_init_234 hR.nm fX10_96 rfl rfl (by decide) hH.1 rfl rfl (nlt rfl) rfl ?_
  refine J.gen (P := fun w' => HC w w' a _ _) (hH.put _) (fun v58 hH => ?_)
  refine j_aload_n hC dX10_init_237 rfl ?_
  refine j_bipush hC (8) dX10_init_238 (by decide) ?_
  refine j_newI (n' := 8) (kc' := 12) (ks' := 26562) hC dX10_init_240 ac_I (by decide) (by decide) (by decide) (by decide) (by decide) (fun q240 hq240 => ?_)
  refine J.gen (P := fun w' => HC w w' a _ _) (hH.new hq240 _) (fun v59 hH => ?_)
  refine j_putF (fs' := [_, _, _, _, _, _, _, _, _, _, _, _, _, _, _, _, _, _, _, _, _, _, _, _, _, _, _, _, _, _, _, _, _, _, _, _, _, _, _, _, _, _, _, _, _, _, _, _, _, _, _, _, _, _, _, _, _, _, _]) hC cfX10 dX10_init_242 hR.nm fX10_99 rfl rfl (by decide) hH.1 rfl rfl (nlt rfl) rfl ?_
  refine J.gen (P := fun w' => HC w w' a _ _) (hH.put _) (fun v60 hH => ?_)
  refine j_aload_n hC dX10_init_245 rfl ?_
  refine j_bipush hC (8) dX10_init_246 (by decide) ?_
  refine j_newI (n' := 8) (kc' := 11) (ks' := 26554) hC dX10_init_248 ac_I (by decide) (by decide) (by decide) (by decide) (by decide) (fun q248 hq248 => ?_)
  refine J.gen (P := fun w' => HC w w' a _ _) (hH.new hq248 _) (fun v61 hH => ?_)
  refine j_putF (fs' := [_, _, _, _, _, _, _, _, _, _, _, _, _, _, _, _, _, _, _, _, _, _, _, _, _, _, _, _, _, _, _, _, _, _, _, _, _, _, _, _, _, _, _, _, _, _, _, _, _, _, _, _, _, _, _, _, _, _, _]) hC cfX10 dX10_init_250 hR.nm fX10_102 rfl rfl (by decide) hH.1 rfl rfl (nlt rfl) rfl ?_
  refine J.gen (P := fun w' => HC w w' a _ _) (hH.put _) (fun v62 hH => ?_)
  refine j_aload_n hC dX10_init_253 rfl ?_
  refine j_bipush hC (8) dX10_init_254 (by decide) ?_
  refine j_newI (n' := 8) (kc' := 10) (ks' := 26546) hC dX10_init_256 ac_I (by decide) (by decide) (by decide) (by decide) (by decide) (fun q256 hq256 => ?_)
  refine J.gen (P := fun w' => HC w w' a _ _) (hH.new hq256 _) (fun v63 hH => ?_)
  refine j_putF (fs' := [_, _, _, _, _, _, _, _, _, _, _, _, _, _, _, _, _, _, _, _, _, _, _, _, _, _, _, _, _, _, _, _, _, _, _, _, _, _, _, _, _, _, _, _, _, _, _, _, _, _, _, _, _, _, _, _, _, _, _]) hC cfX10 dX10_init_258 hR.nm fX10_105 rfl rfl (by decide) hH.1 rfl rfl (nlt rfl) rfl ?_
  refine J.gen (P := fun w' => HC w w' a _ _) (hH.put _) (fun v64 hH => ?_)
  refine j_aload_n hC dX10_init_261 rfl ?_
  refine j_bipush hC (8) dX10_init_262 (by decide) ?_
  refine j_newJ (n' := 8) (kc' := 9) (ks' := 26538) hC dX10_init_264 ac_J (by decide) (by decide) (by decide) (by decide) (by decide) (fun q264 hq264 => ?_)
  refine J.gen (P := fun w' => HC w w' a _ _) (hH.new hq264 _) (fun v65 hH => ?_)
  refine j_putF (fs' := [_, _, _, _, _, _, _, _, _, _, _, _, _, _, _, _, _, _, _, _, _, _, _, _, _, _, _, _, _, _, _, _, _, _, _, _, _, _, _, _, _, _, _, _, _, _, _, _, _, _, _, _, _, _, _, _, _, _, _]) hC cfX10 dX10_init_266 hR.nm fX10_108 rfl rfl (by decide) hH.1 rfl rfl (nlt rfl) rfl ?_
  refine J.gen (P := fun w' => HC w w' a _ _) (hH.put _) (fun v66 hH => ?_)
  refine j_aload_n hC dX10_init_269 rfl ?_
  refine j_bipush hC (6) dX10_init_270 (by decide) ?_
  refine j_newI (n' := 6) (kc' := 8) (ks' := 26532) hC dX10_init_272 ac_I (by decide) (by decide) (by decide) (by decide) (by decide) (fun q272 hq272 => ?_)
  refine J.gen (P := fun w' => HC w w' a _ _) (hH.new hq272 _) (fun v67 hH => ?_)
  refine j_putF (fs' := [_, _, _, _, _, _, _, _, _, _, _, _, _, _, _, _, _, _, _, _, _, _, _, _, _, _, _, _, _, _, _, _, _, _, _, _, _, _, _, _, _, _, _, _, _, _, _, _, _, _, _, _, _, _, _, _, _, _, _]) hC cfX10 dX10_init_274 hR.nm fX10_111 rfl rfl (by decide) hH.1 rfl rfl (nlt rfl) rfl ?_
  refine J.gen (P := fun w' => HC w w' a _ _) (hH.put _) (fun v68 hH => ?_)
  refine j_aload_n hC dX10_init_277 rfl ?_
  refine j_bipush hC (6) dX10_init_278 (by decide) ?_
  refine j_newI (n' := 6) (kc' := 7) (ks' := 26526) hC dX10_init_280 ac_I (by decide) (by decide) (by decide) (by decide) (by decide) (fun q280 hq280 => ?_)
  refine J.gen (P := fun w' => HC w w' a _ _) (hH.new hq280 _) (fun v69 hH => ?_)
  refine j_putF (fs' := [_, _, _, _, _, _, _, _, _, _, _, _, _, _, _, _, _, _, _, _, _, _, _, _, _, _, _, _, _, _, _, _, _, _, _, _, _, _, _, _, _, _, _, _, _, _, _, _, _, _, _, _, _, _, _, _, _, _, _]) hC cfX10 dX10_init_282 hR.nm fX10_114 rfl rfl (by decide) hH.1 rfl rfl (nlt rfl) rfl ?_
  refine J.gen (P := fun w' => HC w w' a _ _) (hH.put _) (fun v70 hH => ?_)
  refine j_aload_n hC dX10_init_285 rfl ?_
  refine j_bipush hC (10) dX10_init_286 (by decide) ?_
  refine j_newI (n' := 10) (kc' := 6) (ks' := 26516) hC dX10_init_288 ac_I (by decide) (by decide) (by decide) (by decide) (by decide) (fun q288 hq288 => ?_)
  refine J.gen (P := fun w' => HC w w' a _ _) (hH.new hq288 _) (fun v71 hH => ?_)
  refine j_putF (fs' := [_, _, _, _, _, _, _, _, _, _, _, _, _, _, _, _, _, _, _, _, _, _, _, _, _, _, _, _, _, _, _, _, _, _, _, _, _, _, _, _, _, _, _, _, _, _, _, _, _, _, _, _, _, _, _, _, _, _, _]) hC cfX10 dX10_init_290 hR.nm fX10_117 rfl rfl (by decide) hH.1 rfl rfl (nlt rfl) rfl ?_
  refine J.gen (P := fun w' => HC w w' a _ _) (hH.put _) (fun v72 hH => ?_)
  refine j_aload_n hC dX10_init_293 rfl ?_
  refine j_bipush hC (10) dX10_init_294 (by decide) ?_
  refine j_newI (n' := 10) (kc' := 5) (ks' := 26506) hC dX10_init_296 ac_I (by decide) (by decide) (by decide) (by decide) (by decide) (fun q296 hq296 => ?_)
  refine J.gen (P := fun w' => HC w w' a _ _) (hH.new hq296 _) (fun v73 hH => ?_)
  refine j_putF (fs' := [_, _, _, _, _, _, _, _, _, _, _, _, _, _, _, _, _, _, _, _, _, _, _, _, _, _, _, _, _, _, _, _, _, _, _, _, _, _, _, _, _, _, _, _, _, _, _, _, _, _, _, _, _, _, _, _, _, _, _]) hC cfX10 dX10_init_298 hR.nm fX10_120 rfl rfl (by decide) hH.1 rfl rfl (nlt rfl) rfl ?_
  refine J.gen (P := fun w' => HC w w' a _ _) (hH.put _) (fun v74 hH => ?_)
  refine j_aload_n hC dX10_init_301 rfl ?_
  refine j_bipush hC (10) dX10_init_302 (by decide) ?_
  refine j_newI (n' := 10) (kc' := 4) (ks' := 26496) hC dX10_init_304 ac_I (by decide) (by decide) (by decide) (by decide) (by decide) (fun q304 hq304 => ?_)
  refine J.gen (P := fun w' => HC w w' a _ _) (hH.new hq304 _) (fun v75 hH => ?_)
  refine j_putF (fs' := [_, _, _, _, _, _, _, _, _, _, _, _, _, _, _, _, _, _, _, _, _, _, _, _, _, _, _, _, _, _, _, _, _, _, _, _, _, _, _, _, _, _, _, _, _, _, _, _, _, _, _, _, _, _, _, _, _, _, _]) hC cfX10 dX10_init_306 hR.nm fX10_123 rfl rfl (by decide) hH.1 rfl rfl (nlt rfl) rfl ?_
  refine J.gen (P := fun w' => HC w w' a _ _) (hH.put _) (fun v76 hH => ?_)
  refine j_aload_n hC dX10_init_309 rfl ?_
  refine j_sipush hC (26466) dX10_init_310 (by decide) ?_
  refine j_newJ (n' := 26466) (kc' := 3) (ks' := 30) hC dX10_init_313 ac_J (by decide) (by decide) (by decide) (by decide) (by decide) (fun q313 hq313 => ?_)
  refine J.gen (P := fun w' => HC w w' a _ _) (hH.new hq313 _) (fun v77 hH => ?_)
  refine j_putF (fs' := [_, _, _, _, _, _, _, _, _, _, _, _, _, _, _, _, _, _, _, _, _, _, _, _, _, _, _, _, _, _, _, _, _, _, _, _, _, _, _, _, _, _, _, _, _, _, _, _, _, _, _, _, _, _, _, _, _, _, _]) hC cfX10 dX10_init_315 hR.nm fX10_126 rfl rfl (by decide) hH.1 rfl rfl (nlt rfl) rfl ?_
  refine J.gen (P := fun w' => HC w w' a _ _) (hH.put _) (fun v78 hH => ?_)
  refine j_aload_n hC dX10_init_318 rfl ?_
  refine j_bipush hC (10) dX10_init_319 (by decide) ?_
  refine j_newI (n' := 10) (kc' := 2) (ks' := 20) hC dX10_init_321 ac_I (by decide) (by decide) (by decide) (by decide) (by decide) (fun q321 hq321 => ?_)
  refine J.gen (P := fun w' => HC w w' a _ _) (hH.new hq321 _) (fun v79 hH => ?_)
  refine j_putF (fs' := [_, _, _, _, _, _, _, _, _, _, _, _, _, _, _, _, _, _, _, _, _, _, _, _, _, _, _, _, _, _, _, _, _, _, _, _, _, _, _, _, _, _, _, _, _, _, _, _, _, _, _, _, _, _, _, _, _, _, _]) hC cfX10 dX10_init_323 hR.nm fX10_129 rfl rfl (by decide) hH.1 rfl rfl (nlt rfl) rfl ?_
  refine J.gen (P := fun w' => HC w w' a _ _) (hH.put _) (fun v80 hH => ?_)
  refine j_aload_n hC dX10_init_326 rfl ?_
  refine j_bipush hC (10) dX10_init_327 (by decide) ?_
  refine j_newI (n' := 10) (kc' := 1) (ks' := 10) hC dX10_init_329 ac_I (by decide) (by decide) (by decide) (by decide) (by decide) (fun q329 hq329 => ?_)
  refine J.gen (P := fun w' => HC w w' a _ _) (hH.new hq329 _) (fun v81 hH => ?_)
  refine j_putF (fs' := [_, _, _, _, _, _, _, _, _, _, _, _, _, _, _, _, _, _, _, _, _, _, _, _, _, _, _, _, _, _, _, _, _, _, _, _, _, _, _, _, _, _, _, _, _, _, _, _, _, _, _, _, _, _, _, _, _, _, _]) hC cfX10 dX10_init_331 hR.nm fX10_132 rfl rfl (by decide) hH.1 rfl rfl (nlt rfl) rfl ?_
  refine J.gen (P := fun w' => HC w w' a _ _) (hH.put _) (fun v82 hH => ?_)
  refine j_aload_n hC dX10_init_334 rfl ?_
  refine j_bipush hC (10) dX10_init_335 (by decide) ?_
  refine j_newI (n' := 10) (kc' := 0) (ks' := 0) hC dX10_init_337 ac_I (by decide) (by decide) (by decide) (by decide) (by decide) (fun q337 hq337 => ?_)
  refine J.gen (P := fun w' => HC w w' a _ _) (hH.new hq337 _) (fun v83 hH => ?_)
  refine j_putF (fs' := [_, _, _, _, _, _, _, _, _, _, _, _, _, _, _, _, _, _, _, _, _, _, _, _, _, _, _, _, _, _, _, _, _, _, _, _, _, _, _, _, _, _, _, _, _, _, _, _, _, _, _, _, _, _, _, _, _, _, _]) hC cfX10 dX10_init_339 hR.nm fX10_135 rfl rfl (by decide) hH.1 rfl rfl (nlt rfl) rfl ?_
  refine J.gen (P := fun w' => HC w w' a _ _) (hH.put _) (fun v84 hH => ?_)
  refine j_aload_n hC dX10_init_342 rfl ?_
  refine j_iload_n hC dX10_init_343 rfl ?_
  refine j_iconst hC (1) dX10_init_344 (by decide) ?_
  refine j_icmp_ge hC 352 dX10_init_345 (by decide) (fun c_345 => ?_) (fun c_345 => ?_)
  · refine j_iload_n hC dX10_init_352 rfl ?_
    refine j_bipush hC (24) dX10_init_353 (by decide) ?_
    refine j_icmp_le hC 363 dX10_init_355 (by decide) (fun c_355 => ?_) (fun c_355 => ?_)
    · refine j_iload_n hC dX10_init_363 rfl ?_
      refine J.toI (y := mo n) (by unfold mo; first | rw [if_neg (fun q => Int32.not_lt.mpr c_345 q), if_neg (Int32.not_lt.mpr c_355)] | rw [if_neg (fun q => Int32.not_lt.mpr c_345 q), if_pos (Int32.not_le.mp c_355)] | rw [if_pos (Int32.not_le.mp c_345)]) ?_
      refine j_putF (fs' := [_, _, _, _, _, _, _, _, _, _, _, _, _, _, _, _, _, _, _, _, _, _, _, _, _, _, _, _, _, _, _, _, _, _, _, _, _, _, _, _, _, _, _, _, _, _, _, _, _, _, _, _, _, _, _, _, _, _, _]) hC cfX10 dX10_init_364 hR.nm fX10_138 rfl rfl (by decide) hH.1 rfl rfl (nlt rfl) rfl ?_
      refine J.gen (P := fun w' => HC w w' a _ _) (hH.put _) (fun v85 hH => ?_)
      exact j_vret hC hR dX10_init_367 rfl ⟨rfl, MA.init hH⟩
    · refine j_bipush hC (24) dX10_init_358 (by decide) ?_
      refine j_goto hC 364 dX10_init_360 (by decide) ?_
      refine J.toI (y := mo n) (by unfold mo; first | rw [if_neg (fun q => Int32.not_lt.mpr c_345 q), if_neg (Int32.not_lt.mpr c_355)] | rw [if_neg (fun q => Int32.not_lt.mpr c_345 q), if_pos (Int32.not_le.mp c_355)] | rw [if_pos (Int32.not_le.mp c_345)]) ?_
      refine j_putF (fs' := [_, _, _, _, _, _, _, _, _, _, _, _, _, _, _, _, _, _, _, _, _, _, _, _, _, _, _, _, _, _, _, _, _, _, _, _, _, _, _, _, _, _, _, _, _, _, _, _, _, _, _, _, _, _, _, _, _, _, _]) hC cfX10 dX10_init_364 hR.nm fX10_138 rfl rfl (by decide) hH.1 rfl rfl (nlt rfl) rfl ?_
      refine J.gen (P := fun w' => HC w w' a _ _) (hH.put _) (fun v86 hH => ?_)
      exact j_vret hC hR dX10_init_367 rfl ⟨rfl, MA.init hH⟩
  · refine j_iconst hC (1) dX10_init_348 (by decide) ?_
    refine j_goto hC 364 dX10_init_349 (by decide) ?_
    refine J.toI (y := mo n) (by unfold mo; first | rw [if_neg (fun q => Int32.not_lt.mpr c_345 q), if_neg (Int32.not_lt.mpr c_355)] | rw [if_neg (fun q => Int32.not_lt.mpr c_345 q), if_pos (Int32.not_le.mp c_355)] | rw [if_pos (Int32.not_le.mp c_345)]) ?_
    refine j_putF (fs' := [_, _, _, _, _, _, _, _, _, _, _, _, _, _, _, _, _, _, _, _, _, _, _, _, _, _, _, _, _, _, _, _, _, _, _, _, _, _, _, _, _, _, _, _, _, _, _, _, _, _, _, _, _, _, _, _, _, _, _]) hC cfX10 dX10_init_364 hR.nm fX10_138 rfl rfl (by decide) hH.1 rfl rfl (nlt rfl) rfl ?_
    refine J.gen (P := fun w' => HC w w' a _ _) (hH.put _) (fun v87 hH => ?_)
    exact j_vret hC hR dX10_init_367 rfl ⟨rfl, MA.init hH⟩

