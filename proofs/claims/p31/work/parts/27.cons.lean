/-! a contract over more cells, in another order, with more room -/
theorem z_consi {l : Launch} {y : MethodName} {ws : List Cond} {rm rm2 : Room} {av : List Value} {g : va_G} {ct : Nat → ClassId} {wc wr wc2 : va_W} {sz mc ms mc2 ms2 : Nat} {S S2 : Type} {w1 : S → va_W} {w2 : S2 → va_W} {v : Int32} 
    (hM : Met l y ws rm (va_Pc av (zW g ct wc sz)) (zEi g w1 v (va_A wc sz)) mc ms (va_A wc sz)) (hp : List.Perm wc2 (wc ++ wr)) (hq : ∀ u : S, ∃ u2 : S2, List.Perm (w1 u ++ wr) (w2 u2))
    (hfr : rm.frames ≤ rm2.frames) (hlo : rm.locals ≤ rm2.locals) (hce : rm.cells ≤ rm2.cells) (hsl : rm.slots ≤ rm2.slots) (hmc : mc ≤ mc2) (hms : ms ≤ ms2) :
    Met l y ws rm2 (va_Pc av (zW g ct wc2 sz)) (zEi g w2 v (va_A wc2 sz)) mc2 ms2 (va_A wc2 sz) := by
  have hsub : ∀ q, va_A wc sz q → va_A wc2 sz q := by
    intro q h
    rw [va_A_perm hp]
    rcases va_A_mem.mp h with ⟨x, hx⟩ | h
    · exact va_A_mem.mpr (Or.inl ⟨x, List.mem_append_left _ hx⟩)
    · exact Or.inr h
  refine MetFree.mono (MetFree.respec (S' := headSpec ws rm2) hM (fun _ _ h => h) hfr hlo hce hsl) (fun a s h => ?_) (fun _ _ _ _ _ h => h) (fun a s oc t hpre hpost => ?_)
  · obtain ⟨h0, h1, h2, h3, h4, h5⟩ := h
    have h2 := h2.perm hp
    have h4 := h4.perm hp
    refine ⟨h0, h1, fun k q hk => h2.mem (List.mem_append_left _ (List.mem_of_getElem? hk)), h3, ?_, h5⟩
    rw [va_D_nodup] at h4 ⊢
    rw [List.map_append, List.nodup_append] at h4
    exact ⟨h4.1.1, fun q hq => h4.2 q (List.mem_append_left _ hq)⟩
  · obtain ⟨h0, h1, h2, h3, h4, h5⟩ := hpre
    obtain ⟨hQ, L, hL1, hL2⟩ := hpost
    obtain ⟨⟨r, u, ho, hw, hb1, hb2⟩, hF⟩ := hQ
    subst h1
    have h2 := h2.perm hp
    have hDw : va_D (va_A wc2 s.heap.size) (wc ++ wr) := by
      have h6 := (h4.self (sz := s.heap.size))
      exact h6.perm hp
    obtain ⟨hP2, hD2⟩ := z_join (A0 := va_A wc2 s.heap.size) (H := s.heap) (H1 := t.heap) h2 hDw hF.2 hsub hb1 hb2
    obtain ⟨u2, hq2⟩ := hq u
    refine ⟨⟨⟨r, u2, ho, hw, hP2.perm hq2, hD2.perm hq2⟩, ?_⟩, L, ⟨hL1.1, hL1.2.1, State.sameButNew.mono hL1.2.2 hmc hms⟩, fun q hq3 => hsub _ (hL2 q hq3)⟩
    exact ⟨hF.1, fun q q1 q2 => hF.2 q q1 (fun q3 => q2 (hsub q q3))⟩
theorem z_consl {l : Launch} {y : MethodName} {ws : List Cond} {rm rm2 : Room} {av : List Value} {g : va_G} {ct : Nat → ClassId} {wc wr wc2 : va_W} {sz mc ms mc2 ms2 : Nat} {S S2 : Type} {w1 : S → va_W} {w2 : S2 → va_W} {v : Int64} 
    (hM : Met l y ws rm (va_Pc av (zW g ct wc sz)) (zEl g w1 v (va_A wc sz)) mc ms (va_A wc sz)) (hp : List.Perm wc2 (wc ++ wr)) (hq : ∀ u : S, ∃ u2 : S2, List.Perm (w1 u ++ wr) (w2 u2))
    (hfr : rm.frames ≤ rm2.frames) (hlo : rm.locals ≤ rm2.locals) (hce : rm.cells ≤ rm2.cells) (hsl : rm.slots ≤ rm2.slots) (hmc : mc ≤ mc2) (hms : ms ≤ ms2) :
    Met l y ws rm2 (va_Pc av (zW g ct wc2 sz)) (zEl g w2 v (va_A wc2 sz)) mc2 ms2 (va_A wc2 sz) := by
  have hsub : ∀ q, va_A wc sz q → va_A wc2 sz q := by
    intro q h
    rw [va_A_perm hp]
    rcases va_A_mem.mp h with ⟨x, hx⟩ | h
    · exact va_A_mem.mpr (Or.inl ⟨x, List.mem_append_left _ hx⟩)
    · exact Or.inr h
  refine MetFree.mono (MetFree.respec (S' := headSpec ws rm2) hM (fun _ _ h => h) hfr hlo hce hsl) (fun a s h => ?_) (fun _ _ _ _ _ h => h) (fun a s oc t hpre hpost => ?_)
  · obtain ⟨h0, h1, h2, h3, h4, h5⟩ := h
    have h2 := h2.perm hp
    have h4 := h4.perm hp
    refine ⟨h0, h1, fun k q hk => h2.mem (List.mem_append_left _ (List.mem_of_getElem? hk)), h3, ?_, h5⟩
    rw [va_D_nodup] at h4 ⊢
    rw [List.map_append, List.nodup_append] at h4
    exact ⟨h4.1.1, fun q hq => h4.2 q (List.mem_append_left _ hq)⟩
  · obtain ⟨h0, h1, h2, h3, h4, h5⟩ := hpre
    obtain ⟨hQ, L, hL1, hL2⟩ := hpost
    obtain ⟨⟨r, u, ho, hw, hb1, hb2⟩, hF⟩ := hQ
    subst h1
    have h2 := h2.perm hp
    have hDw : va_D (va_A wc2 s.heap.size) (wc ++ wr) := by
      have h6 := (h4.self (sz := s.heap.size))
      exact h6.perm hp
    obtain ⟨hP2, hD2⟩ := z_join (A0 := va_A wc2 s.heap.size) (H := s.heap) (H1 := t.heap) h2 hDw hF.2 hsub hb1 hb2
    obtain ⟨u2, hq2⟩ := hq u
    refine ⟨⟨⟨r, u2, ho, hw, hP2.perm hq2, hD2.perm hq2⟩, ?_⟩, L, ⟨hL1.1, hL1.2.1, State.sameButNew.mono hL1.2.2 hmc hms⟩, fun q hq3 => hsub _ (hL2 q hq3)⟩
    exact ⟨hF.1, fun q q1 q2 => hF.2 q q1 (fun q3 => q2 (hsub q q3))⟩
theorem z_consd {l : Launch} {y : MethodName} {ws : List Cond} {rm rm2 : Room} {av : List Value} {g : va_G} {ct : Nat → ClassId} {wc wr wc2 : va_W} {sz mc ms mc2 ms2 : Nat} {S S2 : Type} {w1 : S → va_W} {w2 : S2 → va_W} {v : UInt64} 
    (hM : Met l y ws rm (va_Pc av (zW g ct wc sz)) (zEd g w1 v (va_A wc sz)) mc ms (va_A wc sz)) (hp : List.Perm wc2 (wc ++ wr)) (hq : ∀ u : S, ∃ u2 : S2, List.Perm (w1 u ++ wr) (w2 u2))
    (hfr : rm.frames ≤ rm2.frames) (hlo : rm.locals ≤ rm2.locals) (hce : rm.cells ≤ rm2.cells) (hsl : rm.slots ≤ rm2.slots) (hmc : mc ≤ mc2) (hms : ms ≤ ms2) :
    Met l y ws rm2 (va_Pc av (zW g ct wc2 sz)) (zEd g w2 v (va_A wc2 sz)) mc2 ms2 (va_A wc2 sz) := by
  have hsub : ∀ q, va_A wc sz q → va_A wc2 sz q := by
    intro q h
    rw [va_A_perm hp]
    rcases va_A_mem.mp h with ⟨x, hx⟩ | h
    · exact va_A_mem.mpr (Or.inl ⟨x, List.mem_append_left _ hx⟩)
    · exact Or.inr h
  refine MetFree.mono (MetFree.respec (S' := headSpec ws rm2) hM (fun _ _ h => h) hfr hlo hce hsl) (fun a s h => ?_) (fun _ _ _ _ _ h => h) (fun a s oc t hpre hpost => ?_)
  · obtain ⟨h0, h1, h2, h3, h4, h5⟩ := h
    have h2 := h2.perm hp
    have h4 := h4.perm hp
    refine ⟨h0, h1, fun k q hk => h2.mem (List.mem_append_left _ (List.mem_of_getElem? hk)), h3, ?_, h5⟩
    rw [va_D_nodup] at h4 ⊢
    rw [List.map_append, List.nodup_append] at h4
    exact ⟨h4.1.1, fun q hq => h4.2 q (List.mem_append_left _ hq)⟩
  · obtain ⟨h0, h1, h2, h3, h4, h5⟩ := hpre
    obtain ⟨hQ, L, hL1, hL2⟩ := hpost
    obtain ⟨⟨r, u, ho, hw, hb1, hb2⟩, hF⟩ := hQ
    subst h1
    have h2 := h2.perm hp
    have hDw : va_D (va_A wc2 s.heap.size) (wc ++ wr) := by
      have h6 := (h4.self (sz := s.heap.size))
      exact h6.perm hp
    obtain ⟨hP2, hD2⟩ := z_join (A0 := va_A wc2 s.heap.size) (H := s.heap) (H1 := t.heap) h2 hDw hF.2 hsub hb1 hb2
    obtain ⟨u2, hq2⟩ := hq u
    refine ⟨⟨⟨r, u2, ho, hw, hP2.perm hq2, hD2.perm hq2⟩, ?_⟩, L, ⟨hL1.1, hL1.2.1, State.sameButNew.mono hL1.2.2 hmc hms⟩, fun q hq3 => hsub _ (hL2 q hq3)⟩
    exact ⟨hF.1, fun q q1 q2 => hF.2 q q1 (fun q3 => q2 (hsub q q3))⟩
theorem z_consv {l : Launch} {y : MethodName} {ws : List Cond} {rm rm2 : Room} {av : List Value} {g : va_G} {ct : Nat → ClassId} {wc wr wc2 : va_W} {sz mc ms mc2 ms2 : Nat} {S S2 : Type} {w1 : S → va_W} {w2 : S2 → va_W} 
    (hM : Met l y ws rm (va_Pc av (zW g ct wc sz)) (zEv g w1 (va_A wc sz)) mc ms (va_A wc sz)) (hp : List.Perm wc2 (wc ++ wr)) (hq : ∀ u : S, ∃ u2 : S2, List.Perm (w1 u ++ wr) (w2 u2))
    (hfr : rm.frames ≤ rm2.frames) (hlo : rm.locals ≤ rm2.locals) (hce : rm.cells ≤ rm2.cells) (hsl : rm.slots ≤ rm2.slots) (hmc : mc ≤ mc2) (hms : ms ≤ ms2) :
    Met l y ws rm2 (va_Pc av (zW g ct wc2 sz)) (zEv g w2 (va_A wc2 sz)) mc2 ms2 (va_A wc2 sz) := by
  have hsub : ∀ q, va_A wc sz q → va_A wc2 sz q := by
    intro q h
    rw [va_A_perm hp]
    rcases va_A_mem.mp h with ⟨x, hx⟩ | h
    · exact va_A_mem.mpr (Or.inl ⟨x, List.mem_append_left _ hx⟩)
    · exact Or.inr h
  refine MetFree.mono (MetFree.respec (S' := headSpec ws rm2) hM (fun _ _ h => h) hfr hlo hce hsl) (fun a s h => ?_) (fun _ _ _ _ _ h => h) (fun a s oc t hpre hpost => ?_)
  · obtain ⟨h0, h1, h2, h3, h4, h5⟩ := h
    have h2 := h2.perm hp
    have h4 := h4.perm hp
    refine ⟨h0, h1, fun k q hk => h2.mem (List.mem_append_left _ (List.mem_of_getElem? hk)), h3, ?_, h5⟩
    rw [va_D_nodup] at h4 ⊢
    rw [List.map_append, List.nodup_append] at h4
    exact ⟨h4.1.1, fun q hq => h4.2 q (List.mem_append_left _ hq)⟩
  · obtain ⟨h0, h1, h2, h3, h4, h5⟩ := hpre
    obtain ⟨hQ, L, hL1, hL2⟩ := hpost
    obtain ⟨⟨u, ho, hw, hb1, hb2⟩, hF⟩ := hQ
    subst h1
    have h2 := h2.perm hp
    have hDw : va_D (va_A wc2 s.heap.size) (wc ++ wr) := by
      have h6 := (h4.self (sz := s.heap.size))
      exact h6.perm hp
    obtain ⟨hP2, hD2⟩ := z_join (A0 := va_A wc2 s.heap.size) (H := s.heap) (H1 := t.heap) h2 hDw hF.2 hsub hb1 hb2
    obtain ⟨u2, hq2⟩ := hq u
    refine ⟨⟨⟨u2, ho, hw, hP2.perm hq2, hD2.perm hq2⟩, ?_⟩, L, ⟨hL1.1, hL1.2.1, State.sameButNew.mono hL1.2.2 hmc hms⟩, fun q hq3 => hsub _ (hL2 q hq3)⟩
    exact ⟨hF.1, fun q q1 q2 => hF.2 q q1 (fun q3 => q2 (hsub q q3))⟩
