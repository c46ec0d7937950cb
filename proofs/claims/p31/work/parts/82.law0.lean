/-! the law: one shape for every call of either side -/

theorem z_rdi {l : Launch} {y : MethodName} {ws : List Cond} {rm rm2 : Room} {av : List Value} {g : va_G} {ct : Nat → ClassId} {wc wr wc2 : va_W} {sz mc2 ms2 : Nat} {S2 : Type} {w2 : S2 → va_W} {v : Int32}
    (hM : Met l y ws rm (va_Pc av (zR g ct wc)) (vp_Si (fun r => r = v)) 0 0 (fun _ => False)) (hp : List.Perm wc2 (wc ++ wr)) (u2 : S2) (hq : List.Perm wc2 (w2 u2))
    (hfr : rm.frames ≤ rm2.frames) (hlo : rm.locals ≤ rm2.locals) (hce : rm.cells ≤ rm2.cells) (hsl : rm.slots ≤ rm2.slots) :
    Met l y ws rm2 (va_Pc av (zW g ct wc2 sz)) (zEi g w2 v (va_A wc2 sz)) mc2 ms2 (va_A wc2 sz) := by
  refine MetFree.mono (MetFree.respec (S' := headSpec ws rm2) hM (fun _ _ h => h) hfr hlo hce hsl) (fun a s h => ?_) (fun _ _ _ _ _ h => h) (fun a s oc t hpre hpost => ?_)
  · obtain ⟨h0, h1, h2, h3, h4, h5⟩ := h
    have h2 := h2.perm hp
    exact ⟨h0, fun k q hk => h2.mem (List.mem_append_left _ (List.mem_of_getElem? hk)), h3⟩
  · obtain ⟨h0, h1, h2, h3, h4, h5⟩ := hpre
    obtain ⟨hQ, L, hL1, hL2⟩ := hpost
    obtain ⟨r, ho, hr, hh⟩ := hQ
    subst h1
    have hDw : va_D (va_A wc2 s.heap.size) wc2 := h4.self (sz := s.heap.size)
    refine ⟨⟨⟨r, u2, ho, hr, ?_, hDw.perm hq⟩, ?_⟩, L, ⟨hL1.1, hL1.2.1, State.sameButNew.mono hL1.2.2 (Nat.zero_le _) (Nat.zero_le _)⟩, fun q hq3 => (hL2 q hq3).elim⟩
    · rw [hh]; exact h2.perm hq
    · exact ⟨by rw [hh]; exact Nat.le_refl _, fun q _ _ => by rw [hh]⟩

theorem z_rdl {l : Launch} {y : MethodName} {ws : List Cond} {rm rm2 : Room} {av : List Value} {g : va_G} {ct : Nat → ClassId} {wc wr wc2 : va_W} {sz mc2 ms2 : Nat} {S2 : Type} {w2 : S2 → va_W} {v : Int64}
    (hM : Met l y ws rm (va_Pc av (zR g ct wc)) (vp_Sl (fun r => r = v)) 0 0 (fun _ => False)) (hp : List.Perm wc2 (wc ++ wr)) (u2 : S2) (hq : List.Perm wc2 (w2 u2))
    (hfr : rm.frames ≤ rm2.frames) (hlo : rm.locals ≤ rm2.locals) (hce : rm.cells ≤ rm2.cells) (hsl : rm.slots ≤ rm2.slots) :
    Met l y ws rm2 (va_Pc av (zW g ct wc2 sz)) (zEl g w2 v (va_A wc2 sz)) mc2 ms2 (va_A wc2 sz) := by
  refine MetFree.mono (MetFree.respec (S' := headSpec ws rm2) hM (fun _ _ h => h) hfr hlo hce hsl) (fun a s h => ?_) (fun _ _ _ _ _ h => h) (fun a s oc t hpre hpost => ?_)
  · obtain ⟨h0, h1, h2, h3, h4, h5⟩ := h
    have h2 := h2.perm hp
    exact ⟨h0, fun k q hk => h2.mem (List.mem_append_left _ (List.mem_of_getElem? hk)), h3⟩
  · obtain ⟨h0, h1, h2, h3, h4, h5⟩ := hpre
    obtain ⟨hQ, L, hL1, hL2⟩ := hpost
    obtain ⟨r, ho, hr, hh⟩ := hQ
    subst h1
    have hDw : va_D (va_A wc2 s.heap.size) wc2 := h4.self (sz := s.heap.size)
    refine ⟨⟨⟨r, u2, ho, hr, ?_, hDw.perm hq⟩, ?_⟩, L, ⟨hL1.1, hL1.2.1, State.sameButNew.mono hL1.2.2 (Nat.zero_le _) (Nat.zero_le _)⟩, fun q hq3 => (hL2 q hq3).elim⟩
    · rw [hh]; exact h2.perm hq
    · exact ⟨by rw [hh]; exact Nat.le_refl _, fun q _ _ => by rw [hh]⟩

theorem z_rdd {l : Launch} {y : MethodName} {ws : List Cond} {rm rm2 : Room} {av : List Value} {g : va_G} {ct : Nat → ClassId} {wc wr wc2 : va_W} {sz mc2 ms2 : Nat} {S2 : Type} {w2 : S2 → va_W} {v : UInt64}
    (hM : Met l y ws rm (va_Pc av (zR g ct wc)) (vp_Sd (fun r => r = v)) 0 0 (fun _ => False)) (hp : List.Perm wc2 (wc ++ wr)) (u2 : S2) (hq : List.Perm wc2 (w2 u2))
    (hfr : rm.frames ≤ rm2.frames) (hlo : rm.locals ≤ rm2.locals) (hce : rm.cells ≤ rm2.cells) (hsl : rm.slots ≤ rm2.slots) :
    Met l y ws rm2 (va_Pc av (zW g ct wc2 sz)) (zEd g w2 v (va_A wc2 sz)) mc2 ms2 (va_A wc2 sz) := by
  refine MetFree.mono (MetFree.respec (S' := headSpec ws rm2) hM (fun _ _ h => h) hfr hlo hce hsl) (fun a s h => ?_) (fun _ _ _ _ _ h => h) (fun a s oc t hpre hpost => ?_)
  · obtain ⟨h0, h1, h2, h3, h4, h5⟩ := h
    have h2 := h2.perm hp
    exact ⟨h0, fun k q hk => h2.mem (List.mem_append_left _ (List.mem_of_getElem? hk)), h3⟩
  · obtain ⟨h0, h1, h2, h3, h4, h5⟩ := hpre
    obtain ⟨hQ, L, hL1, hL2⟩ := hpost
    obtain ⟨r, ho, hr, hh⟩ := hQ
    subst h1
    have hDw : va_D (va_A wc2 s.heap.size) wc2 := h4.self (sz := s.heap.size)
    refine ⟨⟨⟨r, u2, ho, hr, ?_, hDw.perm hq⟩, ?_⟩, L, ⟨hL1.1, hL1.2.1, State.sameButNew.mono hL1.2.2 (Nat.zero_le _) (Nat.zero_le _)⟩, fun q hq3 => (hL2 q hq3).elim⟩
    · rw [hh]; exact h2.perm hq
    · exact ⟨by rw [hh]; exact Nat.le_refl _, fun q _ _ => by rw [hh]⟩

/-- a class's value and the reference's two rows say one state -/
def SR (v : SVT) (n : Nat → Int64) (re : Nat → UInt64) : Prop :=
  (v_nS v ≤ 8 ∧ n 7 = lN (v_nS v)) ∧ (v_nD v ≤ 6 ∧ n 8 = lN (v_nD v)) ∧ (v_nT v ≤ 4 ∧ n 9 = lN (v_nT v)) ∧ (v_nP v ≤ 6 ∧ n 10 = lN (v_nP v)) ∧
  (n 0 = lN (v_h v) ∧ n 1 = (v_od v).toInt64 ∧ (v_od v = 0 ∨ v_od v = 1 ∨ v_od v = 2) ∧ n 2 = (if mvN (v_co v) (v_nS v) < v_nS v then lN (mvN (v_co v) (v_nS v) + 1) else 0) ∧ (n 3).toInt32 = v_cb v ∧ (n 4).toInt32 = v_dl v) ∧
  (n 5 = (v_ar v).toInt64 ∧ arOk (v_ar v) ∧ n 6 = (v_lim v).toInt64 ∧ (n 11).toInt32 = v_idl v) ∧
  (n 12 = v_vo v ∧ n 13 = v_fi v ∧ n 14 = v_fo v ∧ n 15 = v_fv v ∧ n 16 = v_br v ∧ n 17 = v_pu v) ∧
  (∀ k, k < v_nS v → (n (20 + 6 * k + 0)).toInt32 = v_wi v k ∧ (n (20 + 6 * k + 1)).toInt32 = v_ho v k ∧ (n (20 + 6 * k + 2)).toInt32 = v_li v k ∧ (n (20 + 6 * k + 3)).toInt32 = v_co v k ∧ (n (20 + 6 * k + 4)).toInt32 = v_le v k ∧ (n (20 + 6 * k + 5)).toInt32 = v_cs v k) ∧
  (∀ k, k < v_nS v → (1 ≤ v_wi v k ∧ v_wi v k ≤ 50) ∧ (1 ≤ v_ho v k ∧ v_ho v k ≤ 6) ∧ (v_co v k = 0 ∨ v_co v k = 1 ∨ v_co v k = 2 ∨ v_co v k = 3 ∨ v_co v k = 4) ∧ (v_co v k = 1 ∨ v_co v k = 3 → 1 ≤ v_le v k ∧ v_le v k ≤ 6)) ∧
  (∀ i j, i < v_nS v → j < v_nS v → (v_co v i = 1 ∨ v_co v i = 3) → (v_co v j = 1 ∨ v_co v j = 3) → i = j) ∧
  (∀ k, k < v_nD v → (n (68 + 2 * k)).toInt32 = v_we v k ∧ n (68 + 2 * k + 1) = (v_cl v k).toInt64) ∧
  (∀ k, k < v_nT v → n (80 + k) = (v_sw v k).toInt64) ∧
  (∀ k, k < v_nP v → (n (84 + 4 * k + 0)).toInt32 = v_po v k ∧ (n (84 + 4 * k + 1)).toInt32 = v_pw v k ∧ (n (84 + 4 * k + 2)).toInt32 = v_on v k ∧ (n (84 + 4 * k + 3)).toInt32 = v_ra v k) ∧
  (re 0 = (v_al v).toUInt64 ∧ lvOk (v_al v)) ∧ (∀ i, i < 24 → re (1 + i) = (v_td v i).toUInt64 ∧ lvOk (v_td v i)) ∧ (∀ k, k < v_nS v → re (25 + k) = (v_cr v k).toUInt64 ∧ lvOk (v_cr v k)) ∧ v01 v
