/-! rows for the methods of the law: the object is one world -/
def k_rec (C : CT) (v2 : SVT) (u : Nat → Nat) : CT := (k_ba C, k_ad C, k_bd C, k_sn C, v2, k_tv C, recO (k_old C) (k_many C), recM (k_many C), recR (k_r C) (k_old C) (k_many C) u (k_v C), k_len C, k_ch C, k_te C, k_lv C)
def k_tvS (C : CT) (tv : SVT) : CT := (k_ba C, k_ad C, k_bd C, k_sn C, k_v C, tv, k_old C, k_many C, k_r C, k_len C, k_ch C, k_te C, k_lv C)
def k_undo (C : CT) (v2 : SVT) : CT := (k_ba C, k_ad C, k_bd C, k_sn C, v2, k_tv C, k_old C, k_many C - 1, k_r C, k_len C, k_ch C, k_te C, k_lv C)
def k_snS (C : CT) (q : (Nat → Nat) × SVT) : CT := (k_ba C, k_ad C, k_bd C, some q, k_v C, k_tv C, k_old C, k_many C, k_r C, k_len C, k_ch C, k_te C, k_lv C)
/-- the same object but for the state that trials use -/
def Sm (C u : CT) : Prop := ∃ tv, u = k_tvS C tv
theorem Sm_0 (C : CT) : Sm C C := ⟨k_tv C, rfl⟩
theorem Sm_t {C u w : CT} (h : Sm C u) (h2 : Sm u w) : Sm C w := by
  obtain ⟨a, rfl⟩ := h
  obtain ⟨b, rfl⟩ := h2
  exact ⟨b, rfl⟩
theorem rd_C {l : Launch} {y : MethodName} {ws : List Cond} {rm : Room} {av : List Value} {Q : Array Value → State → Outcome → State → Prop} {g : va_G} {ct : Nat → ClassId} {wc wd : va_W} {C : CT} (hM : Met l y ws rm (va_Pc av (zR g ct wc)) Q 0 0 (fun _ => False)) (hp : List.Perm (XW ct C) (wc ++ wd)) : Met l y ws rm (va_Pc av (zR g ct (CW ct C))) Q 0 0 (fun _ => False) := by
  refine MetFree.mono hM (fun a s h => ?_) (fun _ _ _ _ _ h => h) (fun a s oc t _ h => h)
  obtain ⟨h0, h1, h2⟩ := h
  have h1 := h1.perm (pm_a (K := bkW ct (k_sn C) ++ bank ct (k_r C)) hp)
  exact ⟨h0, fun k q hk => h1.mem (List.mem_append_left _ (List.mem_of_getElem? hk)), h2⟩
section LK
variable {p : Program} {l : Launch} {e : Env} {R : Room} {s : State} {m : MethodId} {args : Array Value} {below : List Frame} {meth : Method} {c : Code} {H : Heap} {locs : List Loc} {cells slots : Nat} {Q : State → Prop}
variable {cc : ByteArray} {pc nL : Nat} {ls : Array Slot} {rest st : List Value} {g : va_G} {A : Nat → Prop} {ct : Nat → ClassId} {H0 : Heap} {C : CT} {K : CT → Prop}
variable {y : MethodName} {bytes : ByteArray} {maxL n index mc ms : Nat} {ret : Option FieldType} {wsC Ts : List Cond} {rm : Room} {own : String} {As : List Value}
/-- a way around: what is behind a join is proved once -/
theorem z_cut {A0 B0 : Nat} {st1 st2 : List Value} (kk : W p l e R s m args below meth c H locs cells slots Q (F0 m B0 ls st2)) (h : W p l e R s m args below meth c H locs cells slots Q (F0 m B0 ls st2) → W p l e R s m args below meth c H locs cells slots Q (F0 m A0 ls st1)) : W p l e R s m args below meth c H locs cells slots Q (F0 m A0 ls st1) := h kk
theorem z_rVi {v : Int32} (S0 : CallFix p m c cc nL s args Ts own) (hK : va_K g vwCl (zT ct) s) (hP : va_P g vwCl (CW ct C) H)
    (hM : Met l y wsC rm (va_Pc (.ref (k_ba C 0) :: As) (zR g ct (CW ct C))) (vp_Si (fun r => r = v)) 0 0 (fun _ => False)) (cw : CallW R s args own RX9 index y bytes maxL ret wsC rm 0 0 n)
    (hn : As.length = n) (hsize : ls.size = nL) (hst : st = As.reverse ++ .ref (k_ba C 0) :: rest) (hW : (rest.map fun v => v.category).sum ≤ 8) (hdg : decode cc pc = .ok (.invokevirtual index, 3)) (hf : cells ≤ R.cells ∧ slots ≤ R.slots)
    (kk : W p l e R s m args below meth c H locs cells slots Q (F0 m (pc + 3) ls (.int v :: rest))) : W p l e R s m args below meth c H locs cells slots Q (F0 m pc ls st) := by
  subst hst
  have he : (CW ct C)[0]? = some (zO (k_ba C 0) 8 [.ref (k_ad C 0), .ref (k_bd C 0), .ref (k_ba C 1), .ref (k_ba C 3), snV (k_sn C)]) := rfl
  refine vp_callSi (va_runV S0 hM cw ⟨zR_blind, va_recv hK hP (rfl : vwCl[8]? = some (RX9, TX9, 5)) he, fun U hU hW1 => ⟨rfl, by rw [hU]; exact hP, va_K.moved hW1.alike hK⟩⟩ rfl hn hsize rfl (lv_room hW) hdg hf).run ?_
  rintro r rfl
  exact kk
theorem z_oVi {v : Int32} (S0 : CallFix p m c cc nL s args Ts own) (hK : va_K g vwCl (zT ct) s) (hP : va_P g vwCl (CW ct C) H) (hD : va_D A (CW ct C)) (hS : va_S A H0 H locs) (hN : zNW s) (hA : ∀ q, H0.size ≤ q → A q)
    (hM : Met l y wsC rm (va_Pc (.ref (k_ba C 0) :: As) (zW g ct (CW ct C) H.size)) (zEi (S := {u : CT // K u}) g (fun u => CW ct u.1) v (va_A (CW ct C) H.size)) mc ms (va_A (CW ct C) H.size)) (cw : CallW R s args own RX9 index y bytes maxL ret wsC rm mc ms n)
    (hn : As.length = n) (hsize : ls.size = nL) (hst : st = As.reverse ++ .ref (k_ba C 0) :: rest) (hW : (rest.map fun v => v.category).sum ≤ 8) (hdg : decode cc pc = .ok (.invokevirtual index, 3)) (hf : cells + mc ≤ R.cells ∧ slots + ms ≤ R.slots)
    (kk : ∀ (u : CT) (H1 : Heap) (locs1 : List Loc), K u → va_P g vwCl (CW ct u) H1 → va_D A (CW ct u) → va_S A H0 H1 locs1 → W p l e R s m args below meth c H1 locs1 (cells + mc) (slots + ms) Q (F0 m (pc + 3) ls (.int v :: rest))) : W p l e R s m args below meth c H locs cells slots Q (F0 m pc ls st) := by
  have he : (CW ct C)[0]? = some (zO (k_ba C 0) 8 [.ref (k_ad C 0), .ref (k_bd C 0), .ref (k_ba C 1), .ref (k_ba C 3), snV (k_sn C)]) := rfl
  refine z_pVi (wc := CW ct C) (wr := []) S0 hK hP hD hS hN hA (List.Perm.of_eq (List.append_nil _).symm) hM cw 0 he (rfl : vwCl[8]? = some (RX9, TX9, 5)) hn hsize hst hW hdg hf (fun u H1 locs1 hP1 hD1 hS1 => ?_)
  rw [List.append_nil] at hP1 hD1
  exact kk u.1 H1 locs1 u.2 hP1 hD1 hS1
theorem z_rVl {v : Int64} (S0 : CallFix p m c cc nL s args Ts own) (hK : va_K g vwCl (zT ct) s) (hP : va_P g vwCl (CW ct C) H)
    (hM : Met l y wsC rm (va_Pc (.ref (k_ba C 0) :: As) (zR g ct (CW ct C))) (vp_Sl (fun r => r = v)) 0 0 (fun _ => False)) (cw : CallW R s args own RX9 index y bytes maxL ret wsC rm 0 0 n)
    (hn : As.length = n) (hsize : ls.size = nL) (hst : st = As.reverse ++ .ref (k_ba C 0) :: rest) (hW : (rest.map fun v => v.category).sum ≤ 8) (hdg : decode cc pc = .ok (.invokevirtual index, 3)) (hf : cells ≤ R.cells ∧ slots ≤ R.slots)
    (kk : W p l e R s m args below meth c H locs cells slots Q (F0 m (pc + 3) ls (.long v :: rest))) : W p l e R s m args below meth c H locs cells slots Q (F0 m pc ls st) := by
  subst hst
  have he : (CW ct C)[0]? = some (zO (k_ba C 0) 8 [.ref (k_ad C 0), .ref (k_bd C 0), .ref (k_ba C 1), .ref (k_ba C 3), snV (k_sn C)]) := rfl
  refine vp_callSl (va_runV S0 hM cw ⟨zR_blind, va_recv hK hP (rfl : vwCl[8]? = some (RX9, TX9, 5)) he, fun U hU hW1 => ⟨rfl, by rw [hU]; exact hP, va_K.moved hW1.alike hK⟩⟩ rfl hn hsize rfl (lv_room hW) hdg hf).run ?_
  rintro r rfl
  exact kk
theorem z_oVl {v : Int64} (S0 : CallFix p m c cc nL s args Ts own) (hK : va_K g vwCl (zT ct) s) (hP : va_P g vwCl (CW ct C) H) (hD : va_D A (CW ct C)) (hS : va_S A H0 H locs) (hN : zNW s) (hA : ∀ q, H0.size ≤ q → A q)
    (hM : Met l y wsC rm (va_Pc (.ref (k_ba C 0) :: As) (zW g ct (CW ct C) H.size)) (zEl (S := {u : CT // K u}) g (fun u => CW ct u.1) v (va_A (CW ct C) H.size)) mc ms (va_A (CW ct C) H.size)) (cw : CallW R s args own RX9 index y bytes maxL ret wsC rm mc ms n)
    (hn : As.length = n) (hsize : ls.size = nL) (hst : st = As.reverse ++ .ref (k_ba C 0) :: rest) (hW : (rest.map fun v => v.category).sum ≤ 8) (hdg : decode cc pc = .ok (.invokevirtual index, 3)) (hf : cells + mc ≤ R.cells ∧ slots + ms ≤ R.slots)
    (kk : ∀ (u : CT) (H1 : Heap) (locs1 : List Loc), K u → va_P g vwCl (CW ct u) H1 → va_D A (CW ct u) → va_S A H0 H1 locs1 → W p l e R s m args below meth c H1 locs1 (cells + mc) (slots + ms) Q (F0 m (pc + 3) ls (.long v :: rest))) : W p l e R s m args below meth c H locs cells slots Q (F0 m pc ls st) := by
  have he : (CW ct C)[0]? = some (zO (k_ba C 0) 8 [.ref (k_ad C 0), .ref (k_bd C 0), .ref (k_ba C 1), .ref (k_ba C 3), snV (k_sn C)]) := rfl
  refine z_pVl (wc := CW ct C) (wr := []) S0 hK hP hD hS hN hA (List.Perm.of_eq (List.append_nil _).symm) hM cw 0 he (rfl : vwCl[8]? = some (RX9, TX9, 5)) hn hsize hst hW hdg hf (fun u H1 locs1 hP1 hD1 hS1 => ?_)
  rw [List.append_nil] at hP1 hD1
  exact kk u.1 H1 locs1 u.2 hP1 hD1 hS1
theorem z_rVd {v : UInt64} (S0 : CallFix p m c cc nL s args Ts own) (hK : va_K g vwCl (zT ct) s) (hP : va_P g vwCl (CW ct C) H)
    (hM : Met l y wsC rm (va_Pc (.ref (k_ba C 0) :: As) (zR g ct (CW ct C))) (vp_Sd (fun r => r = v)) 0 0 (fun _ => False)) (cw : CallW R s args own RX9 index y bytes maxL ret wsC rm 0 0 n)
    (hn : As.length = n) (hsize : ls.size = nL) (hst : st = As.reverse ++ .ref (k_ba C 0) :: rest) (hW : (rest.map fun v => v.category).sum ≤ 8) (hdg : decode cc pc = .ok (.invokevirtual index, 3)) (hf : cells ≤ R.cells ∧ slots ≤ R.slots)
    (kk : W p l e R s m args below meth c H locs cells slots Q (F0 m (pc + 3) ls (.double v :: rest))) : W p l e R s m args below meth c H locs cells slots Q (F0 m pc ls st) := by
  subst hst
  have he : (CW ct C)[0]? = some (zO (k_ba C 0) 8 [.ref (k_ad C 0), .ref (k_bd C 0), .ref (k_ba C 1), .ref (k_ba C 3), snV (k_sn C)]) := rfl
  refine vp_callSd (va_runV S0 hM cw ⟨zR_blind, va_recv hK hP (rfl : vwCl[8]? = some (RX9, TX9, 5)) he, fun U hU hW1 => ⟨rfl, by rw [hU]; exact hP, va_K.moved hW1.alike hK⟩⟩ rfl hn hsize rfl (lv_room hW) hdg hf).run ?_
  rintro r rfl
  exact kk
theorem z_oVd {v : UInt64} (S0 : CallFix p m c cc nL s args Ts own) (hK : va_K g vwCl (zT ct) s) (hP : va_P g vwCl (CW ct C) H) (hD : va_D A (CW ct C)) (hS : va_S A H0 H locs) (hN : zNW s) (hA : ∀ q, H0.size ≤ q → A q)
    (hM : Met l y wsC rm (va_Pc (.ref (k_ba C 0) :: As) (zW g ct (CW ct C) H.size)) (zEd (S := {u : CT // K u}) g (fun u => CW ct u.1) v (va_A (CW ct C) H.size)) mc ms (va_A (CW ct C) H.size)) (cw : CallW R s args own RX9 index y bytes maxL ret wsC rm mc ms n)
    (hn : As.length = n) (hsize : ls.size = nL) (hst : st = As.reverse ++ .ref (k_ba C 0) :: rest) (hW : (rest.map fun v => v.category).sum ≤ 8) (hdg : decode cc pc = .ok (.invokevirtual index, 3)) (hf : cells + mc ≤ R.cells ∧ slots + ms ≤ R.slots)
    (kk : ∀ (u : CT) (H1 : Heap) (locs1 : List Loc), K u → va_P g vwCl (CW ct u) H1 → va_D A (CW ct u) → va_S A H0 H1 locs1 → W p l e R s m args below meth c H1 locs1 (cells + mc) (slots + ms) Q (F0 m (pc + 3) ls (.double v :: rest))) : W p l e R s m args below meth c H locs cells slots Q (F0 m pc ls st) := by
  have he : (CW ct C)[0]? = some (zO (k_ba C 0) 8 [.ref (k_ad C 0), .ref (k_bd C 0), .ref (k_ba C 1), .ref (k_ba C 3), snV (k_sn C)]) := rfl
  refine z_pVd (wc := CW ct C) (wr := []) S0 hK hP hD hS hN hA (List.Perm.of_eq (List.append_nil _).symm) hM cw 0 he (rfl : vwCl[8]? = some (RX9, TX9, 5)) hn hsize hst hW hdg hf (fun u H1 locs1 hP1 hD1 hS1 => ?_)
  rw [List.append_nil] at hP1 hD1
  exact kk u.1 H1 locs1 u.2 hP1 hD1 hS1
theorem z_oSi {v : Int32} (S0 : CallFix p m c cc nL s args Ts own) (hK : va_K g vwCl (zT ct) s) (hP : va_P g vwCl (CW ct C) H) (hD : va_D A (CW ct C)) (hS : va_S A H0 H locs) (hN : zNW s) (hA : ∀ q, H0.size ≤ q → A q)
    (hM : Met l y wsC rm (va_Pc As (zW g ct (CW ct C) H.size)) (zEi (S := {u : CT // K u}) g (fun u => CW ct u.1) v (va_A (CW ct C) H.size)) mc ms (va_A (CW ct C) H.size)) (cw : CallB R s args own index y bytes maxL ret wsC rm mc ms n ∧ (Cond.static y).before args s = true)
    (hn : As.length = n) (hsize : ls.size = nL) (hst : st = As.reverse ++ rest) (hW : (rest.map fun v => v.category).sum ≤ 8) (hdg : decode cc pc = .ok (.invokestatic index, 3)) (hf : cells + mc ≤ R.cells ∧ slots + ms ≤ R.slots)
    (kk : ∀ (u : CT) (H1 : Heap) (locs1 : List Loc), K u → va_P g vwCl (CW ct u) H1 → va_D A (CW ct u) → va_S A H0 H1 locs1 → W p l e R s m args below meth c H1 locs1 (cells + mc) (slots + ms) Q (F0 m (pc + 3) ls (.int v :: rest))) : W p l e R s m args below meth c H locs cells slots Q (F0 m pc ls st) := by
  subst hst
  have hFc : ∀ q, va_A (CW ct C) H.size q → A q := by
    intro q h
    rcases va_A_mem.mp h with ⟨x, hx⟩ | h
    · exact (va_D_nodup.mp hD).2 _ hx
    · exact hA q (Nat.le_trans hS.1 h)
  refine va_calli (va_runS S0 hM cw ⟨zW_blind, fun U hU hW1 => ⟨rfl, by rw [hU], by rw [hU]; exact hP, va_K.moved hW1.alike hK, hD.weaken (fun _ _ _ _ => trivial), zNW_warm hW1 hN⟩⟩ rfl hn hsize rfl (lv_room hW) hdg hf) hS (fun q _ h => hFc q h) hFc (fun r u t H1 locs1 ht hvm hw hB hz1 hk1 hS1 => ?_)
  obtain ⟨hP1, hD1⟩ := hB
  rw [ht] at hP1
  subst hw
  have hP0 : va_P g vwCl (CW ct C ++ []) H := by rw [List.append_nil]; exact hP
  have hD0 : va_D A (CW ct C ++ []) := by rw [List.append_nil]; exact hD
  obtain ⟨hP2, hD2⟩ := z_join hP0 hD0 hk1 hFc hP1 hD1
  rw [List.append_nil] at hP2 hD2
  exact kk u.1 H1 locs1 u.2 hP2 hD2 hS1
theorem z_oSl {v : Int64} (S0 : CallFix p m c cc nL s args Ts own) (hK : va_K g vwCl (zT ct) s) (hP : va_P g vwCl (CW ct C) H) (hD : va_D A (CW ct C)) (hS : va_S A H0 H locs) (hN : zNW s) (hA : ∀ q, H0.size ≤ q → A q)
    (hM : Met l y wsC rm (va_Pc As (zW g ct (CW ct C) H.size)) (zEl (S := {u : CT // K u}) g (fun u => CW ct u.1) v (va_A (CW ct C) H.size)) mc ms (va_A (CW ct C) H.size)) (cw : CallB R s args own index y bytes maxL ret wsC rm mc ms n ∧ (Cond.static y).before args s = true)
    (hn : As.length = n) (hsize : ls.size = nL) (hst : st = As.reverse ++ rest) (hW : (rest.map fun v => v.category).sum ≤ 8) (hdg : decode cc pc = .ok (.invokestatic index, 3)) (hf : cells + mc ≤ R.cells ∧ slots + ms ≤ R.slots)
    (kk : ∀ (u : CT) (H1 : Heap) (locs1 : List Loc), K u → va_P g vwCl (CW ct u) H1 → va_D A (CW ct u) → va_S A H0 H1 locs1 → W p l e R s m args below meth c H1 locs1 (cells + mc) (slots + ms) Q (F0 m (pc + 3) ls (.long v :: rest))) : W p l e R s m args below meth c H locs cells slots Q (F0 m pc ls st) := by
  subst hst
  have hFc : ∀ q, va_A (CW ct C) H.size q → A q := by
    intro q h
    rcases va_A_mem.mp h with ⟨x, hx⟩ | h
    · exact (va_D_nodup.mp hD).2 _ hx
    · exact hA q (Nat.le_trans hS.1 h)
  refine va_calll (va_runS S0 hM cw ⟨zW_blind, fun U hU hW1 => ⟨rfl, by rw [hU], by rw [hU]; exact hP, va_K.moved hW1.alike hK, hD.weaken (fun _ _ _ _ => trivial), zNW_warm hW1 hN⟩⟩ rfl hn hsize rfl (lv_room hW) hdg hf) hS (fun q _ h => hFc q h) hFc (fun r u t H1 locs1 ht hvm hw hB hz1 hk1 hS1 => ?_)
  obtain ⟨hP1, hD1⟩ := hB
  rw [ht] at hP1
  subst hw
  have hP0 : va_P g vwCl (CW ct C ++ []) H := by rw [List.append_nil]; exact hP
  have hD0 : va_D A (CW ct C ++ []) := by rw [List.append_nil]; exact hD
  obtain ⟨hP2, hD2⟩ := z_join hP0 hD0 hk1 hFc hP1 hD1
  rw [List.append_nil] at hP2 hD2
  exact kk u.1 H1 locs1 u.2 hP2 hD2 hS1
/-- ends of the law's methods -/
theorem z_retZ {S : Type} (u : S) {w1 : S → va_W} (hexec : p.tables.exec = Jvm.exec) (hb : c.code = cc) (hr : meth.sig.returnType = some .boolean) (hlocks : meth.locks = false) {v v' : Int32} (hn : narrow .boolean (.int v) = .int v) (hv : v = v') (hS : va_S A s.heap H locs) (hP : va_P g vwCl (w1 u) H) (hD : va_D A (w1 u)) (hc : cells ≤ mc) (hs : slots ≤ ms) (hdg : decode cc pc = .ok (.ireturn, 1)) : W p l e R s m args below meth c H locs cells slots (MQ below (zEi g w1 v' A) args s mc ms A) (F0 m pc ls [.int v]) :=
  W.widen hc hs (W.zret hexec hb hr hn (fun t ht _ => ⟨⟨v, u, rfl, hv, by rw [ht]; exact hP, hD⟩, hS.F ht⟩) hS.2.2 hdg)
theorem z_retL {S : Type} (u : S) {w1 : S → va_W} (hexec : p.tables.exec = Jvm.exec) (hb : c.code = cc) (hr : meth.sig.returnType = some .long) (hlocks : meth.locks = false) {v v' : Int64} (hv : v = v') (hS : va_S A s.heap H locs) (hP : va_P g vwCl (w1 u) H) (hD : va_D A (w1 u)) (hc : cells ≤ mc) (hs : slots ≤ ms) (hdg : decode cc pc = .ok (.lreturn, 1)) : W p l e R s m args below meth c H locs cells slots (MQ below (zEl g w1 v' A) args s mc ms A) (F0 m pc ls [.long v]) :=
  W.widen hc hs (W.lret hexec hb hr (fun t ht _ => ⟨⟨v, u, rfl, hv, by rw [ht]; exact hP, hD⟩, hS.F ht⟩) hS.2.2 hdg)
end LK
