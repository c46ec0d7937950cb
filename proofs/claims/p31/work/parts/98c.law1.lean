/-! the law: its entry -/
theorem r_c {n : Nat} (h : n ≤ 600000) : n ≤ room_1.cells := h
theorem r_s {n : Nat} (h : n ≤ 7302250) : n ≤ room_1.slots := h
theorem z_up {l : Launch} {y : MethodName} {ws : List Cond} {rm rm2 : Room} {Pc : Array Value → State → Prop} {Qc : Array Value → State → Outcome → State → Prop} {mc ms : Nat} {free : Nat → Prop} (hM : Met l y ws rm Pc Qc mc ms free) (hfr : rm.frames ≤ rm2.frames) (hlo : rm.locals ≤ rm2.locals) (hce : rm.cells ≤ rm2.cells) (hsl : rm.slots ≤ rm2.slots) : Met l y ws rm2 Pc Qc mc ms free :=
  MetFree.respec (S' := headSpec ws rm2) hM (fun _ _ h => h) hfr hlo hce hsl
abbrev AL (s : State) : Nat → Prop := fun q => s.heap.size ≤ q
def LX (p : Program) (s : State) (m : MethodId) (c : Code) (b L : Nat) (xs : Nat → Int32) (g : va_G) (ct : Nat → ClassId) : Prop :=
  p.tables.exec = Jvm.exec ∧ c.code = cL_law ∧ c.maxLocals = 11 ∧ s.vm.findClass RL = some m.cls ∧ (∀ w ∈ wsL_law, w.before #[Value.ref b] s = true) ∧ va_X b L xs s s.heap ∧ b < s.heap.size ∧ va_K g vwCl (zT ct) s ∧ zNW s ∧ L ≤ 260
theorem st_A {s : State} {A : Array Value} {ty : FieldType} (h : (Cond.arrayClass ty).before A s = true) (hn : ∀ C, ty ≠ .object C) : ∃ cA, ArrOfT s cA ty ∧ va_RA s cA ty := by
  obtain ⟨cA, kA, comp, h1, h2, h3⟩ := Cond.arrayClass_spec h
  refine ⟨cA, fun n z => ⟨(fun k q => by cases q), kA, h2, comp, h3⟩, ?_⟩
  cases ty <;> first | exact h1 | exact absurd rfl (hn _)
theorem st_O {s : State} {C : String} (h : va_AO C s) : ∃ cA, ArrOfT s cA (.object C) ∧ va_RA s cA (.object C) := by
  obtain ⟨comp, cA, kA, h1, h2, h3, h4, h5⟩ := Cond.arrayOver_spec (va_AO.use (A := #[]) h)
  exact ⟨cA, fun n z => ⟨(fun k q => by cases q), kA, h3, comp, h4⟩, kA, comp, h3, h4, h1, h5⟩
section ZPI
variable {p : Program} {l : Launch} {e : Env} {R : Room} {s : State} {m : MethodId} {args : Array Value} {below : List Frame} {meth : Method} {c : Code} {H : Heap} {locs : List Loc} {cells slots : Nat} {Q : State → Prop}
variable {cc : ByteArray} {pc nL : Nat} {ls : Array Slot} {rest st : List Value} {g : va_G} {A : Nat → Prop} {ct : Nat → ClassId} {ws wc wr w2 X cx wx pl : va_W} {H0 : Heap}
variable {y : MethodName} {bytes : ByteArray} {maxL n index ci N mc ms : Nat} {ret : Option FieldType} {wsC Ts : List Cond} {rm : Room} {own C : String} {b : Nat} {As : List Value} {T : u_T} {fs : List Value}
theorem z_pIp {S : Type} {w1 : S → va_W} (S0 : CallFix p m c cc nL s args Ts own) (hK : va_K g vwCl (zT ct) s) (hP : va_P g vwCl ws H) (hD : va_D A ws) (hS : va_S A H0 H locs) (hN : zNW s) (hA : ∀ q, H0.size ≤ q → A q)
    (hpm : List.Perm ws (wc ++ wr)) (hM : Met l y wsC rm (va_Pc (.ref b :: As) (zW g ct wc H.size)) (zEv g w1 (va_A wc H.size)) mc ms (va_A wc H.size)) (cw : CallB R s args own index y bytes maxL none wsC rm mc ms n ∧ y.name = "<init>" ∧ (Cond.instanceMethod y).before args s = true)
    (hn : As.length = n) (hsize : ls.size = nL) (hst : st = As.reverse ++ .ref b :: rest) (hW : (rest.map fun v => v.category).sum ≤ 8) (hdg : decode cc pc = .ok (.invokespecial index, 3)) (hf : cells + mc ≤ R.cells ∧ slots + ms ≤ R.slots)
    (kk : ∀ (u : S) (H1 : Heap) (locs1 : List Loc), va_P g vwCl (w1 u ++ wr) H1 → va_D A (w1 u ++ wr) → va_S A H0 H1 locs1 → W p l e R s m args below meth c H1 locs1 (cells + mc) (slots + ms) Q (F0 m (pc + 3) ls (rest))) : W p l e R s m args below meth c H locs cells slots Q (F0 m pc ls st) := by
  subst hst
  have hP := hP.perm hpm
  have hD := hD.perm hpm
  have hPc : va_P g vwCl wc H := fun k q hk => hP.mem (List.mem_append_left _ (List.mem_of_getElem? hk))
  have hDc : va_D A wc := by
    rw [va_D_nodup] at hD ⊢
    rw [List.map_append, List.nodup_append] at hD
    exact ⟨hD.1.1, fun q hq => hD.2 q (List.mem_append_left _ hq)⟩
  have hFc : ∀ q, va_A wc H.size q → A q := by
    intro q h
    rcases va_A_mem.mp h with ⟨x, hx⟩ | h
    · exact (va_D_nodup.mp hDc).2 _ hx
    · exact hA q (Nat.le_trans hS.1 h)
  refine va_callv (va_runI S0 hM cw ⟨zW_blind, fun U hU hW1 => ⟨rfl, by rw [hU], by rw [hU]; exact hPc, va_K.moved hW1.alike hK, hDc.weaken (fun _ _ _ _ => trivial), zNW_warm hW1 hN⟩⟩ rfl hn hsize rfl (lv_room hW) hdg hf) hS (fun q _ h => hFc q h) hFc (fun u t H1 locs1 ht hvm hw hB hz1 hk1 hS1 => ?_)
  obtain ⟨hP1, hD1⟩ := hB
  rw [ht] at hP1
  obtain ⟨hP2, hD2⟩ := z_join hP hD hk1 hFc hP1 hD1
  exact kk u H1 locs1 hP2 hD2 hS1
end ZPI
def sv0 : SVT := ((0, fun _ => 0, fun _ => 0, fun _ => 0, fun _ => 0, fun _ => 0, fun _ => 0, fun _ => 0, 0, fun _ => 0, fun _ => 0, 0, fun _ => 0, 0, 100, 0, fun _ => 0, fun _ => 0, fun _ => 0, fun _ => 0, 100000, 0, 0, 0, 0, 0, 0, fun _ => 0, 4611686018427387904, 0, 0, 0, 0) : SVT)
def ct0 (a0 : Nat) (u : Nat → Nat) : CT := (fun k => if k = 0 then a0 else u (41 + k), fun k => u k, fun k => u (21 + k), none, sv0, sv0, 0, 0, fun _ => none, 0, fun _ => 0, fun _ => 0, 0)
set_option maxRecDepth 100000 in
theorem CW_0 (ct : Nat → ClassId) (a0 : Nat) (u : Nat → Nat) : List.Perm [zO a0 8 [.ref (u 0), .ref (u 21), .ref (u 42), .ref (u 44), .null], zO (u 0) 5 [.ref (u 1), .ref (u 9), .ref (u 12), .ref (u 14), .ref (u 19), .ref (u 20), .long 4611686018427387904, .int 0, .int 0, .int 0, .int 0], zO (u 1) 4 [.int 0, .ref (u 2), .ref (u 3), .ref (u 4), .ref (u 5), .ref (u 6), .ref (u 7), .ref (u 8)], zI ct (u 2) 8 (fun _ => 0), zE ct (u 3) 8 (fun _ => 0), zI ct (u 4) 8 (fun _ => 0), zI ct (u 5) 8 (fun _ => 0), zI ct (u 6) 8 (fun _ => 0), zI ct (u 7) 8 (fun _ => 0), zI ct (u 8) 8 (fun _ => 0), zO (u 9) 1 [.int 0, .ref (u 10), .ref (u 11)], zI ct (u 10) 6 (fun _ => 0), zZ ct (u 11) 6 (fun _ => 0), zO (u 12) 6 [.int 0, .ref (u 13)], zI ct (u 13) 4 (fun _ => 0), zO (u 14) 3 [.int 0, .int 100, .int 0, .ref (u 15), .ref (u 16), .ref (u 17), .ref (u 18)], zI ct (u 15) 6 (fun _ => 0), zI ct (u 16) 6 (fun _ => 0), zZ ct (u 17) 6 (fun _ => 0), zI ct (u 18) 6 (fun _ => 0), zO (u 19) 0 [.int 100000, .long 0, .long 0, .long 0, .long 0, .long 0, .long 0], zL ct (u 20) 24 (fun _ => 0), zO (u 21) 5 [.ref (u 22), .ref (u 30), .ref (u 33), .ref (u 35), .ref (u 40), .ref (u 41), .long 4611686018427387904, .int 0, .int 0, .int 0, .int 0], zO (u 22) 4 [.int 0, .ref (u 23), .ref (u 24), .ref (u 25), .ref (u 26), .ref (u 27), .ref (u 28), .ref (u 29)], zI ct (u 23) 8 (fun _ => 0), zE ct (u 24) 8 (fun _ => 0), zI ct (u 25) 8 (fun _ => 0), zI ct (u 26) 8 (fun _ => 0), zI ct (u 27) 8 (fun _ => 0), zI ct (u 28) 8 (fun _ => 0), zI ct (u 29) 8 (fun _ => 0), zO (u 30) 1 [.int 0, .ref (u 31), .ref (u 32)], zI ct (u 31) 6 (fun _ => 0), zZ ct (u 32) 6 (fun _ => 0), zO (u 33) 6 [.int 0, .ref (u 34)], zI ct (u 34) 4 (fun _ => 0), zO (u 35) 3 [.int 0, .int 100, .int 0, .ref (u 36), .ref (u 37), .ref (u 38), .ref (u 39)], zI ct (u 36) 6 (fun _ => 0), zI ct (u 37) 6 (fun _ => 0), zZ ct (u 38) 6 (fun _ => 0), zI ct (u 39) 6 (fun _ => 0), zO (u 40) 0 [.int 100000, .long 0, .long 0, .long 0, .long 0, .long 0, .long 0], zL ct (u 41) 24 (fun _ => 0), zO (u 42) 2 [.ref (u 43), .int 0, .int 0], zQ ct (u 43) 5 (fun _ => none), zO (u 44) 7 [.int 0, .ref (u 45), .ref (u 46), .int 0], zC ct (u 45) 60 (fun _ => 0), zI ct (u 46) 15 (fun _ => 0)] (CW ct (ct0 a0 u)) :=
  z_permI [0, 1, 2, 3, 4, 5, 6, 7, 8, 9, 10, 11, 12, 13, 14, 15, 16, 17, 18, 19, 20, 21, 43, 44, 45, 46, 47, 22, 23, 24, 25, 26, 27, 28, 29, 30, 31, 32, 33, 34, 35, 36, 37, 38, 39, 40, 41, 42] (by decide) rfl rfl
theorem IV_0 : IV sv0 0 := by
  refine ⟨⟨Nat.zero_le _, Nat.zero_le _, Nat.zero_le _, Nat.zero_le _⟩, ⟨fun i _ => Or.inl rfl, fun i _ => Or.inl rfl⟩, ⟨by decide, by decide⟩, Or.inl rfl, ⟨Or.inr (Or.inr (Or.inr (Or.inr (Or.inr (Or.inr rfl))))), fun i _ => Or.inl rfl, fun k hk => absurd hk (Nat.not_lt_zero k)⟩, ⟨fun k hk => absurd hk (Nat.not_lt_zero k), fun k hk => absurd hk (Nat.not_lt_zero k), fun i j hi => absurd hi (Nat.not_lt_zero i)⟩, fun k hk => absurd hk (Nat.not_lt_zero k), fun k hk => absurd hk (Nat.not_lt_zero k), fun k hk => absurd hk (Nat.not_lt_zero k), ⟨⟨by decide, by decide⟩, by decide, by decide⟩, ⟨by decide, by decide, by decide⟩, ⟨by decide, by decide, by decide⟩, Nat.le_refl _⟩
theorem ft0 (ch : Nat → Int32) : ftI ch 0 = 0 := by
  unfold ftI
  rw [if_neg (Nat.not_lt_zero _), if_neg (show ¬ plK ch 0 = 4 by show ¬ (0 : Int32) = 4; decide)]
  rfl
theorem rd_rt0 (l : Launch) (g : va_G) (ct : Nat → ClassId) (C : CT) (hlen : k_len C = 0) : Met l yX9_readTides wsX9_readTides (zRm 3 63) (va_Pc [.ref (k_ba C 0), .int 0] (zR g ct (CW ct C))) (vp_Si (fun r => r = -100)) 0 0 (fun _ => False) := by
  have h := rd_readTides_f l g ct C (by omega) 0 (by decide) (by rw [hlen, ft0]; decide)
  rw [hlen, ft0] at h
  exact h
/-- what an act leaves in the history -/
theorem rec5 {m : Nat} (h : m = 5) : recM m = m ∧ recM m - 1 = 4 := by subst h; exact ⟨rfl, rfl⟩
theorem rec_n {m : Nat} (h : m ≤ 5) (h2 : ¬ m = 5) : ¬ recM m = m ∧ recM m - 1 = m := by
  unfold recM
  rw [if_pos (by omega)]
  omega
theorem rec_pos (m : Nat) : 0 < recM m ∨ m = 0 := by
  unfold recM
  by_cases h : m < 5
  · rw [if_pos h]; omega
  · rw [if_neg h]; omega
theorem recM_pos {m : Nat} : 0 < recM m := by
  unfold recM
  by_cases h : m < 5
  · rw [if_pos h]; omega
  · rw [if_neg h]; omega
theorem rec_at {C : CT} {v2 : SVT} {U : Nat → Nat} (h : OM C) : k_r (k_rec C v2 U) ((k_old (k_rec C v2 U) + k_many (k_rec C v2 U) - 1) % 5) = some (U, k_v C) := by
  have h1 := h.1
  have h2 := h.2
  show (if (recO (k_old C) (k_many C) + recM (k_many C) - 1) % 5 = (k_old C + k_many C) % 5 then some (U, k_v C) else _) = _
  rw [if_pos]
  unfold recO recM
  by_cases q : k_many C < 5
  · rw [if_pos q, if_pos q]
    show (k_old C + (k_many C + 1) - 1) % 5 = _
    rw [show k_old C + (k_many C + 1) - 1 = k_old C + k_many C by omega]
  · rw [if_neg q, if_neg q]
    omega
theorem om_un {C : CT} (h : OM C) : recO (k_old C) (k_many C) < 5 ∧ recM (k_many C) - 1 ≤ 5 := by
  have q := om_rec (v2 := k_v C) (U := fun _ => 0) h
  have q1 : recO (k_old C) (k_many C) < 5 := q.1
  have q2 : recM (k_many C) ≤ 5 := q.2
  omega
def soN (k : Nat) (x : Int32) : Nat := if k < 2 then 0 else if k = 2 then 1 else if k = 3 then 10 else lowN (x >>> ((9 : Int32) &&& 31)) 22
theorem soN_lt (k : Nat) (x : Int32) : soN k x < 22 := by
  unfold soN
  by_cases h : k < 2
  · rw [if_pos h]; decide
  rw [if_neg h]
  by_cases h : k = 2
  · rw [if_pos h]; decide
  rw [if_neg h]
  by_cases h : k = 3
  · rw [if_pos h]; decide
  rw [if_neg h]
  exact lowN_lt _ (by decide)
theorem z_cel {p : Program} {e : Env} {s : State} {m : MethodId} {below : List Frame} {meth : Method} {c : Code} {b L : Nat} {xs : Nat → Int32} {Q : State → Prop} {g : va_G} {ct : Nat → ClassId} {H : Heap} {locs : List Loc} {cells slots : Nat} {ls : Array Slot} {rest : List Value} {pc : Nat} (l : Launch) (h : LX p s m c b L xs g ct) (hS : va_S (AL s) s.heap H locs) (hcs : cells ≤ 600000 ∧ slots ≤ 7302250) {k : Nat} (hk : k < 2 ^ 31) (hsize : ls.size = 11) (hW : (rest.map fun v => v.category).sum ≤ 8) (hdg : decode cL_law pc = .ok (.invokestatic 134, 3)) (kk : W p l e room_1 s m #[Value.ref b] below meth c H locs cells slots Q (F0 m (pc + 3) ls (.int (celN xs L k) :: rest))) : W p l e room_1 s m #[Value.ref b] below meth c H locs cells slots Q (F0 m pc ls (.int (nI k) :: .ref b :: rest)) := by
  obtain ⟨hx, hb, hml, hown, hts, hX, hbl, hK, hNW, hL⟩ := id h
  refine vp_callSi (va_runS (As := [.ref b, .int (nI k)]) (rest := rest) ⟨hx, hb, hml, hown, hts⟩ (c_L_cell l b L xs k hk (by omega)) (va_cwS 2 hts gL_law_L_cell rfl rfl rfl (by decide +kernel) ⟨Nat.le_of_ble_eq_true rfl, Nat.le_of_ble_eq_true rfl⟩) ⟨fun a U gg mk q => ⟨q.1, va_X.moved (u := U) (U := U.calling gg mk a) (Vm.Alike.refl U.vm) q.2.1, q.2.2⟩, fun U hU hW1 => ⟨rfl, ?_, ?_⟩⟩ rfl rfl hsize rfl (lv_room hW) hdg ⟨(r_c (by omega)), (r_s (by omega))⟩).run ?_
  · rw [hU]
    exact va_X.moved hW1.alike (hX.kept (hS.2.1 b hbl (Nat.not_le.mpr hbl)))
  · rw [hU]
    exact Nat.lt_of_lt_of_le hbl hS.1
  · rintro r rfl
    exact kk
